/-! ===== my own layer: a heap as a map from addresses, and one judgement J over it ===== -/
abbrev MH : Type := Nat → Option va_E
def xu (M : MH) (a : Nat) (e : va_E) : MH := fun q => if q = a then some e else M q
theorem xu_s (M : MH) (a : Nat) (e : va_E) : xu M a e a = some e := by simp [xu]
theorem xu_n {M : MH} {a q : Nat} {e : va_E} (h : q ≠ a) : xu M a e q = M q := by simp [xu, h]
/-- the types of arrays by their codes: 0 .. 7 rows of objects, 10 ints, 11 booleans, 12 longs, 13 doubles -/
def xTy : Nat → FieldType := fun k => match k with
  | 0 => .object RX0
  | 1 => .object RX1
  | 2 => .object RX2
  | 3 => .object RX3
  | 4 => .object RX4
  | 5 => .object RX5
  | 6 => .object RX6
  | 7 => .object RX7
  | 10 => .int
  | 11 => .boolean
  | 12 => .long
  | _ => .double
def xR (s : State) (e v : va_E) : Prop := match e with
  | .inr o => v = .inr o
  | .inl q => ∃ cA : ClassId, v = .inl (cA, q.2) ∧ ArrOfT s cA (xTy q.1) ∧ va_RA s cA (xTy q.1)
theorem xR.moved {u U : State} (hvm : u.vm.Alike U.vm) {e v : va_E} (h : xR u e v) : xR U e v := by
  cases e with
  | inr o => exact h
  | inl q =>
    obtain ⟨cA, h1, h2, h3⟩ := h
    exact ⟨cA, h1, arrOfT_moved hvm h2, h3.moved hvm⟩
def xH (D : va_G) (A : Nat → Prop) (M : MH) (s : State) (H : Heap) : Prop := ∃ (L : List Nat) (f : Nat → va_E), (∀ a, a ∈ L ↔ M a ≠ none) ∧ (∀ a e, M a = some e → xR s e (f a)) ∧ va_P D vwCl (va_pl L f) H ∧ va_D A (va_pl L f)
theorem xH.moved {D : va_G} {A : Nat → Prop} {M : MH} {u U : State} {H : Heap} (hvm : u.vm.Alike U.vm) (h : xH D A M u H) : xH D A M U H := by
  obtain ⟨L, f, h1, h2, h3, h4⟩ := h
  exact ⟨L, f, h1, fun a e he => (h2 a e he).moved hvm, h3, h4⟩
theorem xH.weaken {D : va_G} {A B : Nat → Prop} {M : MH} {s : State} {H : Heap} (h : xH D A M s H) (hAB : ∀ q, A q → B q) : xH D B M s H := by
  obtain ⟨L, f, h1, h2, h3, h4⟩ := h
  exact ⟨L, f, h1, h2, h3, h4.weaken fun _ q _ hq => hAB _ hq⟩
theorem xH.at {D : va_G} {A : Nat → Prop} {M : MH} {s : State} {H : Heap} {a : Nat} {e : va_E} (h : xH D A M s H) (ha : M a = some e) : ∃ v, xR s e v ∧ va_P D vwCl [(a, v)] H ∧ A a := by
  obtain ⟨L, f, h1, h2, h3, h4⟩ := h
  have hm : a ∈ L := (h1 a).mpr (by rw [ha]; simp)
  obtain ⟨k, hk⟩ := va_pl_get (X := []) (f := f) hm
  refine ⟨f a, h2 a e ha, fun i q hi => ?_, h4.2 k _ hk⟩
  have hi0 : i = 0 := by
    have := (List.getElem?_eq_some_iff.mp hi).1
    simp at this
    omega
  subst hi0
  cases hi
  exact h3 k _ hk
theorem xH.lt {D : va_G} {A : Nat → Prop} {M : MH} {s : State} {H : Heap} {a : Nat} {e : va_E} (h : xH D A M s H) (ha : M a = some e) : a < H.size := by
  obtain ⟨v, -, hP, -⟩ := h.at ha
  exact (hP 0 (a, v) rfl).lt
theorem xH.inA {D : va_G} {A : Nat → Prop} {M : MH} {s : State} {H : Heap} {a : Nat} (h : xH D A M s H) (ha : M a ≠ none) : A a := by
  cases hm : M a with
  | none => exact absurd hm ha
  | some e => exact (h.at hm).choose_spec.2.2
/-- a cell changed -/
theorem xH.chg {D : va_G} {A : Nat → Prop} {M : MH} {s : State} {a k : Nat} {e v : va_E} {L : List Nat} {f : Nat → va_E} {H1 : Heap} (h1 : ∀ a, a ∈ L ↔ M a ≠ none) (h2 : ∀ a e, M a = some e → xR s e (f a)) (hm : a ∈ L) (hk : (va_pl L f)[k]? = some (a, f a)) (hD0 : va_D A (va_pl L f)) (hr : xR s e v)
    (hP : va_P D vwCl ((va_pl L f).set k (a, v)) H1) (hD : va_D A ((va_pl L f).set k (a, v))) : xH D A (xu M a e) s H1 := by
  have hs : (va_pl L f).set k (a, v) = va_pl L (va_up f a v) := va_pl_set (X := []) hD0 hm hk
  rw [hs] at hP hD
  refine ⟨L, va_up f a v, fun q => ?_, fun q x hx => ?_, hP, hD⟩
  · by_cases hq : q = a
    · subst hq
      simp [xu, hm]
    · rw [xu_n hq]
      exact h1 q
  · by_cases hq : q = a
    · subst hq
      rw [xu_s] at hx
      cases hx
      rw [va_up_self]
      exact hr
    · rw [xu_n hq] at hx
      rw [va_up_ne _ _ hq]
      exact h2 q x hx
/-- a cell more -/
theorem xH.more {D : va_G} {A : Nat → Prop} {M : MH} {s : State} {q : Nat} {e v : va_E} {L : List Nat} {f : Nat → va_E} {H1 : Heap} (h1 : ∀ a, a ∈ L ↔ M a ≠ none) (h2 : ∀ a e, M a = some e → xR s e (f a)) (hr : xR s e v)
    (hP : va_P D vwCl (va_pl L f ++ [(q, v)]) H1) (hD : va_D A (va_pl L f ++ [(q, v)])) : M q = none ∧ xH D A (xu M q e) s H1 := by
  have hq : q ∉ L := va_pl_fresh2 (X := []) hD
  have hn : M q = none := by
    cases hm : M q with
    | none => rfl
    | some e => exact absurd ((h1 q).mpr (by rw [hm]; simp)) hq
  rw [va_pl_push hq] at hP hD
  refine ⟨hn, L ++ [q], va_up f q v, fun a => ?_, fun a x hx => ?_, hP, hD⟩
  · by_cases ha : a = q
    · subst ha
      simp [xu]
    · rw [xu_n ha, ← h1 a]
      simp [ha]
  · by_cases ha : a = q
    · subst ha
      rw [xu_s] at hx
      cases hx
      rw [va_up_self]
      exact hr
    · rw [xu_n ha] at hx
      rw [va_up_ne _ _ ha]
      exact h2 a x hx
theorem nd_of {L : List Nat} (h : ∀ i j q : Nat, L[i]? = some q → L[j]? = some q → i = j) : L.Nodup := List.pairwise_iff_getElem.mpr fun i j hi hj hij he => by
  have := h i j L[i] (List.getElem?_eq_getElem hi) (by rw [he]; exact List.getElem?_eq_getElem hj)
  omega
theorem nd_inj {L : List Nat} (h : L.Nodup) {i j q : Nat} (hi : L[i]? = some q) (hj : L[j]? = some q) : i = j := by
  obtain ⟨li, ei⟩ := List.getElem?_eq_some_iff.mp hi
  obtain ⟨lj, ej⟩ := List.getElem?_eq_some_iff.mp hj
  have hp := List.pairwise_iff_getElem.mp h
  rcases Nat.lt_trichotomy i j with z | z | z
  · exact absurd (ei.trans ej.symm) (hp i j li lj z)
  · exact z
  · exact absurd (ej.trans ei.symm) (hp j i lj li z)
theorem nd_pl {L : List Nat} {g : Nat → va_E} {B : Nat → Prop} (hB : va_D B (va_pl L g)) : L.Nodup := nd_of fun i j q hi hj => hB.1 i j (q, g q) (q, g q) (by simp [va_pl, hi]) (by simp [va_pl, hj]) rfl
theorem pl_inj {L : List Nat} {f : Nat → va_E} (h : L.Nodup) : ∀ (i j : Nat) (x y : Nat × va_E), (va_pl L f)[i]? = some x → (va_pl L f)[j]? = some y → x.1 = y.1 → i = j := by
  intro i j x y hi hj hxy
  simp only [va_pl, List.getElem?_map] at hi hj
  cases hi1 : L[i]? with
  | none => rw [hi1] at hi; cases hi
  | some q1 =>
    cases hj1 : L[j]? with
    | none => rw [hj1] at hj; cases hj
    | some q2 =>
      rw [hi1] at hi
      rw [hj1] at hj
      cases hi
      cases hj
      have hqq : q1 = q2 := hxy
      subst hqq
      exact nd_inj h hi1 hj1
/-- a callee's map back in the caller's -/
def jn (M Mc M1 : MH) : MH := fun q => match M1 q with
  | some e => some e
  | none => match Mc q with
    | some _ => none
    | none => M q
theorem jn_self (M M1 : MH) (hk : ∀ q, M q ≠ none → M1 q ≠ none) : jn M M M1 = M1 := by
  funext q
  unfold jn
  cases h1 : M1 q with
  | some e => rfl
  | none =>
    cases h2 : M q with
    | none => rfl
    | some e => exact absurd h1 (hk q (by rw [h2]; simp))
def xA (M : MH) (h0 : Nat) : Nat → Prop := fun q => M q ≠ none ∨ h0 ≤ q
theorem xH.join {D : va_G} {A : Nat → Prop} {M Mc M1 : MH} {s : State} {H H1 : Heap} (h : xH D A M s H) (hc : ∀ a e, Mc a = some e → M a = some e) (hA : ∀ q, H.size ≤ q → A q)
    (hk : ∀ q : Nat, q < H.size → ¬ xA Mc H.size q → H1[q]? = H[q]?) (h1 : xH D (xA Mc H.size) M1 s H1) : xH D A (jn M Mc M1) s H1 := by
  obtain ⟨L, f, a1, a2, a3, a4⟩ := h
  obtain ⟨L1, f1, b1, b2, b3, b4⟩ := h1
  have hnew : ∀ q, M1 q ≠ none → Mc q = none → M q = none := by
    intro q hq hn
    obtain ⟨k, hkk⟩ := va_pl_get (X := []) (f := f1) ((b1 q).mpr hq)
    rcases b4.2 k _ hkk with z | z
    · exact absurd hn z
    · cases hm : M q with
      | none => rfl
      | some e =>
        have := va_pl_lt (X := []) a3 ((a1 q).mpr (by rw [hm]; simp))
        have z' : H.size ≤ q := z
        omega
  have hA1 : ∀ q, M1 q ≠ none → A q := by
    intro q hq
    obtain ⟨k, hkk⟩ := va_pl_get (X := []) (f := f1) ((b1 q).mpr hq)
    rcases b4.2 k _ hkk with z | z
    · cases hm : Mc q with
      | none => exact absurd hm z
      | some e =>
        have hM := hc q e hm
        obtain ⟨k2, hk2⟩ := va_pl_get (X := []) (f := f) ((a1 q).mpr (by rw [hM]; simp))
        exact a4.2 k2 _ hk2
    · exact hA q z
  refine ⟨L1 ++ L.filter (fun q => decide (M1 q = none ∧ Mc q = none)), fun q => if M1 q = none then f q else f1 q, fun q => ?_, fun q e he => ?_, fun k x hx => ?_, ?_⟩
  · simp only [List.mem_append, List.mem_filter, decide_eq_true_eq, a1, b1, jn]
    cases h1 : M1 q with
    | some e => simp
    | none => cases h2 : Mc q with
      | some e => simp
      | none => simp
  · unfold jn at he
    cases h1 : M1 q with
    | some e1 =>
      rw [h1] at he
      dsimp only at he
      cases he
      show xR s e (if M1 q = none then f q else f1 q)
      rw [if_neg (by rw [h1]; simp)]
      exact b2 q e h1
    | none =>
      rw [h1] at he
      dsimp only at he
      cases h2 : Mc q with
      | some e2 => rw [h2] at he; cases he
      | none =>
        rw [h2] at he
        dsimp only at he
        show xR s e (if M1 q = none then f q else f1 q)
        rw [if_pos h1]
        exact a2 q e he
  · have hx2 : x ∈ va_pl (L1 ++ L.filter (fun q => decide (M1 q = none ∧ Mc q = none))) (fun q => if M1 q = none then f q else f1 q) := List.mem_of_getElem? hx
    obtain ⟨q, hq, rfl⟩ := List.mem_map.mp hx2
    rcases List.mem_append.mp hq with h | h
    · have hq1 := (b1 q).mp h
      obtain ⟨k2, hk2⟩ := va_pl_get (X := []) (f := f1) h
      show va_at D vwCl (q, if M1 q = none then f q else f1 q) H1
      rw [if_neg hq1]
      exact b3 k2 _ hk2
    · obtain ⟨hL, hd⟩ := List.mem_filter.mp h
      have hd2 := of_decide_eq_true hd
      obtain ⟨k2, hk2⟩ := va_pl_get (X := []) (f := f) hL
      have hlt := va_pl_lt (X := []) a3 hL
      show va_at D vwCl (q, if M1 q = none then f q else f1 q) H1
      rw [if_pos hd2.1]
      exact (a3 k2 _ hk2).kept (hk q hlt (fun z => by
        rcases z with z | z
        · exact z hd2.2
        · have z' : H.size ≤ q := z
          omega))
  · have p3 : (L1 ++ L.filter (fun q => decide (M1 q = none ∧ Mc q = none))).Nodup := by
      refine List.nodup_append.mpr ⟨nd_pl b4, List.Nodup.sublist List.filter_sublist (nd_pl a4), fun x hx y hy hxy => ?_⟩
      subst hxy
      have hd := of_decide_eq_true (List.mem_filter.mp hy).2
      exact (b1 x).mp hx hd.1
    refine ⟨pl_inj p3, fun k x hx => ?_⟩
    have hx2 : x ∈ va_pl (L1 ++ L.filter (fun q => decide (M1 q = none ∧ Mc q = none))) (fun q => if M1 q = none then f q else f1 q) := List.mem_of_getElem? hx
    obtain ⟨q, hq, rfl⟩ := List.mem_map.mp hx2
    rcases List.mem_append.mp hq with h | h
    · exact hA1 q ((b1 q).mp h)
    · obtain ⟨k2, hk2⟩ := va_pl_get (X := []) (f := f) (List.mem_filter.mp h).1
      exact a4.2 k2 (q, f q) hk2
/-! locals as a list by their numbers -/
def lvl : Nat → List (Option Value) → List (Nat × Value)
  | _, [] => []
  | k, none :: r => lvl (k + 1) r
  | k, some v :: r => (k, v) :: lvl (k + 1) r
def lvg : List (Option Value) → Nat → Option Value
  | [], _ => none
  | v :: _, 0 => v
  | _ :: r, n + 1 => lvg r n
def lvp : List (Option Value) → Nat → Value → List (Option Value)
  | [], _, _ => []
  | _ :: r, 0, v => some v :: r
  | x :: r, n + 1, v => x :: lvp r n v
theorem lvl_mem : ∀ (vs : List (Option Value)) (k i : Nat) (v : Value), lvg vs i = some v → (k + i, v) ∈ lvl k vs
  | [], _, _, _, h => by cases h
  | none :: r, k, 0, _, h => by cases h
  | some w :: r, k, 0, v, h => by
    have h' : w = v := Option.some.inj h
    subst h'
    exact List.mem_cons_self
  | none :: r, k, i + 1, v, h => by
    have := lvl_mem r (k + 1) i v h
    rw [show k + (i + 1) = k + 1 + i by omega]
    exact this
  | some w :: r, k, i + 1, v, h => by
    have := lvl_mem r (k + 1) i v h
    rw [show k + (i + 1) = k + 1 + i by omega]
    exact List.mem_cons_of_mem _ this
theorem lvl_of : ∀ (vs : List (Option Value)) (k : Nat) (q : Nat × Value), q ∈ lvl k vs → k ≤ q.1 ∧ lvg vs (q.1 - k) = some q.2
  | [], _, _, h => by cases h
  | none :: r, k, q, h => by
    obtain ⟨h1, h2⟩ := lvl_of r (k + 1) q h
    refine ⟨by omega, ?_⟩
    rw [show q.1 - k = (q.1 - (k + 1)) + 1 by omega]
    exact h2
  | some w :: r, k, q, h => by
    rcases List.mem_cons.mp h with h | h
    · subst h
      exact ⟨Nat.le_refl _, by show lvg (some w :: r) (k - k) = some w; rw [Nat.sub_self]; rfl⟩
    · obtain ⟨h1, h2⟩ := lvl_of r (k + 1) q h
      refine ⟨by omega, ?_⟩
      rw [show q.1 - k = (q.1 - (k + 1)) + 1 by omega]
      exact h2
theorem lvg_p_s : ∀ (vs : List (Option Value)) (i : Nat) (v : Value), i < vs.length → lvg (lvp vs i v) i = some v
  | [], _, _, h => by simp at h
  | _ :: _, 0, _, _ => rfl
  | _ :: r, i + 1, v, h => lvg_p_s r i v (by simpa using h)
theorem lvg_p_n : ∀ (vs : List (Option Value)) (i j : Nat) (v : Value), j ≠ i → lvg (lvp vs i v) j = lvg vs j
  | [], _, _, _, _ => rfl
  | _ :: _, 0, 0, _, h => absurd rfl h
  | _ :: _, 0, _ + 1, _, _ => rfl
  | _ :: _, _ + 1, 0, _, _ => rfl
  | _ :: r, i + 1, j + 1, v, h => lvg_p_n r i j v (by omega)
def lv1 (vs : List (Option Value)) : Bool := vs.all fun v => match v with
  | none => true
  | some w => w.category == 1
theorem lvg_some : ∀ (vs : List (Option Value)) (i : Nat) (v : Value), lvg vs i = some v → some v ∈ vs
  | [], _, _, h => by cases h
  | a :: r, 0, v, h => by
    have h' : a = some v := h
    subst h'
    exact List.mem_cons_self
  | a :: r, i + 1, v, h => List.mem_cons_of_mem _ (lvg_some r i v h)
theorem lvg_lt : ∀ (vs : List (Option Value)) (i : Nat) (v : Value), lvg vs i = some v → i < vs.length
  | [], _, _, h => by cases h
  | _ :: _, 0, _, _ => by simp
  | _ :: r, i + 1, v, h => by
    have := lvg_lt r i v h
    simp
    omega
/-- the judgement's fixed part: program, launch, environment, room, start, method, arguments, frames below, method and code, classes, first map, goal -/
abbrev JC : Type := Program × Launch × Env × Room × State × MethodId × Array Value × List Frame × Method × Code × va_G × MH × (State → Prop)
def jl : JC → Launch := fun X => X.2.1
def jD : JC → va_G := fun X => X.2.2.2.2.2.2.2.2.2.2.1
def J : JC → Nat → Nat → Nat → MH → List (Option Value) → List Value → Nat → Prop
  | (p, l, e, R, s, m, args, below, meth, c, D, M0, Q), nL, cells, slots, M, vs, st, pc =>
    ∀ (H : Heap) (locs : List Loc) (ls : Array Slot), xH D (xA M0 s.heap.size) M s H → va_S (xA M0 s.heap.size) s.heap H locs → lv_has ls nL (lvl 0 vs) → (vs.length = nL ∧ lv1 vs = true) → W p l e R s m args below meth c H locs cells slots Q (F0 m pc ls st)
/-- what the tables say of classes and of the object rows' classes -/
def xK (D : va_G) (s : State) : Prop := va_K D vwCl [] s ∧ ∀ (k : Nat) (C : String), k < 8 → xTy k = .object C → va_AO C s
theorem xK.moved {D : va_G} {u U : State} (hvm : u.vm.Alike U.vm) (h : xK D u) : xK D U := ⟨va_K.moved hvm h.1, fun k C hk hC => (h.2 k C hk hC).moved hvm⟩
def jG : JC → ByteArray → String → List Cond → Nat → Room → Prop
  | (p, l, e, R, s, m, args, below, meth, c, D, M0, Q), cc, own, Ts, nL, rm => p.tables.exec = Jvm.exec ∧ c.code = cc ∧ c.maxLocals = nL ∧ s.vm.findClass own = some m.cls ∧ (∀ w ∈ Ts, w.before args s = true) ∧ xK D s ∧ meth.locks = false ∧ R = rm
/-- a constructor's own name -/
def jN : JC → Prop
  | (p, l, e, R, s, m, args, below, meth, c, D, M0, Q) => meth.name = "<init>"
def xP (D : va_G) (As : List Value) (M0 : MH) (h0 : Nat) : Array Value → State → Prop := va_Pc As (fun U => U.heap.size = h0 ∧ xH D (fun _ => True) M0 U U.heap ∧ xK D U)
def xQ (D : va_G) (M0 : MH) (h0 : Nat) (Post : Option Value → MH → Prop) : Array Value → State → Outcome → State → Prop := fun _ st oc t => (∃ (v : Option Value) (M' : MH), oc = .returned v ∧ Post v M' ∧ xH D (xA M0 h0) M' t t.heap ∧ xK D t) ∧ va_F (xA M0 h0) st t
/-- a method's contract -/
def xC (l : Launch) (D : va_G) (y : MethodName) (ws : List Cond) (rm : Room) (mc ms : Nat) (As : List Value) (M0 : MH) (Post : Option Value → MH → Prop) : Prop := ∀ h0 : Nat, Met l y ws rm (xP D As M0 h0) (xQ D M0 h0 Post) mc ms (xA M0 h0)
def jR : JC → Option FieldType → (Option Value → MH → Prop) → Nat → Nat → Prop
  | (p, l, e, R, s, m, args, below, meth, c, D, M0, Q), ret, Post, mc, ms => meth.sig.returnType = ret ∧ ∀ (H : Heap) (locs : List Loc) (cells slots : Nat) (g : JFrame), W p l e R s m args below meth c H locs cells slots (MQ below (xQ D M0 s.heap.size Post) args s mc ms (xA M0 s.heap.size)) g → W p l e R s m args below meth c H locs cells slots Q g
theorem xC_of {l : Launch} {D : va_G} {y : MethodName} {ws ws' : List Cond} {rm : Room} {mc ms : Nat} {As : List Value} {M0 : MH} {Post : Option Value → MH → Prop} {cc : ByteArray} {maxL : Nat} {ret : Option FieldType} {own : String} (vs : List (Option Value)) (hy : plainName y.cls = true) (hw : ws = Cond.code y cc maxL ret :: ws') (ho : y.cls = own) (hle : (lg_sl As).length ≤ maxL) (hvs : lvl 0 vs = lv_args 0 As) (hlen : vs.length = maxL) (h1 : lv1 vs = true)
    (body : ∀ X : JC, jl X = l → jD X = D → jG X cc own ws maxL rm → jR X ret Post mc ms → J X maxL 0 0 M0 vs [] 0) : xC l D y ws rm mc ms As M0 Post := by
  intro h0
  refine Met.ofW (cc := cc) (maxL := maxL) (ret := ret) hy hw ?_
  intro p e s m args below meth c s₁ B hml hv
  obtain ⟨rfl, hsz, hH, hK⟩ := hv
  subst hsz
  have hown : s.vm.findClass own = some m.cls := by rw [← ho]; exact findClass_of_methodNamed B.named
  have hb := body (p, l, e, (headSpec ws rm).room, s, m, As.toArray, below, meth, c, D, M0, MQ below (xQ D M0 s.heap.size Post) As.toArray s mc ms (xA M0 s.heap.size)) rfl rfl
    ⟨B.exec, B.bytes, hml, hown, atoms_spec (ws := ws) B.pre, hK, B.notSynchronized, rfl⟩ ⟨B.returns, fun _ _ _ _ _ h => h⟩
  rw [lg_entry_eq]
  have hl := lv_entry As (n := maxL) hle
  rw [← hvs] at hl
  have hH0 : xH D (xA M0 s.heap.size) M0 s s.heap := by
    obtain ⟨L, f, a1, a2, a3, a4⟩ := hH
    refine ⟨L, f, a1, a2, a3, a4.1, fun k q hk => Or.inl ?_⟩
    have hx2 : q ∈ va_pl L f := List.mem_of_getElem? hk
    obtain ⟨a, ha, rfl⟩ := List.mem_map.mp hx2
    exact (a1 a).mp ha
  exact hb s.heap [] _ hH0 va_S.rf hl ⟨hlen, h1⟩
theorem xC_ofI {l : Launch} {D : va_G} {y : MethodName} {ws ws' : List Cond} {rm : Room} {mc ms : Nat} {As : List Value} {M0 : MH} {Post : Option Value → MH → Prop} {cc : ByteArray} {maxL : Nat} {ret : Option FieldType} {own : String} (vs : List (Option Value)) (hy : plainName y.cls = true) (hyn : y.name = "<init>") (hw : ws = Cond.code y cc maxL ret :: ws') (ho : y.cls = own) (hle : (lg_sl As).length ≤ maxL) (hvs : lvl 0 vs = lv_args 0 As) (hlen : vs.length = maxL) (h1 : lv1 vs = true)
    (body : ∀ X : JC, jl X = l → jD X = D → jG X cc own ws maxL rm → jR X ret Post mc ms → jN X → J X maxL 0 0 M0 vs [] 0) : xC l D y ws rm mc ms As M0 Post := by
  intro h0
  refine Met.ofW (cc := cc) (maxL := maxL) (ret := ret) hy hw ?_
  intro p e s m args below meth c s₁ B hml hv
  obtain ⟨rfl, hsz, hH, hK⟩ := hv
  subst hsz
  have hown : s.vm.findClass own = some m.cls := by rw [← ho]; exact findClass_of_methodNamed B.named
  have hb := body (p, l, e, (headSpec ws rm).room, s, m, As.toArray, below, meth, c, D, M0, MQ below (xQ D M0 s.heap.size Post) As.toArray s mc ms (xA M0 s.heap.size)) rfl rfl
    ⟨B.exec, B.bytes, hml, hown, atoms_spec (ws := ws) B.pre, hK, B.notSynchronized, rfl⟩ ⟨B.returns, fun _ _ _ _ _ h => h⟩ ((name_of_methodNamed B.named B.method).1.trans hyn)
  rw [lg_entry_eq]
  have hl := lv_entry As (n := maxL) hle
  rw [← hvs] at hl
  have hH0 : xH D (xA M0 s.heap.size) M0 s s.heap := by
    obtain ⟨L, f, a1, a2, a3, a4⟩ := hH
    refine ⟨L, f, a1, a2, a3, a4.1, fun k q hk => Or.inl ?_⟩
    have hx2 : q ∈ va_pl L f := List.mem_of_getElem? hk
    obtain ⟨a, ha, rfl⟩ := List.mem_map.mp hx2
    exact (a1 a).mp ha
  exact hb s.heap [] _ hH0 va_S.rf hl ⟨hlen, h1⟩
section JRows
variable {X : JC} {cc : ByteArray} {own : String} {Ts : List Cond} {nL cells slots pc : Nat} {rm : Room} {M : MH} {vs : List (Option Value)} {st : List Value}
theorem lv_of_lvg {ls : Array Slot} {i : Nat} {v : Value} (hl : lv_has ls nL (lvl 0 vs)) (hv : lvg vs i = some v) : ls[i]? = some (.val v) := by
  have := lvl_mem vs 0 i v hv
  rw [Nat.zero_add] at this
  exact hl.2.2 (i, v) this
theorem lv1_p {i : Nat} {v : Value} (h : lv1 vs = true) (hc : v.category = 1) : lv1 (lvp vs i v) = true := by
  induction vs generalizing i with
  | nil => exact h
  | cons a r ih =>
    unfold lv1 at h ih ⊢
    rw [List.all_cons, Bool.and_eq_true] at h
    cases i with
    | zero =>
      rw [show lvp (a :: r) 0 v = some v :: r from rfl, List.all_cons, Bool.and_eq_true]
      exact ⟨by simp [hc], h.2⟩
    | succ i =>
      rw [show lvp (a :: r) (i + 1) v = a :: lvp r i v from rfl, List.all_cons, Bool.and_eq_true]
      exact ⟨h.1, ih h.2⟩
theorem lvp_len (vs : List (Option Value)) (i : Nat) (v : Value) : (lvp vs i v).length = vs.length := by
  induction vs generalizing i with
  | nil => rfl
  | cons a r ih => cases i with
    | zero => rfl
    | succ i => show (lvp r i v).length + 1 = r.length + 1; rw [ih]
theorem lvl_keep {ls : Array Slot} {i : Nat} {x : Value} (h1 : lv1 vs = true) (hi : i < vs.length) (hl : lv_has ls nL ((i, x) :: (lvl 0 vs).filter (fun q => !(q.1 == i) && !(q.1 + 1 == i && q.2.category == 2)))) : lv_has ls nL (lvl 0 (lvp vs i x)) := by
  refine ⟨hl.1, hl.2.1, fun q hq => hl.2.2 q ?_⟩
  obtain ⟨-, h2⟩ := lvl_of _ _ _ hq
  rw [Nat.sub_zero] at h2
  by_cases hqi : q.1 = i
  · rw [hqi, lvg_p_s _ _ _ hi] at h2
    have : q = (i, x) := by
      obtain ⟨a, b⟩ := q
      have e1 : a = i := hqi
      have e2 : x = b := Option.some.inj h2
      rw [e1, e2]
    rw [this]
    exact List.mem_cons_self
  · rw [lvg_p_n _ _ _ _ hqi] at h2
    refine List.mem_cons_of_mem _ (List.mem_filter.mpr ⟨?_, ?_⟩)
    · have := lvl_mem vs 0 q.1 q.2 h2
      rw [Nat.zero_add] at this
      exact this
    · have hc : q.2.category = 1 := by
        have hm := lvg_some _ _ _ h2
        have := List.all_eq_true.mp h1 _ hm
        simpa using this
      simp [hqi, hc]
theorem xK1 {D : va_G} {cl : List vw_C} {s : State} {cA : ClassId} {ty : FieldType} (hK : va_K D cl [] s) (h1 : ArrOfT s cA ty) (h2 : va_RA s cA ty) : va_K D cl [(cA, ty)] s := by
  refine ⟨hK.1, fun k q hk => ?_⟩
  have h0 : k = 0 := by
    have := (List.getElem?_eq_some_iff.mp hk).1
    simp at this
    omega
  subst h0
  cases hk
  exact ⟨h1, h2⟩
theorem j_iadd (g : jG X cc own Ts nL rm) {x y : Int32} (hd : decode cc pc = .ok (.iadd, 1))  (k : J X nL cells slots M vs (.int (x + y) :: st) (pc + 1)) : J X nL cells slots M vs (.int y :: .int x :: st) pc := by
  obtain ⟨p, l, e, R, s, m, args, below, meth, c, D, M0, Q⟩ := X
  obtain ⟨hx, hb, hml, hown, hts, hKK, hlk, hR⟩ := g
  have hK := hKK.1
  intro H locs ls hH hS hl hq
  exact lv_iadd hx hb hd (k H locs ls hH hS hl hq)
theorem j_isub (g : jG X cc own Ts nL rm) {x y : Int32} (hd : decode cc pc = .ok (.isub, 1))  (k : J X nL cells slots M vs (.int (x - y) :: st) (pc + 1)) : J X nL cells slots M vs (.int y :: .int x :: st) pc := by
  obtain ⟨p, l, e, R, s, m, args, below, meth, c, D, M0, Q⟩ := X
  obtain ⟨hx, hb, hml, hown, hts, hKK, hlk, hR⟩ := g
  have hK := hKK.1
  intro H locs ls hH hS hl hq
  exact lv_isub hx hb hd (k H locs ls hH hS hl hq)
theorem j_imul (g : jG X cc own Ts nL rm) {x y : Int32} (hd : decode cc pc = .ok (.imul, 1))  (k : J X nL cells slots M vs (.int (x * y) :: st) (pc + 1)) : J X nL cells slots M vs (.int y :: .int x :: st) pc := by
  obtain ⟨p, l, e, R, s, m, args, below, meth, c, D, M0, Q⟩ := X
  obtain ⟨hx, hb, hml, hown, hts, hKK, hlk, hR⟩ := g
  have hK := hKK.1
  intro H locs ls hH hS hl hq
  exact lv_imul hx hb hd (k H locs ls hH hS hl hq)
theorem j_iand (g : jG X cc own Ts nL rm) {x y : Int32} (hd : decode cc pc = .ok (.iand, 1))  (k : J X nL cells slots M vs (.int (x &&& y) :: st) (pc + 1)) : J X nL cells slots M vs (.int y :: .int x :: st) pc := by
  obtain ⟨p, l, e, R, s, m, args, below, meth, c, D, M0, Q⟩ := X
  obtain ⟨hx, hb, hml, hown, hts, hKK, hlk, hR⟩ := g
  have hK := hKK.1
  intro H locs ls hH hS hl hq
  exact lv_iand hx hb hd (k H locs ls hH hS hl hq)
theorem j_idiv (g : jG X cc own Ts nL rm) {x y : Int32} (hd : decode cc pc = .ok (.idiv, 1)) (hne : ¬ y = 0) (k : J X nL cells slots M vs (.int (x / y) :: st) (pc + 1)) : J X nL cells slots M vs (.int y :: .int x :: st) pc := by
  obtain ⟨p, l, e, R, s, m, args, below, meth, c, D, M0, Q⟩ := X
  obtain ⟨hx, hb, hml, hown, hts, hKK, hlk, hR⟩ := g
  have hK := hKK.1
  intro H locs ls hH hS hl hq
  exact lv_idiv hx hb hd hne (k H locs ls hH hS hl hq)
theorem j_irem (g : jG X cc own Ts nL rm) {x y : Int32} (hd : decode cc pc = .ok (.irem, 1)) (hne : ¬ y = 0) (k : J X nL cells slots M vs (.int (x - x / y * y) :: st) (pc + 1)) : J X nL cells slots M vs (.int y :: .int x :: st) pc := by
  obtain ⟨p, l, e, R, s, m, args, below, meth, c, D, M0, Q⟩ := X
  obtain ⟨hx, hb, hml, hown, hts, hKK, hlk, hR⟩ := g
  have hK := hKK.1
  intro H locs ls hH hS hl hq
  exact lv_irem hx hb hd hne (k H locs ls hH hS hl hq)
theorem j_ineg (g : jG X cc own Ts nL rm) {x : Int32} (hd : decode cc pc = .ok (.ineg, 1))  (k : J X nL cells slots M vs (.int (-x) :: st) (pc + 1)) : J X nL cells slots M vs (.int x :: st) pc := by
  obtain ⟨p, l, e, R, s, m, args, below, meth, c, D, M0, Q⟩ := X
  obtain ⟨hx, hb, hml, hown, hts, hKK, hlk, hR⟩ := g
  have hK := hKK.1
  intro H locs ls hH hS hl hq
  exact lv_ineg hx hb hd (k H locs ls hH hS hl hq)
theorem j_iconst (g : jG X cc own Ts nL rm) {n : Int} (v : Int32) (hd : decode cc pc = .ok (.iconst n, 1)) (hv : Int32.ofInt n = v) (k : J X nL cells slots M vs (.int v :: st) (pc + 1)) : J X nL cells slots M vs st pc := by
  obtain ⟨p, l, e, R, s, m, args, below, meth, c, D, M0, Q⟩ := X
  obtain ⟨hx, hb, hml, hown, hts, hKK, hlk, hR⟩ := g
  have hK := hKK.1
  intro H locs ls hH hS hl hq
  exact lv_iconst hx hb hd hv (k H locs ls hH hS hl hq)
theorem j_bipush (g : jG X cc own Ts nL rm) {n : Int} (v : Int32) (hd : decode cc pc = .ok (.bipush n, 2)) (hv : (Int8.ofInt n).toInt32 = v) (k : J X nL cells slots M vs (.int v :: st) (pc + 2)) : J X nL cells slots M vs st pc := by
  obtain ⟨p, l, e, R, s, m, args, below, meth, c, D, M0, Q⟩ := X
  obtain ⟨hx, hb, hml, hown, hts, hKK, hlk, hR⟩ := g
  have hK := hKK.1
  intro H locs ls hH hS hl hq
  exact lv_bipush hx hb hd hv (k H locs ls hH hS hl hq)
theorem j_sipush (g : jG X cc own Ts nL rm) {n : Int} (v : Int32) (hd : decode cc pc = .ok (.sipush n, 3)) (hv : (Int16.ofInt n).toInt32 = v) (k : J X nL cells slots M vs (.int v :: st) (pc + 3)) : J X nL cells slots M vs st pc := by
  obtain ⟨p, l, e, R, s, m, args, below, meth, c, D, M0, Q⟩ := X
  obtain ⟨hx, hb, hml, hown, hts, hKK, hlk, hR⟩ := g
  have hK := hKK.1
  intro H locs ls hH hS hl hq
  exact lv_sipush hx hb hd hv (k H locs ls hH hS hl hq)
theorem j_i2f (g : jG X cc own Ts nL rm) {x : Int32} (hd : decode cc pc = .ok (.i2f, 1))  (k : J X nL cells slots M vs (.float (FP.i2f x) :: st) (pc + 1)) : J X nL cells slots M vs (.int x :: st) pc := by
  obtain ⟨p, l, e, R, s, m, args, below, meth, c, D, M0, Q⟩ := X
  obtain ⟨hx, hb, hml, hown, hts, hKK, hlk, hR⟩ := g
  have hK := hKK.1
  intro H locs ls hH hS hl hq
  exact lv_i2f hx hb hd (k H locs ls hH hS hl hq)
theorem j_i2l (g : jG X cc own Ts nL rm) {x : Int32} (hd : decode cc pc = .ok (.i2l, 1))  (k : J X nL cells slots M vs (.long x.toInt64 :: st) (pc + 1)) : J X nL cells slots M vs (.int x :: st) pc := by
  obtain ⟨p, l, e, R, s, m, args, below, meth, c, D, M0, Q⟩ := X
  obtain ⟨hx, hb, hml, hown, hts, hKK, hlk, hR⟩ := g
  have hK := hKK.1
  intro H locs ls hH hS hl hq
  exact lv_i2l hx hb hd rfl (k H locs ls hH hS hl hq)
theorem j_fneg (g : jG X cc own Ts nL rm) {x : UInt32} (hd : decode cc pc = .ok (.fneg, 1))  (k : J X nL cells slots M vs (.float (FP.fneg x) :: st) (pc + 1)) : J X nL cells slots M vs (.float x :: st) pc := by
  obtain ⟨p, l, e, R, s, m, args, below, meth, c, D, M0, Q⟩ := X
  obtain ⟨hx, hb, hml, hown, hts, hKK, hlk, hR⟩ := g
  have hK := hKK.1
  intro H locs ls hH hS hl hq
  exact lv_fneg hx hb hd (k H locs ls hH hS hl hq)
theorem j_fadd (g : jG X cc own Ts nL rm) {x y : UInt32} (hd : decode cc pc = .ok (.fadd, 1)) (hne : vf_n32 (FP.fadd x y)) (k : J X nL cells slots M vs (.float (FP.fadd x y) :: st) (pc + 1)) : J X nL cells slots M vs (.float y :: .float x :: st) pc := by
  obtain ⟨p, l, e, R, s, m, args, below, meth, c, D, M0, Q⟩ := X
  obtain ⟨hx, hb, hml, hown, hts, hKK, hlk, hR⟩ := g
  have hK := hKK.1
  intro H locs ls hH hS hl hq
  exact lv_fadd hx hb hd hne (k H locs ls hH hS hl hq)
theorem j_fsub (g : jG X cc own Ts nL rm) {x y : UInt32} (hd : decode cc pc = .ok (.fsub, 1)) (hne : vf_n32 (FP.fsub x y)) (k : J X nL cells slots M vs (.float (FP.fsub x y) :: st) (pc + 1)) : J X nL cells slots M vs (.float y :: .float x :: st) pc := by
  obtain ⟨p, l, e, R, s, m, args, below, meth, c, D, M0, Q⟩ := X
  obtain ⟨hx, hb, hml, hown, hts, hKK, hlk, hR⟩ := g
  have hK := hKK.1
  intro H locs ls hH hS hl hq
  exact lv_fsub hx hb hd hne (k H locs ls hH hS hl hq)
theorem j_fmul (g : jG X cc own Ts nL rm) {x y : UInt32} (hd : decode cc pc = .ok (.fmul, 1)) (hne : vf_n32 (FP.fmul x y)) (k : J X nL cells slots M vs (.float (FP.fmul x y) :: st) (pc + 1)) : J X nL cells slots M vs (.float y :: .float x :: st) pc := by
  obtain ⟨p, l, e, R, s, m, args, below, meth, c, D, M0, Q⟩ := X
  obtain ⟨hx, hb, hml, hown, hts, hKK, hlk, hR⟩ := g
  have hK := hKK.1
  intro H locs ls hH hS hl hq
  exact lv_fmul hx hb hd hne (k H locs ls hH hS hl hq)
theorem j_fdiv (g : jG X cc own Ts nL rm) {x y : UInt32} (hd : decode cc pc = .ok (.fdiv, 1)) (hne : vf_n32 (FP.fdiv x y)) (k : J X nL cells slots M vs (.float (FP.fdiv x y) :: st) (pc + 1)) : J X nL cells slots M vs (.float y :: .float x :: st) pc := by
  obtain ⟨p, l, e, R, s, m, args, below, meth, c, D, M0, Q⟩ := X
  obtain ⟨hx, hb, hml, hown, hts, hKK, hlk, hR⟩ := g
  have hK := hKK.1
  intro H locs ls hH hS hl hq
  exact lv_fdiv hx hb hd hne (k H locs ls hH hS hl hq)
theorem j_fcmp (g : jG X cc own Ts nL rm) {x y : UInt32} {op : CmpOp} (hd : decode cc pc = .ok (.fcmp op, 1))  (k : J X nL cells slots M vs (.int (Op.cmpValue (FP.fcmp x y) op) :: st) (pc + 1)) : J X nL cells slots M vs (.float y :: .float x :: st) pc := by
  obtain ⟨p, l, e, R, s, m, args, below, meth, c, D, M0, Q⟩ := X
  obtain ⟨hx, hb, hml, hown, hts, hKK, hlk, hR⟩ := g
  have hK := hKK.1
  intro H locs ls hH hS hl hq
  exact lv_fcmp hx hb hd (k H locs ls hH hS hl hq)
theorem j_dcmp (g : jG X cc own Ts nL rm) {x y : UInt64} {op : CmpOp} (hd : decode cc pc = .ok (.dcmp op, 1))  (k : J X nL cells slots M vs (.int (Op.cmpValue (FP.dcmp x y) op) :: st) (pc + 1)) : J X nL cells slots M vs (.double y :: .double x :: st) pc := by
  obtain ⟨p, l, e, R, s, m, args, below, meth, c, D, M0, Q⟩ := X
  obtain ⟨hx, hb, hml, hown, hts, hKK, hlk, hR⟩ := g
  have hK := hKK.1
  intro H locs ls hH hS hl hq
  exact lv_dcmp hx hb hd (k H locs ls hH hS hl hq)
theorem j_f2d (g : jG X cc own Ts nL rm) {x : UInt32} (hd : decode cc pc = .ok (.f2d, 1)) (hne : vf_n64 (FP.f2d x)) (k : J X nL cells slots M vs (.double (FP.f2d x) :: st) (pc + 1)) : J X nL cells slots M vs (.float x :: st) pc := by
  obtain ⟨p, l, e, R, s, m, args, below, meth, c, D, M0, Q⟩ := X
  obtain ⟨hx, hb, hml, hown, hts, hKK, hlk, hR⟩ := g
  have hK := hKK.1
  intro H locs ls hH hS hl hq
  exact lv_f2d hx hb hd hne (k H locs ls hH hS hl hq)
theorem j_lconst (g : jG X cc own Ts nL rm) {n : Fin 2} (v : Int64) (hd : decode cc pc = .ok (.lconst n, 1)) (hv : Int64.ofNat (n : Nat) = v) (k : J X nL cells slots M vs (.long v :: st) (pc + 1)) : J X nL cells slots M vs st pc := by
  obtain ⟨p, l, e, R, s, m, args, below, meth, c, D, M0, Q⟩ := X
  obtain ⟨hx, hb, hml, hown, hts, hKK, hlk, hR⟩ := g
  have hK := hKK.1
  intro H locs ls hH hS hl hq
  exact lv_lconst hx hb hd hv (k H locs ls hH hS hl hq)
theorem j_fconst0 (g : jG X cc own Ts nL rm)  (hd : decode cc pc = .ok (.fconst 0, 1))  (k : J X nL cells slots M vs (.float FP.fconst0 :: st) (pc + 1)) : J X nL cells slots M vs st pc := by
  obtain ⟨p, l, e, R, s, m, args, below, meth, c, D, M0, Q⟩ := X
  obtain ⟨hx, hb, hml, hown, hts, hKK, hlk, hR⟩ := g
  have hK := hKK.1
  intro H locs ls hH hS hl hq
  exact lv_fconst0 hx hb hd (k H locs ls hH hS hl hq)
theorem j_fconst1 (g : jG X cc own Ts nL rm)  (hd : decode cc pc = .ok (.fconst 1, 1))  (k : J X nL cells slots M vs (.float FP.fconst1 :: st) (pc + 1)) : J X nL cells slots M vs st pc := by
  obtain ⟨p, l, e, R, s, m, args, below, meth, c, D, M0, Q⟩ := X
  obtain ⟨hx, hb, hml, hown, hts, hKK, hlk, hR⟩ := g
  have hK := hKK.1
  intro H locs ls hH hS hl hq
  exact lv_fconst1 hx hb hd (k H locs ls hH hS hl hq)
theorem j_fconst2 (g : jG X cc own Ts nL rm)  (hd : decode cc pc = .ok (.fconst 2, 1))  (k : J X nL cells slots M vs (.float FP.fconst2 :: st) (pc + 1)) : J X nL cells slots M vs st pc := by
  obtain ⟨p, l, e, R, s, m, args, below, meth, c, D, M0, Q⟩ := X
  obtain ⟨hx, hb, hml, hown, hts, hKK, hlk, hR⟩ := g
  have hK := hKK.1
  intro H locs ls hH hS hl hq
  exact lv_fconst2 hx hb hd (k H locs ls hH hS hl hq)
theorem j_aconst_null (g : jG X cc own Ts nL rm)  (hd : decode cc pc = .ok (.aconst_null, 1))  (k : J X nL cells slots M vs (.null :: st) (pc + 1)) : J X nL cells slots M vs st pc := by
  obtain ⟨p, l, e, R, s, m, args, below, meth, c, D, M0, Q⟩ := X
  obtain ⟨hx, hb, hml, hown, hts, hKK, hlk, hR⟩ := g
  have hK := hKK.1
  intro H locs ls hH hS hl hq
  exact lv_null hx hb hd (k H locs ls hH hS hl hq)
theorem j_dup (g : jG X cc own Ts nL rm) {va : Value} (hd : decode cc pc = .ok (.dup, 1)) (hva : va.category = 1) (k : J X nL cells slots M vs (va :: va :: st) (pc + 1)) : J X nL cells slots M vs (va :: st) pc := by
  obtain ⟨p, l, e, R, s, m, args, below, meth, c, D, M0, Q⟩ := X
  obtain ⟨hx, hb, hml, hown, hts, hKK, hlk, hR⟩ := g
  have hK := hKK.1
  intro H locs ls hH hS hl hq
  exact lv_dup hx hb hd hva (k H locs ls hH hS hl hq)
theorem j_pop (g : jG X cc own Ts nL rm) {va : Value} (hd : decode cc pc = .ok (.pop, 1)) (hva : va.category = 1) (k : J X nL cells slots M vs st (pc + 1)) : J X nL cells slots M vs (va :: st) pc := by
  obtain ⟨p, l, e, R, s, m, args, below, meth, c, D, M0, Q⟩ := X
  obtain ⟨hx, hb, hml, hown, hts, hKK, hlk, hR⟩ := g
  have hK := hKK.1
  intro H locs ls hH hS hl hq
  exact lv_pop hx hb hd hva (k H locs ls hH hS hl hq)
theorem j_dup2 (g : jG X cc own Ts nL rm) {va vb : Value} (hd : decode cc pc = .ok (.dup2, 1)) (hva : va.category = 1) (hvb : vb.category = 1) (k : J X nL cells slots M vs (va :: vb :: va :: vb :: st) (pc + 1)) : J X nL cells slots M vs (va :: vb :: st) pc := by
  obtain ⟨p, l, e, R, s, m, args, below, meth, c, D, M0, Q⟩ := X
  obtain ⟨hx, hb, hml, hown, hts, hKK, hlk, hR⟩ := g
  have hK := hKK.1
  intro H locs ls hH hS hl hq
  exact lv_dup2_11 hx hb hd hva hvb (k H locs ls hH hS hl hq)
theorem j_ldcf (g : jG X cc own Ts nL rm) {idx : Nat} (v : UInt32) (hd : decode cc pc = .ok (.ldc idx, 2)) (hw : Cond.constantFloat own idx v ∈ Ts) (k : J X nL cells slots M vs (.float v :: st) (pc + 2)) : J X nL cells slots M vs st pc := by
  obtain ⟨p, l, e, R, s, m, args, below, meth, c, D, M0, Q⟩ := X
  obtain ⟨hx, hb, hml, hown, hts, hKK, hlk, hR⟩ := g
  have hK := hKK.1
  intro H locs ls hH hS hl hq
  exact lv_ldcf hx hb hown (hts _ hw) hd (k H locs ls hH hS hl hq)
theorem j_iload (g : jG X cc own Ts nL rm) {i : Nat} {x : Int32} (hd : decode cc pc = .ok (.iload i, 2)) (hv : lvg vs i = some (.int x)) (k : J X nL cells slots M vs (.int x :: st) (pc + 2)) : J X nL cells slots M vs st pc := by
  obtain ⟨p, l, e, R, s, m, args, below, meth, c, D, M0, Q⟩ := X
  obtain ⟨hx, hb, hml, hown, hts, hKK, hlk, hR⟩ := g
  have hK := hKK.1
  intro H locs ls hH hS hl hq
  exact lv_iload hx hb hd (lv_of_lvg hl hv) (k H locs ls hH hS hl hq)
theorem j_iload_n (g : jG X cc own Ts nL rm) {n : Fin 4} {x : Int32} (i : Nat) (hd : decode cc pc = .ok (.iload_n n, 1)) (hi : (n : Nat) = i) (hv : lvg vs i = some (.int x)) (k : J X nL cells slots M vs (.int x :: st) (pc + 1)) : J X nL cells slots M vs st pc := by
  obtain ⟨p, l, e, R, s, m, args, below, meth, c, D, M0, Q⟩ := X
  obtain ⟨hx, hb, hml, hown, hts, hKK, hlk, hR⟩ := g
  have hK := hKK.1
  intro H locs ls hH hS hl hq
  exact lv_iload_n hx hb hd hi (lv_of_lvg hl hv) (k H locs ls hH hS hl hq)
theorem j_fload (g : jG X cc own Ts nL rm) {i : Nat} {x : UInt32} (hd : decode cc pc = .ok (.fload i, 2)) (hv : lvg vs i = some (.float x)) (k : J X nL cells slots M vs (.float x :: st) (pc + 2)) : J X nL cells slots M vs st pc := by
  obtain ⟨p, l, e, R, s, m, args, below, meth, c, D, M0, Q⟩ := X
  obtain ⟨hx, hb, hml, hown, hts, hKK, hlk, hR⟩ := g
  have hK := hKK.1
  intro H locs ls hH hS hl hq
  exact lv_fload hx hb hd (lv_of_lvg hl hv) (k H locs ls hH hS hl hq)
theorem j_fload_n (g : jG X cc own Ts nL rm) {n : Fin 4} {x : UInt32} (i : Nat) (hd : decode cc pc = .ok (.fload_n n, 1)) (hi : (n : Nat) = i) (hv : lvg vs i = some (.float x)) (k : J X nL cells slots M vs (.float x :: st) (pc + 1)) : J X nL cells slots M vs st pc := by
  obtain ⟨p, l, e, R, s, m, args, below, meth, c, D, M0, Q⟩ := X
  obtain ⟨hx, hb, hml, hown, hts, hKK, hlk, hR⟩ := g
  have hK := hKK.1
  intro H locs ls hH hS hl hq
  exact lv_fload_n hx hb hd hi (lv_of_lvg hl hv) (k H locs ls hH hS hl hq)
theorem j_aload (g : jG X cc own Ts nL rm) {i : Nat} {x : Nat} (hd : decode cc pc = .ok (.aload i, 2)) (hv : lvg vs i = some (.ref x)) (k : J X nL cells slots M vs (.ref x :: st) (pc + 2)) : J X nL cells slots M vs st pc := by
  obtain ⟨p, l, e, R, s, m, args, below, meth, c, D, M0, Q⟩ := X
  obtain ⟨hx, hb, hml, hown, hts, hKK, hlk, hR⟩ := g
  have hK := hKK.1
  intro H locs ls hH hS hl hq
  exact lv_aload hx hb hd (lv_of_lvg hl hv) (k H locs ls hH hS hl hq)
theorem j_aload_n (g : jG X cc own Ts nL rm) {n : Fin 4} {x : Nat} (i : Nat) (hd : decode cc pc = .ok (.aload_n n, 1)) (hi : (n : Nat) = i) (hv : lvg vs i = some (.ref x)) (k : J X nL cells slots M vs (.ref x :: st) (pc + 1)) : J X nL cells slots M vs st pc := by
  obtain ⟨p, l, e, R, s, m, args, below, meth, c, D, M0, Q⟩ := X
  obtain ⟨hx, hb, hml, hown, hts, hKK, hlk, hR⟩ := g
  have hK := hKK.1
  intro H locs ls hH hS hl hq
  exact lv_aload_n hx hb hd hi (lv_of_lvg hl hv) (k H locs ls hH hS hl hq)
theorem j_aloadN (g : jG X cc own Ts nL rm) {i : Nat} (hd : decode cc pc = .ok (.aload i, 2)) (hv : lvg vs i = some .null) (k : J X nL cells slots M vs (.null :: st) (pc + 2)) : J X nL cells slots M vs st pc := by
  obtain ⟨p, l, e, R, s, m, args, below, meth, c, D, M0, Q⟩ := X
  obtain ⟨hx, hb, hml, hown, hts, hKK, hlk, hR⟩ := g
  have hK := hKK.1
  intro H locs ls hH hS hl hq
  exact lv_aloadN hx hb hd (lv_of_lvg hl hv) (k H locs ls hH hS hl hq)
theorem j_aload_nN (g : jG X cc own Ts nL rm) {n : Fin 4} (i : Nat) (hd : decode cc pc = .ok (.aload_n n, 1)) (hi : (n : Nat) = i) (hv : lvg vs i = some .null) (k : J X nL cells slots M vs (.null :: st) (pc + 1)) : J X nL cells slots M vs st pc := by
  obtain ⟨p, l, e, R, s, m, args, below, meth, c, D, M0, Q⟩ := X
  obtain ⟨hx, hb, hml, hown, hts, hKK, hlk, hR⟩ := g
  have hK := hKK.1
  intro H locs ls hH hS hl hq
  exact lv_aload_nN hx hb hd hi (lv_of_lvg hl hv) (k H locs ls hH hS hl hq)
theorem j_istore (g : jG X cc own Ts nL rm) {i : Nat} {x : Int32} (hd : decode cc pc = .ok (.istore i, 2)) (hi : i < vs.length) (k : J X nL cells slots M (lvp vs i (.int x)) st (pc + 2)) : J X nL cells slots M vs (.int x :: st) pc := by
  obtain ⟨p, l, e, R, s, m, args, below, meth, c, D, M0, Q⟩ := X
  obtain ⟨hx, hb, hml, hown, hts, hKK, hlk, hR⟩ := g
  have hK := hKK.1
  intro H locs ls hH hS hl hq
  exact lv_istore hx hb hd hl (by rw [← hq.1]; exact hi) rfl (fun ls2 hl2 => k H locs ls2 hH hS (lvl_keep hq.2 hi hl2) ⟨(lvp_len _ _ _).trans hq.1, lv1_p hq.2 rfl⟩)
theorem j_istore_n (g : jG X cc own Ts nL rm) {n : Fin 4} {x : Int32} (i : Nat) (hd : decode cc pc = .ok (.istore_n n, 1)) (hni : (n : Nat) = i) (hi : i < vs.length) (k : J X nL cells slots M (lvp vs i (.int x)) st (pc + 1)) : J X nL cells slots M vs (.int x :: st) pc := by
  obtain ⟨p, l, e, R, s, m, args, below, meth, c, D, M0, Q⟩ := X
  obtain ⟨hx, hb, hml, hown, hts, hKK, hlk, hR⟩ := g
  have hK := hKK.1
  intro H locs ls hH hS hl hq
  exact lv_istore_n hx hb hd hni hl (by rw [← hq.1]; exact hi) rfl (fun ls2 hl2 => k H locs ls2 hH hS (lvl_keep hq.2 hi hl2) ⟨(lvp_len _ _ _).trans hq.1, lv1_p hq.2 rfl⟩)
theorem j_fstore (g : jG X cc own Ts nL rm) {i : Nat} {x : UInt32} (hd : decode cc pc = .ok (.fstore i, 2)) (hi : i < vs.length) (k : J X nL cells slots M (lvp vs i (.float x)) st (pc + 2)) : J X nL cells slots M vs (.float x :: st) pc := by
  obtain ⟨p, l, e, R, s, m, args, below, meth, c, D, M0, Q⟩ := X
  obtain ⟨hx, hb, hml, hown, hts, hKK, hlk, hR⟩ := g
  have hK := hKK.1
  intro H locs ls hH hS hl hq
  exact lv_fstore hx hb hd hl (by rw [← hq.1]; exact hi) rfl (fun ls2 hl2 => k H locs ls2 hH hS (lvl_keep hq.2 hi hl2) ⟨(lvp_len _ _ _).trans hq.1, lv1_p hq.2 rfl⟩)
theorem j_fstore_n (g : jG X cc own Ts nL rm) {n : Fin 4} {x : UInt32} (i : Nat) (hd : decode cc pc = .ok (.fstore_n n, 1)) (hni : (n : Nat) = i) (hi : i < vs.length) (k : J X nL cells slots M (lvp vs i (.float x)) st (pc + 1)) : J X nL cells slots M vs (.float x :: st) pc := by
  obtain ⟨p, l, e, R, s, m, args, below, meth, c, D, M0, Q⟩ := X
  obtain ⟨hx, hb, hml, hown, hts, hKK, hlk, hR⟩ := g
  have hK := hKK.1
  intro H locs ls hH hS hl hq
  exact lv_fstore_n hx hb hd hni hl (by rw [← hq.1]; exact hi) rfl (fun ls2 hl2 => k H locs ls2 hH hS (lvl_keep hq.2 hi hl2) ⟨(lvp_len _ _ _).trans hq.1, lv1_p hq.2 rfl⟩)
theorem j_astore (g : jG X cc own Ts nL rm) {i : Nat} {x : Nat} (hd : decode cc pc = .ok (.astore i, 2)) (hi : i < vs.length) (k : J X nL cells slots M (lvp vs i (.ref x)) st (pc + 2)) : J X nL cells slots M vs (.ref x :: st) pc := by
  obtain ⟨p, l, e, R, s, m, args, below, meth, c, D, M0, Q⟩ := X
  obtain ⟨hx, hb, hml, hown, hts, hKK, hlk, hR⟩ := g
  have hK := hKK.1
  intro H locs ls hH hS hl hq
  exact lv_astore hx hb hd hl (by rw [← hq.1]; exact hi) rfl (fun ls2 hl2 => k H locs ls2 hH hS (lvl_keep hq.2 hi hl2) ⟨(lvp_len _ _ _).trans hq.1, lv1_p hq.2 rfl⟩)
theorem j_astore_n (g : jG X cc own Ts nL rm) {n : Fin 4} {x : Nat} (i : Nat) (hd : decode cc pc = .ok (.astore_n n, 1)) (hni : (n : Nat) = i) (hi : i < vs.length) (k : J X nL cells slots M (lvp vs i (.ref x)) st (pc + 1)) : J X nL cells slots M vs (.ref x :: st) pc := by
  obtain ⟨p, l, e, R, s, m, args, below, meth, c, D, M0, Q⟩ := X
  obtain ⟨hx, hb, hml, hown, hts, hKK, hlk, hR⟩ := g
  have hK := hKK.1
  intro H locs ls hH hS hl hq
  exact lv_astore_n hx hb hd hni hl (by rw [← hq.1]; exact hi) rfl (fun ls2 hl2 => k H locs ls2 hH hS (lvl_keep hq.2 hi hl2) ⟨(lvp_len _ _ _).trans hq.1, lv1_p hq.2 rfl⟩)
theorem j_astoreN (g : jG X cc own Ts nL rm) {i : Nat} (hd : decode cc pc = .ok (.astore i, 2)) (hi : i < vs.length) (k : J X nL cells slots M (lvp vs i .null) st (pc + 2)) : J X nL cells slots M vs (.null :: st) pc := by
  obtain ⟨p, l, e, R, s, m, args, below, meth, c, D, M0, Q⟩ := X
  obtain ⟨hx, hb, hml, hown, hts, hKK, hlk, hR⟩ := g
  have hK := hKK.1
  intro H locs ls hH hS hl hq
  exact lv_astoreN hx hb hd hl (by rw [← hq.1]; exact hi) rfl (fun ls2 hl2 => k H locs ls2 hH hS (lvl_keep hq.2 hi hl2) ⟨(lvp_len _ _ _).trans hq.1, lv1_p hq.2 rfl⟩)
theorem j_astore_nN (g : jG X cc own Ts nL rm) {n : Fin 4} (i : Nat) (hd : decode cc pc = .ok (.astore_n n, 1)) (hni : (n : Nat) = i) (hi : i < vs.length) (k : J X nL cells slots M (lvp vs i .null) st (pc + 1)) : J X nL cells slots M vs (.null :: st) pc := by
  obtain ⟨p, l, e, R, s, m, args, below, meth, c, D, M0, Q⟩ := X
  obtain ⟨hx, hb, hml, hown, hts, hKK, hlk, hR⟩ := g
  have hK := hKK.1
  intro H locs ls hH hS hl hq
  exact lv_astore_nN hx hb hd hni hl (by rw [← hq.1]; exact hi) rfl (fun ls2 hl2 => k H locs ls2 hH hS (lvl_keep hq.2 hi hl2) ⟨(lvp_len _ _ _).trans hq.1, lv1_p hq.2 rfl⟩)
theorem j_iinc (g : jG X cc own Ts nL rm) {i : Nat} {n : Int} {x : Int32} (v : Int32) (hd : decode cc pc = .ok (.iinc i n, 3)) (hv : lvg vs i = some (.int x)) (he : x + Int32.ofInt n = v) (k : J X nL cells slots M (lvp vs i (.int v)) st (pc + 3)) : J X nL cells slots M vs st pc := by
  obtain ⟨p, l, e, R, s, m, args, below, meth, c, D, M0, Q⟩ := X
  obtain ⟨hx, hb, hml, hown, hts, hKK, hlk, hR⟩ := g
  have hK := hKK.1
  intro H locs ls hH hS hl hq
  have hi := lvg_lt _ _ _ hv
  have hm := lvl_mem vs 0 i _ hv
  rw [Nat.zero_add] at hm
  obtain ⟨j, hj⟩ := List.getElem?_of_mem hm
  exact lv_iinc hx hb hd hl hj he (by rw [← hq.1]; exact hi) rfl (fun ls2 hl2 => k H locs ls2 hH hS (lvl_keep hq.2 hi hl2) ⟨(lvp_len _ _ _).trans hq.1, lv1_p hq.2 rfl⟩)
theorem j_if_eq (g : jG X cc own Ts nL rm) {x : Int32} {off : Int} (tgt : Nat) (hd : decode cc pc = .ok (.ifCond .eq off, 3)) (ht : (pc : Int) + off = (tgt : Int)) (kt : x = 0 → J X nL cells slots M vs st tgt) (kf : ¬ x = 0 → J X nL cells slots M vs st (pc + 3)) : J X nL cells slots M vs (.int x :: st) pc := by
  obtain ⟨p, l, e, R, s, m, args, below, meth, c, D, M0, Q⟩ := X
  obtain ⟨hx, hb, hml, hown, hts, hKK, hlk, hR⟩ := g
  have hK := hKK.1
  intro H locs ls hH hS hl hq
  exact lv_if_eq hx hb hd ht (fun h => kt h H locs ls hH hS hl hq) (fun h => kf h H locs ls hH hS hl hq)
theorem j_if_ne (g : jG X cc own Ts nL rm) {x : Int32} {off : Int} (tgt : Nat) (hd : decode cc pc = .ok (.ifCond .ne off, 3)) (ht : (pc : Int) + off = (tgt : Int)) (kt : ¬ x = 0 → J X nL cells slots M vs st tgt) (kf : x = 0 → J X nL cells slots M vs st (pc + 3)) : J X nL cells slots M vs (.int x :: st) pc := by
  obtain ⟨p, l, e, R, s, m, args, below, meth, c, D, M0, Q⟩ := X
  obtain ⟨hx, hb, hml, hown, hts, hKK, hlk, hR⟩ := g
  have hK := hKK.1
  intro H locs ls hH hS hl hq
  exact lv_if_ne hx hb hd ht (fun h => kt h H locs ls hH hS hl hq) (fun h => kf h H locs ls hH hS hl hq)
theorem j_if_lt (g : jG X cc own Ts nL rm) {x : Int32} {off : Int} (tgt : Nat) (hd : decode cc pc = .ok (.ifCond .lt off, 3)) (ht : (pc : Int) + off = (tgt : Int)) (kt : x < 0 → J X nL cells slots M vs st tgt) (kf : ¬ x < 0 → J X nL cells slots M vs st (pc + 3)) : J X nL cells slots M vs (.int x :: st) pc := by
  obtain ⟨p, l, e, R, s, m, args, below, meth, c, D, M0, Q⟩ := X
  obtain ⟨hx, hb, hml, hown, hts, hKK, hlk, hR⟩ := g
  have hK := hKK.1
  intro H locs ls hH hS hl hq
  exact lv_if_lt hx hb hd ht (fun h => kt h H locs ls hH hS hl hq) (fun h => kf h H locs ls hH hS hl hq)
theorem j_if_ge (g : jG X cc own Ts nL rm) {x : Int32} {off : Int} (tgt : Nat) (hd : decode cc pc = .ok (.ifCond .ge off, 3)) (ht : (pc : Int) + off = (tgt : Int)) (kt : 0 ≤ x → J X nL cells slots M vs st tgt) (kf : ¬ 0 ≤ x → J X nL cells slots M vs st (pc + 3)) : J X nL cells slots M vs (.int x :: st) pc := by
  obtain ⟨p, l, e, R, s, m, args, below, meth, c, D, M0, Q⟩ := X
  obtain ⟨hx, hb, hml, hown, hts, hKK, hlk, hR⟩ := g
  have hK := hKK.1
  intro H locs ls hH hS hl hq
  exact lv_if_ge hx hb hd ht (fun h => kt h H locs ls hH hS hl hq) (fun h => kf h H locs ls hH hS hl hq)
theorem j_if_gt (g : jG X cc own Ts nL rm) {x : Int32} {off : Int} (tgt : Nat) (hd : decode cc pc = .ok (.ifCond .gt off, 3)) (ht : (pc : Int) + off = (tgt : Int)) (kt : 0 < x → J X nL cells slots M vs st tgt) (kf : ¬ 0 < x → J X nL cells slots M vs st (pc + 3)) : J X nL cells slots M vs (.int x :: st) pc := by
  obtain ⟨p, l, e, R, s, m, args, below, meth, c, D, M0, Q⟩ := X
  obtain ⟨hx, hb, hml, hown, hts, hKK, hlk, hR⟩ := g
  have hK := hKK.1
  intro H locs ls hH hS hl hq
  exact lv_if_gt hx hb hd ht (fun h => kt h H locs ls hH hS hl hq) (fun h => kf h H locs ls hH hS hl hq)
theorem j_if_le (g : jG X cc own Ts nL rm) {x : Int32} {off : Int} (tgt : Nat) (hd : decode cc pc = .ok (.ifCond .le off, 3)) (ht : (pc : Int) + off = (tgt : Int)) (kt : x ≤ 0 → J X nL cells slots M vs st tgt) (kf : ¬ x ≤ 0 → J X nL cells slots M vs st (pc + 3)) : J X nL cells slots M vs (.int x :: st) pc := by
  obtain ⟨p, l, e, R, s, m, args, below, meth, c, D, M0, Q⟩ := X
  obtain ⟨hx, hb, hml, hown, hts, hKK, hlk, hR⟩ := g
  have hK := hKK.1
  intro H locs ls hH hS hl hq
  exact lv_if_le hx hb hd ht (fun h => kt h H locs ls hH hS hl hq) (fun h => kf h H locs ls hH hS hl hq)
theorem j_icmp_eq (g : jG X cc own Ts nL rm) {x y : Int32} {off : Int} (tgt : Nat) (hd : decode cc pc = .ok (.if_icmp .eq off, 3)) (ht : (pc : Int) + off = (tgt : Int)) (kt : x = y → J X nL cells slots M vs st tgt) (kf : ¬ x = y → J X nL cells slots M vs st (pc + 3)) : J X nL cells slots M vs (.int y :: .int x :: st) pc := by
  obtain ⟨p, l, e, R, s, m, args, below, meth, c, D, M0, Q⟩ := X
  obtain ⟨hx, hb, hml, hown, hts, hKK, hlk, hR⟩ := g
  have hK := hKK.1
  intro H locs ls hH hS hl hq
  exact lv_icmp_eq hx hb hd ht (fun h => kt h H locs ls hH hS hl hq) (fun h => kf h H locs ls hH hS hl hq)
theorem j_icmp_ne (g : jG X cc own Ts nL rm) {x y : Int32} {off : Int} (tgt : Nat) (hd : decode cc pc = .ok (.if_icmp .ne off, 3)) (ht : (pc : Int) + off = (tgt : Int)) (kt : ¬ x = y → J X nL cells slots M vs st tgt) (kf : x = y → J X nL cells slots M vs st (pc + 3)) : J X nL cells slots M vs (.int y :: .int x :: st) pc := by
  obtain ⟨p, l, e, R, s, m, args, below, meth, c, D, M0, Q⟩ := X
  obtain ⟨hx, hb, hml, hown, hts, hKK, hlk, hR⟩ := g
  have hK := hKK.1
  intro H locs ls hH hS hl hq
  exact lv_icmp_ne hx hb hd ht (fun h => kt h H locs ls hH hS hl hq) (fun h => kf h H locs ls hH hS hl hq)
theorem j_icmp_lt (g : jG X cc own Ts nL rm) {x y : Int32} {off : Int} (tgt : Nat) (hd : decode cc pc = .ok (.if_icmp .lt off, 3)) (ht : (pc : Int) + off = (tgt : Int)) (kt : x < y → J X nL cells slots M vs st tgt) (kf : ¬ x < y → J X nL cells slots M vs st (pc + 3)) : J X nL cells slots M vs (.int y :: .int x :: st) pc := by
  obtain ⟨p, l, e, R, s, m, args, below, meth, c, D, M0, Q⟩ := X
  obtain ⟨hx, hb, hml, hown, hts, hKK, hlk, hR⟩ := g
  have hK := hKK.1
  intro H locs ls hH hS hl hq
  exact lv_icmp_lt hx hb hd ht (fun h => kt h H locs ls hH hS hl hq) (fun h => kf h H locs ls hH hS hl hq)
theorem j_icmp_ge (g : jG X cc own Ts nL rm) {x y : Int32} {off : Int} (tgt : Nat) (hd : decode cc pc = .ok (.if_icmp .ge off, 3)) (ht : (pc : Int) + off = (tgt : Int)) (kt : y ≤ x → J X nL cells slots M vs st tgt) (kf : ¬ y ≤ x → J X nL cells slots M vs st (pc + 3)) : J X nL cells slots M vs (.int y :: .int x :: st) pc := by
  obtain ⟨p, l, e, R, s, m, args, below, meth, c, D, M0, Q⟩ := X
  obtain ⟨hx, hb, hml, hown, hts, hKK, hlk, hR⟩ := g
  have hK := hKK.1
  intro H locs ls hH hS hl hq
  exact lv_icmp_ge hx hb hd ht (fun h => kt h H locs ls hH hS hl hq) (fun h => kf h H locs ls hH hS hl hq)
theorem j_icmp_gt (g : jG X cc own Ts nL rm) {x y : Int32} {off : Int} (tgt : Nat) (hd : decode cc pc = .ok (.if_icmp .gt off, 3)) (ht : (pc : Int) + off = (tgt : Int)) (kt : y < x → J X nL cells slots M vs st tgt) (kf : ¬ y < x → J X nL cells slots M vs st (pc + 3)) : J X nL cells slots M vs (.int y :: .int x :: st) pc := by
  obtain ⟨p, l, e, R, s, m, args, below, meth, c, D, M0, Q⟩ := X
  obtain ⟨hx, hb, hml, hown, hts, hKK, hlk, hR⟩ := g
  have hK := hKK.1
  intro H locs ls hH hS hl hq
  exact lv_icmp_gt hx hb hd ht (fun h => kt h H locs ls hH hS hl hq) (fun h => kf h H locs ls hH hS hl hq)
theorem j_icmp_le (g : jG X cc own Ts nL rm) {x y : Int32} {off : Int} (tgt : Nat) (hd : decode cc pc = .ok (.if_icmp .le off, 3)) (ht : (pc : Int) + off = (tgt : Int)) (kt : x ≤ y → J X nL cells slots M vs st tgt) (kf : ¬ x ≤ y → J X nL cells slots M vs st (pc + 3)) : J X nL cells slots M vs (.int y :: .int x :: st) pc := by
  obtain ⟨p, l, e, R, s, m, args, below, meth, c, D, M0, Q⟩ := X
  obtain ⟨hx, hb, hml, hown, hts, hKK, hlk, hR⟩ := g
  have hK := hKK.1
  intro H locs ls hH hS hl hq
  exact lv_icmp_le hx hb hd ht (fun h => kt h H locs ls hH hS hl hq) (fun h => kf h H locs ls hH hS hl hq)
theorem j_goto (g : jG X cc own Ts nL rm) {off : Int} (tgt : Nat) (hd : decode cc pc = .ok (.goto off, 3)) (ht : (pc : Int) + off = (tgt : Int)) (k : J X nL cells slots M vs st tgt) : J X nL cells slots M vs st pc := by
  obtain ⟨p, l, e, R, s, m, args, below, meth, c, D, M0, Q⟩ := X
  obtain ⟨hx, hb, hml, hown, hts, hKK, hlk, hR⟩ := g
  have hK := hKK.1
  intro H locs ls hH hS hl hq
  exact lv_goto hx hb hd ht (k H locs ls hH hS hl hq)
theorem j_ifnull (g : jG X cc own Ts nL rm) {x : Nat} {off : Int} (hd : decode cc pc = .ok (.ifnull off, 3)) (k : J X nL cells slots M vs st (pc + 3)) : J X nL cells slots M vs (.ref x :: st) pc := by
  obtain ⟨p, l, e, R, s, m, args, below, meth, c, D, M0, Q⟩ := X
  obtain ⟨hx, hb, hml, hown, hts, hKK, hlk, hR⟩ := g
  have hK := hKK.1
  intro H locs ls hH hS hl hq
  exact lv_ifnull hx hb hd (k H locs ls hH hS hl hq)
theorem j_ifnullN (g : jG X cc own Ts nL rm) {off : Int} (tgt : Nat) (hd : decode cc pc = .ok (.ifnull off, 3)) (ht : (pc : Int) + off = (tgt : Int)) (k : J X nL cells slots M vs st tgt) : J X nL cells slots M vs (.null :: st) pc := by
  obtain ⟨p, l, e, R, s, m, args, below, meth, c, D, M0, Q⟩ := X
  obtain ⟨hx, hb, hml, hown, hts, hKK, hlk, hR⟩ := g
  have hK := hKK.1
  intro H locs ls hH hS hl hq
  exact lv_ifnullN hx hb hd ht (k H locs ls hH hS hl hq)
theorem j_ifnonnull (g : jG X cc own Ts nL rm) {x : Nat} {off : Int} (tgt : Nat) (hd : decode cc pc = .ok (.ifnonnull off, 3)) (ht : (pc : Int) + off = (tgt : Int)) (k : J X nL cells slots M vs st tgt) : J X nL cells slots M vs (.ref x :: st) pc := by
  obtain ⟨p, l, e, R, s, m, args, below, meth, c, D, M0, Q⟩ := X
  obtain ⟨hx, hb, hml, hown, hts, hKK, hlk, hR⟩ := g
  have hK := hKK.1
  intro H locs ls hH hS hl hq
  exact lv_ifnonnull hx hb hd ht (k H locs ls hH hS hl hq)
theorem j_ifnonnullN (g : jG X cc own Ts nL rm) {off : Int} (hd : decode cc pc = .ok (.ifnonnull off, 3)) (k : J X nL cells slots M vs st (pc + 3)) : J X nL cells slots M vs (.null :: st) pc := by
  obtain ⟨p, l, e, R, s, m, args, below, meth, c, D, M0, Q⟩ := X
  obtain ⟨hx, hb, hml, hown, hts, hKK, hlk, hR⟩ := g
  have hK := hKK.1
  intro H locs ls hH hS hl hq
  exact lv_ifnonnullN hx hb hd (k H locs ls hH hS hl hq)
theorem j_lcmp (g : jG X cc own Ts nL rm) {x y : Int64} (hd : decode cc pc = .ok (.lcmp, 1)) (k : J X nL cells slots M vs (.int (lg_cmp x y) :: st) (pc + 1)) : J X nL cells slots M vs (.long y :: .long x :: st) pc := by
  obtain ⟨p, l, e, R, s, m, args, below, meth, c, D, M0, Q⟩ := X
  obtain ⟨hx, hb, hml, hown, hts, hKK, hlk, hR⟩ := g
  have hK := hKK.1
  intro H locs ls hH hS hl hq
  exact W.lcmp hx hb hd (k H locs ls hH hS hl hq)
theorem j_tableIn (g : jG X cc own Ts nL rm) {dflt lo hi : Int} {offs : Array Int} {len : Nat} {x : Int32} (off : Int) (tgt : Nat) (hd : decode cc pc = .ok (.tableswitch dflt lo hi offs, len)) (h1 : ¬ x.toInt < lo) (h2 : ¬ hi < x.toInt) (ho : offs[(x.toInt - lo).toNat]? = some off) (ht : (pc : Int) + off = (tgt : Int)) (k : J X nL cells slots M vs st tgt) : J X nL cells slots M vs (.int x :: st) pc := by
  obtain ⟨p, l, e, R, s, m, args, below, meth, c, D, M0, Q⟩ := X
  obtain ⟨hx, hb, hml, hown, hts, hKK, hlk, hR⟩ := g
  have hK := hKK.1
  intro H locs ls hH hS hl hq
  exact lv_tableIn hx hb hd h1 h2 ho ht (k H locs ls hH hS hl hq)
theorem j_tableOut (g : jG X cc own Ts nL rm) {dflt lo hi : Int} {offs : Array Int} {len : Nat} {x : Int32} (tgt : Nat) (hd : decode cc pc = .ok (.tableswitch dflt lo hi offs, len)) (h : x.toInt < lo ∨ hi < x.toInt) (ht : (pc : Int) + dflt = (tgt : Int)) (k : J X nL cells slots M vs st tgt) : J X nL cells slots M vs (.int x :: st) pc := by
  obtain ⟨p, l, e, R, s, m, args, below, meth, c, D, M0, Q⟩ := X
  obtain ⟨hx, hb, hml, hown, hts, hKK, hlk, hR⟩ := g
  have hK := hKK.1
  intro H locs ls hH hS hl hq
  exact lv_tableOut hx hb hd h ht (k H locs ls hH hS hl hq)
theorem j_lookup (g : jG X cc own Ts nL rm) {dflt : Int} {ps : Array (Int × Int)} {len : Nat} {x : Int32} (off : Int) (tgt : Nat) (hd : decode cc pc = .ok (.lookupswitch dflt ps, len)) (hp : (ps.toList.zip (ps.toList.drop 1)).all (fun (a, next) => a.1 < next.1) = true) (ho : Op.lookupswitch.offset ps.toList dflt x.toInt = off) (ht : (pc : Int) + off = (tgt : Int)) (k : J X nL cells slots M vs st tgt) : J X nL cells slots M vs (.int x :: st) pc := by
  obtain ⟨p, l, e, R, s, m, args, below, meth, c, D, M0, Q⟩ := X
  obtain ⟨hx, hb, hml, hown, hts, hKK, hlk, hR⟩ := g
  have hK := hKK.1
  intro H locs ls hH hS hl hq
  exact lv_lookup hx hb hd hp ho ht (k H locs ls hH hS hl hq)
theorem j_get (g : jG X cc own Ts nL rm) {idx ci N : Nat} {ref C : String} {T : u_T} {a : Nat} {fs : List Value} {v : Value} (hd : decode cc pc = .ok (.getfield idx, 3)) (ha : M a = some (.inr (ci, fs))) (hc : vwCl[ci]? = some (C, T, N)) (hin : ∀ w ∈ u_ws C T N, w ∈ Ts) (k : Nat) (hk : k < N) (hlink : Cond.fieldLink own idx ref (T k).2.1 (T k).2.2.1 ∈ Ts) (hsame : (T k).1 = ref) (hv : fs[k]? = some v) (kk : J X nL cells slots M vs (v :: st) (pc + 3)) : J X nL cells slots M vs (.ref a :: st) pc := by
  obtain ⟨p, l, e, R, s, m, args, below, meth, c, D, M0, Q⟩ := X
  obtain ⟨hx, hb, hml, hown, hts, hKK, hlk, hR⟩ := g
  have hK := hKK.1
  intro H locs ls hH hS hl hq
  obtain ⟨w, hw, hP, hA⟩ := hH.at ha
  have hw2 : w = .inr (ci, fs) := hw
  subst hw2
  exact va_get hx hb hts hin hown hK hP 0 rfl hc k hk (hts _ hlink) (fun _ h => by rw [← hsame]; exact h) hv hd (kk H locs ls hH hS hl hq)
theorem j_put (g : jG X cc own Ts nL rm) {idx ci N : Nat} {ref C : String} {T : u_T} {a : Nat} {fs : List Value} {v : Value} {ty : FieldType} (hd : decode cc pc = .ok (.putfield idx, 3)) (ha : M a = some (.inr (ci, fs))) (hc : vwCl[ci]? = some (C, T, N)) (hin : ∀ w ∈ u_ws C T N, w ∈ Ts) (tyf : Nat → FieldType) (htyf : ∀ k, k < N → parseFieldDescriptor (T k).2.2.1 = some (tyf k)) (hnm : ∀ a, a < N → ∀ b, b < N → a ≠ b → (T a).2.1 ≠ (T b).2.1) (k : Nat) (hk : k < N) (hlink : Cond.fieldLink own idx ref (T k).2.1 (T k).2.2.1 ∈ Ts) (hsame : (T k).1 = ref) (hfin : (T k).2.2.2 = false) (hty : tyf k = ty) (hn : narrow ty v = v) (hfit : fits ty v = true) (hlen : k < fs.length) (kk : J X nL cells slots (xu M a (.inr (ci, fs.set k v))) vs st (pc + 3)) : J X nL cells slots M vs (v :: .ref a :: st) pc := by
  obtain ⟨p, l, e, R, s, m, args, below, meth, c, D, M0, Q⟩ := X
  obtain ⟨hx, hb, hml, hown, hts, hKK, hlk, hR⟩ := g
  have hK := hKK.1
  intro H locs ls hH hS hl hq
  obtain ⟨L, f, h1, h2, h3, h4⟩ := id hH
  have hm : a ∈ L := (h1 a).mpr (by rw [ha]; simp)
  obtain ⟨i0, hk0⟩ := va_pl_get (X := []) (f := f) hm
  have hk0 : (va_pl L f)[i0]? = some (a, f a) := hk0
  have hfa : f a = .inr (ci, fs) := h2 a _ ha
  refine va_put hx hb hts hin tyf htyf hnm hown hK h3 h4 hS i0 (hk0.trans (by rw [hfa])) hc k hk (hts _ hlink) (fun _ h => by rw [← hsame]; exact h) hfin ((htyf k hk).trans (congrArg some hty)) hn hfit hlen hd (fun H1 locs1 hP1 hD1 hS1 => ?_)
  exact kk H1 locs1 ls (xH.chg h1 h2 hm hk0 h4 (by exact rfl) hP1 hD1) hS1 hl hq
theorem j_putF (g : jG X cc own Ts nL rm) {idx ci N : Nat} {ref C : String} {T : u_T} {a : Nat} {fs : List Value} {v : Value} {ty : FieldType} (hd : decode cc pc = .ok (.putfield idx, 3)) (ha : M a = some (.inr (ci, fs))) (hc : vwCl[ci]? = some (C, T, N)) (hin : ∀ w ∈ u_ws C T N, w ∈ Ts) (tyf : Nat → FieldType) (htyf : ∀ k, k < N → parseFieldDescriptor (T k).2.2.1 = some (tyf k)) (hnm : ∀ a, a < N → ∀ b, b < N → a ≠ b → (T a).2.1 ≠ (T b).2.1) (k : Nat) (hk : k < N) (hlink : Cond.fieldLink own idx ref (T k).2.1 (T k).2.2.1 ∈ Ts) (hsame : (T k).1 = ref) (hinit : jN X) (hfin : (T k).2.2.2 = true) (hdecl : (T k).1 = own) (hty : tyf k = ty) (hn : narrow ty v = v) (hfit : fits ty v = true) (hlen : k < fs.length) (kk : J X nL cells slots (xu M a (.inr (ci, fs.set k v))) vs st (pc + 3)) : J X nL cells slots M vs (v :: .ref a :: st) pc := by
  obtain ⟨p, l, e, R, s, m, args, below, meth, c, D, M0, Q⟩ := X
  obtain ⟨hx, hb, hml, hown, hts, hKK, hlk, hR⟩ := g
  have hK := hKK.1
  intro H locs ls hH hS hl hq
  obtain ⟨L, f, h1, h2, h3, h4⟩ := id hH
  have hm : a ∈ L := (h1 a).mpr (by rw [ha]; simp)
  obtain ⟨i0, hk0⟩ := va_pl_get (X := []) (f := f) hm
  have hk0 : (va_pl L f)[i0]? = some (a, f a) := hk0
  have hfa : f a = .inr (ci, fs) := h2 a _ ha
  refine va_putF hx hb hts hin tyf htyf hnm hown hK h3 h4 hS i0 (hk0.trans (by rw [hfa])) hc k hk (hts _ hlink) (fun _ h => by rw [← hsame]; exact h) hfin hinit hdecl ((htyf k hk).trans (congrArg some hty)) hn hfit hlen hd (fun H1 locs1 hP1 hD1 hS1 => ?_)
  exact kk H1 locs1 ls (xH.chg h1 h2 hm hk0 h4 (by exact rfl) hP1 hD1) hS1 hl hq
theorem j_iald (g : jG X cc own Ts nL rm) {a n : Nat} {i : Int32} {f : Nat → Int32} (hd : decode cc pc = .ok (.iaload, 1)) (ha : M a = some (.inl (10, n, .inl f))) (hin : vp_in i n) (kk : J X nL cells slots M vs (.int (f i.toNatClampNeg) :: st) (pc + 1)) : J X nL cells slots M vs (.int i :: .ref a :: st) pc := by
  obtain ⟨p, l, e, R, s, m, args, below, meth, c, D, M0, Q⟩ := X
  obtain ⟨hx, hb, hml, hown, hts, hKK, hlk, hR⟩ := g
  have hK := hKK.1
  intro H locs ls hH hS hl hq
  obtain ⟨w, hw, hP, hA⟩ := hH.at ha
  obtain ⟨cA, hw2, hw3, hw4⟩ := hw
  subst hw2
  exact va_iald hx hb (xK1 hK hw3 hw4) hP 0 0 rfl rfl hin hd (kk H locs ls hH hS hl hq)
theorem j_zald (g : jG X cc own Ts nL rm) {a n : Nat} {i : Int32} {f : Nat → Int32} (hd : decode cc pc = .ok (.baload, 1)) (ha : M a = some (.inl (11, n, .inl f))) (hin : vp_in i n) (kk : J X nL cells slots M vs (.int (f i.toNatClampNeg) :: st) (pc + 1)) : J X nL cells slots M vs (.int i :: .ref a :: st) pc := by
  obtain ⟨p, l, e, R, s, m, args, below, meth, c, D, M0, Q⟩ := X
  obtain ⟨hx, hb, hml, hown, hts, hKK, hlk, hR⟩ := g
  have hK := hKK.1
  intro H locs ls hH hS hl hq
  obtain ⟨w, hw, hP, hA⟩ := hH.at ha
  obtain ⟨cA, hw2, hw3, hw4⟩ := hw
  subst hw2
  exact va_zald hx hb (xK1 hK hw3 hw4) hP 0 0 rfl rfl hin hd (kk H locs ls hH hS hl hq)
theorem j_lald (g : jG X cc own Ts nL rm) {a n : Nat} {i : Int32} {f : Nat → Int64} (hd : decode cc pc = .ok (.laload, 1)) (ha : M a = some (.inl (12, n, .inr (.inl f)))) (hin : vp_in i n) (kk : J X nL cells slots M vs (.long (f i.toNatClampNeg) :: st) (pc + 1)) : J X nL cells slots M vs (.int i :: .ref a :: st) pc := by
  obtain ⟨p, l, e, R, s, m, args, below, meth, c, D, M0, Q⟩ := X
  obtain ⟨hx, hb, hml, hown, hts, hKK, hlk, hR⟩ := g
  have hK := hKK.1
  intro H locs ls hH hS hl hq
  obtain ⟨w, hw, hP, hA⟩ := hH.at ha
  obtain ⟨cA, hw2, hw3, hw4⟩ := hw
  subst hw2
  exact va_lald hx hb (xK1 hK hw3 hw4) hP 0 0 rfl rfl hin hd (kk H locs ls hH hS hl hq)
theorem j_dald (g : jG X cc own Ts nL rm) {a n : Nat} {i : Int32} {f : Nat → UInt64} (hd : decode cc pc = .ok (.daload, 1)) (ha : M a = some (.inl (13, n, .inr (.inr (.inr (.inl f)))))) (hin : vp_in i n) (kk : J X nL cells slots M vs (.double (f i.toNatClampNeg) :: st) (pc + 1)) : J X nL cells slots M vs (.int i :: .ref a :: st) pc := by
  obtain ⟨p, l, e, R, s, m, args, below, meth, c, D, M0, Q⟩ := X
  obtain ⟨hx, hb, hml, hown, hts, hKK, hlk, hR⟩ := g
  have hK := hKK.1
  intro H locs ls hH hS hl hq
  obtain ⟨w, hw, hP, hA⟩ := hH.at ha
  obtain ⟨cA, hw2, hw3, hw4⟩ := hw
  subst hw2
  exact va_dald hx hb (xK1 hK hw3 hw4) hP 0 0 rfl rfl hin hd (kk H locs ls hH hS hl hq)
theorem j_aald (g : jG X cc own Ts nL rm) {a n tc : Nat} {C : String} {i : Int32} {f : Nat → Option Nat} (hd : decode cc pc = .ok (.aaload, 1)) (ha : M a = some (.inl (tc, n, .inr (.inr (.inr (.inr f)))))) (htc : xTy tc = .object C) (hin : vp_in i n) (kk : J X nL cells slots M vs (va_rf (f i.toNatClampNeg) :: st) (pc + 1)) : J X nL cells slots M vs (.int i :: .ref a :: st) pc := by
  obtain ⟨p, l, e, R, s, m, args, below, meth, c, D, M0, Q⟩ := X
  obtain ⟨hx, hb, hml, hown, hts, hKK, hlk, hR⟩ := g
  have hK := hKK.1
  intro H locs ls hH hS hl hq
  obtain ⟨w, hw, hP, hA⟩ := hH.at ha
  obtain ⟨cA, hw2, hw3, hw4⟩ := hw
  subst hw2
  have hw3 : ArrOfT s cA (.object C) := by rw [← htc]; exact hw3
  have hw4 : va_RA s cA (.object C) := by rw [← htc]; exact hw4
  exact va_aldq hx hb (xK1 hK hw3 hw4) hP 0 0 rfl rfl hin hd (kk H locs ls hH hS hl hq)
theorem j_alen (g : jG X cc own Ts nL rm) {a tc : Nat} {x : vp_A} (v : Int32) (hd : decode cc pc = .ok (.arraylength, 1)) (ha : M a = some (.inl (tc, x))) (hv : Int32.ofNat x.1 = v) (kk : J X nL cells slots M vs (.int v :: st) (pc + 1)) : J X nL cells slots M vs (.ref a :: st) pc := by
  obtain ⟨p, l, e, R, s, m, args, below, meth, c, D, M0, Q⟩ := X
  obtain ⟨hx, hb, hml, hown, hts, hKK, hlk, hR⟩ := g
  have hK := hKK.1
  intro H locs ls hH hS hl hq
  obtain ⟨w, hw, hP, hA⟩ := hH.at ha
  obtain ⟨cA, hw2, hw3, hw4⟩ := hw
  subst hw2
  exact va_alen hx hb (xK1 hK hw3 hw4) hP 0 0 rfl rfl hv hd (kk H locs ls hH hS hl hq)
theorem j_iast (g : jG X cc own Ts nL rm) {a n : Nat} {i : Int32} {f : Nat → Int32} {x : Int32} (hd : decode cc pc = .ok (.iastore, 1)) (ha : M a = some (.inl (10, n, .inl f))) (hin : vp_in i n) (kk : J X nL cells slots (xu M a (.inl (10, n, .inl (upd f i.toNatClampNeg x)))) vs st (pc + 1)) : J X nL cells slots M vs (.int x :: .int i :: .ref a :: st) pc := by
  obtain ⟨p, l, e, R, s, m, args, below, meth, c, D, M0, Q⟩ := X
  obtain ⟨hx, hb, hml, hown, hts, hKK, hlk, hR⟩ := g
  have hK := hKK.1
  intro H locs ls hH hS hl hq
  obtain ⟨L, f_, h1, h2, h3, h4⟩ := id hH
  have hm : a ∈ L := (h1 a).mpr (by rw [ha]; simp)
  obtain ⟨i0, hk0⟩ := va_pl_get (X := []) (f := f_) hm
  have hk0 : (va_pl L f_)[i0]? = some (a, f_ a) := hk0
  obtain ⟨cA, hfa, hw3, hw4⟩ := h2 a _ ha
  refine va_iast hx hb (xK1 hK hw3 hw4) h3 h4 hS i0 0 (hk0.trans (by rw [hfa])) rfl hin hd (fun H1 locs1 hP1 hD1 hS1 => ?_)
  exact kk H1 locs1 ls (xH.chg h1 h2 hm hk0 h4 ⟨cA, rfl, hw3, hw4⟩ hP1 hD1) hS1 hl hq
theorem j_last (g : jG X cc own Ts nL rm) {a n : Nat} {i : Int32} {f : Nat → Int64} {x : Int64} (hd : decode cc pc = .ok (.lastore, 1)) (ha : M a = some (.inl (12, n, .inr (.inl f)))) (hin : vp_in i n) (kk : J X nL cells slots (xu M a (.inl (12, n, .inr (.inl (vp_updL f i.toNatClampNeg x))))) vs st (pc + 1)) : J X nL cells slots M vs (.long x :: .int i :: .ref a :: st) pc := by
  obtain ⟨p, l, e, R, s, m, args, below, meth, c, D, M0, Q⟩ := X
  obtain ⟨hx, hb, hml, hown, hts, hKK, hlk, hR⟩ := g
  have hK := hKK.1
  intro H locs ls hH hS hl hq
  obtain ⟨L, f_, h1, h2, h3, h4⟩ := id hH
  have hm : a ∈ L := (h1 a).mpr (by rw [ha]; simp)
  obtain ⟨i0, hk0⟩ := va_pl_get (X := []) (f := f_) hm
  have hk0 : (va_pl L f_)[i0]? = some (a, f_ a) := hk0
  obtain ⟨cA, hfa, hw3, hw4⟩ := h2 a _ ha
  refine va_last hx hb (xK1 hK hw3 hw4) h3 h4 hS i0 0 (hk0.trans (by rw [hfa])) rfl hin hd (fun H1 locs1 hP1 hD1 hS1 => ?_)
  exact kk H1 locs1 ls (xH.chg h1 h2 hm hk0 h4 ⟨cA, rfl, hw3, hw4⟩ hP1 hD1) hS1 hl hq
theorem j_dast (g : jG X cc own Ts nL rm) {a n : Nat} {i : Int32} {f : Nat → UInt64} {x : UInt64} (hd : decode cc pc = .ok (.dastore, 1)) (ha : M a = some (.inl (13, n, .inr (.inr (.inr (.inl f)))))) (hin : vp_in i n) (kk : J X nL cells slots (xu M a (.inl (13, n, .inr (.inr (.inr (.inl (vf_upd f i.toNatClampNeg x))))))) vs st (pc + 1)) : J X nL cells slots M vs (.double x :: .int i :: .ref a :: st) pc := by
  obtain ⟨p, l, e, R, s, m, args, below, meth, c, D, M0, Q⟩ := X
  obtain ⟨hx, hb, hml, hown, hts, hKK, hlk, hR⟩ := g
  have hK := hKK.1
  intro H locs ls hH hS hl hq
  obtain ⟨L, f_, h1, h2, h3, h4⟩ := id hH
  have hm : a ∈ L := (h1 a).mpr (by rw [ha]; simp)
  obtain ⟨i0, hk0⟩ := va_pl_get (X := []) (f := f_) hm
  have hk0 : (va_pl L f_)[i0]? = some (a, f_ a) := hk0
  obtain ⟨cA, hfa, hw3, hw4⟩ := h2 a _ ha
  refine va_dast hx hb (xK1 hK hw3 hw4) h3 h4 hS i0 0 (hk0.trans (by rw [hfa])) rfl hin hd (fun H1 locs1 hP1 hD1 hS1 => ?_)
  exact kk H1 locs1 ls (xH.chg h1 h2 hm hk0 h4 ⟨cA, rfl, hw3, hw4⟩ hP1 hD1) hS1 hl hq
theorem j_zast (g : jG X cc own Ts nL rm) {a n : Nat} {i : Int32} {f : Nat → Int32} {x : Int32} (hd : decode cc pc = .ok (.bastore, 1)) (ha : M a = some (.inl (11, n, .inl f))) (hin : vp_in i n) (kk : J X nL cells slots (xu M a (.inl (11, n, .inl (upd f i.toNatClampNeg (vp_nar .boolean x))))) vs st (pc + 1)) : J X nL cells slots M vs (.int x :: .int i :: .ref a :: st) pc := by
  obtain ⟨p, l, e, R, s, m, args, below, meth, c, D, M0, Q⟩ := X
  obtain ⟨hx, hb, hml, hown, hts, hKK, hlk, hR⟩ := g
  have hK := hKK.1
  intro H locs ls hH hS hl hq
  obtain ⟨L, f_, h1, h2, h3, h4⟩ := id hH
  have hm : a ∈ L := (h1 a).mpr (by rw [ha]; simp)
  obtain ⟨i0, hk0⟩ := va_pl_get (X := []) (f := f_) hm
  have hk0 : (va_pl L f_)[i0]? = some (a, f_ a) := hk0
  obtain ⟨cA, hfa, hw3, hw4⟩ := h2 a _ ha
  refine va_zast hx hb (xK1 hK hw3 hw4) h3 h4 hS i0 0 (hk0.trans (by rw [hfa])) rfl hin hd (fun H1 locs1 hP1 hD1 hS1 => ?_)
  exact kk H1 locs1 ls (xH.chg h1 h2 hm hk0 h4 ⟨cA, rfl, hw3, hw4⟩ hP1 hD1) hS1 hl hq
theorem j_aast (g : jG X cc own Ts nL rm) {a n tc ci v N : Nat} {C : String} {T : u_T} {vs0 : List Value} {i : Int32} {f : Nat → Option Nat} (hd : decode cc pc = .ok (.aastore, 1)) (ha : M a = some (.inl (tc, n, .inr (.inr (.inr (.inr f)))))) (hv : M v = some (.inr (ci, vs0))) (hc : vwCl[ci]? = some (C, T, N)) (htc : xTy tc = .object C) (hin : vp_in i n) (kk : J X nL cells slots (xu M a (.inl (tc, n, .inr (.inr (.inr (.inr (va_up f i.toNatClampNeg (some v)))))))) vs st (pc + 1)) : J X nL cells slots M vs (.ref v :: .int i :: .ref a :: st) pc := by
  obtain ⟨p, l, e, R, s, m, args, below, meth, c, D, M0, Q⟩ := X
  obtain ⟨hx, hb, hml, hown, hts, hKK, hlk, hR⟩ := g
  have hK := hKK.1
  intro H locs ls hH hS hl hq
  obtain ⟨L, f_, h1, h2, h3, h4⟩ := id hH
  have hm : a ∈ L := (h1 a).mpr (by rw [ha]; simp)
  obtain ⟨i0, hk0⟩ := va_pl_get (X := []) (f := f_) hm
  have hk0 : (va_pl L f_)[i0]? = some (a, f_ a) := hk0
  obtain ⟨cA, hfa, hw3, hw4⟩ := h2 a _ ha
  have hw3' : ArrOfT s cA (.object C) := by rw [← htc]; exact hw3
  have hw4' : va_RA s cA (.object C) := by rw [← htc]; exact hw4
  have hm2 : v ∈ L := (h1 v).mpr (by rw [hv]; simp)
  obtain ⟨i1, hk1⟩ := va_pl_get (X := []) (f := f_) hm2
  have hk1 : (va_pl L f_)[i1]? = some (v, f_ v) := hk1
  have hfv : f_ v = .inr (ci, vs0) := h2 v _ hv
  refine va_astq hx hb (xK1 hK hw3' hw4') h3 h4 hS i0 0 i1 ci (r := (C, T, N)) (hk0.trans (by rw [hfa])) rfl (hk1.trans (by rw [hfv])) hc hin hd (fun H1 locs1 hP1 hD1 hS1 => ?_)
  exact kk H1 locs1 ls (xH.chg h1 h2 hm hk0 h4 ⟨cA, rfl, hw3, hw4⟩ hP1 hD1) hS1 hl hq
theorem j_aastN (g : jG X cc own Ts nL rm) {a n tc : Nat} {C : String} {i : Int32} {f : Nat → Option Nat} (hd : decode cc pc = .ok (.aastore, 1)) (ha : M a = some (.inl (tc, n, .inr (.inr (.inr (.inr f)))))) (htc : xTy tc = .object C) (hin : vp_in i n) (kk : J X nL cells slots (xu M a (.inl (tc, n, .inr (.inr (.inr (.inr (va_up f i.toNatClampNeg none))))))) vs st (pc + 1)) : J X nL cells slots M vs (.null :: .int i :: .ref a :: st) pc := by
  obtain ⟨p, l, e, R, s, m, args, below, meth, c, D, M0, Q⟩ := X
  obtain ⟨hx, hb, hml, hown, hts, hKK, hlk, hR⟩ := g
  have hK := hKK.1
  intro H locs ls hH hS hl hq
  obtain ⟨L, f_, h1, h2, h3, h4⟩ := id hH
  have hm : a ∈ L := (h1 a).mpr (by rw [ha]; simp)
  obtain ⟨i0, hk0⟩ := va_pl_get (X := []) (f := f_) hm
  have hk0 : (va_pl L f_)[i0]? = some (a, f_ a) := hk0
  obtain ⟨cA, hfa, hw3, hw4⟩ := h2 a _ ha
  have hw3' : ArrOfT s cA (.object C) := by rw [← htc]; exact hw3
  have hw4' : va_RA s cA (.object C) := by rw [← htc]; exact hw4
  refine va_astqN hx hb (xK1 hK hw3' hw4') h3 h4 hS i0 0 (hk0.trans (by rw [hfa])) rfl hin hd (fun H1 locs1 hP1 hD1 hS1 => ?_)
  exact kk H1 locs1 ls (xH.chg h1 h2 hm hk0 h4 ⟨cA, rfl, hw3, hw4⟩ hP1 hD1) hS1 hl hq
theorem j_new (g : jG X cc own Ts nL rm) {idx ci N : Nat} {C : String} {T : u_T} (fs : List Value) (hd : decode cc pc = .ok (.new idx, 3)) (hin : ∀ w ∈ u_ws C T N, w ∈ Ts) (tyf : Nat → FieldType) (htyf : ∀ k, k < N → parseFieldDescriptor (T k).2.2.1 = some (tyf k)) (hcl : Cond.classLink own idx C ∈ Ts) (hins : Cond.instantiable C N ∈ Ts) (hini : Cond.initialized C ∈ Ts) (hc : vwCl[ci]? = some (C, T, N)) (hfs : ∀ j, j < N → defaultValue (tyf j) = vp_V fs j) (hcells : cells + 1 ≤ rm.cells) (hslots : slots + N ≤ rm.slots) (kk : ∀ q : Nat, M q = none → J X nL (cells + 1) (slots + N) (xu M q (.inr (ci, fs))) vs (.ref q :: st) (pc + 3)) : J X nL cells slots M vs st pc := by
  obtain ⟨p, l, e, R, s, m, args, below, meth, c, D, M0, Q⟩ := X
  obtain ⟨hx, hb, hml, hown, hts, hKK, hlk, hR⟩ := g
  have hK := hKK.1
  intro H locs ls hH hS hl hq
  have hA0 : ∀ q, s.heap.size ≤ q → xA M0 s.heap.size q := fun q h => Or.inr h
  obtain ⟨L, f_, h1, h2, h3, h4⟩ := id hH
  refine va_new hx hb hts hin tyf htyf hown (hts _ hcl) (hts _ hins) (hts _ hini) hK h3 h4 hS hA0 hc hfs (by rw [hR]; exact hcells) (by rw [hR]; exact hslots) hd (fun q H1 hP1 hD1 hS1 => ?_)
  obtain ⟨hn, hH1⟩ := xH.more (e := .inr (ci, fs)) h1 h2 (by exact rfl) hP1 hD1
  exact kk q hn H1 locs ls hH1 hS1 hl hq
theorem j_newaI (g : jG X cc own Ts nL rm) {n : Int32} (N : Nat) (hd : decode cc pc = .ok (.newarray .int, 2)) (hw : Cond.arrayClass .int ∈ Ts) (hn : ¬ n < 0) (hN : n.toNatClampNeg = N) (hby : N ≤ 4096) (hcells : cells + 1 ≤ rm.cells) (hslots : slots + N ≤ rm.slots) (kk : ∀ q : Nat, M q = none → J X nL (cells + 1) (slots + N) (xu M q (.inl (10, N, .inl (fun _ => 0)))) vs (.ref q :: st) (pc + 2)) : J X nL cells slots M vs (.int n :: st) pc := by
  obtain ⟨p, l, e, R, s, m, args, below, meth, c, D, M0, Q⟩ := X
  obtain ⟨hx, hb, hml, hown, hts, hKK, hlk, hR⟩ := g
  have hK := hKK.1
  intro H locs ls hH hS hl hq
  have hA0 : ∀ q, s.heap.size ≤ q → xA M0 s.heap.size q := fun q h => Or.inr h
  obtain ⟨L, f_, h1, h2, h3, h4⟩ := id hH
  refine va_newa (atype := .int) hx hb (hts _ hw) (ty := .int) rfl hK h3 h4 hS hA0 (a0 := (N, .inl (fun _ => 0))) (fun _ => rfl) hn hN (by simp only [componentBytes]; omega) (by rw [hR]; exact hcells) (by rw [hR]; exact hslots) hd (fun q cA H1 hK1 hP1 hD1 hS1 => ?_)
  have hA1 := hK1.2 0 (cA, .int) rfl
  obtain ⟨hn, hH1⟩ := xH.more (e := .inl (10, N, .inl (fun _ => 0))) h1 h2 ⟨cA, rfl, hA1.1, hA1.2⟩ hP1 hD1
  exact kk q hn H1 locs ls hH1 hS1 hl hq
theorem j_newaZ (g : jG X cc own Ts nL rm) {n : Int32} (N : Nat) (hd : decode cc pc = .ok (.newarray .boolean, 2)) (hw : Cond.arrayClass .boolean ∈ Ts) (hn : ¬ n < 0) (hN : n.toNatClampNeg = N) (hby : N ≤ 4096) (hcells : cells + 1 ≤ rm.cells) (hslots : slots + N ≤ rm.slots) (kk : ∀ q : Nat, M q = none → J X nL (cells + 1) (slots + N) (xu M q (.inl (11, N, .inl (fun _ => 0)))) vs (.ref q :: st) (pc + 2)) : J X nL cells slots M vs (.int n :: st) pc := by
  obtain ⟨p, l, e, R, s, m, args, below, meth, c, D, M0, Q⟩ := X
  obtain ⟨hx, hb, hml, hown, hts, hKK, hlk, hR⟩ := g
  have hK := hKK.1
  intro H locs ls hH hS hl hq
  have hA0 : ∀ q, s.heap.size ≤ q → xA M0 s.heap.size q := fun q h => Or.inr h
  obtain ⟨L, f_, h1, h2, h3, h4⟩ := id hH
  refine va_newa (atype := .boolean) hx hb (hts _ hw) (ty := .boolean) rfl hK h3 h4 hS hA0 (a0 := (N, .inl (fun _ => 0))) (fun _ => rfl) hn hN (by simp only [componentBytes]; omega) (by rw [hR]; exact hcells) (by rw [hR]; exact hslots) hd (fun q cA H1 hK1 hP1 hD1 hS1 => ?_)
  have hA1 := hK1.2 0 (cA, .boolean) rfl
  obtain ⟨hn, hH1⟩ := xH.more (e := .inl (11, N, .inl (fun _ => 0))) h1 h2 ⟨cA, rfl, hA1.1, hA1.2⟩ hP1 hD1
  exact kk q hn H1 locs ls hH1 hS1 hl hq
theorem j_newaJ (g : jG X cc own Ts nL rm) {n : Int32} (N : Nat) (hd : decode cc pc = .ok (.newarray .long, 2)) (hw : Cond.arrayClass .long ∈ Ts) (hn : ¬ n < 0) (hN : n.toNatClampNeg = N) (hby : N ≤ 4096) (hcells : cells + 1 ≤ rm.cells) (hslots : slots + N ≤ rm.slots) (kk : ∀ q : Nat, M q = none → J X nL (cells + 1) (slots + N) (xu M q (.inl (12, N, .inr (.inl (fun _ => 0))))) vs (.ref q :: st) (pc + 2)) : J X nL cells slots M vs (.int n :: st) pc := by
  obtain ⟨p, l, e, R, s, m, args, below, meth, c, D, M0, Q⟩ := X
  obtain ⟨hx, hb, hml, hown, hts, hKK, hlk, hR⟩ := g
  have hK := hKK.1
  intro H locs ls hH hS hl hq
  have hA0 : ∀ q, s.heap.size ≤ q → xA M0 s.heap.size q := fun q h => Or.inr h
  obtain ⟨L, f_, h1, h2, h3, h4⟩ := id hH
  refine va_newa (atype := .long) hx hb (hts _ hw) (ty := .long) rfl hK h3 h4 hS hA0 (a0 := (N, .inr (.inl (fun _ => 0)))) (fun _ => rfl) hn hN (by simp only [componentBytes]; omega) (by rw [hR]; exact hcells) (by rw [hR]; exact hslots) hd (fun q cA H1 hK1 hP1 hD1 hS1 => ?_)
  have hA1 := hK1.2 0 (cA, .long) rfl
  obtain ⟨hn, hH1⟩ := xH.more (e := .inl (12, N, .inr (.inl (fun _ => 0)))) h1 h2 ⟨cA, rfl, hA1.1, hA1.2⟩ hP1 hD1
  exact kk q hn H1 locs ls hH1 hS1 hl hq
theorem j_newaD (g : jG X cc own Ts nL rm) {n : Int32} (N : Nat) (hd : decode cc pc = .ok (.newarray .double, 2)) (hw : Cond.arrayClass .double ∈ Ts) (hn : ¬ n < 0) (hN : n.toNatClampNeg = N) (hby : N ≤ 4096) (hcells : cells + 1 ≤ rm.cells) (hslots : slots + N ≤ rm.slots) (kk : ∀ q : Nat, M q = none → J X nL (cells + 1) (slots + N) (xu M q (.inl (13, N, .inr (.inr (.inr (.inl (fun _ => 0))))))) vs (.ref q :: st) (pc + 2)) : J X nL cells slots M vs (.int n :: st) pc := by
  obtain ⟨p, l, e, R, s, m, args, below, meth, c, D, M0, Q⟩ := X
  obtain ⟨hx, hb, hml, hown, hts, hKK, hlk, hR⟩ := g
  have hK := hKK.1
  intro H locs ls hH hS hl hq
  have hA0 : ∀ q, s.heap.size ≤ q → xA M0 s.heap.size q := fun q h => Or.inr h
  obtain ⟨L, f_, h1, h2, h3, h4⟩ := id hH
  refine va_newa (atype := .double) hx hb (hts _ hw) (ty := .double) rfl hK h3 h4 hS hA0 (a0 := (N, .inr (.inr (.inr (.inl (fun _ => 0)))))) (fun _ => rfl) hn hN (by simp only [componentBytes]; omega) (by rw [hR]; exact hcells) (by rw [hR]; exact hslots) hd (fun q cA H1 hK1 hP1 hD1 hS1 => ?_)
  have hA1 := hK1.2 0 (cA, .double) rfl
  obtain ⟨hn, hH1⟩ := xH.more (e := .inl (13, N, .inr (.inr (.inr (.inl (fun _ => 0)))))) h1 h2 ⟨cA, rfl, hA1.1, hA1.2⟩ hP1 hD1
  exact kk q hn H1 locs ls hH1 hS1 hl hq
theorem j_newq (g : jG X cc own Ts nL rm) {n : Int32} {idx tc : Nat} {C : String} (N : Nat) (hd : decode cc pc = .ok (.anewarray idx, 3)) (hcl : Cond.classLink own idx C ∈ Ts) (htc8 : tc < 8) (htc : xTy tc = .object C) (hn : ¬ n < 0) (hN : n.toNatClampNeg = N) (hby : N ≤ 4096) (hcells : cells + 1 ≤ rm.cells) (hslots : slots + N ≤ rm.slots) (kk : ∀ q : Nat, M q = none → J X nL (cells + 1) (slots + N) (xu M q (.inl (tc, N, .inr (.inr (.inr (.inr (fun _ => none))))))) vs (.ref q :: st) (pc + 3)) : J X nL cells slots M vs (.int n :: st) pc := by
  obtain ⟨p, l, e, R, s, m, args, below, meth, c, D, M0, Q⟩ := X
  obtain ⟨hx, hb, hml, hown, hts, hKK, hlk, hR⟩ := g
  have hK := hKK.1
  intro H locs ls hH hS hl hq
  have hA0 : ∀ q, s.heap.size ≤ q → xA M0 s.heap.size q := fun q h => Or.inr h
  obtain ⟨L, f_, h1, h2, h3, h4⟩ := id hH
  refine va_newq hx hb hown (hts _ hcl) (hKK.2 tc C htc8 htc) hK h3 h4 hS hA0 hn hN (by omega) (by rw [hR]; exact hcells) (by rw [hR]; exact hslots) hd (fun q cA H1 hK1 hP1 hD1 hS1 => ?_)
  have hA1 := hK1.2 0 (cA, .object C) rfl
  rw [← htc] at hA1
  obtain ⟨hn, hH1⟩ := xH.more (e := .inl (tc, N, .inr (.inr (.inr (.inr (fun _ => none)))))) h1 h2 ⟨cA, rfl, hA1.1, hA1.2⟩ hP1 hD1
  exact kk q hn H1 locs ls hH1 hS1 hl hq
theorem j_objInit (g : jG X cc own Ts nL rm) {idx a : Nat} (hd : decode cc pc = .ok (.invokespecial idx, 3)) (h1 : Cond.methodLink own idx Lib.objectInit ∈ Ts) (h2 : Cond.instanceMethod Lib.objectInit ∈ Ts) (h3 : Cond.code Lib.objectInit ⟨#[0xb1]⟩ 1 none ∈ Ts) (hfr : 1 ≤ rm.frames) (hlo : (st.map fun v => v.category).sum + 12 ≤ rm.locals) (k : J X nL cells slots M vs st (pc + 3)) : J X nL cells slots M vs (.ref a :: st) pc := by
  obtain ⟨p, l, e, R, s, m, args, below, meth, c, D, M0, Q⟩ := X
  obtain ⟨hx, hb, hml, hown, hts, hKK, hlk, hR⟩ := g
  have hK := hKK.1
  intro H locs ls hH hS hl hq
  refine W.objInit hx hb hown (hts _ h1) (hts _ h2) (hts _ h3) rfl (by rw [hml]; exact hl.1) rfl hd (by rw [hR]; exact hfr) (by rw [hR]; show 2 * 0 + _ + 12 ≤ _; omega) ?_
  exact k H locs ls hH hS hl hq
theorem j_mabs (g : jG X cc own Ts nL rm) {x : Int32} {idx : Nat} (hd : decode cc pc = .ok (.invokestatic idx, 3)) (h1 : Cond.methodLink own idx Lib.Math.abs.name ∈ Ts) (h2 : Cond.static Lib.Math.abs.name ∈ Ts) (h3 : Cond.initialized "java/lang/Math" ∈ Ts) (h4 : Cond.code Lib.Math.abs.name Lib.Math.abs.code 1 (some .int) ∈ Ts) (hfr : 1 ≤ rm.frames) (hlo : (st.map fun v => v.category).sum + 13 ≤ rm.locals) (hcells : cells ≤ rm.cells) (hslots : slots ≤ rm.slots) (k : J X nL cells slots M vs (.int (if 0 ≤ x then x else 0 - x) :: st) (pc + 3)) : J X nL cells slots M vs (.int x :: st) pc := by
  obtain ⟨p, l, e, R, s, m, args, below, meth, c, D, M0, Q⟩ := X
  obtain ⟨hx, hb, hml, hown, hts, hKK, hlk, hR⟩ := g
  have hK := hKK.1
  intro H locs ls hH hS hl hq
  exact va_mabs hx hb (by rw [hml]; exact hl.1.symm) hown (hts _ h1) (hts _ h2) (hts _ h3) (hts _ h4) (by rw [hR]; exact hfr) (by rw [hR]; exact hlo) (by rw [hR]; exact hcells) (by rw [hR]; exact hslots) hd (k H locs ls hH hS hl hq)
theorem j_mmax (g : jG X cc own Ts nL rm) {x y : Int32} {idx : Nat} (hd : decode cc pc = .ok (.invokestatic idx, 3)) (h1 : Cond.methodLink own idx Lib.Math.max.name ∈ Ts) (h2 : Cond.static Lib.Math.max.name ∈ Ts) (h3 : Cond.initialized "java/lang/Math" ∈ Ts) (h4 : Cond.code Lib.Math.max.name Lib.Math.max.code 2 (some .int) ∈ Ts) (hfr : 1 ≤ rm.frames) (hlo : (st.map fun v => v.category).sum + 13 ≤ rm.locals) (hcells : cells ≤ rm.cells) (hslots : slots ≤ rm.slots) (k : J X nL cells slots M vs (.int (if x < y then y else x) :: st) (pc + 3)) : J X nL cells slots M vs (.int y :: .int x :: st) pc := by
  obtain ⟨p, l, e, R, s, m, args, below, meth, c, D, M0, Q⟩ := X
  obtain ⟨hx, hb, hml, hown, hts, hKK, hlk, hR⟩ := g
  have hK := hKK.1
  intro H locs ls hH hS hl hq
  exact va_mmax hx hb (by rw [hml]; exact hl.1.symm) hown (hts _ h1) (hts _ h2) (hts _ h3) (hts _ h4) (by rw [hR]; exact hfr) (by rw [hR]; exact hlo) (by rw [hR]; exact hcells) (by rw [hR]; exact hslots) hd (k H locs ls hH hS hl hq)
theorem j_mmin (g : jG X cc own Ts nL rm) {x y : Int32} {idx : Nat} (hd : decode cc pc = .ok (.invokestatic idx, 3)) (h1 : Cond.methodLink own idx Lib.Math.min.name ∈ Ts) (h2 : Cond.static Lib.Math.min.name ∈ Ts) (h3 : Cond.initialized "java/lang/Math" ∈ Ts) (h4 : Cond.code Lib.Math.min.name Lib.Math.min.code 2 (some .int) ∈ Ts) (hfr : 1 ≤ rm.frames) (hlo : (st.map fun v => v.category).sum + 13 ≤ rm.locals) (hcells : cells ≤ rm.cells) (hslots : slots ≤ rm.slots) (k : J X nL cells slots M vs (.int (if y < x then y else x) :: st) (pc + 3)) : J X nL cells slots M vs (.int y :: .int x :: st) pc := by
  obtain ⟨p, l, e, R, s, m, args, below, meth, c, D, M0, Q⟩ := X
  obtain ⟨hx, hb, hml, hown, hts, hKK, hlk, hR⟩ := g
  have hK := hKK.1
  intro H locs ls hH hS hl hq
  exact va_mmin hx hb (by rw [hml]; exact hl.1.symm) hown (hts _ h1) (hts _ h2) (hts _ h3) (hts _ h4) (by rw [hR]; exact hfr) (by rw [hR]; exact hlo) (by rw [hR]; exact hcells) (by rw [hR]; exact hslots) hd (k H locs ls hH hS hl hq)
theorem j_astoreV (g : jG X cc own Ts nL rm) {i : Nat} {v : Value} (hv : v = .null ∨ ∃ a, v = .ref a) (hd : decode cc pc = .ok (.astore i, 2)) (hi : i < vs.length) (k : J X nL cells slots M (lvp vs i v) st (pc + 2)) : J X nL cells slots M vs (v :: st) pc := by
  obtain ⟨p, l, e, R, s, m, args, below, meth, c, D, M0, Q⟩ := X
  obtain ⟨hx, hb, hml, hown, hts, hKK, hlk, hR⟩ := g
  have hK := hKK.1
  intro H locs ls hH hS hl hq
  rcases hv with rfl | ⟨a, rfl⟩
  · exact lv_astoreN hx hb hd hl (by rw [← hq.1]; exact hi) rfl (fun ls2 hl2 => k H locs ls2 hH hS (lvl_keep hq.2 hi hl2) ⟨(lvp_len _ _ _).trans hq.1, lv1_p hq.2 rfl⟩)
  · exact lv_astore hx hb hd hl (by rw [← hq.1]; exact hi) rfl (fun ls2 hl2 => k H locs ls2 hH hS (lvl_keep hq.2 hi hl2) ⟨(lvp_len _ _ _).trans hq.1, lv1_p hq.2 rfl⟩)
theorem j_astoreV_n (g : jG X cc own Ts nL rm) {n : Fin 4} {v : Value} (i : Nat) (hv : v = .null ∨ ∃ a, v = .ref a) (hd : decode cc pc = .ok (.astore_n n, 1)) (hni : (n : Nat) = i) (hi : i < vs.length) (k : J X nL cells slots M (lvp vs i v) st (pc + 1)) : J X nL cells slots M vs (v :: st) pc := by
  obtain ⟨p, l, e, R, s, m, args, below, meth, c, D, M0, Q⟩ := X
  obtain ⟨hx, hb, hml, hown, hts, hKK, hlk, hR⟩ := g
  have hK := hKK.1
  intro H locs ls hH hS hl hq
  rcases hv with rfl | ⟨a, rfl⟩
  · exact lv_astore_nN hx hb hd hni hl (by rw [← hq.1]; exact hi) rfl (fun ls2 hl2 => k H locs ls2 hH hS (lvl_keep hq.2 hi hl2) ⟨(lvp_len _ _ _).trans hq.1, lv1_p hq.2 rfl⟩)
  · exact lv_astore_n hx hb hd hni hl (by rw [← hq.1]; exact hi) rfl (fun ls2 hl2 => k H locs ls2 hH hS (lvl_keep hq.2 hi hl2) ⟨(lvp_len _ _ _).trans hq.1, lv1_p hq.2 rfl⟩)
theorem j_iret (g : jG X cc own Ts nL rm) {ret : Option FieldType} {Post : Option Value → MH → Prop} {mc ms : Nat} (r : jR X ret Post mc ms) {v : Int32} {ty : FieldType} (hret : ret = some ty) (hn : narrow ty (.int v) = .int v) (hp : Post (some (.int v)) M) (hd : decode cc pc = .ok (.ireturn, 1)) (hc : cells ≤ mc) (hs : slots ≤ ms)  : J X nL cells slots M vs [.int v] pc := by
  obtain ⟨p, l, e, R, s, m, args, below, meth, c, D, M0, Q⟩ := X
  obtain ⟨hx, hb, hml, hown, hts, hKK, hlk, hR⟩ := g
  have hK := hKK.1
  intro H locs ls hH hS hl hq
  refine r.2 _ _ _ _ _ (W.widen hc hs ?_)
  exact W.zret hx hb (r.1.trans hret) hn (fun t ht hW => ⟨⟨_, M, rfl, hp, by rw [ht]; exact hH.moved hW.alike, hKK.moved hW.alike⟩, hS.F ht⟩) hS.2.2 hd hlk
theorem j_fret (g : jG X cc own Ts nL rm) {ret : Option FieldType} {Post : Option Value → MH → Prop} {mc ms : Nat} (r : jR X ret Post mc ms) {v : UInt32} (hret : ret = some .float) (hp : Post (some (.float v)) M) (hd : decode cc pc = .ok (.freturn, 1)) (hc : cells ≤ mc) (hs : slots ≤ ms)  : J X nL cells slots M vs [.float v] pc := by
  obtain ⟨p, l, e, R, s, m, args, below, meth, c, D, M0, Q⟩ := X
  obtain ⟨hx, hb, hml, hown, hts, hKK, hlk, hR⟩ := g
  have hK := hKK.1
  intro H locs ls hH hS hl hq
  refine r.2 _ _ _ _ _ (W.widen hc hs ?_)
  exact W.fret hx hb (r.1.trans hret) (fun t ht hW => ⟨⟨_, M, rfl, hp, by rw [ht]; exact hH.moved hW.alike, hKK.moved hW.alike⟩, hS.F ht⟩) hS.2.2 hd hlk
theorem j_vret (g : jG X cc own Ts nL rm) {ret : Option FieldType} {Post : Option Value → MH → Prop} {mc ms : Nat} (r : jR X ret Post mc ms) (hret : ret = none) (hp : Post none M) (hd : decode cc pc = .ok (.return_, 1)) (hc : cells ≤ mc) (hs : slots ≤ ms)  : J X nL cells slots M vs [] pc := by
  obtain ⟨p, l, e, R, s, m, args, below, meth, c, D, M0, Q⟩ := X
  obtain ⟨hx, hb, hml, hown, hts, hKK, hlk, hR⟩ := g
  have hK := hKK.1
  intro H locs ls hH hS hl hq
  refine r.2 _ _ _ _ _ (W.widen hc hs ?_)
  exact W.vret hx hb (r.1.trans hret) (fun t ht hW => ⟨⟨_, M, rfl, hp, by rw [ht]; exact hH.moved hW.alike, hKK.moved hW.alike⟩, hS.F ht⟩) hS.2.2 hd hlk
theorem j_aret (g : jG X cc own Ts nL rm) {ret : Option FieldType} {Post : Option Value → MH → Prop} {mc ms : Nat} (r : jR X ret Post mc ms) {v : Nat} {n : String} (hret : ret = some (.object n)) (hp : Post (some (.ref v)) M) (hd : decode cc pc = .ok (.areturn, 1)) (hc : cells ≤ mc) (hs : slots ≤ ms)  : J X nL cells slots M vs [.ref v] pc := by
  obtain ⟨p, l, e, R, s, m, args, below, meth, c, D, M0, Q⟩ := X
  obtain ⟨hx, hb, hml, hown, hts, hKK, hlk, hR⟩ := g
  have hK := hKK.1
  intro H locs ls hH hS hl hq
  refine r.2 _ _ _ _ _ (W.widen hc hs ?_)
  exact W.aret hx hb (r.1.trans hret) (Or.inl ⟨_, rfl⟩) (Or.inr ⟨_, rfl⟩) (fun t ht hW => ⟨⟨_, M, rfl, hp, by rw [ht]; exact hH.moved hW.alike, hKK.moved hW.alike⟩, hS.F ht⟩) hS.2.2 hd hlk
theorem j_aretN (g : jG X cc own Ts nL rm) {ret : Option FieldType} {Post : Option Value → MH → Prop} {mc ms : Nat} (r : jR X ret Post mc ms) {n : String} (hret : ret = some (.object n)) (hp : Post (some .null) M) (hd : decode cc pc = .ok (.areturn, 1)) (hc : cells ≤ mc) (hs : slots ≤ ms)  : J X nL cells slots M vs [.null] pc := by
  obtain ⟨p, l, e, R, s, m, args, below, meth, c, D, M0, Q⟩ := X
  obtain ⟨hx, hb, hml, hown, hts, hKK, hlk, hR⟩ := g
  have hK := hKK.1
  intro H locs ls hH hS hl hq
  refine r.2 _ _ _ _ _ (W.widen hc hs ?_)
  exact W.aret hx hb (r.1.trans hret) (Or.inl ⟨_, rfl⟩) (Or.inl rfl) (fun t ht hW => ⟨⟨_, M, rfl, hp, by rw [ht]; exact hH.moved hW.alike, hKK.moved hW.alike⟩, hS.F ht⟩) hS.2.2 hd hlk
theorem j_aretV (g : jG X cc own Ts nL rm) {ret : Option FieldType} {Post : Option Value → MH → Prop} {mc ms : Nat} (r : jR X ret Post mc ms) {v : Value} {n : String} (hret : ret = some (.object n)) (hv : v = .null ∨ ∃ a, v = .ref a) (hp : Post (some v) M) (hd : decode cc pc = .ok (.areturn, 1)) (hc : cells ≤ mc) (hs : slots ≤ ms)  : J X nL cells slots M vs [v] pc := by
  obtain ⟨p, l, e, R, s, m, args, below, meth, c, D, M0, Q⟩ := X
  obtain ⟨hx, hb, hml, hown, hts, hKK, hlk, hR⟩ := g
  have hK := hKK.1
  intro H locs ls hH hS hl hq
  refine r.2 _ _ _ _ _ (W.widen hc hs ?_)
  exact W.aret hx hb (r.1.trans hret) (Or.inl ⟨_, rfl⟩) hv (fun t ht hW => ⟨⟨_, M, rfl, hp, by rw [ht]; exact hH.moved hW.alike, hKK.moved hW.alike⟩, hS.F ht⟩) hS.2.2 hd hlk
theorem xP_blind {D : va_G} {As : List Value} {Mc : MH} {h0 : Nat} : FrameBlind (xP D As Mc h0) := by
  intro a U fr mk q
  obtain ⟨q0, q1, q2, q3⟩ := q
  exact ⟨q0, q1, xH.moved (u := U) (U := U.calling fr mk a) (Vm.Alike.refl U.vm) q2, xK.moved (u := U) (U := U.calling fr mk a) (Vm.Alike.refl U.vm) q3⟩
theorem xP_at {D : va_G} {As : List Value} {M Mc : MH} {A : Nat → Prop} {s U : State} {H : Heap} (hH : xH D A M s H) (hK : xK D s) (hc : ∀ a e, Mc a = some e → M a = some e) (hU : U.heap = H) (hW : s.WarmedH U.vm) : xP D As Mc H.size As.toArray U := by
  refine ⟨rfl, by rw [hU], ?_, hK.moved hW.alike⟩
  obtain ⟨L, f, h1, h2, h3, h4⟩ := hH
  refine ⟨L.filter (fun q => (Mc q).isSome), f, fun a => ?_, fun a e he => (h2 a e (hc a e he)).moved hW.alike, fun k q hk => ?_, ⟨pl_inj (List.Nodup.sublist List.filter_sublist (nd_pl h4)), fun _ _ _ => trivial⟩⟩
  · rw [List.mem_filter, h1 a]
    constructor
    · intro h hn
      rw [hn] at h
      exact absurd h.2 (by simp)
    · intro h
      cases hm : Mc a with
      | none => exact absurd hm h
      | some e => exact ⟨by rw [hc a e hm]; simp, by simp⟩
  · have hx2 : q ∈ va_pl (L.filter (fun q => (Mc q).isSome)) f := List.mem_of_getElem? hk
    obtain ⟨a, ha, rfl⟩ := List.mem_map.mp hx2
    obtain ⟨k2, hk2⟩ := va_pl_get (X := []) (f := f) (List.mem_filter.mp ha).1
    rw [hU]
    exact h3 k2 _ hk2
theorem x_back {p : Program} {l : Launch} {e : Env} {R : Room} {s : State} {m : MethodId} {args : Array Value} {below : List Frame} {meth : Method} {c : Code} {D : va_G} {A : Nat → Prop} {Mc M : MH} {Q : State → Prop} {H : Heap} {locs : List Loc} {mc ms : Nat} {ls : Array Slot} {st0 rest : List Value} {a : Array Value} {Post : Option Value → MH → Prop} (hr : va_Run p l e R s m args below meth c H locs cells slots mc ms (F0 m pc ls st0) rest (xQ D Mc H.size Post a) (xA Mc H.size)) (hH : xH D A M s H) (hc : ∀ a e, Mc a = some e → M a = some e) (hA : ∀ q, s.heap.size ≤ q → A q) (hS : va_S A s.heap H locs)
    (kk : ∀ (v : Option Value) (M1 : MH) (H1 : Heap) (locs1 : List Loc), Post v M1 → xH D (xA Mc H.size) M1 s H1 → (∀ q : Nat, q < H.size → ¬ xA Mc H.size q → H1[q]? = H[q]?) → (∀ q, xA Mc H.size q → A q) → va_S A s.heap H1 locs1 → W p l e R s m args below meth c H1 locs1 (cells + mc) (slots + ms) Q (F0 m (pc + 3) ls (v.toList ++ rest))) : W p l e R s m args below meth c H locs cells slots Q (F0 m pc ls st0) := by
  intro T hT X
  obtain ⟨v, st₀, t, T', L, h0, X', hL, e1, e2, ⟨⟨v2, M1, hv, hp, hb, hkk⟩, hz, hk⟩, st⟩ := hr T hT X
  have hv2 : v = v2 := by injection hv
  subst hv2
  rw [h0] at hz hk
  have hvm : s.vm.Alike t.vm := by rw [← e2]; exact X'.warmed.alike
  have hf : ∀ q, xA Mc H.size q → A q := by
    intro q z
    rcases z with z | z
    · cases hm : Mc q with
      | none => exact absurd hm z
      | some e9 => exact hH.inA (by rw [hc q e9 hm]; simp)
    · exact hA q (Nat.le_trans hS.1 z)
  have hb1 : xH D (xA Mc H.size) M1 s T'.heap := by
    rw [e1]
    exact hb.moved hvm.symm
  obtain ⟨t2, a1, b1⟩ := kk v M1 T'.heap (locs ++ L) hp hb1 (fun q h1 h2 => by rw [e1]; exact hk q h1 h2) hf
    ⟨Nat.le_trans hS.1 (by rw [e1]; exact hz), fun q h1 h2 => by rw [e1, hk q (Nat.lt_of_lt_of_le h1 hS.1) (fun z => h2 (hf q z))]; exact hS.2.1 q h1 h2, fun q hq => by
      rcases List.mem_append.mp hq with h | h
      · exact hS.2.2 q h
      · exact hf _ (hL q h)⟩ T' rfl X'
  exact ⟨t2, st t2 a1, b1⟩
theorem j_callV (g : jG X cc own Ts nL rm) {y : MethodName} {ws ws' : List Cond} {bytes : ByteArray} {maxL : Nat} {ret : Option FieldType} {rm1 : Room} {mc ms idx n : Nat} {As : List Value} {Post : Option Value → MH → Prop} {rest : List Value} {b ci N : Nat} {C : String} {T : u_T} {fs : List Value} (hbk : M b = some (.inr (ci, fs))) (hcl : vwCl[ci]? = some (C, T, N)) (hc : xC (jl X) (jD X) y ws rm1 mc ms (.ref b :: As) M Post) (hd : decode cc pc = .ok (.invokevirtual idx, 3)) (hG : GoodIn Ts (wsV own idx C y ws)) (hw : ws = Cond.code y bytes maxL ret :: ws') (hn : As.length = n) (hrc : rm1.cells = mc) (hrs : rm1.slots = ms) (hdd : y.cls = C ∧ y.cls ≠ "java/lang/invoke/MethodHandle" ∧ y.cls ≠ "java/lang/invoke/VarHandle" ∧ (parseMethodDescriptor y.desc).map (fun d => d.parameters.length) = some n) (hR1 : rm1.frames + 1 ≤ rm.frames ∧ 8 + (maxL + 11) + rm1.locals ≤ rm.locals) (hroom : cells + mc ≤ rm.cells ∧ slots + ms ≤ rm.slots) (hst : st = As.reverse ++ .ref b :: rest) (hcat : (rest.map fun v => v.category).sum ≤ 8) (kk : ∀ (v : Option Value) (M1 : MH), Post v M1 → J X nL (cells + mc) (slots + ms) M1 vs (v.toList ++ rest) (pc + 3)) : J X nL cells slots M vs st pc := by
  obtain ⟨p, l, e, R, s, m, args, below, meth, c, D, M0, Q⟩ := X
  obtain ⟨hx, hb, hml, hown, hts, hKK, hlk, hR⟩ := g
  have hK := hKK.1
  intro H locs ls hH hS hl hq
  subst hst
  have hA0 : ∀ q, s.heap.size ≤ q → xA M0 s.heap.size q := fun q h => Or.inr h
  refine x_back (va_runV (As := As) (rest := rest) ⟨hx, hb, hml, hown, hts⟩ (hc H.size) (cwV n hts hG hw hrc hrs hdd (by rw [hR]; exact hR1)) ⟨xP_blind, (by obtain ⟨w, hw9, hP9, -⟩ := hH.at hbk; have hw8 : w = .inr (ci, fs) := hw9; subst hw8; exact va_recv hK hP9 (q := (C, T, N)) hcl (q0 := 0) rfl), fun U hU hW => xP_at hH hKK (fun _ _ h => h) hU hW⟩ rfl hn hl.1 rfl (lv_room hcat) hd (by rw [hR]; exact hroom)) hH (fun _ _ h => h) hA0 hS (fun v M1 H1 locs1 hp hH1 hk hf hS1 => ?_)
  exact kk v M1 hp H1 locs1 ls (hH1.weaken hf) hS1 hl hq
theorem j_callS (g : jG X cc own Ts nL rm) {y : MethodName} {ws ws' : List Cond} {bytes : ByteArray} {maxL : Nat} {ret : Option FieldType} {rm1 : Room} {mc ms idx n : Nat} {As : List Value} {Post : Option Value → MH → Prop} {rest : List Value}  (hc : xC (jl X) (jD X) y ws rm1 mc ms As M Post) (hd : decode cc pc = .ok (.invokestatic idx, 3)) (hG : GoodIn Ts (va_wsS own idx y ws)) (hw : ws = Cond.code y bytes maxL ret :: ws') (hn : As.length = n) (hrc : rm1.cells = mc) (hrs : rm1.slots = ms) (hdd : y.cls ≠ "java/lang/invoke/MethodHandle" ∧ y.cls ≠ "java/lang/invoke/VarHandle" ∧ (parseMethodDescriptor y.desc).map (fun d => d.parameters.length) = some n) (hR1 : rm1.frames + 1 ≤ rm.frames ∧ 8 + (maxL + 11) + rm1.locals ≤ rm.locals) (hroom : cells + mc ≤ rm.cells ∧ slots + ms ≤ rm.slots) (hst : st = As.reverse ++ rest) (hcat : (rest.map fun v => v.category).sum ≤ 8) (kk : ∀ (v : Option Value) (M1 : MH), Post v M1 → J X nL (cells + mc) (slots + ms) M1 vs (v.toList ++ rest) (pc + 3)) : J X nL cells slots M vs st pc := by
  obtain ⟨p, l, e, R, s, m, args, below, meth, c, D, M0, Q⟩ := X
  obtain ⟨hx, hb, hml, hown, hts, hKK, hlk, hR⟩ := g
  have hK := hKK.1
  intro H locs ls hH hS hl hq
  subst hst
  have hA0 : ∀ q, s.heap.size ≤ q → xA M0 s.heap.size q := fun q h => Or.inr h
  refine x_back (va_runS (As := As) (rest := rest) ⟨hx, hb, hml, hown, hts⟩ (hc H.size) (va_cwS n hts hG hw hrc hrs hdd (by rw [hR]; exact hR1)) ⟨xP_blind, fun U hU hW => xP_at hH hKK (fun _ _ h => h) hU hW⟩ rfl hn hl.1 rfl (lv_room hcat) hd (by rw [hR]; exact hroom)) hH (fun _ _ h => h) hA0 hS (fun v M1 H1 locs1 hp hH1 hk hf hS1 => ?_)
  exact kk v M1 hp H1 locs1 ls (hH1.weaken hf) hS1 hl hq
theorem j_callI (g : jG X cc own Ts nL rm) {y : MethodName} {ws ws' : List Cond} {bytes : ByteArray} {maxL : Nat} {ret : Option FieldType} {rm1 : Room} {mc ms idx n : Nat} {As : List Value} {Post : Option Value → MH → Prop} {rest : List Value} {b : Nat} (hini : Cond.initialized y.cls ∈ Ts) (hmlk : Cond.methodLink own idx y ∈ Ts) (hinm : Cond.instanceMethod y ∈ Ts) (hy1 : y.name = "<init>") (hc : xC (jl X) (jD X) y ws rm1 mc ms (.ref b :: As) M Post) (hd : decode cc pc = .ok (.invokespecial idx, 3)) (hG : GoodIn Ts ws) (hw : ws = Cond.code y bytes maxL none :: ws') (hn : As.length = n) (hrc : rm1.cells = mc) (hrs : rm1.slots = ms) (hdd : y.cls ≠ "java/lang/invoke/MethodHandle" ∧ y.cls ≠ "java/lang/invoke/VarHandle" ∧ (parseMethodDescriptor y.desc).map (fun d => d.parameters.length) = some n) (hR1 : rm1.frames + 1 ≤ rm.frames ∧ 8 + (maxL + 11) + rm1.locals ≤ rm.locals) (hroom : cells + mc ≤ rm.cells ∧ slots + ms ≤ rm.slots) (hst : st = As.reverse ++ .ref b :: rest) (hcat : (rest.map fun v => v.category).sum ≤ 8) (kk : ∀ (v : Option Value) (M1 : MH), Post v M1 → J X nL (cells + mc) (slots + ms) M1 vs (v.toList ++ rest) (pc + 3)) : J X nL cells slots M vs st pc := by
  obtain ⟨p, l, e, R, s, m, args, below, meth, c, D, M0, Q⟩ := X
  obtain ⟨hx, hb, hml, hown, hts, hKK, hlk, hR⟩ := g
  have hK := hKK.1
  intro H locs ls hH hS hl hq
  subst hst
  have hA0 : ∀ q, s.heap.size ≤ q → xA M0 s.heap.size q := fun q h => Or.inr h
  refine x_back (va_runI (As := As) (rest := rest) ⟨hx, hb, hml, hown, hts⟩ (hc H.size) (cwI n hts hG hw hrc hrs (hts _ hini) (hts _ hmlk) (hts _ hinm) hy1 hdd (by rw [hR]; exact hR1)) ⟨xP_blind, fun U hU hW => xP_at hH hKK (fun _ _ h => h) hU hW⟩ rfl hn hl.1 rfl (lv_room hcat) hd (by rw [hR]; exact hroom)) hH (fun _ _ h => h) hA0 hS (fun v M1 H1 locs1 hp hH1 hk hf hS1 => ?_)
  exact kk v M1 hp H1 locs1 ls (hH1.weaken hf) hS1 hl hq
theorem j_callVF (g : jG X cc own Ts nL rm) {y : MethodName} {ws ws' : List Cond} {bytes : ByteArray} {maxL : Nat} {ret : Option FieldType} {rm1 : Room} {mc ms idx n : Nat} {As : List Value} {Post : Option Value → MH → Prop} {rest : List Value} {b ci N : Nat} {C : String} {T : u_T} {fs : List Value} (hbk : M b = some (.inr (ci, fs))) (hcl : vwCl[ci]? = some (C, T, N)) {Mc : MH} (hsub : ∀ a e, Mc a = some e → M a = some e) (hc : xC (jl X) (jD X) y ws rm1 mc ms (.ref b :: As) Mc Post) (hd : decode cc pc = .ok (.invokevirtual idx, 3)) (hG : GoodIn Ts (wsV own idx C y ws)) (hw : ws = Cond.code y bytes maxL ret :: ws') (hn : As.length = n) (hrc : rm1.cells = mc) (hrs : rm1.slots = ms) (hdd : y.cls = C ∧ y.cls ≠ "java/lang/invoke/MethodHandle" ∧ y.cls ≠ "java/lang/invoke/VarHandle" ∧ (parseMethodDescriptor y.desc).map (fun d => d.parameters.length) = some n) (hR1 : rm1.frames + 1 ≤ rm.frames ∧ 8 + (maxL + 11) + rm1.locals ≤ rm.locals) (hroom : cells + mc ≤ rm.cells ∧ slots + ms ≤ rm.slots) (hst : st = As.reverse ++ .ref b :: rest) (hcat : (rest.map fun v => v.category).sum ≤ 8) (kk : ∀ (v : Option Value) (M1 : MH), Post v M1 → J X nL (cells + mc) (slots + ms) (jn M Mc M1) vs (v.toList ++ rest) (pc + 3)) : J X nL cells slots M vs st pc := by
  obtain ⟨p, l, e, R, s, m, args, below, meth, c, D, M0, Q⟩ := X
  obtain ⟨hx, hb, hml, hown, hts, hKK, hlk, hR⟩ := g
  have hK := hKK.1
  intro H locs ls hH hS hl hq
  subst hst
  have hA0 : ∀ q, s.heap.size ≤ q → xA M0 s.heap.size q := fun q h => Or.inr h
  refine x_back (va_runV (As := As) (rest := rest) ⟨hx, hb, hml, hown, hts⟩ (hc H.size) (cwV n hts hG hw hrc hrs hdd (by rw [hR]; exact hR1)) ⟨xP_blind, (by obtain ⟨w, hw9, hP9, -⟩ := hH.at hbk; have hw8 : w = .inr (ci, fs) := hw9; subst hw8; exact va_recv hK hP9 (q := (C, T, N)) hcl (q0 := 0) rfl), fun U hU hW => xP_at hH hKK hsub hU hW⟩ rfl hn hl.1 rfl (lv_room hcat) hd (by rw [hR]; exact hroom)) hH hsub hA0 hS (fun v M1 H1 locs1 hp hH1 hk hf hS1 => ?_)
  exact kk v M1 hp H1 locs1 ls (hH.join hsub (fun q h => hA0 q (Nat.le_trans hS.1 h)) hk hH1) hS1 hl hq
theorem j_callSF (g : jG X cc own Ts nL rm) {y : MethodName} {ws ws' : List Cond} {bytes : ByteArray} {maxL : Nat} {ret : Option FieldType} {rm1 : Room} {mc ms idx n : Nat} {As : List Value} {Post : Option Value → MH → Prop} {rest : List Value}  {Mc : MH} (hsub : ∀ a e, Mc a = some e → M a = some e) (hc : xC (jl X) (jD X) y ws rm1 mc ms As Mc Post) (hd : decode cc pc = .ok (.invokestatic idx, 3)) (hG : GoodIn Ts (va_wsS own idx y ws)) (hw : ws = Cond.code y bytes maxL ret :: ws') (hn : As.length = n) (hrc : rm1.cells = mc) (hrs : rm1.slots = ms) (hdd : y.cls ≠ "java/lang/invoke/MethodHandle" ∧ y.cls ≠ "java/lang/invoke/VarHandle" ∧ (parseMethodDescriptor y.desc).map (fun d => d.parameters.length) = some n) (hR1 : rm1.frames + 1 ≤ rm.frames ∧ 8 + (maxL + 11) + rm1.locals ≤ rm.locals) (hroom : cells + mc ≤ rm.cells ∧ slots + ms ≤ rm.slots) (hst : st = As.reverse ++ rest) (hcat : (rest.map fun v => v.category).sum ≤ 8) (kk : ∀ (v : Option Value) (M1 : MH), Post v M1 → J X nL (cells + mc) (slots + ms) (jn M Mc M1) vs (v.toList ++ rest) (pc + 3)) : J X nL cells slots M vs st pc := by
  obtain ⟨p, l, e, R, s, m, args, below, meth, c, D, M0, Q⟩ := X
  obtain ⟨hx, hb, hml, hown, hts, hKK, hlk, hR⟩ := g
  have hK := hKK.1
  intro H locs ls hH hS hl hq
  subst hst
  have hA0 : ∀ q, s.heap.size ≤ q → xA M0 s.heap.size q := fun q h => Or.inr h
  refine x_back (va_runS (As := As) (rest := rest) ⟨hx, hb, hml, hown, hts⟩ (hc H.size) (va_cwS n hts hG hw hrc hrs hdd (by rw [hR]; exact hR1)) ⟨xP_blind, fun U hU hW => xP_at hH hKK hsub hU hW⟩ rfl hn hl.1 rfl (lv_room hcat) hd (by rw [hR]; exact hroom)) hH hsub hA0 hS (fun v M1 H1 locs1 hp hH1 hk hf hS1 => ?_)
  exact kk v M1 hp H1 locs1 ls (hH.join hsub (fun q h => hA0 q (Nat.le_trans hS.1 h)) hk hH1) hS1 hl hq
theorem j_callIF (g : jG X cc own Ts nL rm) {y : MethodName} {ws ws' : List Cond} {bytes : ByteArray} {maxL : Nat} {ret : Option FieldType} {rm1 : Room} {mc ms idx n : Nat} {As : List Value} {Post : Option Value → MH → Prop} {rest : List Value} {b : Nat} (hini : Cond.initialized y.cls ∈ Ts) (hmlk : Cond.methodLink own idx y ∈ Ts) (hinm : Cond.instanceMethod y ∈ Ts) (hy1 : y.name = "<init>") {Mc : MH} (hsub : ∀ a e, Mc a = some e → M a = some e) (hc : xC (jl X) (jD X) y ws rm1 mc ms (.ref b :: As) Mc Post) (hd : decode cc pc = .ok (.invokespecial idx, 3)) (hG : GoodIn Ts ws) (hw : ws = Cond.code y bytes maxL none :: ws') (hn : As.length = n) (hrc : rm1.cells = mc) (hrs : rm1.slots = ms) (hdd : y.cls ≠ "java/lang/invoke/MethodHandle" ∧ y.cls ≠ "java/lang/invoke/VarHandle" ∧ (parseMethodDescriptor y.desc).map (fun d => d.parameters.length) = some n) (hR1 : rm1.frames + 1 ≤ rm.frames ∧ 8 + (maxL + 11) + rm1.locals ≤ rm.locals) (hroom : cells + mc ≤ rm.cells ∧ slots + ms ≤ rm.slots) (hst : st = As.reverse ++ .ref b :: rest) (hcat : (rest.map fun v => v.category).sum ≤ 8) (kk : ∀ (v : Option Value) (M1 : MH), Post v M1 → J X nL (cells + mc) (slots + ms) (jn M Mc M1) vs (v.toList ++ rest) (pc + 3)) : J X nL cells slots M vs st pc := by
  obtain ⟨p, l, e, R, s, m, args, below, meth, c, D, M0, Q⟩ := X
  obtain ⟨hx, hb, hml, hown, hts, hKK, hlk, hR⟩ := g
  have hK := hKK.1
  intro H locs ls hH hS hl hq
  subst hst
  have hA0 : ∀ q, s.heap.size ≤ q → xA M0 s.heap.size q := fun q h => Or.inr h
  refine x_back (va_runI (As := As) (rest := rest) ⟨hx, hb, hml, hown, hts⟩ (hc H.size) (cwI n hts hG hw hrc hrs (hts _ hini) (hts _ hmlk) (hts _ hinm) hy1 hdd (by rw [hR]; exact hR1)) ⟨xP_blind, fun U hU hW => xP_at hH hKK hsub hU hW⟩ rfl hn hl.1 rfl (lv_room hcat) hd (by rw [hR]; exact hroom)) hH hsub hA0 hS (fun v M1 H1 locs1 hp hH1 hk hf hS1 => ?_)
  exact kk v M1 hp H1 locs1 ls (hH.join hsub (fun q h => hA0 q (Nat.le_trans hS.1 h)) hk hH1) hS1 hl hq
end JRows
