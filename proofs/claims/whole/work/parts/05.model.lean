/-! ===== the reference's state as one function: field number, place ===== -/
abbrev ST : Type := Nat → Nat → Int32
def su (S : ST) (k j : Nat) (v : Int32) : ST := fun k2 => if k2 = k then upd (S k) j v else S k2
theorem su_o {S : ST} {k j k2 : Nat} {v : Int32} (h : k2 ≠ k) : su S k j v k2 = S k2 := by simp [su, h]
theorem su_a {S : ST} {k j : Nat} {v : Int32} : su S k j v k = upd (S k) j v := by simp [su]
theorem su_s {S : ST} {k j : Nat} {v : Int32} : su S k j v k j = v := by simp [su, upd]
theorem su_n {S : ST} {k j i : Nat} {v : Int32} (h : i ≠ j) : su S k j v k i = S k i := by simp [su, upd, h]
def b01 (P : Prop) [Decidable P] : Int32 := if P then 1 else 0
theorem b01_t {P : Prop} [Decidable P] (h : P) : b01 P = 1 := by simp [b01, h]
theorem b01_f {P : Prop} [Decidable P] (h : ¬ P) : b01 P = 0 := by simp [b01, h]
theorem b01_0 {P : Prop} [Decidable P] : b01 P = 0 ↔ ¬ P := by by_cases h : P <;> simp [b01, h]
theorem b01_1 {P : Prop} [Decidable P] : b01 P = 1 ↔ P := by by_cases h : P <;> simp [b01, h]
theorem b01_c {P Q : Prop} [Decidable P] [Decidable Q] (h : P ↔ Q) : b01 P = b01 Q := by by_cases hp : P <;> simp [b01, hp, ← h]
theorem b01_nar {P : Prop} [Decidable P] : narrow .boolean (.int (b01 P)) = .int (b01 P) := by by_cases h : P <;> simp [b01, h] <;> rfl
theorem lit_nI (n : Nat) : (OfNat.ofNat n : Int32) = nI n := rfl
theorem nI_sub {a b : Nat} (h : b ≤ a) : nI a - nI b = nI (a - b) := pk_sub h
/-- an answer that is one value, over one map -/
def xq (v : Option Value) (M1 : MH) : Option Value → MH → Prop := fun w M' => w = v ∧ M' = M1
def mLen : Nat → Nat := fun k => match k with
  | 2 => 32 | 4 => 6 | 5 => 144 | 6 => 3 | 7 => 3 | 8 => 3 | 10 => 12 | 11 => 16 | 13 => 12 | 14 => 12 | 15 => 12 | 16 => 12 | 17 => 12 | 18 => 12 | 19 => 12 | 20 => 12 | 21 => 12 | 22 => 12 | 23 => 120 | 24 => 120 | 25 => 120 | 26 => 120 | 27 => 3840 | _ => 0
def mCode : Nat → Nat := fun k => match k with
  | 25 => 11 | 26 => 11 | _ => 10
def mFs (ad : Nat → Nat) (S : ST) : List Value := [.int (S 0 0), .int (S 1 0), .ref (ad 2), .int (S 3 0), .ref (ad 4), .ref (ad 5), .ref (ad 6), .ref (ad 7), .ref (ad 8), .int (S 9 0), .ref (ad 10), .ref (ad 11), .int (S 12 0), .ref (ad 13), .ref (ad 14), .ref (ad 15), .ref (ad 16), .ref (ad 17), .ref (ad 18), .ref (ad 19), .ref (ad 20), .ref (ad 21), .ref (ad 22), .ref (ad 23), .ref (ad 24), .ref (ad 25), .ref (ad 26), .ref (ad 27), .int (S 28 0)]
def mArr : List Nat := [2, 4, 5, 6, 7, 8, 10, 11, 13, 14, 15, 16, 17, 18, 19, 20, 21, 22, 23, 24, 25, 26, 27]
def mFind (ad : Nat → Nat) (S : ST) (q : Nat) : List Nat → Option va_E
  | [] => none
  | k :: r => if q = ad k then some (.inl (mCode k, mLen k, .inl (S k))) else mFind ad S q r
def mM (m : Nat) (ad : Nat → Nat) (S : ST) : MH := fun q => if q = m then some (.inr (9, mFs ad S)) else mFind ad S q mArr
/-- the reference's cells are apart -/
def mI (m : Nat) (ad : Nat → Nat) : Prop := (∀ k, k ∈ mArr → ad k ≠ m) ∧ ∀ k, k ∈ mArr → ∀ j, j ∈ mArr → ad k = ad j → k = j
theorem mM_m (m : Nat) (ad : Nat → Nat) (S : ST) : mM m ad S m = some (.inr (9, mFs ad S)) := by simp [mM]
theorem mFind_at {ad : Nat → Nat} (S : ST) {k : Nat} : ∀ l : List Nat, (∀ j, j ∈ l → ad k = ad j → k = j) → k ∈ l → mFind ad S (ad k) l = some (.inl (mCode k, mLen k, .inl (S k)))
  | [], _, h => by cases h
  | j :: r, hi, h => by
    by_cases hj : ad k = ad j
    · have := hi j List.mem_cons_self hj
      subst this
      simp [mFind]
    · rw [mFind, if_neg hj]
      exact mFind_at S r (fun i hi2 => hi i (List.mem_cons_of_mem _ hi2)) ((List.mem_cons.mp h).elim (fun z => absurd (by rw [z]) hj) id)
theorem mM_a {m : Nat} {ad : Nat → Nat} (hI : mI m ad) (S : ST) {k : Nat} (hk : k ∈ mArr) : mM m ad S (ad k) = some (.inl (mCode k, mLen k, .inl (S k))) := by
  rw [mM, if_neg (hI.1 k hk)]
  exact mFind_at S mArr (hI.2 k hk) hk
theorem mFind_c {ad : Nat → Nat} {S S' : ST} {q : Nat} : ∀ l : List Nat, (∀ k, k ∈ l → q = ad k → S k = S' k) → mFind ad S q l = mFind ad S' q l
  | [], _ => rfl
  | k :: r, h => by
    rw [mFind, mFind]
    by_cases hk : q = ad k
    · rw [if_pos hk, if_pos hk, h k List.mem_cons_self hk]
    · rw [if_neg hk, if_neg hk]
      exact mFind_c r fun k hk => h k (List.mem_cons_of_mem _ hk)
theorem mM_ps {m : Nat} {ad : Nat → Nat} (S : ST) (k : Nat) (v : Int32) (hk : k ∉ mArr) (hf : (mFs ad S).set k (.int v) = mFs ad (su S k 0 v)) : xu (mM m ad S) m (.inr (9, (mFs ad S).set k (.int v))) = mM m ad (su S k 0 v) := by
  funext q
  by_cases hq : q = m
  · subst hq
    rw [xu_s, mM_m, hf]
  · rw [xu_n hq, mM, if_neg hq, mM, if_neg hq]
    exact mFind_c _ fun j hj _ => (su_o (S := S) (k2 := j) (fun z => hk (by rw [← z]; exact hj))).symm
theorem mM_as {m : Nat} {ad : Nat → Nat} (hI : mI m ad) (S : ST) {k : Nat} (j : Nat) (v : Int32) (hk : k ∈ mArr) : xu (mM m ad S) (ad k) (.inl (mCode k, mLen k, .inl (upd (S k) j v))) = mM m ad (su S k j v) := by
  funext q
  by_cases hq : q = ad k
  · subst hq
    rw [xu_s, mM_a hI _ hk, su_a]
  · rw [xu_n hq]
    by_cases hm : q = m
    · subst hm
      rw [mM_m, mM_m]
      have h : ∀ i, i ∉ mArr → su S k j v i = S i := fun i hi => su_o (fun z => hi (z ▸ hk))
      simp only [mFs, h 0 (by decide), h 1 (by decide), h 3 (by decide), h 9 (by decide), h 12 (by decide), h 28 (by decide)]
    · rw [mM, if_neg hm, mM, if_neg hm]
      exact mFind_c _ fun i _ hi => (su_o (fun z => hq (by rw [hi, z]))).symm
theorem inX9_of {a : Cond} {b : List Cond} : ∀ w ∈ wsX90, w ∈ a :: (b ++ wsX90) := fun _ h => List.mem_cons_of_mem _ (List.mem_append_right _ h)
section JModel
variable {X : JC} {cc : ByteArray} {Ts : List Cond} {nL cells slots pc : Nat} {rm : Room} {M : MH} {vs : List (Option Value)} {st : List Value} {m : Nat} {ad : Nat → Nat} {S : ST} {own : String}
theorem jm_put (g : jG X cc own Ts nL rm) {idx : Nat} {v : Int32} (hd : decode cc pc = .ok (.putfield idx, 3)) (hin : ∀ w ∈ wsX90, w ∈ Ts) (k : Nat) (hk : k < 29) (hlink : Cond.fieldLink own idx RX9 (TX9 k).2.1 (TX9 k).2.2.1 ∈ Ts) (hka : k ∉ mArr) (hkc : (TX9 k).1 = RX9 ∧ (TX9 k).2.2.2 = false ∧ tyX9 k = .int) (hf : (mFs ad S).set k (.int v) = mFs ad (su S k 0 v)) (kk : J X nL cells slots (mM m ad (su S k 0 v)) vs st (pc + 3)) : J X nL cells slots (mM m ad S) vs (.int v :: .ref m :: st) pc := by
  refine j_put g hd (mM_m m ad S) rfl hin tyX9 tyX9_ok nmX9 k hk hlink hkc.1 hkc.2.1 hkc.2.2 rfl rfl hk ?_
  rw [mM_ps S k v hka hf]
  exact kk
theorem jm_ald (g : jG X cc own Ts nL rm) (hI : mI m ad) {i : Int32} (k : Nat) (hd : decode cc pc = .ok (.iaload, 1)) (hk : k ∈ mArr) (hc : mCode k = 10) (j : Nat) (hi : i = nI j) (hj : j < mLen k) (kk : J X nL cells slots (mM m ad S) vs (.int (S k j) :: st) (pc + 1)) : J X nL cells slots (mM m ad S) vs (.int i :: .ref (ad k) :: st) pc := by
  have hlen : mLen k < 2 ^ 31 := by
    have : ∀ k, k ∈ mArr → mLen k < 2 ^ 31 := by decide
    exact this k hk
  have ha := mM_a hI S hk
  rw [hc] at ha
  subst hi
  refine j_iald g hd ha (vp_in_nI hj hlen) ?_
  rw [nI_clamp (Nat.lt_trans hj hlen)]
  exact kk
theorem jm_zld (g : jG X cc own Ts nL rm) (hI : mI m ad) {i : Int32} (k : Nat) (hd : decode cc pc = .ok (.baload, 1)) (hk : k ∈ mArr) (hc : mCode k = 11) (j : Nat) (hi : i = nI j) (hj : j < mLen k) (kk : J X nL cells slots (mM m ad S) vs (.int (S k j) :: st) (pc + 1)) : J X nL cells slots (mM m ad S) vs (.int i :: .ref (ad k) :: st) pc := by
  have hlen : mLen k < 2 ^ 31 := by
    have : ∀ k, k ∈ mArr → mLen k < 2 ^ 31 := by decide
    exact this k hk
  have ha := mM_a hI S hk
  rw [hc] at ha
  subst hi
  refine j_zald g hd ha (vp_in_nI hj hlen) ?_
  rw [nI_clamp (Nat.lt_trans hj hlen)]
  exact kk
theorem jm_ast (g : jG X cc own Ts nL rm) (hI : mI m ad) {i v : Int32} (k : Nat) (hd : decode cc pc = .ok (.iastore, 1)) (hk : k ∈ mArr) (hc : mCode k = 10) (j : Nat) (hi : i = nI j) (hj : j < mLen k) (kk : J X nL cells slots (mM m ad (su S k j v)) vs st (pc + 1)) : J X nL cells slots (mM m ad S) vs (.int v :: .int i :: .ref (ad k) :: st) pc := by
  have hlen : mLen k < 2 ^ 31 := by
    have : ∀ k, k ∈ mArr → mLen k < 2 ^ 31 := by decide
    exact this k hk
  have ha := mM_a hI S hk
  have hb := mM_as hI S j v hk
  rw [hc] at ha hb
  subst hi
  refine j_iast g hd ha (vp_in_nI hj hlen) ?_
  rw [nI_clamp (Nat.lt_trans hj hlen), hb]
  exact kk
theorem jm_zst (g : jG X cc own Ts nL rm) (hI : mI m ad) {i v : Int32} (k : Nat) (hd : decode cc pc = .ok (.bastore, 1)) (hk : k ∈ mArr) (hc : mCode k = 11) (hv : vp_nar .boolean v = v) (j : Nat) (hi : i = nI j) (hj : j < mLen k) (kk : J X nL cells slots (mM m ad (su S k j v)) vs st (pc + 1)) : J X nL cells slots (mM m ad S) vs (.int v :: .int i :: .ref (ad k) :: st) pc := by
  have hlen : mLen k < 2 ^ 31 := by
    have : ∀ k, k ∈ mArr → mLen k < 2 ^ 31 := by decide
    exact this k hk
  have ha := mM_a hI S hk
  have hb := mM_as hI S j v hk
  rw [hc] at ha hb
  subst hi
  refine j_zast g hd ha (vp_in_nI hj hlen) ?_
  rw [nI_clamp (Nat.lt_trans hj hlen), hv, hb]
  exact kk
/-! calls that make nothing, with one answer -/
theorem j_cVi (g : jG X cc own Ts nL rm) {y : MethodName} {ws ws' : List Cond} {bytes : ByteArray} {maxL : Nat} {ret : Option FieldType} {rm1 : Room} {idx n : Nat} {As : List Value} {rest : List Value} {r : Int32} {M2 : MH} {b ci N : Nat} {C : String} {T : u_T} {fs : List Value} (hc : xC (jl X) (jD X) y ws rm1 0 0 (.ref b :: As) M (xq (some (.int r)) M2)) (hd : decode cc pc = .ok (.invokevirtual idx, 3)) (hbk : M b = some (.inr (ci, fs))) (hcl : vwCl[ci]? = some (C, T, N)) (hG : GoodIn Ts (wsV own idx C y ws)) (hw : ws = Cond.code y bytes maxL ret :: ws') (hn : As.length = n) (hrc : rm1.cells = 0) (hrs : rm1.slots = 0) (hdd : y.cls = C ∧ y.cls ≠ "java/lang/invoke/MethodHandle" ∧ y.cls ≠ "java/lang/invoke/VarHandle" ∧ (parseMethodDescriptor y.desc).map (fun d => d.parameters.length) = some n) (hR1 : rm1.frames + 1 ≤ rm.frames ∧ 8 + (maxL + 11) + rm1.locals ≤ rm.locals) (hroom : cells ≤ rm.cells ∧ slots ≤ rm.slots) (hst : st = As.reverse ++ .ref b :: rest) (hcat : (rest.map fun v => v.category).sum ≤ 8) (kk : J X nL cells slots M2 vs (.int r :: rest) (pc + 3)) : J X nL cells slots M vs st pc :=
  j_callV g hbk hcl hc hd hG hw hn hrc hrs hdd hR1 hroom hst hcat (fun v M1 hp => by obtain ⟨rfl, rfl⟩ := hp; exact kk)
theorem j_cVf (g : jG X cc own Ts nL rm) {y : MethodName} {ws ws' : List Cond} {bytes : ByteArray} {maxL : Nat} {ret : Option FieldType} {rm1 : Room} {idx n : Nat} {As : List Value} {rest : List Value} {r : UInt32} {M2 : MH} {b ci N : Nat} {C : String} {T : u_T} {fs : List Value} (hc : xC (jl X) (jD X) y ws rm1 0 0 (.ref b :: As) M (xq (some (.float r)) M2)) (hd : decode cc pc = .ok (.invokevirtual idx, 3)) (hbk : M b = some (.inr (ci, fs))) (hcl : vwCl[ci]? = some (C, T, N)) (hG : GoodIn Ts (wsV own idx C y ws)) (hw : ws = Cond.code y bytes maxL ret :: ws') (hn : As.length = n) (hrc : rm1.cells = 0) (hrs : rm1.slots = 0) (hdd : y.cls = C ∧ y.cls ≠ "java/lang/invoke/MethodHandle" ∧ y.cls ≠ "java/lang/invoke/VarHandle" ∧ (parseMethodDescriptor y.desc).map (fun d => d.parameters.length) = some n) (hR1 : rm1.frames + 1 ≤ rm.frames ∧ 8 + (maxL + 11) + rm1.locals ≤ rm.locals) (hroom : cells ≤ rm.cells ∧ slots ≤ rm.slots) (hst : st = As.reverse ++ .ref b :: rest) (hcat : (rest.map fun v => v.category).sum ≤ 8) (kk : J X nL cells slots M2 vs (.float r :: rest) (pc + 3)) : J X nL cells slots M vs st pc :=
  j_callV g hbk hcl hc hd hG hw hn hrc hrs hdd hR1 hroom hst hcat (fun v M1 hp => by obtain ⟨rfl, rfl⟩ := hp; exact kk)
theorem j_cVr (g : jG X cc own Ts nL rm) {y : MethodName} {ws ws' : List Cond} {bytes : ByteArray} {maxL : Nat} {ret : Option FieldType} {rm1 : Room} {idx n : Nat} {As : List Value} {rest : List Value} {r : Value} {M2 : MH} {b ci N : Nat} {C : String} {T : u_T} {fs : List Value} (hc : xC (jl X) (jD X) y ws rm1 0 0 (.ref b :: As) M (xq (some r) M2)) (hd : decode cc pc = .ok (.invokevirtual idx, 3)) (hbk : M b = some (.inr (ci, fs))) (hcl : vwCl[ci]? = some (C, T, N)) (hG : GoodIn Ts (wsV own idx C y ws)) (hw : ws = Cond.code y bytes maxL ret :: ws') (hn : As.length = n) (hrc : rm1.cells = 0) (hrs : rm1.slots = 0) (hdd : y.cls = C ∧ y.cls ≠ "java/lang/invoke/MethodHandle" ∧ y.cls ≠ "java/lang/invoke/VarHandle" ∧ (parseMethodDescriptor y.desc).map (fun d => d.parameters.length) = some n) (hR1 : rm1.frames + 1 ≤ rm.frames ∧ 8 + (maxL + 11) + rm1.locals ≤ rm.locals) (hroom : cells ≤ rm.cells ∧ slots ≤ rm.slots) (hst : st = As.reverse ++ .ref b :: rest) (hcat : (rest.map fun v => v.category).sum ≤ 8) (kk : J X nL cells slots M2 vs (r :: rest) (pc + 3)) : J X nL cells slots M vs st pc :=
  j_callV g hbk hcl hc hd hG hw hn hrc hrs hdd hR1 hroom hst hcat (fun v M1 hp => by obtain ⟨rfl, rfl⟩ := hp; exact kk)
theorem j_cVv (g : jG X cc own Ts nL rm) {y : MethodName} {ws ws' : List Cond} {bytes : ByteArray} {maxL : Nat} {ret : Option FieldType} {rm1 : Room} {idx n : Nat} {As : List Value} {rest : List Value} {M2 : MH} {b ci N : Nat} {C : String} {T : u_T} {fs : List Value} (hc : xC (jl X) (jD X) y ws rm1 0 0 (.ref b :: As) M (xq none M2)) (hd : decode cc pc = .ok (.invokevirtual idx, 3)) (hbk : M b = some (.inr (ci, fs))) (hcl : vwCl[ci]? = some (C, T, N)) (hG : GoodIn Ts (wsV own idx C y ws)) (hw : ws = Cond.code y bytes maxL ret :: ws') (hn : As.length = n) (hrc : rm1.cells = 0) (hrs : rm1.slots = 0) (hdd : y.cls = C ∧ y.cls ≠ "java/lang/invoke/MethodHandle" ∧ y.cls ≠ "java/lang/invoke/VarHandle" ∧ (parseMethodDescriptor y.desc).map (fun d => d.parameters.length) = some n) (hR1 : rm1.frames + 1 ≤ rm.frames ∧ 8 + (maxL + 11) + rm1.locals ≤ rm.locals) (hroom : cells ≤ rm.cells ∧ slots ≤ rm.slots) (hst : st = As.reverse ++ .ref b :: rest) (hcat : (rest.map fun v => v.category).sum ≤ 8) (kk : J X nL cells slots M2 vs rest (pc + 3)) : J X nL cells slots M vs st pc :=
  j_callV g hbk hcl hc hd hG hw hn hrc hrs hdd hR1 hroom hst hcat (fun v M1 hp => by obtain ⟨rfl, rfl⟩ := hp; exact kk)
theorem j_cSi (g : jG X cc own Ts nL rm) {y : MethodName} {ws ws' : List Cond} {bytes : ByteArray} {maxL : Nat} {ret : Option FieldType} {rm1 : Room} {idx n : Nat} {As : List Value} {rest : List Value} {r : Int32} {M2 : MH} (hc : xC (jl X) (jD X) y ws rm1 0 0 As M (xq (some (.int r)) M2)) (hd : decode cc pc = .ok (.invokestatic idx, 3)) (hG : GoodIn Ts (va_wsS own idx y ws)) (hw : ws = Cond.code y bytes maxL ret :: ws') (hn : As.length = n) (hrc : rm1.cells = 0) (hrs : rm1.slots = 0) (hdd : y.cls ≠ "java/lang/invoke/MethodHandle" ∧ y.cls ≠ "java/lang/invoke/VarHandle" ∧ (parseMethodDescriptor y.desc).map (fun d => d.parameters.length) = some n) (hR1 : rm1.frames + 1 ≤ rm.frames ∧ 8 + (maxL + 11) + rm1.locals ≤ rm.locals) (hroom : cells ≤ rm.cells ∧ slots ≤ rm.slots) (hst : st = As.reverse ++ rest) (hcat : (rest.map fun v => v.category).sum ≤ 8) (kk : J X nL cells slots M2 vs (.int r :: rest) (pc + 3)) : J X nL cells slots M vs st pc :=
  j_callS g hc hd hG hw hn hrc hrs hdd hR1 hroom hst hcat (fun v M1 hp => by obtain ⟨rfl, rfl⟩ := hp; exact kk)
theorem j_cSf (g : jG X cc own Ts nL rm) {y : MethodName} {ws ws' : List Cond} {bytes : ByteArray} {maxL : Nat} {ret : Option FieldType} {rm1 : Room} {idx n : Nat} {As : List Value} {rest : List Value} {r : UInt32} {M2 : MH} (hc : xC (jl X) (jD X) y ws rm1 0 0 As M (xq (some (.float r)) M2)) (hd : decode cc pc = .ok (.invokestatic idx, 3)) (hG : GoodIn Ts (va_wsS own idx y ws)) (hw : ws = Cond.code y bytes maxL ret :: ws') (hn : As.length = n) (hrc : rm1.cells = 0) (hrs : rm1.slots = 0) (hdd : y.cls ≠ "java/lang/invoke/MethodHandle" ∧ y.cls ≠ "java/lang/invoke/VarHandle" ∧ (parseMethodDescriptor y.desc).map (fun d => d.parameters.length) = some n) (hR1 : rm1.frames + 1 ≤ rm.frames ∧ 8 + (maxL + 11) + rm1.locals ≤ rm.locals) (hroom : cells ≤ rm.cells ∧ slots ≤ rm.slots) (hst : st = As.reverse ++ rest) (hcat : (rest.map fun v => v.category).sum ≤ 8) (kk : J X nL cells slots M2 vs (.float r :: rest) (pc + 3)) : J X nL cells slots M vs st pc :=
  j_callS g hc hd hG hw hn hrc hrs hdd hR1 hroom hst hcat (fun v M1 hp => by obtain ⟨rfl, rfl⟩ := hp; exact kk)
theorem j_cSr (g : jG X cc own Ts nL rm) {y : MethodName} {ws ws' : List Cond} {bytes : ByteArray} {maxL : Nat} {ret : Option FieldType} {rm1 : Room} {idx n : Nat} {As : List Value} {rest : List Value} {r : Value} {M2 : MH} (hc : xC (jl X) (jD X) y ws rm1 0 0 As M (xq (some r) M2)) (hd : decode cc pc = .ok (.invokestatic idx, 3)) (hG : GoodIn Ts (va_wsS own idx y ws)) (hw : ws = Cond.code y bytes maxL ret :: ws') (hn : As.length = n) (hrc : rm1.cells = 0) (hrs : rm1.slots = 0) (hdd : y.cls ≠ "java/lang/invoke/MethodHandle" ∧ y.cls ≠ "java/lang/invoke/VarHandle" ∧ (parseMethodDescriptor y.desc).map (fun d => d.parameters.length) = some n) (hR1 : rm1.frames + 1 ≤ rm.frames ∧ 8 + (maxL + 11) + rm1.locals ≤ rm.locals) (hroom : cells ≤ rm.cells ∧ slots ≤ rm.slots) (hst : st = As.reverse ++ rest) (hcat : (rest.map fun v => v.category).sum ≤ 8) (kk : J X nL cells slots M2 vs (r :: rest) (pc + 3)) : J X nL cells slots M vs st pc :=
  j_callS g hc hd hG hw hn hrc hrs hdd hR1 hroom hst hcat (fun v M1 hp => by obtain ⟨rfl, rfl⟩ := hp; exact kk)
end JModel
