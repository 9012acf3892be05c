/-! ===== what the law's own arithmetic finds ===== -/
theorem low_ok (v : Int32) {m : Nat} (h0 : 0 < m) (hm : m < 2 ^ 31) : ∃ k, k < m ∧ some (Value.int ((v &&& 2147483647) - (v &&& 2147483647) / nI m * nI m)) = some (.int (nI k)) := by
  obtain ⟨j, hj, e⟩ := pk_andE v (m := 2147483647) 31 (by decide)
  rw [e]
  exact ⟨j % m, Nat.mod_lt _ h0, by rw [pk_rem hj h0 hm]⟩
theorem iN_k {k : Nat} (m : Nat) (hm : m < 2 ^ 31) (h : k ≤ m) : iN (nI k) 0 (nI m) := ⟨nI_pos' (by omega), nI_le h hm⟩
theorem lv1_all {vs : List (Option Value)} (h : lv1 vs = true) : ∀ i v, lvg vs i = some v → v.category = 1 := fun i v hv => by
  have := List.all_eq_true.mp h _ (lvg_some _ _ _ hv)
  simpa using this
/-- the first n locals are kept -/
theorem lvg_tk : ∀ (vs : List (Option Value)) (n k i : Nat) (v : Value), lvg (vs.take n ++ List.replicate k none) i = some v → lvg vs i = some v
  | [], n, k, i, v, h => by
    rw [List.take_nil, List.nil_append] at h
    have hm := lvg_some _ _ _ h
    rw [List.mem_replicate] at hm
    exact absurd hm.2 (by simp)
  | a :: r, 0, k, i, v, h => by
    rw [List.take_zero, List.nil_append] at h
    have hm := lvg_some _ _ _ h
    rw [List.mem_replicate] at hm
    exact absurd hm.2 (by simp)
  | a :: r, n + 1, k, 0, v, h => h
  | a :: r, n + 1, k, i + 1, v, h => lvg_tk r n k i v h
theorem lv1_tk : ∀ (vs : List (Option Value)) (n k : Nat), lv1 vs = true → lv1 (vs.take n ++ List.replicate k none) = true := by
  intro vs n k h
  unfold lv1 at h ⊢
  rw [List.all_append, Bool.and_eq_true]
  refine ⟨?_, ?_⟩
  · rw [List.all_eq_true] at h ⊢
    exact fun x hx => h x (List.mem_of_mem_take hx)
  · rw [List.all_eq_true]
    intro x hx
    rw [List.mem_replicate] at hx
    rw [hx.2]
theorem j_keep {X : JC} {nL cells slots pc : Nat} {M : MH} {vs : List (Option Value)} {st : List Value} (n : Nat) (k : J X nL cells slots M (vs.take n ++ List.replicate (vs.length - n) none) st pc) : J X nL cells slots M vs st pc := by
  obtain ⟨p, l, e, R, s, m, args, below, meth, c, D, M0, Q⟩ := X
  intro H locs ls hH hS hl hq
  refine k H locs ls hH hS ⟨hl.1, hl.2.1, fun q hq2 => hl.2.2 q ?_⟩ ⟨?_, lv1_tk _ _ _ hq.2⟩
  · obtain ⟨-, h2⟩ := lvl_of _ _ _ hq2
    rw [Nat.sub_zero] at h2
    have := lvl_mem vs 0 q.1 q.2 (lvg_tk _ _ _ _ _ h2)
    rw [Nat.zero_add] at this
    exact this
  · rw [List.length_append, List.length_take, List.length_replicate, ← hq.1]
    omega
/-- a method of the class that throws nothing, over the class's cells alone -/
theorem j_cG {X : JC} {cc : ByteArray} {own : String} {Ts : List Cond} {nL cells slots pc : Nat} {rm : Room} {M Mx : MH} {vs : List (Option Value)} {st : List Value} {ra : Nat → Nat} {R : ST} (g : jG X cc own Ts nL rm) (hr : LR M Mx ra R) {y : MethodName} {ws ws' : List Cond} {bytes : ByteArray} {maxL : Nat} {ret : Option FieldType} {rm1 : Room} {mc ms idx n : Nat} {As : List Value} {Post : Option Value → MH → Prop} {rest : List Value} {b ci N : Nat} {C : String} {T : u_T} {fs : List Value} (hbk : Mx b = some (.inr (ci, fs))) (hcl : vwCl[ci]? = some (C, T, N)) (hc : xC (jl X) (jD X) y ws rm1 mc ms (.ref b :: As) Mx Post) (hd : decode cc pc = .ok (.invokevirtual idx, 3)) (hG : GoodIn Ts (wsV own idx C y ws)) (hw : ws = Cond.code y bytes maxL ret :: ws') (hn : As.length = n) (hrc : rm1.cells = mc) (hrs : rm1.slots = ms) (hdd : y.cls = C ∧ y.cls ≠ "java/lang/invoke/MethodHandle" ∧ y.cls ≠ "java/lang/invoke/VarHandle" ∧ (parseMethodDescriptor y.desc).map (fun d => d.parameters.length) = some n) (hR1 : rm1.frames + 1 ≤ rm.frames ∧ 8 + (maxL + 11) + rm1.locals ≤ rm.locals) (hroom : cells + mc ≤ rm.cells ∧ slots + ms ≤ rm.slots) (hst : st = As.reverse ++ .ref b :: rest) (hcat : (rest.map fun v => v.category).sum ≤ 8)
    (kk : ∀ (v : Option Value) (M1 M2 : MH), Post v M1 → LR M2 M1 ra R → J X nL (cells + mc) (slots + ms) M2 vs (v.toList ++ rest) (pc + 3)) : J X nL cells slots M vs st pc :=
  j_callVG g (hr.1 _ _ hbk) hcl hr.1 hc hd hG hw hn hrc hrs hdd hR1 hroom hst hcat (fun v M1 hp hnn => kk v M1 _ hp (hr.call hnn))
section Cases
variable {n x d ns nd : Nat} {S R : ST} {v : Option Value} {M1 : MH}
theorem stroke_cases {a b c e : Nat} (hk : mOK S d ns nd) (ha : a < 100) (hb : b < 100) (hc : c < 100) (he : e < 100) (hp : pI (tStroke S (nI a) (nI b) (nI c) (nI e)) (-1000002) (-1000003) 0 (nI (d + 1)) x S d ns nd (nStroke S d (nI a) (nI b) (nI c) (nI e)) (d + 1) ns nd v M1) :
    (a = c ∧ b = e ∧ v = some (.int (-1000002)) ∧ ∃ al, CRep M1 x al S d ns nd) ∨ (¬ (a = c ∧ b = e) ∧ d = 8 ∧ v = some (.int (-1000003)) ∧ ∃ al, CRep M1 x al S d ns nd) ∨ (¬ (a = c ∧ b = e) ∧ d < 8 ∧ v = some (.int (nI (d + 1))) ∧ ∃ al S', CRep M1 x al S' (d + 1) ns nd ∧ mOK S' (d + 1) ns nd ∧ sf [1, 2] S S') := by
  have hd := hk.1.1
  have h8 := hk.1.2.1
  by_cases e1 : a = c ∧ b = e
  · have t : tStroke S (nI a) (nI b) (nI c) (nI e) = 1 := if_pos (fun z => z.2.2.2.2.elim (fun q => q (by rw [e1.1])) (fun q => q (by rw [e1.2])))
    obtain ⟨hv, hx⟩ := hp.no 1 t (by decide)
    exact Or.inl ⟨e1.1, e1.2, hv.trans rfl, hx⟩
  · have ok : okStroke (nI a) (nI b) (nI c) (nI e) := by
      refine ⟨iN_k 99 (by decide) (by omega), iN_k 99 (by decide) (by omega), iN_k 99 (by decide) (by omega), iN_k 99 (by decide) (by omega), ?_⟩
      by_cases e2 : a = c
      · exact Or.inr (fun z => e1 ⟨e2, (nI_eq (by omega) (by omega)).mp z⟩)
      · exact Or.inl (fun z => e2 ((nI_eq (by omega) (by omega)).mp z))
    have t0 : tStroke S (nI a) (nI b) (nI c) (nI e) = if ¬ S 1 0 < 8 then 2 else 0 := if_neg (fun z => z ok)
    by_cases e3 : d = 8
    · have t : tStroke S (nI a) (nI b) (nI c) (nI e) = 2 := by
        rw [t0, hd, e3]
        decide
      obtain ⟨hv, hx⟩ := hp.no 2 t (by decide)
      exact Or.inr (Or.inl ⟨e1, e3, hv.trans rfl, hx⟩)
    · have t : tStroke S (nI a) (nI b) (nI c) (nI e) = 0 := by
        rw [t0, hd, if_neg (fun z => z (nI_lt (b := 8) (by omega) (by decide)))]
      obtain ⟨hv, al, hx⟩ := hp.ok t
      exact Or.inr (Or.inr ⟨e1, by omega, hv, al, _, hx, ok_stroke hk t, sf_stroke⟩)
theorem sign_cases (hk : mOK S d ns nd) (hp : pI (tSign S) (-1000003) 0 0 (nI ns) x S d ns nd (nSign S d ns) 0 (ns + 1) nd v M1) :
    ((d = 0 ∨ 6 < d ∨ ns = 6) ∧ v = some (.int (-1000003)) ∧ ∃ al, CRep M1 x al S d ns nd) ∨ ((1 ≤ d ∧ d ≤ 6 ∧ ns < 6) ∧ v = some (.int (nI ns)) ∧ ∃ al, CRep M1 x al (nSign S d ns) 0 (ns + 1) nd ∧ mOK (nSign S d ns) 0 (ns + 1) nd) := by
  have hd := hk.1.1
  have h8 := hk.1.2.1
  have hns := hk.2.1.1
  have h6 := hk.2.1.2.2.1
  by_cases e : 1 ≤ d ∧ d ≤ 6 ∧ ns < 6
  · have t : tSign S = 0 := by
      refine if_neg (fun z => z ⟨?_, ?_⟩)
      · rw [hd]
        exact ⟨nI_le (a := 1) e.1 (by omega), nI_le (b := 6) e.2.1 (by decide)⟩
      · rw [hns]
        exact nI_lt (b := 6) e.2.2 (by decide)
    obtain ⟨hv, al, hx⟩ := hp.ok t
    exact Or.inr ⟨e, hv, al, hx, ok_sign hk t⟩
  · have t : tSign S = 1 := by
      refine if_pos (fun z => e ?_)
      obtain ⟨⟨z1, z2⟩, z3⟩ := z
      rw [hd] at z1 z2
      rw [hns] at z3
      exact ⟨(nI_leI (a := 1) (by decide) (by omega)).mp z1, (nI_leI (b := 6) (by omega) (by decide)).mp z2, (nI_ltI (b := 6) (by omega) (by decide)).mp z3⟩
    obtain ⟨hv, hx⟩ := hp.no 1 t (by decide)
    exact Or.inl ⟨by omega, hv.trans rfl, hx⟩
end Cases
/-! parts and marks of the draft -/
theorem fc_s1 : Op.cmpValue (FP.fcmp 3379831824 3379831824) .l = 0 := by decide +kernel
theorem fc_s2 : Op.cmpValue (FP.fcmp 3379831840 3379831840) .l = 0 := by decide +kernel
theorem fc_0 : Op.cmpValue (FP.fcmp FP.fconst0 FP.fconst0) .l = 0 := by decide +kernel
theorem fc_10 : Op.cmpValue (FP.fcmp 1092616192 1092616192) .l = 0 := by decide +kernel
theorem k31 : f0 1106252923 := kf (by decide) (by decide +kernel)
section Parts
variable {d ns nd s k mn y : Nat} {S : ST}
theorem isSi_k (hk : mOK S d ns nd) (hs : s < ns) : isSi S (nI s) := by
  unfold isSi
  rw [hk.2.1.1]
  exact iN_ix1' (by have := hk.2.1.2.2.1; omega) hs
theorem tp1 {g w : Int32} (hk : mOK S d ns nd) : tPart S g (nI d) w = 1 := by
  refine if_pos (fun z => ?_)
  have h8 := hk.1.2.1
  have h := z.2.1
  rw [hk.1.1] at h
  have q := (iN_ix1 (by omega) h).2
  rw [ix_nI (by omega)] at q
  omega
theorem tp2 {w : Int32} (hk : mOK S d ns nd) (hs : s < ns) (e4 : S 4 s = nI mn) : tPart S (nI s) (nI mn) w = 1 := by
  refine if_pos (fun z => ?_)
  have n6 := hk.2.1.2.2.1
  have h := z.2.2
  rw [ix_nI (by omega), e4] at h
  exact Int32.lt_irrefl h
theorem tp3 {k w : Int32} (hk : mOK S d ns nd) : tPart S (nI ns) k w = 1 := by
  refine if_pos (fun z => ?_)
  have n6 := hk.2.1.2.2.1
  have h := z.1
  unfold isSi at h
  rw [hk.2.1.1] at h
  have q := (iN_ix1 (by omega) h).2
  rw [ix_nI (by omega)] at q
  omega
theorem okP (hk : mOK S d ns nd) (hs : s < ns) (emn : ix (S 4 s) = mn) (hkd : k < d) (hkm : k < mn) : okPart S (nI s) (nI k) := by
  have n6 := hk.2.1.2.2.1
  have h8 := hk.1.2.1
  have i4 := (hk.2.1.2.2.2 s hs).i4
  refine ⟨isSi_k hk hs, ?_, ?_⟩
  · rw [hk.1.1]
    exact iN_ix1' (by omega) hkd
  · rw [ix_nI (by omega), i4.1, emn]
    exact nI_lt hkm (by omega)
theorem tp0 {w : Int32} (hk : mOK S d ns nd) (hs : s < ns) (emn : ix (S 4 s) = mn) (hkd : k < d) (hkm : k < mn) (hw : iN w 0 2) : tPart S (nI s) (nI k) w = 0 := by
  unfold tPart
  rw [if_neg (fun z => z (okP hk hs emn hkd hkm)), if_neg (fun z => z hw)]
theorem tp9 (hk : mOK S d ns nd) (hs : s < ns) (emn : ix (S 4 s) = mn) (hkd : k < d) (hkm : k < mn) : tPart S (nI s) (nI k) 3 = 2 := by
  unfold tPart
  rw [if_neg (fun z => z (okP hk hs emn hkd hkm)), if_pos (by decide)]
theorem vp_0 (hk : mOK S d ns nd) (hs : s < ns) (emn : ix (S 4 s) = mn) (hkd : k < d) (hkm : k < mn) : fb (vPart S (nI s) (nI k) 0) 1092616192 := by
  have n6 := hk.2.1.2.2.1
  have h8 := hk.1.2.1
  unfold vPart
  rw [if_pos rfl, ix_nI (by omega), ix_nI (by omega)]
  exact near_fb (dsum_rg (hk.1.2.2 k hkd) ((hk.2.1.2.2.2 s hs).2 k (by omega)) 4 (by decide)) (by unfold rg; decide)
theorem vp_1 (hk : mOK S d ns nd) (hs : s < ns) (emn : ix (S 4 s) = mn) (hkd : k < d) (hkm : k < mn) : fb (vPart S (nI s) (nI k) 1) 1092617241 := by
  have n6 := hk.2.1.2.2.1
  have h8 := hk.1.2.1
  unfold vPart
  rw [if_neg (by decide), if_pos rfl, ix_nI (by omega), ix_nI (by omega)]
  exact slope_fb (okC_way (hk.1.2.2 k hkd)) (okC_way ((hk.2.1.2.2.2 s hs).2 k (by omega)))
theorem vp_2 (hk : mOK S d ns nd) (hs : s < ns) (e4 : S 4 s = nI mn) : vPart S (nI s) (nI k) 2 = ordV (nI d) (nI mn) := by
  have n6 := hk.2.1.2.2.1
  unfold vPart
  rw [if_neg (by decide), if_neg (by decide), ix_nI (by omega), e4, hk.1.1]
theorem tm0 {y : Int32} (hk : mOK S d ns nd) (h0 : ns = 0) : tMark S 0 y = 1 := by
  refine if_pos (fun z => ?_)
  have h := z.1
  unfold isSi at h
  rw [hk.2.1.1, h0] at h
  exact absurd h (by decide)
theorem tm4 {g : Int32} (hk : mOK S d ns nd) : tMark S g 4 = 1 := if_pos (fun z => absurd z.2 (by decide))
theorem tmk (hk : mOK S d ns nd) (hs : s < ns) (hy : y < 4) : tMark S (nI s) (nI y) = 0 := if_neg (fun z => z ⟨isSi_k hk hs, iN_k 3 (by decide) (by omega)⟩)
theorem kM31 : zv (kM 1) ≤ zv 1106252923 := by decide +kernel
theorem mkd_b (hk : mOK S d ns nd) (hs : s < ns) (hy : y < 4) : fb (markS S 2 0 d (ix (nI s)) (ix (nI y)) (ix (S 4 (ix (nI s)))) 0) 1106252923 := by
  have n6 := hk.2.1.2.2.1
  have h8 := hk.1.2.1
  have hsg := hk.2.1.2.2.2 s hs
  have i4 := hsg.i4
  rw [ix_nI (by omega), ix_nI (by omega)]
  exact fb_m (markS_fb hk.2.1.2.1 hy (by unfold rg; decide) i4.2.2 i4.2.1 (fun i hi => ⟨by rw [Nat.zero_add]; exact hk.1.2.2 i (by omega), hsg.2 i (by omega)⟩)) kM31
end Parts
