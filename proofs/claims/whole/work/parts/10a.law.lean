/-! ===== the reference's constructor ===== -/
def mBv (ad : Nat → Nat) (T : List Nat) (k : Nat) : Value := if k ∈ T then .ref (ad k) else if k ∈ mArr then .null else .int 0
def mBf (ad : Nat → Nat) (T : List Nat) : List Value := (List.range 29).map (mBv ad T)
def Zs : ST := fun _ _ => 0
def mB (m : Nat) (ad : Nat → Nat) (T : List Nat) : MH := fun q => if q = m then some (.inr (9, mBf ad T)) else mFind ad Zs q T
theorem mB_m (m : Nat) (ad : Nat → Nat) (T : List Nat) : mB m ad T m = some (.inr (9, mBf ad T)) := if_pos rfl
def mJ (m : Nat) (ad : Nat → Nat) (T : List Nat) : Prop := (∀ k, k ∈ T → ad k ≠ m) ∧ ∀ k, k ∈ T → ∀ j, j ∈ T → ad k = ad j → k = j
theorem mFind_upg {ad : Nat → Nat} {S : ST} {k q p : Nat} : ∀ T : List Nat, k ∉ T → mFind (upg ad k q) S p T = mFind ad S p T
  | [], _ => rfl
  | j :: r, h => by
    have hj : j ≠ k := fun z => h (by rw [z]; exact List.mem_cons_self)
    rw [mFind, mFind, upg_o hj, mFind_upg r (fun z => h (List.mem_cons_of_mem _ z))]
theorem mFind_no {ad : Nat → Nat} {S : ST} {q : Nat} : ∀ T : List Nat, (∀ k, k ∈ T → q ≠ ad k) → mFind ad S q T = none
  | [], _ => rfl
  | j :: r, h => by
    rw [mFind, if_neg (h j List.mem_cons_self)]
    exact mFind_no r fun k hk => h k (List.mem_cons_of_mem _ hk)
theorem mB_set {ad : Nat → Nat} {T : List Nat} {k q : Nat} (hk : k ∉ T) : (mBf ad T).set k (.ref q) = mBf (upg ad k q) (k :: T) := by
  unfold mBf
  apply List.ext_getElem
  · simp
  · intro i h1 h2
    simp only [List.getElem_set, List.getElem_map, List.getElem_range]
    by_cases hi : k = i
    · subst hi
      rw [if_pos rfl]
      unfold mBv
      rw [if_pos List.mem_cons_self, upg_s]
    · rw [if_neg hi]
      unfold mBv
      by_cases hT : i ∈ T
      · rw [if_pos hT, if_pos (List.mem_cons_of_mem _ hT), upg_o (fun z => hi z.symm)]
      · rw [if_neg hT, if_neg (fun z => (List.mem_cons.mp z).elim (fun e => hi e.symm) hT)]
theorem mB_step {m : Nat} {ad : Nat → Nat} {T : List Nat} {q : Nat} (k : Nat) (hJ : mJ m ad T) (hq : mB m ad T q = none) (hk : k ∉ T) : ∃ ad', mJ m ad' (k :: T) ∧ xu (xu (mB m ad T) q (.inl (mCode k, mLen k, .inl (fun _ => 0)))) m (.inr (9, (mBf ad T).set k (.ref q))) = mB m ad' (k :: T) := by
  have hqm : q ≠ m := fun z => by
    unfold mB at hq
    rw [if_pos z] at hq
    exact absurd hq (by simp)
  have hqT : ∀ j, j ∈ T → q ≠ ad j := fun j hj z => by
    unfold mB at hq
    rw [if_neg hqm, z, mFind_at Zs T (fun i hi => hJ.2 j hj i hi) hj] at hq
    exact absurd hq (by simp)
  have hin : ∀ j, j ∈ k :: T → j ≠ k → j ∈ T := fun j hj h => (List.mem_cons.mp hj).resolve_left h
  refine ⟨upg ad k q, ⟨fun j hj => ?_, fun i hi j hj he => ?_⟩, ?_⟩
  · by_cases h : j = k
    · rw [h, upg_s]
      exact hqm
    · rw [upg_o h]
      exact hJ.1 j (hin j hj h)
  · by_cases h1 : i = k <;> by_cases h2 : j = k
    · rw [h1, h2]
    · rw [h1, upg_s, upg_o h2] at he
      exact absurd he (hqT j (hin j hj h2))
    · rw [h2, upg_s, upg_o h1] at he
      exact absurd he.symm (hqT i (hin i hi h1))
    · rw [upg_o h1, upg_o h2] at he
      exact hJ.2 i (hin i hi h1) j (hin j hj h2) he
  · funext p
    by_cases hp : p = m
    · subst hp
      rw [xu_s, mB_set hk]
      exact (mB_m _ _ _).symm
    · rw [xu_n hp]
      show xu (mB m ad T) q _ p = (if p = m then _ else mFind (upg ad k q) Zs p (k :: T))
      rw [if_neg hp, mFind, upg_s]
      by_cases hpq : p = q
      · rw [if_pos hpq, hpq, xu_s]
        rfl
      · rw [if_neg hpq, xu_n hpq, mFind_upg T hk]
        show (if p = m then _ else mFind ad Zs p T) = _
        rw [if_neg hp]
theorem mBf_end (ad : Nat → Nat) : mBf ad mArr = mFs ad Zs := by
  unfold mBf mFs Zs
  simp [List.range, List.range.loop, mBv, mArr]
theorem mB_end {m : Nat} {ad : Nat → Nat} {T : List Nat} (hT : ∀ k, k ∈ T ↔ k ∈ mArr) (hJ : mJ m ad T) : mI m ad ∧ mB m ad T = mM m ad Zs := by
  have hI : mI m ad := ⟨fun k hk => hJ.1 k ((hT k).mpr hk), fun k hk j hj he => hJ.2 k ((hT k).mpr hk) j ((hT j).mpr hj) he⟩
  refine ⟨hI, ?_⟩
  funext p
  by_cases hp : p = m
  · subst hp
    rw [mB_m, mM_m, ← mBf_end]
    have : mBv ad T = mBv ad mArr := by
      funext k
      unfold mBv
      by_cases h : k ∈ mArr
      · rw [if_pos ((hT k).mpr h), if_pos h]
      · rw [if_neg (fun z => h ((hT k).mp z)), if_neg h, if_neg h]
    unfold mBf
    rw [this]
  · show (if p = m then _ else mFind ad Zs p T) = (if p = m then _ else mFind ad Zs p mArr)
    rw [if_neg hp, if_neg hp]
    by_cases h : ∃ k, k ∈ mArr ∧ p = ad k
    · obtain ⟨k, hk, rfl⟩ := h
      rw [mFind_at Zs T (fun j hj => hJ.2 k ((hT k).mpr hk) j hj) ((hT k).mpr hk), mFind_at Zs mArr (hI.2 k hk) hk]
    · rw [mFind_no T (fun k hk z => h ⟨k, (hT k).mp hk, z⟩), mFind_no mArr (fun k hk z => h ⟨k, hk, z⟩)]
/-- the first i places of the row of learned days are filled -/
def LZ (i : Nat) : ST := fun k j => if k = 11 ∧ j < i then -1 else 0
theorem LZ_0 : Zs = LZ 0 := by
  funext k j
  unfold Zs LZ
  rw [if_neg (by omega)]
theorem LZ_s (i : Nat) : su (LZ i) 11 i (-1) = LZ (i + 1) := by
  funext k j
  by_cases hk : k = 11
  · subst hk
    by_cases hj : j = i
    · subst hj
      rw [su_s]
      unfold LZ
      rw [if_pos (by omega)]
    · rw [su_n hj]
      unfold LZ
      by_cases h : j < i
      · rw [if_pos ⟨rfl, h⟩, if_pos ⟨rfl, by omega⟩]
      · rw [if_neg (by omega), if_neg (by omega)]
  · rw [su_o hk]
    unfold LZ
    rw [if_neg (by omega), if_neg (by omega)]
theorem CRep_LZ {M : MH} {x : Nat} {al : Nat → Nat → Nat} (h : CRep M x al S0 0 0 0) : CRep M x al (LZ 16) 0 0 0 := by
  have hF : sf [11] S0 (LZ 16) := fun k hk => by
    have hk : k ≠ 11 := fun z => hk (by rw [z]; exact List.mem_cons_self)
    funext j
    unfold S0 LZ
    rw [if_neg hk, if_neg (by omega)]
  obtain ⟨h1, h2, h3, h4, h5, h6, h7⟩ := h
  have hp : pr [] M M := pr.rf
  refine ⟨h1.st hp hF (by decide) (by decide), h2.st hp hF (by decide) (by decide), h3.st hp hF (by decide) (by decide), ⟨fun i hi => ⟨(h4.1 i hi).1, ?_⟩, h4.2⟩, h5.st hp hF (by decide) (by decide), h6.st hp hF (by decide) (by decide), h7.st hp hF (by decide) (by decide)⟩
  obtain ⟨f, hf, hv⟩ := (h4.1 i hi).2
  refine ⟨f, hf, fun y hy => ?_⟩
  rw [hv y hy]
  unfold S0 LZ
  rw [if_pos rfl, if_pos ⟨rfl, by omega⟩]
