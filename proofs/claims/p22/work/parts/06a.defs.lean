/-! ===== what the reference's methods answer ===== -/
theorem xq_i {r r' : Int32} {M M' : MH} (h : r = r') (hM : M = M') : xq (some (.int r')) M' (some (.int r)) M := by rw [h, hM]; exact ⟨rfl, rfl⟩
theorem xq_f {r r' : UInt32} {M M' : MH} (h : r = r') (hM : M = M') : xq (some (.float r')) M' (some (.float r)) M := by rw [h, hM]; exact ⟨rfl, rfl⟩
theorem xq_v {M M' : MH} (hM : M = M') : xq none M' none M := by rw [hM]; exact ⟨rfl, rfl⟩
theorem j_topi {X : JC} {nL cells slots pc : Nat} {M : MH} {vs : List (Option Value)} {st : List Value} {x : Int32} (y : Int32) (h : x = y) (k : J X nL cells slots M vs (.int y :: st) pc) : J X nL cells slots M vs (.int x :: st) pc := by rw [h]; exact k
theorem j_topf {X : JC} {nL cells slots pc : Nat} {M : MH} {vs : List (Option Value)} {st : List Value} {x : UInt32} (y : UInt32) (h : x = y) (k : J X nL cells slots M vs (.float y :: st) pc) : J X nL cells slots M vs (.float x :: st) pc := by rw [h]; exact k
theorem j_map {X : JC} {nL cells slots pc : Nat} {M : MH} (M' : MH) {vs : List (Option Value)} {st : List Value} (h : M = M') (k : J X nL cells slots M' vs st pc) : J X nL cells slots M vs st pc := by rw [h]; exact k
theorem lit_1 : (1 : Int32) = nI 1 := rfl
theorem lit_2 : (2 : Int32) = nI 2 := rfl
theorem lit_3 : (3 : Int32) = nI 3 := rfl
theorem lit_4 : (4 : Int32) = nI 4 := rfl
theorem lit_5 : (5 : Int32) = nI 5 := rfl
theorem lit_6 : (6 : Int32) = nI 6 := rfl
theorem lit_8 : (8 : Int32) = nI 8 := rfl
theorem lit_10 : (10 : Int32) = nI 10 := rfl
theorem lit_12 : (12 : Int32) = nI 12 := rfl
theorem lit_16 : (16 : Int32) = nI 16 := rfl
theorem lit_17 : (17 : Int32) = nI 17 := rfl
theorem lit_24 : (24 : Int32) = nI 24 := rfl
theorem lit_32 : (32 : Int32) = nI 32 := rfl
theorem lit_37 : (37 : Int32) = nI 37 := rfl
theorem lit_100 : (100 : Int32) = nI 100 := rfl
theorem lit_101 : (101 : Int32) = nI 101 := rfl
theorem lit_999 : (999 : Int32) = nI 999 := rfl
theorem lit_1000 : (1000 : Int32) = nI 1000 := rfl
theorem lit_5000 : (5000 : Int32) = nI 5000 := rfl
def gT (x y z : Int32) : Int32 := if x = 0 then 1 else if y = 0 then 2 else if z = 0 then 3 else 0
abbrev iN (v lo hi : Int32) : Prop := lo ≤ v ∧ v ≤ hi
/-! indices -/
def ix (v : Int32) : Nat := v.toNatClampNeg
theorem ix_nI {n : Nat} (h : n < 2 ^ 31) : ix (nI n) = n := nI_clamp h
theorem lx_m (c : Nat) {a : Nat} {x : Int32} (hx : x = nI a) : nI c * x = nI (c * a) := by rw [hx, pk_mul]
theorem lx_a {a b : Nat} {x y : Int32} (hx : x = nI a) (hy : y = nI b) : x + y = nI (a + b) := by rw [hx, hy, nI_add]
theorem lx_l (c : Nat) : (nI c) = nI c := rfl
def rg (v : Int32) (lo hi : Int) : Prop := lo ≤ v.toInt ∧ v.toInt ≤ hi
theorem rg_ix {v : Int32} {n : Nat} (h : rg v 0 (n : Int)) : v = nI (ix v) ∧ ix v ≤ n := by
  have h0 : ¬ v < 0 := by
    rw [Int32.lt_iff_toInt_lt]
    have : (0 : Int32).toInt = 0 := rfl
    have := h.1
    omega
  obtain ⟨j, hj, rfl⟩ := nI_of h0
  rw [ix_nI hj]
  have h2 := h.2
  rw [nI_toInt hj] at h2
  exact ⟨rfl, by omega⟩
theorem nI_rg {n : Nat} {hi : Int} (h : n < 2 ^ 31) (h2 : (n : Int) ≤ hi) : rg (nI n) 0 hi := by
  unfold rg
  rw [nI_toInt h]
  omega
theorem iN_rg {v lo hi : Int32} (h : iN v lo hi) : rg v lo.toInt hi.toInt := ⟨Int32.le_iff_toInt_le.mp h.1, Int32.le_iff_toInt_le.mp h.2⟩
theorem rg_iN {v lo hi : Int32} (h : rg v lo.toInt hi.toInt) : iN v lo hi := ⟨Int32.le_iff_toInt_le.mpr h.1, Int32.le_iff_toInt_le.mpr h.2⟩
theorem iN_ix {v : Int32} {n : Nat} (hn : n < 2 ^ 31) (h : iN v 0 (nI n)) : v = nI (ix v) ∧ ix v ≤ n := by
  have h1 := iN_rg h
  rw [nI_toInt hn] at h1
  exact rg_ix h1
theorem iN_ix1 {v : Int32} {n : Nat} (hn : n < 2 ^ 31) (h : iN v 0 (nI n - 1)) : v = nI (ix v) ∧ ix v < n := by
  cases n with
  | zero =>
    have h1 := iN_rg h
    have e0 : (0 : Int32).toInt = 0 := rfl
    have e1 : (nI 0 - 1 : Int32).toInt = -1 := by decide
    unfold rg at h1
    rw [e0, e1] at h1
    omega
  | succ k =>
    rw [nI_pred] at h
    have := iN_ix (by omega) h
    exact ⟨this.1, by omega⟩
theorem iN_ix1' {n k : Nat} (hn : n < 2 ^ 31) (h : k < n) : iN (nI k) 0 (nI n - 1) := by
  cases n with
  | zero => omega
  | succ j =>
    rw [nI_pred]
    exact ⟨by rw [Int32.le_iff_toInt_le, nI_toInt (by omega)]; have : (0 : Int32).toInt = 0 := rfl; omega, nI_le (by omega) (by omega)⟩
abbrev okStroke (x y ex ey : Int32) : Prop := iN x 0 99 ∧ iN y 0 99 ∧ iN ex 0 99 ∧ iN ey 0 99 ∧ (x ≠ ex ∨ y ≠ ey)
def tStroke (S : ST) (x y ex ey : Int32) : Int32 := if ¬ okStroke x y ex ey then 1 else if ¬ S 1 0 < 8 then 2 else 0
def nStroke (S : ST) (d : Nat) (x y ex ey : Int32) : ST := su (su (su (su (su S 2 (4 * d) x) 2 (4 * d + 1) y) 2 (4 * d + 2) ex) 2 (4 * d + 3) ey) 1 0 (nI (d + 1))
def mAns (t v : Int32) : Int32 := if t = 0 then v else 0
def mSt (S : ST) (t : Int32) (f : ST → ST) : ST := if t = 0 then f (su S 28 0 0) else su S 28 0 t
def nClear (S : ST) : ST := su S 1 0 0
/-- n places of row src, from 0 on, stand in row dst, from off on -/
def cpS (S : ST) (dst src off n : Nat) : ST := fun k j => if k = dst ∧ off ≤ j ∧ j < off + n then S src (j - off) else S k j
theorem cpS_0 (S : ST) (dst src off : Nat) : cpS S dst src off 0 = S := by
  funext k j
  unfold cpS
  rw [if_neg]
  omega
theorem cpS_1 {S : ST} {dst src off n : Nat} (h : src ≠ dst) : su (cpS S dst src off n) dst (off + n) (cpS S dst src off n src n) = cpS S dst src off (n + 1) := by
  funext k j
  by_cases hk : k = dst
  · subst hk
    by_cases hj : j = off + n
    · subst hj
      rw [su_s]
      unfold cpS
      rw [if_neg (by omega), if_pos (by omega)]
      congr 1
      omega
    · rw [su_n hj]
      unfold cpS
      by_cases h2 : off ≤ j ∧ j < off + n
      · rw [if_pos ⟨rfl, h2⟩, if_pos (by omega)]
      · rw [if_neg (by omega), if_neg (by omega)]
  · rw [su_o hk]
    unfold cpS
    rw [if_neg (by omega), if_neg (by omega)]
def tSign (S : ST) : Int32 := if ¬ (iN (S 1 0) 1 6 ∧ S 3 0 < 6) then 1 else 0
def nSign (S : ST) (d ns : Nat) : ST := su (su (su (cpS S 5 2 (24 * ns) (4 * d)) 4 ns (nI d)) 1 0 0) 3 0 (nI (ns + 1))
def tBuy (S : ST) (its many : Int32) : Int32 := if ¬ iN its 0 2 then 1 else if ¬ iN many 1 100 then 2 else if ¬ S 6 (ix its) + many ≤ 1000 then 3 else 0
def nBuy (S : ST) (its many : Int32) : ST := su S 6 (ix its) (S 6 (ix its) + many)
def tRise (its by_ : Int32) : Int32 := if ¬ iN its 0 2 then 1 else if ¬ iN by_ (-10) 10 then 2 else 0
def nRise (S : ST) (its by_ : Int32) : ST := su S 8 (ix its) by_
def tStyle (its a b c : Int32) : Int32 := if ¬ iN its 0 3 then 1 else if ¬ (iN a 0 100 ∧ iN b 0 100 ∧ iN c 0 100) then 2 else 0
def nStyle (S : ST) (its a b c : Int32) : ST := su (su (su S 10 (3 * ix its) a) 10 (3 * ix its + 1) b) 10 (3 * ix its + 2) c
def tLearn (S : ST) (w s : Int32) : Int32 := if ¬ (iN w 0 3 ∧ iN s 0 3) then 1 else if ¬ S 11 (4 * ix w + ix s) = -1 then 2 else 0
def nLearn (S : ST) (w s : Int32) : ST := su S 11 (4 * ix w + ix s) (S 0 0)
def cntL (S : ST) (w : Nat) : Nat → Int32
  | 0 => 0
  | n + 1 => cntL S w n + (if S 11 (4 * w + n) = -1 then 0 else 1)
def tPass (S : ST) (n : Int32) : Int32 := if ¬ iN n 1 100 then 1 else if ¬ S 0 0 + n ≤ 5000 then 2 else 0
def clampD (v : Int32) : Int32 := if v < 0 then 0 else if 100 < v then 100 else v
/-- the damp of the first k papers is a day older -/
def ageK (S : ST) : Nat → ST
  | 0 => S
  | k + 1 => su (ageK S k) 7 k (clampD (ageK S k 7 k + ageK S k 8 k))
def ageN (S : ST) : Nat → ST
  | 0 => S
  | n + 1 => ageK (ageN S n) 3
theorem ageK_o (S : ST) (n k : Nat) (h : k ≠ 7) : ageK S n k = S k := by
  induction n with
  | zero => rfl
  | succ n ih => rw [ageK, su_o h, ih]
theorem ageN_o (S : ST) (n k : Nat) (h : k ≠ 7) : ageN S n k = S k := by
  induction n with
  | zero => rfl
  | succ n ih => rw [ageN, ageK_o _ _ _ h, ih]
def nPass (S : ST) (n : Int32) : ST := su (ageN S (ix n)) 0 0 (S 0 0 + n)
abbrev okDuel (a b j p : Int32) : Prop := iN a 0 7 ∧ iN b 0 7 ∧ iN j 0 3 ∧ iN p 0 2
def tDuel (S : ST) (a b j p r w : Int32) : Int32 := if ¬ okDuel a b j p then 1 else if ¬ (a ≠ b ∧ iN r 1 5 ∧ iN w 0 999) then 2 else if ¬ (0 < S 3 0 ∧ S 12 0 < 12) then 3 else 0
def nDuel (S : ST) (nd : Nat) (a b j p r w : Int32) : ST := su (su (su (su (su (su (su (su (su (su S 13 nd a) 14 nd b) 15 nd j) 16 nd (-1)) 17 nd p) 18 nd r) 19 nd w) 20 nd (S 3 0)) 21 nd (S 0 0)) 12 0 (nI (nd + 1))
abbrev isOv (S : ST) (i : Nat) : Prop := S 22 i = 2 * S 18 i
abbrev isDu (S : ST) (i : Int32) : Prop := iN i 0 (S 12 0 - 1)
def tHand (S : ST) (i s : Int32) : Int32 := if ¬ isDu S i then 1 else if ¬ iN s 0 999 then 2 else if ¬ (¬ isOv S (ix i) ∧ 0 < S 1 0 ∧ 0 < S 6 (ix (S 17 (ix i)))) then 3 else 0
def whoH (S : ST) (i : Nat) (h : Nat) : Int32 := if h % 2 = 0 then S 13 i else S 14 i
def remI (x y : Int32) : Int32 := x - x / y * y
def nHand (S : ST) (i p h d : Nat) (s : Int32) : ST :=
  let S1 := su S 6 p (S 6 p - 1)
  let S2 := su S1 9 0 (S 9 0 + 1)
  let S3 := cpS S2 27 2 (32 * (10 * i + h)) (4 * d)
  let S4 := su S3 23 (10 * i + h) (nI d)
  let S5 := su S4 24 (10 * i + h) (S 7 p)
  let S6 := su S5 25 (10 * i + h) (b01 (s ≠ remI (101 * whoH S i h + 37 * (S 9 0 + 1)) 1000))
  su (su S6 1 0 0) 22 i (nI (h + 1))
def ofI (o : Int32) : Nat := if o = 0 then 0 else 1
abbrev isHa (S : ST) (i r o : Int32) : Prop := isDu S i ∧ iN r 0 4 ∧ 2 * r + nI (ofI o) < S 22 (ix i)
def tLook (S : ST) (i r o : Int32) : Int32 := if ¬ isHa S i r o then 1 else 0
def wI (i r : Nat) (o : Int32) : Nat := 10 * i + 2 * r + ofI o
def nLook (S : ST) (i r o : Int32) : ST := su S 26 (wI (ix i) (ix r) o) (S 25 (wI (ix i) (ix r) o))
def promptI (S : ST) (i r : Nat) : Nat := (ix (S 19 i) + 17 * r) % ix (S 20 i)
theorem lit_0 : (0 : Int32) = nI 0 := rfl
def mDu (S : ST) (i : Nat) : Prop := rg (S 15 i) 0 3 ∧ (S 16 i = -1 ∨ rg (S 16 i) 0 3) ∧ rg (S 17 i) 0 2 ∧ rg (S 18 i) 1 5 ∧ rg (S 19 i) 0 999 ∧ rg (S 20 i) 1 6 ∧ rg (S 22 i) 0 10 ∧ (S 22 i).toInt ≤ 2 * (S 18 i).toInt
theorem rg_lo {v : Int32} {a b : Int} {hi : Int} (h : rg v a hi) (hab : b ≤ a) : rg v b hi := ⟨Int.le_trans hab h.1, h.2⟩
theorem mDu.i15 {S : ST} {i : Nat} (h : mDu S i) : S 15 i = nI (ix (S 15 i)) ∧ ix (S 15 i) ≤ 3 := rg_ix (n := 3) h.1
theorem mDu.i17 {S : ST} {i : Nat} (h : mDu S i) : S 17 i = nI (ix (S 17 i)) ∧ ix (S 17 i) ≤ 2 := rg_ix (n := 2) h.2.2.1
theorem mDu.i18 {S : ST} {i : Nat} (h : mDu S i) : S 18 i = nI (ix (S 18 i)) ∧ ix (S 18 i) ≤ 5 := rg_ix (n := 5) (rg_lo h.2.2.2.1 (by omega))
theorem mDu.i19 {S : ST} {i : Nat} (h : mDu S i) : S 19 i = nI (ix (S 19 i)) ∧ ix (S 19 i) ≤ 999 := rg_ix (n := 999) h.2.2.2.2.1
theorem mDu.i20 {S : ST} {i : Nat} (h : mDu S i) : S 20 i = nI (ix (S 20 i)) ∧ ix (S 20 i) ≤ 6 ∧ 1 ≤ ix (S 20 i) := by
  have h1 := rg_ix (n := 6) (rg_lo h.2.2.2.2.2.1 (by omega))
  have h2 := h.2.2.2.2.2.1.1
  rw [h1.1, nI_toInt (by omega)] at h2
  exact ⟨h1.1, h1.2, by omega⟩
theorem mDu.i22 {S : ST} {i : Nat} (h : mDu S i) : S 22 i = nI (ix (S 22 i)) ∧ ix (S 22 i) ≤ 2 * ix (S 18 i) := by
  have h1 := rg_ix (n := 10) h.2.2.2.2.2.2.1
  have h2 := h.i18
  have h3 := h.2.2.2.2.2.2.2
  rw [h1.1, h2.1, nI_toInt (by omega), nI_toInt (by omega)] at h3
  exact ⟨h1.1, by omega⟩
theorem mDu.ov {S : ST} {i : Nat} (h : mDu S i) : isOv S i ↔ ix (S 22 i) = 2 * ix (S 18 i) := by
  have h1 := h.i22
  have h2 := h.i18
  unfold isOv
  rw [h1.1, h2.1, lit_2, pk_mul, nI_eq (by omega) (by omega), ix_nI (by omega), ix_nI (by omega)]
theorem b01_vn {P : Prop} [Decidable P] : vp_nar .boolean (b01 P) = b01 P := by by_cases h : P <;> simp [b01, h] <;> rfl
theorem bit_vn {v : Int32} (h : v = 0 ∨ v = 1) : vp_nar .boolean v = v := by rcases h with rfl | rfl <;> rfl
theorem bit_nar {v : Int32} (h : v = 0 ∨ v = 1) : narrow .boolean (.int v) = .int v := by rcases h with rfl | rfl <;> rfl
/-- the abbreviation of a valid duel's number -/
theorem isDu_ix {S : ST} {nd : Nat} {i : Int32} (hn : S 12 0 = nI nd) (hd : nd ≤ 12) (h : isDu S i) : i = nI (ix i) ∧ ix i < nd := by
  unfold isDu at h
  rw [hn] at h
  exact iN_ix1 (by omega) h
theorem ix_lt {v : Int32} {n : Nat} (hn : n < 2 ^ 31) (h0 : 0 ≤ v) (h : v < nI n) : v = nI (ix v) ∧ ix v < n := by
  have h1 := Int32.le_iff_toInt_le.mp h0
  have h2 := Int32.lt_iff_toInt_lt.mp h
  rw [nI_toInt hn] at h2
  have e0 : (0 : Int32).toInt = 0 := rfl
  rw [e0] at h1
  have h3 := rg_ix (v := v) (n := n) ⟨h1, by omega⟩
  refine ⟨h3.1, ?_⟩
  rw [h3.1, nI_toInt (by omega)] at h2
  omega
abbrev okPrompt (S : ST) (i r : Int32) : Prop := isDu S i ∧ 0 ≤ r ∧ r < S 18 (ix i)
def tPrompt (S : ST) (i r : Int32) : Int32 := if ¬ okPrompt S i r then 1 else 0
def tPaper (its what : Int32) : Int32 := if ¬ iN its 0 2 then 1 else if ¬ iN what 0 1 then 2 else 0
def vPaper (S : ST) (its what : Int32) : Int32 := if what = 0 then S 6 (ix its) else S 7 (ix its)
