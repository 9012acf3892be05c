/-! ===== marks: what the reference finds ===== -/
abbrev okC (S : ST) (k p : Nat) : Prop := rg (S k p) 0 99 ∧ rg (S k (p + 1)) 0 99 ∧ rg (S k (p + 2)) 0 99 ∧ rg (S k (p + 3)) 0 99 ∧ ¬ (S k p = S k (p + 2) ∧ S k (p + 1) = S k (p + 3))
def dsum (S : ST) (k f t : Nat) : Nat → Int32
  | 0 => 0
  | i + 1 => dsum S k f t i + amI (S k (f + i) - S 5 (t + i))
theorem okC_i {S : ST} {k p : Nat} (h : okC S k p) : ∀ i, i < 4 → rg (S k (p + i)) 0 99
  | 0, _ => h.1
  | 1, _ => h.2.1
  | 2, _ => h.2.2.1
  | 3, _ => h.2.2.2.1
  | n + 4, h => by omega
theorem dsum_rg {S : ST} {k f t : Nat} (h1 : okC S k f) (h2 : okC S 5 t) : ∀ i, i ≤ 4 → rg (dsum S k f t i) 0 (99 * i)
  | 0, _ => by
    show 0 ≤ (0 : Int32).toInt ∧ (0 : Int32).toInt ≤ 99 * ((0 : Nat) : Int)
    decide
  | i + 1, h => by
    have a := dsum_rg h1 h2 i (by omega)
    have b := am_rg (m := 99) (rg_sub (okC_i h1 i (by omega)) (okC_i h2 i (by omega)) (by decide)).2 (by decide)
    have c := (rg_add a b.2 (by omega)).2
    unfold dsum
    exact rg_m c (by omega) (by omega)
def nearS (S : ST) (k f t : Nat) (wet : Int32) : UInt32 := nearV (dsum S k f t 4) wet
def slopeS (S : ST) (k f t : Nat) : UInt32 := slopeV (S k (f + 2) - S k f) (S k (f + 3) - S k (f + 1)) (S 5 (t + 2) - S 5 t) (S 5 (t + 3) - S 5 (t + 1))
theorem i32_sub0 {x y : Int32} (h : x - y = 0) : x = y := by
  have : x - y + y = 0 + y := by rw [h]
  rwa [Int32.sub_add_cancel, Int32.zero_add] at this
theorem okC_way {S : ST} {k p : Nat} (h : okC S k p) : wayOk (S k (p + 2) - S k p) (S k (p + 3) - S k (p + 1)) :=
  ⟨(rg_sub h.2.2.1 h.1 (by decide)).2, (rg_sub h.2.2.2.1 h.2.1 (by decide)).2, fun z => h.2.2.2.2 ⟨(i32_sub0 z.1).symm, (i32_sub0 z.2).symm⟩⟩
theorem nearS_fl {S : ST} {k f t : Nat} {wet : Int32} (h1 : okC S k f) (h2 : okC S 5 t) (hw : rg wet 0 100) : fl (nearS S k f t wet) 142 := near_5 (dsum_rg h1 h2 4 (by decide)) hw
theorem slopeS_fl {S : ST} {k f t : Nat} (h1 : okC S k f) (h2 : okC S 5 t) : fl (slopeS S k f t) 167 := sl_5 (okC_way h1) (okC_way h2)
def strokeM (S : ST) (k f s g y mn : Nat) (wet : Int32) (i : Nat) : UInt32 := mkV (S 10 (3 * y)) (S 10 (3 * y + 1)) (S 10 (3 * y + 2)) (nearS S k (f + 4 * i) (24 * g + 4 * i) wet) (slopeS S k (f + 4 * i) (24 * g + 4 * i)) (ordV (nI s) (nI mn))
def sumS (S : ST) (k f s g y mn : Nat) (wet : Int32) : Nat → UInt32
  | 0 => FP.fconst0
  | i + 1 => FP.fadd (sumS S k f s g y mn wet i) (strokeM S k f s g y mn wet i)
def markS (S : ST) (k f s g y mn : Nat) (wet : Int32) : UInt32 := FP.fdiv (sumS S k f s g y mn wet (min s mn)) (FP.i2f (nI mn))
def mWt (S : ST) : Prop := ∀ j, j < 12 → rg (S 10 j) 0 100
theorem strokeM_fl {S : ST} {k f s g y mn : Nat} {wet : Int32} {i : Nat} (hw : mWt S) (hy : y < 4) (h1 : okC S k (f + 4 * i)) (h2 : okC S 5 (24 * g + 4 * i)) (hwet : rg wet 0 100) : fl (strokeM S k f s g y mn wet i) 175 :=
  mk_g (hw _ (by omega)) (hw _ (by omega)) (hw _ (by omega)) (nearS_fl h1 h2 hwet) (slopeS_fl h1 h2) (ord_fl _ _)
theorem sumS_fl {S : ST} {k f s g y mn : Nat} {wet : Int32} (hw : mWt S) (hy : y < 4) (hwet : rg wet 0 100) : ∀ n, n ≤ 6 → (∀ i, i < n → okC S k (f + 4 * i) ∧ okC S 5 (24 * g + 4 * i)) → fl (sumS S k f s g y mn wet n) (175 + 2 * n)
  | 0, _, _ => fl_m fl_0 (by decide)
  | n + 1, h, ho => by
    have a := sumS_fl hw hy hwet n (by omega) (fun i hi => ho i (by omega)) (mn := mn) (s := s)
    have b := strokeM_fl (s := s) (mn := mn) hw hy (ho n (by omega)).1 (ho n (by omega)).2 hwet
    exact fl_add (175 + 2 * (n + 1)) a b (by omega)
theorem markS_fl {S : ST} {k f s g y mn : Nat} {wet : Int32} (hw : mWt S) (hy : y < 4) (hwet : rg wet 0 100) (hm : 1 ≤ mn) (hm6 : mn ≤ 6) (ho : ∀ i, i < min s mn → okC S k (f + 4 * i) ∧ okC S 5 (24 * g + 4 * i)) : fl (markS S k f s g y mn wet) 188 := by
  have a := sumS_fl (mn := mn) (s := s) hw hy hwet (min s mn) (by omega) ho
  exact fl_div 188 (fl_m a (show 175 + 2 * min s mn ≤ 187 by omega)) (fl_nI (j := 3) (K := 131) (by omega) (by decide) (by decide)) (fg_nI (by omega) (by omega)) (by decide)
def mWr (S : ST) (w : Nat) : Prop := rg (S 23 w) 1 8 ∧ rg (S 24 w) 0 100 ∧ ∀ i, i < ix (S 23 w) → okC S 27 (32 * w + 4 * i)
def mSg (S : ST) (g : Nat) : Prop := rg (S 4 g) 1 6 ∧ ∀ i, i < ix (S 4 g) → okC S 5 (24 * g + 4 * i)
def mHd (S : ST) (ns i : Nat) : Prop := mDu S i ∧ (S 20 i).toInt ≤ ns ∧ ∀ j, j < ix (S 22 i) → mWr S (10 * i + j)
def mMK (S : ST) (ns : Nat) : Prop := mWt S ∧ ns ≤ 6 ∧ ∀ g, g < ns → mSg S g
theorem mWr.i23 {S : ST} {w : Nat} (h : mWr S w) : S 23 w = nI (ix (S 23 w)) ∧ ix (S 23 w) ≤ 8 := rg_ix (n := 8) (rg_lo h.1 (by decide))
theorem mSg.i4 {S : ST} {g : Nat} (h : mSg S g) : S 4 g = nI (ix (S 4 g)) ∧ ix (S 4 g) ≤ 6 ∧ 1 ≤ ix (S 4 g) := by
  have h1 := rg_ix (n := 6) (rg_lo h.1 (by decide))
  have h2 := h.1.1
  rw [h1.1, nI_toInt (by omega)] at h2
  exact ⟨h1.1, h1.2, by omega⟩
theorem promptI_lt {S : ST} {ns i r : Nat} (h : mHd S ns i) : promptI S i r < ns := by
  have h1 := h.1.i20
  have h2 := h.2.1
  rw [h1.1, nI_toInt (by omega)] at h2
  exact Nat.lt_of_lt_of_le (Nat.mod_lt _ (by omega)) (by omega)
def maxF (a b : UInt32) : UInt32 := if Op.cmpValue (FP.fcmp a b) .l ≤ 0 then b else a
abbrev knS (S : ST) (i j y : Nat) : Prop := ¬ S 11 (4 * j + y) = -1 ∧ S 11 (4 * j + y) ≤ S 21 i
def wMark (S : ST) (i w y : Nat) : UInt32 := markS S 27 (32 * w) (ix (S 23 w)) (promptI S i (w % 10 / 2)) y (ix (S 4 (promptI S i (w % 10 / 2)))) (S 24 w)
def byJS (S : ST) (i w j : Nat) : Nat → UInt32
  | 0 => FP.fconst0
  | y + 1 => if knS S i j y then maxF (wMark S i w y) (byJS S i w j y) else byJS S i w j y
theorem wMark_fl {S : ST} {ns i h y : Nat} (hq : mHd S ns i) (hk : mMK S ns) (hh : h < ix (S 22 i)) (hy : y < 4) : fl (wMark S i (10 * i + h) y) 188 := by
  have h1 := hq.2.2 h hh
  have hp := promptI_lt (r := (10 * i + h) % 10 / 2) hq
  have h2 := hk.2.2 _ hp
  have h3 := h2.i4
  exact markS_fl hk.1 hy h1.2.1 h3.2.2 h3.2.1 (fun q hq => ⟨h1.2.2 q (by omega), h2.2 q (by omega)⟩)
theorem maxF_fl {a b : UInt32} {K : Nat} (ha : fl a K) (hb : fl b K) : fl (maxF a b) K := by
  unfold maxF
  split
  · exact hb
  · exact ha
theorem byJS_fl {S : ST} {ns i h j : Nat} (hq : mHd S ns i) (hk : mMK S ns) (hh : h < ix (S 22 i)) : ∀ n, n ≤ 4 → fl (byJS S i (10 * i + h) j n) 188
  | 0, _ => fl_m fl_0 (by decide)
  | y + 1, hy => by
    unfold byJS
    split
    · exact maxF_fl (wMark_fl hq hk hh (by omega)) (byJS_fl hq hk hh y (by omega))
    · exact byJS_fl hq hk hh y (by omega)
def allS (S : ST) (i w : Nat) : UInt32 := if S 16 i = -1 then byJS S i w (ix (S 15 i)) 4 else FP.fdiv (FP.fadd (byJS S i w (ix (S 15 i)) 4) (byJS S i w (ix (S 16 i)) 4)) FP.fconst2
theorem allS_fl {S : ST} {ns i h : Nat} (hq : mHd S ns i) (hk : mMK S ns) (hh : h < ix (S 22 i)) : fl (allS S i (10 * i + h)) 190 := by
  unfold allS
  split
  · exact fl_m (byJS_fl hq hk hh 4 (by decide)) (by decide)
  · exact fl_div 190 (fl_add 190 (byJS_fl hq hk hh 4 (by decide)) (byJS_fl hq hk hh 4 (by decide)) (by decide)) fl_2 fg_2 (by decide)
def gtF (a b : UInt32) : Prop := ¬ Op.cmpValue (FP.fcmp a b) .l ≤ 0
/-- who has a round -/
def rtS (S : ST) (i r : Nat) : Int32 :=
  if S 22 i ≤ nI (2 * r + 1) then 0
  else if S 26 (10 * i + 2 * r) ≠ 0 ∨ S 26 (10 * i + 2 * r + 1) ≠ 0 then (if S 26 (10 * i + 2 * r) ≠ 0 then (if S 26 (10 * i + 2 * r + 1) ≠ 0 then 0 else 2) else 1)
  else if Op.cmpValue (FP.fcmp (allS S i (10 * i + 2 * r)) (allS S i (10 * i + (2 * r + 1)))) .l ≤ 0 then (if Op.cmpValue (FP.fcmp (allS S i (10 * i + (2 * r + 1))) (allS S i (10 * i + 2 * r))) .l ≤ 0 then 0 else 2) else 1
def rsS (S : ST) (i : Nat) (who : Int32) : Nat → Int32
  | 0 => 0
  | r + 1 => rsS S i who r + (if rtS S i r = who then 1 else 0)
def wnS (S : ST) (i : Nat) : Int32 :=
  if ¬ isOv S i then -1
  else if 0 < rsS S i 1 (ix (S 18 i)) - rsS S i 2 (ix (S 18 i)) then S 13 i
  else if rsS S i 1 (ix (S 18 i)) - rsS S i 2 (ix (S 18 i)) < 0 then S 14 i
  else -1
def cntW (S : ST) (wr : Int32) : Nat → Int32
  | 0 => 0
  | k + 1 => cntW S wr k + (if wnS S k = wr then 1 else 0)
theorem byJS_n1 {S : ST} {i w j y : Nat} (h : S 11 (4 * j + y) = -1) : byJS S i w j (y + 1) = byJS S i w j y := by rw [byJS, if_neg (fun z => z.1 h)]
theorem byJS_n2 {S : ST} {i w j y : Nat} (h : S 21 i < S 11 (4 * j + y)) : byJS S i w j (y + 1) = byJS S i w j y := by rw [byJS, if_neg (fun z => absurd z.2 (Int32.not_le.mpr h))]
theorem byJS_p1 {S : ST} {i w j y : Nat} (h : ¬ S 11 (4 * j + y) = -1) (h2 : ¬ S 21 i < S 11 (4 * j + y)) (h3 : Op.cmpValue (FP.fcmp (wMark S i w y) (byJS S i w j y)) .l ≤ 0) : byJS S i w j (y + 1) = byJS S i w j y := by rw [byJS, if_pos ⟨h, Int32.not_lt.mp h2⟩, maxF, if_pos h3]
theorem byJS_p2 {S : ST} {i w j y : Nat} (h : ¬ S 11 (4 * j + y) = -1) (h2 : ¬ S 21 i < S 11 (4 * j + y)) (h3 : ¬ Op.cmpValue (FP.fcmp (wMark S i w y) (byJS S i w j y)) .l ≤ 0) : byJS S i w j (y + 1) = wMark S i w y := by rw [byJS, if_pos ⟨h, Int32.not_lt.mp h2⟩, maxF, if_neg h3]
theorem mHd_16 {S : ST} {ns i : Nat} {v : Int32} (h : mHd S ns i) (hv : rg v 0 3) : mHd (su S 16 i v) ns i :=
  ⟨⟨h.1.1, Or.inr (by rw [su_s]; exact hv), h.1.2.2⟩, h.2⟩
abbrev okAp (S : ST) (i w : Int32) : Prop := isDu S i ∧ iN w 0 3
def tAppeal (S : ST) (i w : Int32) : Int32 := if ¬ okAp S i w then 1 else if ¬ (isOv S (ix i) ∧ S 16 (ix i) = -1 ∧ S 15 (ix i) ≠ w) then 2 else 0
def nAppeal (S : ST) (i w : Int32) : ST := su S 16 (ix i) w
def mAnsF (t : Int32) (v : UInt32) : UInt32 := if t = 0 then v else FP.fconst0
abbrev isSi (S : ST) (k : Int32) : Prop := iN k 0 (S 3 0 - 1)
def tMark (S : ST) (g y : Int32) : Int32 := if ¬ (isSi S g ∧ iN y 0 3) then 1 else 0
abbrev okPart (S : ST) (g k : Int32) : Prop := isSi S g ∧ iN k 0 (S 1 0 - 1) ∧ k < S 4 (ix g)
def tPart (S : ST) (g k w : Int32) : Int32 := if ¬ okPart S g k then 1 else if ¬ iN w 0 2 then 2 else 0
def vPart (S : ST) (g k w : Int32) : UInt32 := if w = 0 then nearS S 2 (4 * ix k) (24 * ix g + 4 * ix k) 0 else if w = 1 then slopeS S 2 (4 * ix k) (24 * ix g + 4 * ix k) else ordV (S 1 0) (S 4 (ix g))
def tMarked (S : ST) (i r o : Int32) : Int32 := if ¬ isHa S i r o then 1 else 0
def tOf (S : ST) (i w : Int32) : Int32 := if ¬ isDu S i then 1 else if ¬ iN w 0 5 then 2 else 0
def vOf (S : ST) (i : Nat) (w : Int32) : Int32 := if w = 0 then S 22 i else if w = 1 ∨ w = 2 then rsS S i w (ix (S 18 i)) else if w = 3 then wnS S i else if w = 4 then S 21 i else S 16 i
def tWon (w : Int32) : Int32 := if ¬ iN w 0 7 then 1 else 0
theorem isSi_ix {S : ST} {ns : Nat} {i : Int32} (hn : S 3 0 = nI ns) (hd : ns ≤ 6) (h : isSi S i) : i = nI (ix i) ∧ ix i < ns := by
  unfold isSi at h
  rw [hn] at h
  exact iN_ix1 (by omega) h
theorem i5_cases {w : Int32} (h : iN w 0 5) : w = 0 ∨ w = 1 ∨ w = 2 ∨ w = 3 ∨ w = 4 ∨ w = 5 := by
  have h1 := iN_ix (n := 5) (by omega) h
  rw [h1.1]
  have h2 := h1.2
  generalize ix w = k at h2 ⊢
  match k, h2 with
  | 0, _ => exact Or.inl rfl
  | 1, _ => exact Or.inr (Or.inl rfl)
  | 2, _ => exact Or.inr (Or.inr (Or.inl rfl))
  | 3, _ => exact Or.inr (Or.inr (Or.inr (Or.inl rfl)))
  | 4, _ => exact Or.inr (Or.inr (Or.inr (Or.inr (Or.inl rfl))))
  | 5, _ => exact Or.inr (Or.inr (Or.inr (Or.inr (Or.inr rfl))))
  | n + 6, h => omega
