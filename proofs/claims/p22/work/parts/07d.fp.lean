/-! ===== nearness, slope, order, the mark of a stroke: values, and that nothing is a NaN ===== -/
def nearA (s : Int32) : UInt32 := FP.fsub 1092616192 (FP.fdiv (FP.i2f s) 1092616192)
def nearB (wet : Int32) : UInt32 := FP.fsub FP.fconst1 (FP.fdiv (FP.i2f wet) 1128792064)
def nearV (s wet : Int32) : UInt32 := FP.fmul (abF (nearA s)) (nearB wet)
theorem rg_abs {v : Int32} {m : Nat} (h : rg v (-(m : Int)) m) : v.toInt.natAbs ≤ m := by unfold rg at h; omega
theorem fl_rg {v : Int32} {m : Nat} (j K : Nat) (h : rg v (-(m : Int)) m) (hm : m ≤ 2 ^ j) (hK : j + 128 ≤ K) : fl (FP.i2f v) K := fl_i2f j K (Nat.le_trans (rg_abs h) hm) hK
theorem rg_m {v : Int32} {a b c d : Int} (h : rg v a b) (h1 : c ≤ a) (h2 : b ≤ d) : rg v c d := by unfold rg at *; omega
theorem near_1 {s : Int32} (h : rg s 0 396) : fl (FP.fdiv (FP.i2f s) 1092616192) 135 := fl_div 135 (fl_rg (m := 396) 9 137 (rg_m h (by omega) (by omega)) (by decide) (by decide)) fl_10 fg_10 (by decide)
theorem near_2 {s : Int32} (h : rg s 0 396) : fl (nearA s) 137 := fl_sub 137 fl_10 (near_1 h) (by decide)
theorem near_3 {w : Int32} (h : rg w 0 100) : fl (FP.fdiv (FP.i2f w) 1128792064) 129 := fl_div 129 (fl_rg (m := 100) 7 135 (rg_m h (by omega) (by omega)) (by decide) (by decide)) fl_200 fg_200 (by decide)
theorem near_4 {w : Int32} (h : rg w 0 100) : fl (nearB w) 131 := fl_sub 131 fl_1 (near_3 h) (by decide)
theorem near_5 {s w : Int32} (h : rg s 0 396) (hw : rg w 0 100) : fl (nearV s w) 142 := fl_mul 142 (ab_fl (near_2 h) (by decide)) (near_4 hw) (by decide)
theorem near_z0 : ∀ n, n < 397 → nearA (nI n) ≠ 2147483648 := by decide +kernel
theorem near_z {s : Int32} (h : rg s 0 396) : nearA s ≠ 2147483648 := by
  have h1 := rg_ix (n := 396) h
  rw [h1.1]
  exact near_z0 _ (by omega)
theorem near_cl {s : Int32} (h : rg s 0 396) : clF (nearA s) = abF (nearA s) := cl_ab (near_2 h) (by decide) (near_z h)
def slP (a b c d : Int32) : Int32 := a * c + b * d
def slN (a b : Int32) : Int32 := a * a + b * b
def slA (a b c d : Int32) : UInt32 := FP.fmul (FP.fdiv (FP.fdiv (FP.fmul (FP.i2f (slP a b c d)) (FP.i2f (amI (slP a b c d)))) (FP.i2f (slN a b))) (FP.i2f (slN c d))) 1092616192
def slopeV (a b c d : Int32) : UInt32 := abF (slA a b c d)
abbrev wayOk (a b : Int32) : Prop := rg a (-99) 99 ∧ rg b (-99) 99 ∧ ¬ (a = 0 ∧ b = 0)
theorem sl_p {a b c d : Int32} (h : wayOk a b) (k : wayOk c d) : rg (slP a b c d) (-19602) 19602 := by
  have h1 := rg_mul 99 99 h.1 k.1 (by decide)
  have h2 := rg_mul 99 99 h.2.1 k.2.1 (by decide)
  exact (rg_add h1.2 h2.2 (by decide)).2
theorem i32_0 {a : Int32} (h : a.toInt = 0) : a = 0 := Int32.toInt_inj.mp h
theorem sl_n {a b : Int32} (h : wayOk a b) : rg (slN a b) 1 19602 := by
  have h1 := rg_mul 99 99 h.1 h.1 (by decide)
  have h2 := rg_mul 99 99 h.2.1 h.2.1 (by decide)
  have h3 := rg_add h1.2 h2.2 (by decide)
  refine ⟨?_, h3.2.2⟩
  show 1 ≤ (a * a + b * b).toInt
  rw [h3.1, h1.1, h2.1]
  have n1 : 0 ≤ a.toInt * a.toInt := by
    rcases Int.le_total 0 a.toInt with z | z
    · exact Int.mul_nonneg z z
    · exact Int.mul_nonneg_of_nonpos_of_nonpos z z
  have n2 : 0 ≤ b.toInt * b.toInt := by
    rcases Int.le_total 0 b.toInt with z | z
    · exact Int.mul_nonneg z z
    · exact Int.mul_nonneg_of_nonpos_of_nonpos z z
  have n3 : ¬ (a.toInt * a.toInt = 0 ∧ b.toInt * b.toInt = 0) := fun z => by
    have e1 : a = 0 := i32_0 (by rcases Int.mul_eq_zero.mp z.1 with q | q <;> exact q)
    have e2 : b = 0 := i32_0 (by rcases Int.mul_eq_zero.mp z.2 with q | q <;> exact q)
    exact h.2.2 ⟨e1, e2⟩
  omega
theorem sl_f {v : Int32} (h : rg v (-19602) 19602) : fl (FP.i2f v) 143 := fl_rg (m := 19602) 15 143 (rg_m h (by omega) (by omega)) (by decide) (by decide)
theorem sl_am {a b c d : Int32} (h : wayOk a b) (k : wayOk c d) : rg (amI (slP a b c d)) (-19602) 19602 := rg_m (am_rg (m := 19602) (sl_p h k) (by decide)).2 (by omega) (by omega)
theorem sl_nf {a b : Int32} (h : wayOk a b) : fl (FP.i2f (slN a b)) 143 := sl_f (rg_m (sl_n h) (by omega) (by omega))
theorem sl_ng {a b : Int32} (h : wayOk a b) : fg (FP.i2f (slN a b)) 127 := fg_i2f (by have := sl_n h; unfold rg at this; omega)
theorem sl_1 {a b c d : Int32} (h : wayOk a b) (k : wayOk c d) : fl (FP.fmul (FP.i2f (slP a b c d)) (FP.i2f (amI (slP a b c d)))) 160 := fl_mul 160 (sl_f (sl_p h k)) (sl_f (sl_am h k)) (by decide)
theorem sl_2 {a b c d : Int32} (h : wayOk a b) (k : wayOk c d) : fl (FP.fdiv (FP.fmul (FP.i2f (slP a b c d)) (FP.i2f (amI (slP a b c d)))) (FP.i2f (slN a b))) 161 := fl_div 161 (sl_1 h k) (sl_nf h) (sl_ng h) (by decide)
theorem sl_3 {a b c d : Int32} (h : wayOk a b) (k : wayOk c d) : fl (FP.fdiv (FP.fdiv (FP.fmul (FP.i2f (slP a b c d)) (FP.i2f (amI (slP a b c d)))) (FP.i2f (slN a b))) (FP.i2f (slN c d))) 162 := fl_div 162 (sl_2 h k) (sl_nf k) (sl_ng k) (by decide)
theorem sl_4 {a b c d : Int32} (h : wayOk a b) (k : wayOk c d) : fl (slA a b c d) 167 := fl_mul 167 (sl_3 h k) fl_10 (by decide)
theorem sl_5 {a b c d : Int32} (h : wayOk a b) (k : wayOk c d) : fl (slopeV a b c d) 167 := ab_fl (sl_4 h k) (by decide)
theorem sl_z {a b c d : Int32} (h : wayOk a b) (k : wayOk c d) : slA a b c d ≠ 2147483648 := by
  by_cases hp : (slP a b c d).toInt = 0
  · have e : slP a b c d = 0 := i32_0 hp
    have nh := sl_n h
    have nk := sl_n k
    unfold rg at nh nk
    obtain ⟨-, c1, q1, e1, z1⟩ := i2f_pos (v := slN a b) (j := 15) (by omega) (by omega) (by decide)
    obtain ⟨-, c2, q2, e2, z2⟩ := i2f_pos (v := slN c d) (j := 15) (by omega) (by omega) (by decide)
    unfold slA
    rw [e, show FP.fmul (FP.i2f 0) (FP.i2f (amI 0)) = FP.fconst0 by decide, fdiv_0 e1 z1, fdiv_0 e2 z2]
    decide
  · have hm : (amI (slP a b c d)).toInt ≠ 0 := by
      have := (am_rg (m := 19602) (sl_p h k) (by decide)).1
      omega
    have g1 := fg_mul 127 (sl_f (sl_p h k)) (sl_f (sl_am h k)) (fg_i2f hp) (fg_i2f hm) (by decide)
    have g2 := fg_div 111 (sl_1 h k) (sl_nf h) g1 (sl_ng h) (by decide)
    have g3 := fg_div 95 (sl_2 h k) (sl_nf k) g2 (sl_ng k) (by decide)
    have g4 := fg_mul 98 (sl_3 h k) fl_10 g3 fg_10 (by decide)
    exact (fg_nz g4 (by decide)).1
theorem sl_cl {a b c d : Int32} (h : wayOk a b) (k : wayOk c d) : clF (slA a b c d) = slopeV a b c d := cl_ab (sl_4 h k) (by decide) (sl_z h k)
def ordV (s m : Int32) : UInt32 := if s = m then 1092616192 else FP.fconst0
theorem ord_fl (s m : Int32) : fl (ordV s m) 131 := by
  unfold ordV
  split
  · exact fl_10
  · exact fl_m fl_0 (by decide)
/-! the mark of a stroke by a style -/
def mk1 (w : Int32) (n : UInt32) : UInt32 := FP.fadd FP.fconst0 (FP.fmul (FP.i2f w) n)
def mk2 (w w1 : Int32) (n s : UInt32) : UInt32 := FP.fadd (mk1 w n) (FP.fmul (FP.i2f w1) s)
def mk3 (w w1 w2 : Int32) (n s o : UInt32) : UInt32 := FP.fadd (mk2 w w1 n s) (FP.fmul (FP.i2f w2) o)
def mkV (w w1 w2 : Int32) (n s o : UInt32) : UInt32 := FP.fdiv (mk3 w w1 w2 n s o) 1120403456
theorem w_fl {w : Int32} (h : rg w 0 100) : fl (FP.i2f w) 135 := fl_rg (m := 100) 7 135 (rg_m h (by omega) (by omega)) (by decide) (by decide)
theorem mk_a {w : Int32} {n : UInt32} (h : rg w 0 100) (hn : fl n 142) : fl (FP.fmul (FP.i2f w) n) 151 := fl_mul 151 (w_fl h) hn (by decide)
theorem mk_b {w : Int32} {n : UInt32} (h : rg w 0 100) (hn : fl n 142) : fl (mk1 w n) 153 := fl_add 153 fl_0 (mk_a h hn) (by decide)
theorem mk_c {w : Int32} {n : UInt32} (h : rg w 0 100) (hn : fl n 167) : fl (FP.fmul (FP.i2f w) n) 176 := fl_mul 176 (w_fl h) hn (by decide)
theorem mk_d {w w1 : Int32} {n s : UInt32} (h : rg w 0 100) (h1 : rg w1 0 100) (hn : fl n 142) (hs : fl s 167) : fl (mk2 w w1 n s) 178 := fl_add 178 (mk_b h hn) (mk_c h1 hs) (by decide)
theorem mk_e {w : Int32} {n : UInt32} (h : rg w 0 100) (hn : fl n 131) : fl (FP.fmul (FP.i2f w) n) 140 := fl_mul 140 (w_fl h) hn (by decide)
theorem mk_f {w w1 w2 : Int32} {n s o : UInt32} (h : rg w 0 100) (h1 : rg w1 0 100) (h2 : rg w2 0 100) (hn : fl n 142) (hs : fl s 167) (ho : fl o 131) : fl (mk3 w w1 w2 n s o) 180 := fl_add 180 (mk_d h h1 hn hs) (mk_e h2 ho) (by decide)
theorem mk_g {w w1 w2 : Int32} {n s o : UInt32} (h : rg w 0 100) (h1 : rg w1 0 100) (h2 : rg w2 0 100) (hn : fl n 142) (hs : fl s 167) (ho : fl o 131) : fl (mkV w w1 w2 n s o) 175 := fl_div 175 (mk_f h h1 h2 hn hs ho) fl_100 fg_100 (by decide)
