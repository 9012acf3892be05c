/-! ===== marks: at most thirty and a little ===== -/
/-- 30 and a 512th, k times -/
def kM (k : Nat) : UInt32 := match k with
  | 0 => 0
  | 1 => 1106248704 | 2 => 1114637312 | 3 => 1119093504 | 4 => 1123025920 | 5 => 1125515904 | _ => 1127482112
theorem kM_ok : ∀ k, k ≤ 6 → f0 (kM k) ∧ zn (kM k) = k * (15361 * 2 ^ 140) := by
  intro k hk
  have h0 : ∀ x : UInt32, x.toNat % 2 ^ 31 < 255 * 2 ^ 23 → FP.Core.FFin x := fun x h => fl_fin (K := 255) h (by decide)
  match k, hk with
  | 0, _ => exact ⟨⟨z_0.1, Int.le_of_eq z_0.2.symm⟩, by decide +kernel⟩
  | 1, _ => exact ⟨⟨h0 _ (by decide), by decide +kernel⟩, by decide +kernel⟩
  | 2, _ => exact ⟨⟨h0 _ (by decide), by decide +kernel⟩, by decide +kernel⟩
  | 3, _ => exact ⟨⟨h0 _ (by decide), by decide +kernel⟩, by decide +kernel⟩
  | 4, _ => exact ⟨⟨h0 _ (by decide), by decide +kernel⟩, by decide +kernel⟩
  | 5, _ => exact ⟨⟨h0 _ (by decide), by decide +kernel⟩, by decide +kernel⟩
  | 6, _ => exact ⟨⟨h0 _ (by decide), by decide +kernel⟩, by decide +kernel⟩
  | n + 7, h => omega
theorem w_fb {w : Int32} (h : rg w 0 100) : fb (FP.i2f w) 1120403456 := by
  unfold rg at h
  have h1 := i2f_0 h.1 (by omega)
  refine fb_of h1.1 h1.2 (by decide +kernel) ?_
  rw [zn_i2f h.1 (by omega), show zn 1120403456 = 100 * 2 ^ 149 by decide +kernel]
  exact Nat.mul_le_mul_right _ (by omega)
theorem kf {x : UInt32} (h : x.toNat % 2 ^ 31 < 255 * 2 ^ 23) (h2 : 0 ≤ zv x) : f0 x := ⟨fl_fin (K := 255) h (by decide), h2⟩
theorem mkV_fb {w w1 w2 : Int32} {n s o : UInt32} (h : rg w 0 100) (h1 : rg w1 0 100) (h2 : rg w2 0 100) (hn : fb n 1092616192) (hs : fb s 1092617241) (ho : fb o 1092616192) (ln : fl n 142) (ls : fl s 167) (lo : fl o 131) : fb (mkV w w1 w2 n s o) (kM 1) := by
  have m1 : fb (FP.fmul (FP.i2f w) n) 1148846080 := fb_mul (w_fb h) hn (mk_a h ln) (by decide) (kf (by decide) (by decide +kernel)) (by decide +kernel)
  have m2 : fb (FP.fmul (FP.i2f w1) s) 1148848128 := fb_mul (w_fb h1) hs (mk_c h1 ls) (by decide) (kf (by decide) (by decide +kernel)) (by decide +kernel)
  have m3 : fb (FP.fmul (FP.i2f w2) o) 1148846080 := fb_mul (w_fb h2) ho (mk_e h2 lo) (by decide) (kf (by decide) (by decide +kernel)) (by decide +kernel)
  have a1 : fb (mk1 w n) 1148846080 := fb_add (A := FP.fconst0) ⟨z_0.1, Int.le_of_eq z_0.2.symm, Int.le_refl _⟩ m1 (mk_b h ln) (by decide) (kf (by decide) (by decide +kernel)).1 (by decide +kernel)
  have a2 : fb (mk2 w w1 n s) 1157235712 := fb_add a1 m2 (mk_d h h1 ln ls) (by decide) (kf (by decide) (by decide +kernel)).1 (by decide +kernel)
  have a3 : fb (mk3 w w1 w2 n s o) 1161527808 := fb_add a2 m3 (mk_f h h1 h2 ln ls lo) (by decide) (kf (by decide) (by decide +kernel)).1 (by decide +kernel)
  exact fb_div a3 (kf (by decide) (by decide +kernel)) (by decide +kernel) (mk_g h h1 h2 ln ls lo) (by decide) (kM_ok 1 (by decide)).1 (by decide +kernel)
theorem strokeM_fb {S : ST} {k f s g y mn : Nat} {wet : Int32} {i : Nat} (hw : mWt S) (hy : y < 4) (h1 : okC S k (f + 4 * i)) (h2 : okC S 5 (24 * g + 4 * i)) (hwet : rg wet 0 100) : fb (strokeM S k f s g y mn wet i) (kM 1) :=
  mkV_fb (hw _ (by omega)) (hw _ (by omega)) (hw _ (by omega)) (near_fb (dsum_rg h1 h2 4 (by decide)) hwet) (slope_fb (okC_way h1) (okC_way h2)) (ord_fb _ _) (nearS_fl h1 h2 hwet) (slopeS_fl h1 h2) (ord_fl _ _)
theorem kM_ar (n T : Nat) : ((n * T : Nat) : Int) + ((1 * T : Nat) : Int) ≤ (((n + 1) * T : Nat) : Int) := by
  rw [Nat.add_mul, Nat.one_mul]
  omega
theorem kM_add {n : Nat} (h : n + 1 ≤ 6) : zv (kM n) + zv (kM 1) ≤ zv (kM (n + 1)) := by
  have a := kM_ok n (by omega)
  have b := kM_ok 1 (by omega)
  have c := kM_ok (n + 1) h
  rw [zv_zn a.1.2, zv_zn b.1.2, zv_zn c.1.2, a.2, b.2, c.2]
  exact kM_ar n (15361 * 2 ^ 140)
theorem sumS_fb {S : ST} {k f s g y mn : Nat} {wet : Int32} (hw : mWt S) (hy : y < 4) (hwet : rg wet 0 100) : ∀ n, n ≤ 6 → (∀ i, i < n → okC S k (f + 4 * i) ∧ okC S 5 (24 * g + 4 * i)) → fb (sumS S k f s g y mn wet n) (kM n)
  | 0, _, _ => ⟨z_0.1, Int.le_of_eq z_0.2.symm, Int.le_refl _⟩
  | n + 1, h, ho => by
    have a := sumS_fb hw hy hwet n (by omega) (fun i hi => ho i (by omega)) (mn := mn) (s := s)
    have b := strokeM_fb (s := s) (mn := mn) hw hy (ho n (by omega)).1 (ho n (by omega)).2 hwet
    exact fb_add a b (sumS_fl (mn := mn) (s := s) hw hy hwet (n + 1) h ho) (by omega) (kM_ok _ h).1.1 (kM_add h)
theorem markS_fb {S : ST} {k f s g y mn : Nat} {wet : Int32} (hw : mWt S) (hy : y < 4) (hwet : rg wet 0 100) (hm : 1 ≤ mn) (hm6 : mn ≤ 6) (ho : ∀ i, i < min s mn → okC S k (f + 4 * i) ∧ okC S 5 (24 * g + 4 * i)) : fb (markS S k f s g y mn wet) (kM 1) := by
  have a := sumS_fb (mn := mn) (s := s) hw hy hwet (min s mn) (by omega) ho
  have e : (nI mn).toInt = (mn : Int) := nI_toInt (by omega)
  have e2 : zn (FP.i2f (nI mn)) = mn * 2 ^ 149 := by
    rw [zn_i2f (by rw [e]; omega) (by rw [e]; omega), e]
    rfl
  refine fb_div a (i2f_0 (by rw [e]; omega) (by rw [e]; omega)) (by rw [e2]; exact Nat.mul_ne_zero (by omega) (by decide)) (markS_fl hw hy hwet hm hm6 ho) (by decide) (kM_ok 1 (by decide)).1 ?_
  rw [e2, (kM_ok _ (show min s mn ≤ 6 by omega)).2, (kM_ok 1 (by decide)).2, Nat.one_mul]
  calc min s mn * (15361 * 2 ^ 140) * 2 ^ 149 ≤ mn * (15361 * 2 ^ 140) * 2 ^ 149 := Nat.mul_le_mul_right _ (Nat.mul_le_mul_right _ (Nat.min_le_right _ _))
    _ = 15361 * 2 ^ 140 * (mn * 2 ^ 149) := by ac_rfl
theorem wMark_fb {S : ST} {ns i h y : Nat} (hq : mHd S ns i) (hk : mMK S ns) (hh : h < ix (S 22 i)) (hy : y < 4) : fb (wMark S i (10 * i + h) y) (kM 1) := by
  have h1 := hq.2.2 h hh
  have hp := promptI_lt (r := (10 * i + h) % 10 / 2) hq
  have h2 := hk.2.2 _ hp
  have h3 := h2.i4
  exact markS_fb hk.1 hy h1.2.1 h3.2.2 h3.2.1 (fun q hq => ⟨h1.2.2 q (by omega), h2.2 q (by omega)⟩)
theorem maxF_fb {a b V : UInt32} (ha : fb a V) (hb : fb b V) : fb (maxF a b) V := by
  unfold maxF
  split
  · exact hb
  · exact ha
theorem byJS_fb {S : ST} {ns i h j : Nat} (hq : mHd S ns i) (hk : mMK S ns) (hh : h < ix (S 22 i)) : ∀ n, n ≤ 4 → fb (byJS S i (10 * i + h) j n) (kM 1)
  | 0, _ => ⟨z_0.1, Int.le_of_eq z_0.2.symm, by show zv FP.fconst0 ≤ zv (kM 1); decide +kernel⟩
  | y + 1, hy => by
    unfold byJS
    split
    · exact maxF_fb (wMark_fb hq hk hh (by omega)) (byJS_fb hq hk hh y (by omega))
    · exact byJS_fb hq hk hh y (by omega)
theorem allS_fb {S : ST} {ns i h : Nat} (hq : mHd S ns i) (hk : mMK S ns) (hh : h < ix (S 22 i)) : fb (allS S i (10 * i + h)) (kM 1) := by
  unfold allS
  split
  · exact byJS_fb hq hk hh 4 (by decide)
  · have a : ∀ j, fb (byJS S i (10 * i + h) j 4) (kM 1) := fun j => byJS_fb hq hk hh 4 (by decide)
    have b := fb_add (a (ix (S 15 i))) (a (ix (S 16 i))) (fl_add 190 (byJS_fl hq hk hh 4 (by decide)) (byJS_fl hq hk hh 4 (by decide)) (by decide)) (by decide) (kM_ok 2 (by decide)).1.1 (kM_add (n := 1) (by decide))
    exact fb_div b (kf (by decide) (by decide +kernel)) (by decide +kernel) (fl_div 190 (fl_add 190 (byJS_fl hq hk hh 4 (by decide)) (byJS_fl hq hk hh 4 (by decide)) (by decide)) fl_2 fg_2 (by decide)) (by decide) (kM_ok 1 (by decide)).1 (by decide +kernel)
