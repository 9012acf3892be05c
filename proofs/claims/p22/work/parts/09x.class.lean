
theorem inwX1_X8_init : ∀ w ∈ wsX10, w ∈ wsX8_init := fun w h => List.mem_cons_of_mem _ (List.mem_append_right _ h)
theorem inwX2_X8_init : ∀ w ∈ wsX20, w ∈ wsX8_init := fun w h => List.mem_cons_of_mem _ (List.mem_append_left _ (List.mem_append_left _ (List.mem_append_right _ h)))
theorem inwX5_X8_init : ∀ w ∈ wsX50, w ∈ wsX8_init := fun w h => List.mem_cons_of_mem _ (List.mem_append_left _ (List.mem_append_left _ (List.mem_append_left _ (List.mem_append_right _ h))))
theorem inwX6_X8_init : ∀ w ∈ wsX60, w ∈ wsX8_init := fun w h => List.mem_cons_of_mem _ (List.mem_append_left _ (List.mem_append_right _ h))
theorem inwX8_X8_init : ∀ w ∈ wsX80, w ∈ wsX8_init := fun w h => List.mem_cons_of_mem _ (List.mem_append_left _ (List.mem_append_left _ (List.mem_append_left _ (List.mem_append_left _ (List.mem_append_right _ h)))))


theorem gX8_init_X2_init : GoodIn wsX8_init wsX2_init := ggX8_init_X2_init
theorem gX8_init_X5_init : GoodIn wsX8_init wsX5_init := ggX8_init_X5_init
theorem gX8_init_X6_init : GoodIn wsX8_init wsX6_init := ggX8_init_X6_init

set_option maxHeartbeats 400000 in
set_option maxRecDepth 100000 in
theorem k_init (l : Launch) (D : va_G) (hst : l.stackTraces = false) (M : MH) (x : Nat) (Fx : M x = some (oB 8 dvX8)) : xT l D yX8_init wsX8_init ({ frames := 6, cells := 22, slots := 80, locals := 96 }) 22 80 [.ref x] (M) (fun v M' => v = none ∧ ∃ al, CRep M' x al S0 0 0 0) (fun _ _ => False) := by
  refine xT_ofI (cc := cX8_init) (maxL := 2) (ret := none) (own := RX8) hst [some (.ref x), none] (by decide) rfl rfl rfl (Nat.le_of_ble_eq_true rfl) rfl rfl rfl ?_
  intro X hXl hXD g r hinit t
  subst hXl
  subst hXD
  have inX8 : ∀ w ∈ wsX80, w ∈ wsX8_init := inwX8_X8_init
  have inX5 : ∀ w ∈ wsX50, w ∈ wsX8_init := inwX5_X8_init
  have inX2 : ∀ w ∈ wsX20, w ∈ wsX8_init := inwX2_X8_init
  have inX6 : ∀ w ∈ wsX60, w ∈ wsX8_init := inwX6_X8_init
  have inX1 : ∀ w ∈ wsX10, w ∈ wsX8_init := inwX1_X8_init
  refine j_aload_n (pc := 0) g 0 dX8_init_0 rfl rfl ?_
  refine j_objInit (pc := 1) g dX8_init_1 (by decide +kernel) (by decide +kernel) (by decide +kernel) (Nat.le_of_ble_eq_true rfl) (Nat.le_of_ble_eq_true rfl) ?_
  refine j_aload_n (pc := 4) g 0 dX8_init_4 rfl rfl ?_
  refine j_bipush (pc := 5) g (6) dX8_init_5 (by decide) ?_
  refine j_newq (pc := 7) (C := RX5) (tc := 5) g 6 dX8_init_7 (by decide +kernel) (by decide) rfl (by decide) (by decide) (by decide) (Nat.le_of_ble_eq_true rfl) (Nat.le_of_ble_eq_true rfl) (fun s0 hs0 => ?_)
  have Fx := xu_k (e' := aR 5 6 fun _ => none) hs0 Fx
  have Fs0 := new_s (e := aR 5 6 fun _ => none) hs0
  refine j_putF (pc := 10) g dX8_init_10 (Fx) rfl inX8 tyX8 tyX8_ok nmX8 0 (by decide) (by decide +kernel) rfl hinit rfl rfl rfl (rfl) (rfl) (Nat.le_of_ble_eq_true rfl) ?_
  have Fs0 := xu_o (e' := oB 8 [.ref s0, .null, .null, .null, .null, .null, .int 0, .int 0, .int 0, .int 0]) Fs0 Fx (by simp)
  have Fx := put_s (e' := oB 8 [.ref s0, .null, .null, .null, .null, .null, .int 0, .int 0, .int 0, .int 0]) Fx
  refine j_aload_n (pc := 13) g 0 dX8_init_13 rfl rfl ?_
  refine j_iconst (pc := 14) g (3) dX8_init_14 (by decide) ?_
  refine j_newq (pc := 15) (C := RX2) (tc := 2) g 3 dX8_init_15 (by decide +kernel) (by decide) rfl (by decide) (by decide) (by decide) (Nat.le_of_ble_eq_true rfl) (Nat.le_of_ble_eq_true rfl) (fun s1 hs1 => ?_)
  have Fs0 := xu_k (e' := aR 2 3 fun _ => none) hs1 Fs0
  have Fx := xu_k (e' := aR 2 3 fun _ => none) hs1 Fx
  have Fs1 := new_s (e := aR 2 3 fun _ => none) hs1
  refine j_putF (pc := 18) g dX8_init_18 (Fx) rfl inX8 tyX8 tyX8_ok nmX8 1 (by decide) (by decide +kernel) rfl hinit rfl rfl rfl (rfl) (rfl) (Nat.le_of_ble_eq_true rfl) ?_
  have Fs0 := xu_o (e' := oB 8 [.ref s0, .ref s1, .null, .null, .null, .null, .int 0, .int 0, .int 0, .int 0]) Fs0 Fx (by simp)
  have Fs1 := xu_o (e' := oB 8 [.ref s0, .ref s1, .null, .null, .null, .null, .int 0, .int 0, .int 0, .int 0]) Fs1 Fx (by simp)
  have Fx := put_s (e' := oB 8 [.ref s0, .ref s1, .null, .null, .null, .null, .int 0, .int 0, .int 0, .int 0]) Fx
  refine j_aload_n (pc := 21) g 0 dX8_init_21 rfl rfl ?_
  refine j_iconst (pc := 22) g (4) dX8_init_22 (by decide) ?_
  refine j_newq (pc := 23) (C := RX6) (tc := 6) g 4 dX8_init_23 (by decide +kernel) (by decide) rfl (by decide) (by decide) (by decide) (Nat.le_of_ble_eq_true rfl) (Nat.le_of_ble_eq_true rfl) (fun s2 hs2 => ?_)
  have Fs0 := xu_k (e' := aR 6 4 fun _ => none) hs2 Fs0
  have Fs1 := xu_k (e' := aR 6 4 fun _ => none) hs2 Fs1
  have Fx := xu_k (e' := aR 6 4 fun _ => none) hs2 Fx
  have Fs2 := new_s (e := aR 6 4 fun _ => none) hs2
  refine j_putF (pc := 26) g dX8_init_26 (Fx) rfl inX8 tyX8 tyX8_ok nmX8 2 (by decide) (by decide +kernel) rfl hinit rfl rfl rfl (rfl) (rfl) (Nat.le_of_ble_eq_true rfl) ?_
  have Fs0 := xu_o (e' := oB 8 [.ref s0, .ref s1, .ref s2, .null, .null, .null, .int 0, .int 0, .int 0, .int 0]) Fs0 Fx (by simp)
  have Fs1 := xu_o (e' := oB 8 [.ref s0, .ref s1, .ref s2, .null, .null, .null, .int 0, .int 0, .int 0, .int 0]) Fs1 Fx (by simp)
  have Fs2 := xu_o (e' := oB 8 [.ref s0, .ref s1, .ref s2, .null, .null, .null, .int 0, .int 0, .int 0, .int 0]) Fs2 Fx (by simp)
  have Fx := put_s (e' := oB 8 [.ref s0, .ref s1, .ref s2, .null, .null, .null, .int 0, .int 0, .int 0, .int 0]) Fx
  refine j_aload_n (pc := 29) g 0 dX8_init_29 rfl rfl ?_
  refine j_iconst (pc := 30) g (4) dX8_init_30 (by decide) ?_
  refine j_newq (pc := 31) (C := RX1) (tc := 1) g 4 dX8_init_31 (by decide +kernel) (by decide) rfl (by decide) (by decide) (by decide) (Nat.le_of_ble_eq_true rfl) (Nat.le_of_ble_eq_true rfl) (fun s3 hs3 => ?_)
  have Fs0 := xu_k (e' := aR 1 4 fun _ => none) hs3 Fs0
  have Fs1 := xu_k (e' := aR 1 4 fun _ => none) hs3 Fs1
  have Fs2 := xu_k (e' := aR 1 4 fun _ => none) hs3 Fs2
  have Fx := xu_k (e' := aR 1 4 fun _ => none) hs3 Fx
  have Fs3 := new_s (e := aR 1 4 fun _ => none) hs3
  refine j_putF (pc := 34) g dX8_init_34 (Fx) rfl inX8 tyX8 tyX8_ok nmX8 3 (by decide) (by decide +kernel) rfl hinit rfl rfl rfl (rfl) (rfl) (Nat.le_of_ble_eq_true rfl) ?_
  have Fs0 := xu_o (e' := oB 8 [.ref s0, .ref s1, .ref s2, .ref s3, .null, .null, .int 0, .int 0, .int 0, .int 0]) Fs0 Fx (by simp)
  have Fs1 := xu_o (e' := oB 8 [.ref s0, .ref s1, .ref s2, .ref s3, .null, .null, .int 0, .int 0, .int 0, .int 0]) Fs1 Fx (by simp)
  have Fs2 := xu_o (e' := oB 8 [.ref s0, .ref s1, .ref s2, .ref s3, .null, .null, .int 0, .int 0, .int 0, .int 0]) Fs2 Fx (by simp)
  have Fs3 := xu_o (e' := oB 8 [.ref s0, .ref s1, .ref s2, .ref s3, .null, .null, .int 0, .int 0, .int 0, .int 0]) Fs3 Fx (by simp)
  have Fx := put_s (e' := oB 8 [.ref s0, .ref s1, .ref s2, .ref s3, .null, .null, .int 0, .int 0, .int 0, .int 0]) Fx
  refine j_aload_n (pc := 37) g 0 dX8_init_37 rfl rfl ?_
  refine j_bipush (pc := 38) g (12) dX8_init_38 (by decide) ?_
  refine j_newq (pc := 40) (C := RX0) (tc := 0) g 12 dX8_init_40 (by decide +kernel) (by decide) rfl (by decide) (by decide) (by decide) (Nat.le_of_ble_eq_true rfl) (Nat.le_of_ble_eq_true rfl) (fun s4 hs4 => ?_)
  have Fs0 := xu_k (e' := aR 0 12 fun _ => none) hs4 Fs0
  have Fs1 := xu_k (e' := aR 0 12 fun _ => none) hs4 Fs1
  have Fs2 := xu_k (e' := aR 0 12 fun _ => none) hs4 Fs2
  have Fs3 := xu_k (e' := aR 0 12 fun _ => none) hs4 Fs3
  have Fx := xu_k (e' := aR 0 12 fun _ => none) hs4 Fx
  have Fs4 := new_s (e := aR 0 12 fun _ => none) hs4
  refine j_putF (pc := 43) g dX8_init_43 (Fx) rfl inX8 tyX8 tyX8_ok nmX8 4 (by decide) (by decide +kernel) rfl hinit rfl rfl rfl (rfl) (rfl) (Nat.le_of_ble_eq_true rfl) ?_
  have Fs0 := xu_o (e' := oB 8 [.ref s0, .ref s1, .ref s2, .ref s3, .ref s4, .null, .int 0, .int 0, .int 0, .int 0]) Fs0 Fx (by simp)
  have Fs1 := xu_o (e' := oB 8 [.ref s0, .ref s1, .ref s2, .ref s3, .ref s4, .null, .int 0, .int 0, .int 0, .int 0]) Fs1 Fx (by simp)
  have Fs2 := xu_o (e' := oB 8 [.ref s0, .ref s1, .ref s2, .ref s3, .ref s4, .null, .int 0, .int 0, .int 0, .int 0]) Fs2 Fx (by simp)
  have Fs3 := xu_o (e' := oB 8 [.ref s0, .ref s1, .ref s2, .ref s3, .ref s4, .null, .int 0, .int 0, .int 0, .int 0]) Fs3 Fx (by simp)
  have Fs4 := xu_o (e' := oB 8 [.ref s0, .ref s1, .ref s2, .ref s3, .ref s4, .null, .int 0, .int 0, .int 0, .int 0]) Fs4 Fx (by simp)
  have Fx := put_s (e' := oB 8 [.ref s0, .ref s1, .ref s2, .ref s3, .ref s4, .null, .int 0, .int 0, .int 0, .int 0]) Fx
  refine j_aload_n (pc := 46) g 0 dX8_init_46 rfl rfl ?_
  refine j_new (pc := 47) (ci := 5) g dvX5 dX8_init_47 inX5 tyX5 tyX5_ok (by decide +kernel) (by decide +kernel) (by decide +kernel) rfl dfX5 (Nat.le_of_ble_eq_true rfl) (Nat.le_of_ble_eq_true rfl) (fun dr hdr => ?_)
  have Fs0 := xu_k (e' := oB 5 dvX5) hdr Fs0
  have Fs1 := xu_k (e' := oB 5 dvX5) hdr Fs1
  have Fs2 := xu_k (e' := oB 5 dvX5) hdr Fs2
  have Fs3 := xu_k (e' := oB 5 dvX5) hdr Fs3
  have Fs4 := xu_k (e' := oB 5 dvX5) hdr Fs4
  have Fx := xu_k (e' := oB 5 dvX5) hdr Fx
  have Fdr := new_s (e := oB 5 dvX5) hdr
  refine j_dup (pc := 50) g dX8_init_50 rfl ?_
  refine j_callIN (pc := 51) (n := 0) g t "InkRing" (by decide +kernel) (by decide +kernel) (by decide +kernel) rfl (c_sInit (jl X) (jD X) _ dr Fdr) dX8_init_51 gX8_init_X5_init rfl rfl rfl rfl ⟨by decide, by decide, by decide +kernel⟩ ⟨Nat.le_of_ble_eq_true rfl, Nat.le_of_ble_eq_true rfl⟩ ⟨Nat.le_of_ble_eq_true rfl, Nat.le_of_ble_eq_true rfl⟩ rfl (Nat.le_of_ble_eq_true rfl) (fun v M1 hp => ?_)
  obtain ⟨rfl, da, hda, rfl⟩ := hp
  have Fs0 := xu_k (e' := aR 4 8 fun _ => none) hda Fs0
  have Fs1 := xu_k (e' := aR 4 8 fun _ => none) hda Fs1
  have Fs2 := xu_k (e' := aR 4 8 fun _ => none) hda Fs2
  have Fs3 := xu_k (e' := aR 4 8 fun _ => none) hda Fs3
  have Fs4 := xu_k (e' := aR 4 8 fun _ => none) hda Fs4
  have Fx := xu_k (e' := aR 4 8 fun _ => none) hda Fx
  have Fdr := xu_k (e' := aR 4 8 fun _ => none) hda Fdr
  have Fda := new_s (e := aR 4 8 fun _ => none) hda
  have Fs0 := xu_o (e' := oB 5 [.ref da, .int 0]) Fs0 Fdr (by simp [dvX5])
  have Fs1 := xu_o (e' := oB 5 [.ref da, .int 0]) Fs1 Fdr (by simp [dvX5])
  have Fs2 := xu_o (e' := oB 5 [.ref da, .int 0]) Fs2 Fdr (by simp [dvX5])
  have Fs3 := xu_o (e' := oB 5 [.ref da, .int 0]) Fs3 Fdr (by simp [dvX5])
  have Fs4 := xu_o (e' := oB 5 [.ref da, .int 0]) Fs4 Fdr (by simp [dvX5])
  have Fda := xu_o (e' := oB 5 [.ref da, .int 0]) Fda Fdr (by simp [dvX5])
  have Fx := xu_o (e' := oB 5 [.ref da, .int 0]) Fx Fdr (by simp [dvX5])
  have Fdr := put_s (e' := oB 5 [.ref da, .int 0]) Fdr
  refine j_put (pc := 54) g dX8_init_54 (Fx) rfl inX8 tyX8 tyX8_ok nmX8 5 (by decide) (by decide +kernel) rfl rfl rfl (rfl) (rfl) (Nat.le_of_ble_eq_true rfl) ?_
  have Fs0 := xu_o (e' := oB 8 [.ref s0, .ref s1, .ref s2, .ref s3, .ref s4, .ref dr, .int 0, .int 0, .int 0, .int 0]) Fs0 Fx (by simp)
  have Fs1 := xu_o (e' := oB 8 [.ref s0, .ref s1, .ref s2, .ref s3, .ref s4, .ref dr, .int 0, .int 0, .int 0, .int 0]) Fs1 Fx (by simp)
  have Fs2 := xu_o (e' := oB 8 [.ref s0, .ref s1, .ref s2, .ref s3, .ref s4, .ref dr, .int 0, .int 0, .int 0, .int 0]) Fs2 Fx (by simp)
  have Fs3 := xu_o (e' := oB 8 [.ref s0, .ref s1, .ref s2, .ref s3, .ref s4, .ref dr, .int 0, .int 0, .int 0, .int 0]) Fs3 Fx (by simp)
  have Fs4 := xu_o (e' := oB 8 [.ref s0, .ref s1, .ref s2, .ref s3, .ref s4, .ref dr, .int 0, .int 0, .int 0, .int 0]) Fs4 Fx (by simp)
  have Fda := xu_o (e' := oB 8 [.ref s0, .ref s1, .ref s2, .ref s3, .ref s4, .ref dr, .int 0, .int 0, .int 0, .int 0]) Fda Fx (by simp)
  have Fdr := xu_o (e' := oB 8 [.ref s0, .ref s1, .ref s2, .ref s3, .ref s4, .ref dr, .int 0, .int 0, .int 0, .int 0]) Fdr Fx (by simp)
  have Fx := put_s (e' := oB 8 [.ref s0, .ref s1, .ref s2, .ref s3, .ref s4, .ref dr, .int 0, .int 0, .int 0, .int 0]) Fx
  refine j_iconst (pc := 57) g (0) dX8_init_57 (by decide) ?_
  refine istore_n_2_1 (pc := 58) g dX8_init_58 ?_
  have L59 : ∀ (n : Nat) (k : Nat) (M2 : MH) (cc ss : Nat) (g1 : Nat → Nat) (hk : k + n = 3) (hcc : cc = 7 + k * 1) (hss : ss = 39 + k * 3) (hC : cIni M2 x s0 s1 s2 s3 s4 dr da g1 (fun _ => 0) (fun _ => 0) (fun _ => 0) k 0 0), J X 2 cc ss (M2) [some (.ref x), some (.int (nI k))] [] 59 := by
    intro n
    induction n with
    | zero =>
      intro k M2 cc ss g1 hk hcc hss hC
      have hkN : k = 3 := by omega
      subst hkN
      refine j_iload_n (pc := 59) g 1 dX8_init_59 rfl rfl ?_
      refine j_aload_n (pc := 60) g 0 dX8_init_60 rfl rfl ?_
      refine j_get (pc := 61) g dX8_init_61 (hC.1.1) rfl inX8 1 (by decide) (by decide +kernel) rfl rfl ?_
      refine j_alen (pc := 64) g (nI 3) dX8_init_64 (hC.2.1.1) rfl ?_
      refine j_icmp_ge (pc := 65) g 87 dX8_init_65 (by decide) (fun c65 => ?_) (fun c65 => absurd (by decide) c65)
      refine j_iconst (pc := 87) g (0) dX8_init_87 (by decide) ?_
      refine istore_n_2_1 (pc := 88) g dX8_init_88 ?_
      have L89 : ∀ (n : Nat) (k : Nat) (M2 : MH) (cc ss : Nat) (g1 : Nat → Nat) (g2 : Nat → Nat) (hk : k + n = 4) (hcc : cc = 10 + k * 1) (hss : ss = 48 + k * 3) (hC : cIni M2 x s0 s1 s2 s3 s4 dr da g1 g2 (fun _ => 0) (fun _ => 0) 3 k 0), J X 2 cc ss (M2) [some (.ref x), some (.int (nI k))] [] 89 := by
        intro n
        induction n with
        | zero =>
          intro k M2 cc ss g1 g2 hk hcc hss hC
          have hkN : k = 4 := by omega
          subst hkN
          refine j_iload_n (pc := 89) g 1 dX8_init_89 rfl rfl ?_
          refine j_aload_n (pc := 90) g 0 dX8_init_90 rfl rfl ?_
          refine j_get (pc := 91) g dX8_init_91 (hC.1.1) rfl inX8 2 (by decide) (by decide +kernel) rfl rfl ?_
          refine j_alen (pc := 94) g (nI 4) dX8_init_94 (hC.2.2.1.1) rfl ?_
          refine j_icmp_ge (pc := 95) g 117 dX8_init_95 (by decide) (fun c95 => ?_) (fun c95 => absurd (by decide) c95)
          refine j_iconst (pc := 117) g (0) dX8_init_117 (by decide) ?_
          refine istore_n_2_1 (pc := 118) g dX8_init_118 ?_
          have L119 : ∀ (n : Nat) (k : Nat) (M2 : MH) (cc ss : Nat) (g1 : Nat → Nat) (g2 : Nat → Nat) (g3 : Nat → Nat) (g4 : Nat → Nat) (hk : k + n = 4) (hcc : cc = 14 + k * 2) (hss : ss = 60 + k * 5) (hC : cIni M2 x s0 s1 s2 s3 s4 dr da g1 g2 g3 g4 3 4 k), J X 2 cc ss (M2) [some (.ref x), some (.int (nI k))] [] 119 := by
            intro n
            induction n with
            | zero =>
              intro k M2 cc ss g1 g2 g3 g4 hk hcc hss hC
              have hkN : k = 4 := by omega
              subst hkN
              refine j_iload_n (pc := 119) g 1 dX8_init_119 rfl rfl ?_
              refine j_aload_n (pc := 120) g 0 dX8_init_120 rfl rfl ?_
              refine j_get (pc := 121) g dX8_init_121 (hC.1.1) rfl inX8 3 (by decide) (by decide +kernel) rfl rfl ?_
              refine j_alen (pc := 124) g (nI 4) dX8_init_124 (hC.2.2.2.1) rfl ?_
              refine j_icmp_ge (pc := 125) g 147 dX8_init_125 (by decide) (fun c125 => ?_) (fun c125 => absurd (by decide) c125)
              exact j_vret (pc := 147) g r rfl  (⟨rfl, hC.rep⟩) dX8_init_147 (by omega) (by omega)
            | succ n ih =>
              intro k M2 cc ss g1 g2 g3 g4 hk hcc hss hC
              refine j_iload_n (pc := 119) g 1 dX8_init_119 rfl rfl ?_
              refine j_aload_n (pc := 120) g 0 dX8_init_120 rfl rfl ?_
              refine j_get (pc := 121) g dX8_init_121 (hC.1.1) rfl inX8 3 (by decide) (by decide +kernel) rfl rfl ?_
              refine j_alen (pc := 124) g (nI 4) dX8_init_124 (hC.2.2.2.1) rfl ?_
              refine j_icmp_ge (pc := 125) g 147 dX8_init_125 (by decide) (fun c125 => absurd c125 (nI_ge (by omega) (by omega))) (fun c125 => ?_)
              refine j_aload_n (pc := 128) g 0 dX8_init_128 rfl rfl ?_
              refine j_get (pc := 129) g dX8_init_129 (hC.1.1) rfl inX8 3 (by decide) (by decide +kernel) rfl rfl ?_
              refine j_iload_n (pc := 132) g 1 dX8_init_132 rfl rfl ?_
              refine j_new (pc := 133) (ci := 1) g dvX1 dX8_init_133 inX1 tyX1 tyX1_ok (by decide +kernel) (by decide +kernel) (by decide +kernel) rfl dfX1 (by show _ ≤ 22; omega) (by show _ ≤ 80; omega) (fun q hq => ?_)
              refine j_dup (pc := 136) g dX8_init_136 rfl ?_
              refine j_callI (pc := 137) (ret := none) (n := 0) g (by decide +kernel) (by decide +kernel) (by decide +kernel) rfl (c_jInit (jl X) (jD X) _ q (xu_s _ _ _)) dX8_init_137 gX8_init_X1_init rfl rfl rfl rfl ⟨by decide, by decide, by decide +kernel⟩ ⟨Nat.le_of_ble_eq_true rfl, Nat.le_of_ble_eq_true rfl⟩ ⟨by show _ ≤ 22; omega, by show _ ≤ 80; omega⟩ rfl (Nat.le_of_ble_eq_true rfl) (fun v M1 hp => ?_)
              obtain ⟨rfl, a, f, ha, hf, rfl⟩ := hp
              refine j_aast (pc := 140) g dX8_init_140 (by rw [xu_n (fun z => by rw [← z, hC.2.2.2.1] at hq; exact absurd hq (by simp))]; exact xu_k ha (xu_k hq hC.2.2.2.1)) (xu_s _ _ _) rfl rfl (vp_in_nI (by omega) (by omega)) ?_
              rw [nI_clamp (by omega : k < 2 ^ 31)]
              refine iinc_2_1_1 (pc := 141) g dX8_init_141 ?_
              refine j_goto (pc := 144) g 119 dX8_init_144 (by decide) ?_
              exact (by have q9 := ih (k + 1) _ (cc + 2) (ss + 5) _ _ _ _ (by omega) (by omega) (by omega) (hC.jud hq ha hf); rw [← nI_1 k] at q9; exact q9)
          exact L119 4 0 _ _ _ _ _ _ _ rfl (by omega) (by omega) hC
        | succ n ih =>
          intro k M2 cc ss g1 g2 hk hcc hss hC
          refine j_iload_n (pc := 89) g 1 dX8_init_89 rfl rfl ?_
          refine j_aload_n (pc := 90) g 0 dX8_init_90 rfl rfl ?_
          refine j_get (pc := 91) g dX8_init_91 (hC.1.1) rfl inX8 2 (by decide) (by decide +kernel) rfl rfl ?_
          refine j_alen (pc := 94) g (nI 4) dX8_init_94 (hC.2.2.1.1) rfl ?_
          refine j_icmp_ge (pc := 95) g 117 dX8_init_95 (by decide) (fun c95 => absurd c95 (nI_ge (by omega) (by omega))) (fun c95 => ?_)
          refine j_aload_n (pc := 98) g 0 dX8_init_98 rfl rfl ?_
          refine j_get (pc := 99) g dX8_init_99 (hC.1.1) rfl inX8 2 (by decide) (by decide +kernel) rfl rfl ?_
          refine j_iload_n (pc := 102) g 1 dX8_init_102 rfl rfl ?_
          refine j_new (pc := 103) (ci := 6) g dvX6 dX8_init_103 inX6 tyX6 tyX6_ok (by decide +kernel) (by decide +kernel) (by decide +kernel) rfl dfX6 (by show _ ≤ 22; omega) (by show _ ≤ 80; omega) (fun q hq => ?_)
          refine j_dup (pc := 106) g dX8_init_106 rfl ?_
          refine j_callIN (pc := 107) (n := 0) g t "InkRing" (by decide +kernel) (by decide +kernel) (by decide +kernel) rfl (c_yInit (jl X) (jD X) _ q) dX8_init_107 gX8_init_X6_init rfl rfl rfl rfl ⟨by decide, by decide, by decide +kernel⟩ ⟨Nat.le_of_ble_eq_true rfl, Nat.le_of_ble_eq_true rfl⟩ ⟨by show _ ≤ 22; omega, by show _ ≤ 80; omega⟩ rfl (Nat.le_of_ble_eq_true rfl) (fun v M1 hp => ?_)
          obtain ⟨rfl, rfl⟩ := hp
          refine j_aast (pc := 110) g dX8_init_110 (xu_k hq hC.2.2.1.1) (xu_s _ _ _) rfl rfl (vp_in_nI (by omega) (by omega)) ?_
          rw [nI_clamp (by omega : k < 2 ^ 31)]
          refine iinc_2_1_1 (pc := 111) g dX8_init_111 ?_
          refine j_goto (pc := 114) g 89 dX8_init_114 (by decide) ?_
          exact (by have q9 := ih (k + 1) _ (cc + 1) (ss + 3) _ _ (by omega) (by omega) (by omega) (hC.sty hq); rw [← nI_1 k] at q9; exact q9)
      exact L89 4 0 _ _ _ _ _ rfl (by omega) (by omega) hC
    | succ n ih =>
      intro k M2 cc ss g1 hk hcc hss hC
      refine j_iload_n (pc := 59) g 1 dX8_init_59 rfl rfl ?_
      refine j_aload_n (pc := 60) g 0 dX8_init_60 rfl rfl ?_
      refine j_get (pc := 61) g dX8_init_61 (hC.1.1) rfl inX8 1 (by decide) (by decide +kernel) rfl rfl ?_
      refine j_alen (pc := 64) g (nI 3) dX8_init_64 (hC.2.1.1) rfl ?_
      refine j_icmp_ge (pc := 65) g 87 dX8_init_65 (by decide) (fun c65 => absurd c65 (nI_ge (by omega) (by omega))) (fun c65 => ?_)
      refine j_aload_n (pc := 68) g 0 dX8_init_68 rfl rfl ?_
      refine j_get (pc := 69) g dX8_init_69 (hC.1.1) rfl inX8 1 (by decide) (by decide +kernel) rfl rfl ?_
      refine j_iload_n (pc := 72) g 1 dX8_init_72 rfl rfl ?_
      refine j_new (pc := 73) (ci := 2) g dvX2 dX8_init_73 inX2 tyX2 tyX2_ok (by decide +kernel) (by decide +kernel) (by decide +kernel) rfl dfX2 (by show _ ≤ 22; omega) (by show _ ≤ 80; omega) (fun q hq => ?_)
      refine j_dup (pc := 76) g dX8_init_76 rfl ?_
      refine j_callIN (pc := 77) (n := 0) g t "InkRing" (by decide +kernel) (by decide +kernel) (by decide +kernel) rfl (c_pInit (jl X) (jD X) _ q) dX8_init_77 gX8_init_X2_init rfl rfl rfl rfl ⟨by decide, by decide, by decide +kernel⟩ ⟨Nat.le_of_ble_eq_true rfl, Nat.le_of_ble_eq_true rfl⟩ ⟨by show _ ≤ 22; omega, by show _ ≤ 80; omega⟩ rfl (Nat.le_of_ble_eq_true rfl) (fun v M1 hp => ?_)
      obtain ⟨rfl, rfl⟩ := hp
      refine j_aast (pc := 80) g dX8_init_80 (xu_k hq hC.2.1.1) (xu_s _ _ _) rfl rfl (vp_in_nI (by omega) (by omega)) ?_
      rw [nI_clamp (by omega : k < 2 ^ 31)]
      refine iinc_2_1_1 (pc := 81) g dX8_init_81 ?_
      refine j_goto (pc := 84) g 59 dX8_init_84 (by decide) ?_
      exact (by have q9 := ih (k + 1) _ (cc + 1) (ss + 3) _ (by omega) (by omega) (by omega) (hC.pap hq); rw [← nI_1 k] at q9; exact q9)
  exact L59 3 0 _ _ _ (fun _ => 0) rfl rfl rfl ⟨⟨Fx, Fs0, Fs4, Fdr, Fda⟩, ⟨by rw [rowF_0]; exact Fs1, fun i hi => absurd hi (by omega), fun i j hi _ _ => absurd hi (by omega)⟩, ⟨by rw [rowF_0]; exact Fs2, fun i hi => absurd hi (by omega), fun i j hi _ _ => absurd hi (by omega)⟩, ⟨by rw [rowF_0]; exact Fs3, fun i hi => absurd hi (by omega), fun i j hi _ _ => absurd hi (by omega)⟩⟩
