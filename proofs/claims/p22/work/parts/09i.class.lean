
theorem inwX0_X0_drawPrompts : ∀ w ∈ wsX00, w ∈ wsX0_drawPrompts := fun w h => List.mem_cons_of_mem _ (List.mem_append_right _ h)
theorem inwX0_X0_init : ∀ w ∈ wsX00, w ∈ wsX0_init := fun w h => List.mem_cons_of_mem _ (List.mem_append_right _ h)


set_option maxHeartbeats 400000 in
set_option maxRecDepth 100000 in
theorem c_drawPrompts (l : Launch) (D : va_G) (M : MH) (x dr sn R : Nat) (one other judge paper day rounds : Int32) (p w : Nat) (handed second : Int32) (hx : M x = some (dlC one other judge paper day rounds p w handed second)) (hR : rounds = nI R) (hR5 : R ≤ 5) (hd : dr ≤ 999) (hn : 1 ≤ sn) (hn6 : sn ≤ 6) (f0 : Nat → Int32) (hp : M p = some (aI 5 f0)) : xC l D yX0_drawPrompts wsX0_drawPrompts ({ frames := 0, cells := 0, slots := 0, locals := 0 }) 0 0 [.ref x, .int (nI dr), .int (nI sn)] (M) (fun v M' => v = none ∧ ∃ f, (∀ r, r < 5 → f r = prV dr sn R r) ∧ M' = xu M p (aI 5 f)) := by
  refine xC_of (cc := cX0_drawPrompts) (maxL := 4) (ret := none) (own := RX0) [some (.ref x), some (.int (nI dr)), some (.int (nI sn)), none] (by decide) rfl rfl (Nat.le_of_ble_eq_true rfl) rfl rfl rfl ?_
  intro X hXl hXD g r
  subst hXl
  subst hXD
  have inX0 : ∀ w ∈ wsX00, w ∈ wsX0_drawPrompts := inwX0_X0_drawPrompts
  subst hR
  have hm0 : xu M p (aI 5 f0) = M := by
      funext q
      unfold xu
      split
      · rename_i h9; rw [h9, hp]
      · rfl
  refine j_iconst (pc := 0) g (0) dX0_drawPrompts_0 (by decide) ?_
  refine istore_n_4_3 (pc := 1) g dX0_drawPrompts_1 ?_
  have L2 : ∀ (n : Nat) (k : Nat) (f : Nat → Int32) (hk : k + n = 5) (hf : ∀ y, y < k → f y = prV dr sn R y), J X 4 0 0 (xu M p (aI 5 f)) [some (.ref x), some (.int (nI dr)), some (.int (nI sn)), some (.int (nI k))] [] 2 := by
    intro n
    induction n with
    | zero =>
      intro k f hk hf
      have hk6 : k = 5 := by omega
      subst hk6
      have hx2 : xu M p (aI 5 f) x = some (dlC one other judge paper day (nI R) p w handed second) := xu_o hx hp (by simp [dlC])
      refine j_iload_n (pc := 2) g 3 dX0_drawPrompts_2 rfl rfl ?_
      refine j_aload_n (pc := 3) g 0 dX0_drawPrompts_3 rfl rfl ?_
      refine j_get (pc := 4) g dX0_drawPrompts_4 (hx2) rfl inX0 6 (by decide) (by decide +kernel) rfl rfl ?_
      refine j_alen (pc := 7) g (nI 5) dX0_drawPrompts_7 (xu_s _ _ _) rfl ?_
      refine j_icmp_ge (pc := 8) g 47 dX0_drawPrompts_8 (by decide) (fun c8 => ?_) (fun c8 => absurd (by decide) c8)
      exact j_vret (pc := 47) g r rfl  (⟨rfl, f, hf, rfl⟩) dX0_drawPrompts_47 (Nat.le_of_ble_eq_true rfl) (Nat.le_of_ble_eq_true rfl)
    | succ n ih =>
      intro k f hk hf
      have hx2 : xu M p (aI 5 f) x = some (dlC one other judge paper day (nI R) p w handed second) := xu_o hx hp (by simp [dlC])
      refine j_iload_n (pc := 2) g 3 dX0_drawPrompts_2 rfl rfl ?_
      refine j_aload_n (pc := 3) g 0 dX0_drawPrompts_3 rfl rfl ?_
      refine j_get (pc := 4) g dX0_drawPrompts_4 (hx2) rfl inX0 6 (by decide) (by decide +kernel) rfl rfl ?_
      refine j_alen (pc := 7) g (nI 5) dX0_drawPrompts_7 (xu_s _ _ _) rfl ?_
      refine j_icmp_ge (pc := 8) g 47 dX0_drawPrompts_8 (by decide) (fun c8 => absurd c8 (nI_ge (by omega) (by omega))) (fun c8 => ?_)
      refine j_aload_n (pc := 11) g 0 dX0_drawPrompts_11 rfl rfl ?_
      refine j_get (pc := 12) g dX0_drawPrompts_12 (hx2) rfl inX0 6 (by decide) (by decide +kernel) rfl rfl ?_
      refine j_iload_n (pc := 15) g 3 dX0_drawPrompts_15 rfl rfl ?_
      refine j_iload_n (pc := 16) g 3 dX0_drawPrompts_16 rfl rfl ?_
      refine j_aload_n (pc := 17) g 0 dX0_drawPrompts_17 rfl rfl ?_
      refine j_get (pc := 18) g dX0_drawPrompts_18 (hx2) rfl inX0 5 (by decide) (by decide +kernel) rfl rfl ?_
      refine j_icmp_ge (pc := 21) g 39 dX0_drawPrompts_21 (by decide) (fun c21 => ?_) (fun c21 => ?_)
      · refine j_iconst (pc := 39) g (-1) dX0_drawPrompts_39 (by decide) ?_
        refine j_topi (prV dr sn R k) (by unfold prV; first | (rw [if_pos ((nI_ltI (by omega) (by omega)).mp (Int32.not_le.mp c21)), ← pk_rem (by omega) (by omega) (by omega), ← lx_a rfl (lx_m 17 rfl)]; rfl) | (rw [if_neg (fun z => absurd c21 (nI_ge z (by omega)))])) ?_
        refine j_iast (pc := 40) g dX0_drawPrompts_40 (xu_s _ _ _) (vp_in_nI (by omega) (by omega)) ?_
        rw [nI_clamp (by omega : k < 2 ^ 31), xu_xu]
        refine iinc_4_3_1 (pc := 41) g dX0_drawPrompts_41 ?_
        refine j_goto (pc := 44) g 2 dX0_drawPrompts_44 (by decide) ?_
        exact (by have q9 := ih (k + 1) (upd f k (prV dr sn R k)) (by omega) (fun y hy => by unfold upd; by_cases hyk : y = k <;> simp [hyk]; exact hf y (by omega)); rw [← nI_1 k] at q9; exact q9)
      · refine j_iload_n (pc := 24) g 2 dX0_drawPrompts_24 rfl rfl ?_
        refine j_if_le (pc := 25) g 39 dX0_drawPrompts_25 (by decide) (fun c25 => absurd c25 (nI_nle (by omega) (by omega))) (fun c25 => ?_)
        refine j_iload_n (pc := 28) g 1 dX0_drawPrompts_28 rfl rfl ?_
        refine j_bipush (pc := 29) g (17) dX0_drawPrompts_29 (by decide) ?_
        refine j_iload_n (pc := 31) g 3 dX0_drawPrompts_31 rfl rfl ?_
        refine j_imul (pc := 32) g dX0_drawPrompts_32 ?_
        refine j_iadd (pc := 33) g dX0_drawPrompts_33 ?_
        refine j_iload_n (pc := 34) g 2 dX0_drawPrompts_34 rfl rfl ?_
        refine j_irem (pc := 35) g dX0_drawPrompts_35 (nI_ne0 (by omega) (by omega)) ?_
        refine j_goto (pc := 36) g 40 dX0_drawPrompts_36 (by decide) ?_
        refine j_topi (prV dr sn R k) (by unfold prV; first | (rw [if_pos ((nI_ltI (by omega) (by omega)).mp (Int32.not_le.mp c21)), ← pk_rem (by omega) (by omega) (by omega), ← lx_a rfl (lx_m 17 rfl)]; rfl) | (rw [if_neg (fun z => absurd c21 (nI_ge z (by omega)))])) ?_
        refine j_iast (pc := 40) g dX0_drawPrompts_40 (xu_s _ _ _) (vp_in_nI (by omega) (by omega)) ?_
        rw [nI_clamp (by omega : k < 2 ^ 31), xu_xu]
        refine iinc_4_3_1 (pc := 41) g dX0_drawPrompts_41 ?_
        refine j_goto (pc := 44) g 2 dX0_drawPrompts_44 (by decide) ?_
        exact (by have q9 := ih (k + 1) (upd f k (prV dr sn R k)) (by omega) (fun y hy => by unfold upd; by_cases hyk : y = k <;> simp [hyk]; exact hf y (by omega)); rw [← nI_1 k] at q9; exact q9)
  exact (by have q9 := L2 5 0 f0 rfl (fun y hy => absurd hy (by omega)); rw [hm0] at q9; exact q9)

set_option maxHeartbeats 400000 in
set_option maxRecDepth 100000 in
theorem c_dInit (l : Launch) (D : va_G) (M : MH) (x : Nat) (hx : M x = some (oB 0 dvX0)) (one other judge paper rounds day : Int32) : xC l D yX0_init wsX0_init ({ frames := 1, cells := 2, slots := 15, locals := 24 }) 2 15 [.ref x, .int one, .int other, .int judge, .int paper, .int rounds, .int day] (M) (fun v M' => v = none ∧ ∃ p w, M p = none ∧ M w = none ∧ p ≠ w ∧ M' = xu (xu (xu M p (aI 5 fun _ => 0)) w (aR 7 10 fun _ => none)) x (dlC one other judge paper day rounds p w 0 (-1))) := by
  refine xC_ofI (cc := cX0_init) (maxL := 7) (ret := none) (own := RX0) [some (.ref x), some (.int one), some (.int other), some (.int judge), some (.int paper), some (.int rounds), some (.int day)] (by decide) rfl rfl rfl (Nat.le_of_ble_eq_true rfl) rfl rfl rfl ?_
  intro X hXl hXD g r hinit
  subst hXl
  subst hXD
  have inX0 : ∀ w ∈ wsX00, w ∈ wsX0_init := inwX0_X0_init
  refine j_aload_n (pc := 0) g 0 dX0_init_0 rfl rfl ?_
  refine j_objInit (pc := 1) g dX0_init_1 (by decide +kernel) (by decide +kernel) (by decide +kernel) (Nat.le_of_ble_eq_true rfl) (Nat.le_of_ble_eq_true rfl) ?_
  refine j_aload_n (pc := 4) g 0 dX0_init_4 rfl rfl ?_
  refine j_iconst (pc := 5) g (5) dX0_init_5 (by decide) ?_
  refine j_newaI (pc := 6) g 5 dX0_init_6 (by decide +kernel) (by decide) (by decide) (by decide) (Nat.le_of_ble_eq_true rfl) (Nat.le_of_ble_eq_true rfl) (fun p hp => ?_)
  have hx2 := xu_k (e' := aI 5 (fun _ => 0)) hp hx
  refine j_putF (pc := 8) g dX0_init_8 (hx2) rfl inX0 tyX0 tyX0_ok nmX0 6 (by decide) (by decide +kernel) rfl hinit rfl rfl rfl (rfl) (rfl) (Nat.le_of_ble_eq_true rfl) ?_
  refine j_aload_n (pc := 11) g 0 dX0_init_11 rfl rfl ?_
  refine j_bipush (pc := 12) g (10) dX0_init_12 (by decide) ?_
  refine j_newq (pc := 14) (C := RX7) (tc := 7) g 10 dX0_init_14 (by decide +kernel) (by decide) rfl (by decide) (by decide) (by decide) (Nat.le_of_ble_eq_true rfl) (Nat.le_of_ble_eq_true rfl) (fun w hw => ?_)
  have hw2 := xu_none hw
  have hw3 := xu_none hw2.1
  have hx3 := xu_k (e' := aR 7 10 (fun _ => none)) hw (xu_s _ _ _)
  refine j_putF (pc := 17) g dX0_init_17 (hx3) rfl inX0 tyX0 tyX0_ok nmX0 7 (by decide) (by decide +kernel) rfl hinit rfl rfl rfl (rfl) (rfl) (Nat.le_of_ble_eq_true rfl) ?_
  refine j_aload_n (pc := 20) g 0 dX0_init_20 rfl rfl ?_
  refine j_iconst (pc := 21) g (-1) dX0_init_21 (by decide) ?_
  refine j_put (pc := 22) g dX0_init_22 (xu_s _ _ _) rfl inX0 tyX0 tyX0_ok nmX0 9 (by decide) (by decide +kernel) rfl rfl rfl (rfl) (rfl) (Nat.le_of_ble_eq_true rfl) ?_
  refine j_aload_n (pc := 25) g 0 dX0_init_25 rfl rfl ?_
  refine j_iload_n (pc := 26) g 1 dX0_init_26 rfl rfl ?_
  refine j_putF (pc := 27) g dX0_init_27 (xu_s _ _ _) rfl inX0 tyX0 tyX0_ok nmX0 0 (by decide) (by decide +kernel) rfl hinit rfl rfl rfl (rfl) (rfl) (Nat.le_of_ble_eq_true rfl) ?_
  refine j_aload_n (pc := 30) g 0 dX0_init_30 rfl rfl ?_
  refine j_iload_n (pc := 31) g 2 dX0_init_31 rfl rfl ?_
  refine j_putF (pc := 32) g dX0_init_32 (xu_s _ _ _) rfl inX0 tyX0 tyX0_ok nmX0 1 (by decide) (by decide +kernel) rfl hinit rfl rfl rfl (rfl) (rfl) (Nat.le_of_ble_eq_true rfl) ?_
  refine j_aload_n (pc := 35) g 0 dX0_init_35 rfl rfl ?_
  refine j_iload_n (pc := 36) g 3 dX0_init_36 rfl rfl ?_
  refine j_putF (pc := 37) g dX0_init_37 (xu_s _ _ _) rfl inX0 tyX0 tyX0_ok nmX0 2 (by decide) (by decide +kernel) rfl hinit rfl rfl rfl (rfl) (rfl) (Nat.le_of_ble_eq_true rfl) ?_
  refine j_aload_n (pc := 40) g 0 dX0_init_40 rfl rfl ?_
  refine j_iload (pc := 41) g dX0_init_41 rfl ?_
  refine j_putF (pc := 43) g dX0_init_43 (xu_s _ _ _) rfl inX0 tyX0 tyX0_ok nmX0 3 (by decide) (by decide +kernel) rfl hinit rfl rfl rfl (rfl) (rfl) (Nat.le_of_ble_eq_true rfl) ?_
  refine j_aload_n (pc := 46) g 0 dX0_init_46 rfl rfl ?_
  refine j_iload (pc := 47) g dX0_init_47 rfl ?_
  refine j_putF (pc := 49) g dX0_init_49 (xu_s _ _ _) rfl inX0 tyX0 tyX0_ok nmX0 5 (by decide) (by decide +kernel) rfl hinit rfl rfl rfl (rfl) (rfl) (Nat.le_of_ble_eq_true rfl) ?_
  refine j_aload_n (pc := 52) g 0 dX0_init_52 rfl rfl ?_
  refine j_iload (pc := 53) g dX0_init_53 rfl ?_
  refine j_putF (pc := 55) g dX0_init_55 (xu_s _ _ _) rfl inX0 tyX0 tyX0_ok nmX0 4 (by decide) (by decide +kernel) rfl hinit rfl rfl rfl (rfl) (rfl) (Nat.le_of_ble_eq_true rfl) ?_
  exact j_vret (pc := 58) g r rfl  (⟨rfl, p, w, hp, hw3.1, fun z => hw3.2 z.symm, by simp only [xu_xu]; rw [xu_sw hw2.2.symm, xu_xu]; rfl⟩) dX0_init_58 (Nat.le_of_ble_eq_true rfl) (Nat.le_of_ble_eq_true rfl)
