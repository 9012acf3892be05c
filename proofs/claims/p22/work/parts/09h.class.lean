theorem iinc_3_1_1 {X : JC} {cc : ByteArray} {own : String} {Ts : List Cond} {cells slots pc : Nat} {rm : Room} {M : MH} {st : List Value} {a0 a2 : Option Value} (g : jG X cc own Ts 3 rm) {x : Int32} (hd : decode cc pc = .ok (.iinc 1 1, 3)) (k : J X 3 cells slots M [a0, some (.int (x + 1)), a2] st (pc + 3)) : J X 3 cells slots M [a0, some (.int x), a2] st pc := j_iinc g (x + 1) hd rfl rfl k
theorem iinc_3_2_1 {X : JC} {cc : ByteArray} {own : String} {Ts : List Cond} {cells slots pc : Nat} {rm : Room} {M : MH} {st : List Value} {a0 a1 : Option Value} (g : jG X cc own Ts 3 rm) {x : Int32} (hd : decode cc pc = .ok (.iinc 2 1, 3)) (k : J X 3 cells slots M [a0, a1, some (.int (x + 1))] st (pc + 3)) : J X 3 cells slots M [a0, a1, some (.int x)] st pc := j_iinc g (x + 1) hd rfl rfl k
theorem istore_n_3_1 {X : JC} {cc : ByteArray} {own : String} {Ts : List Cond} {cells slots pc : Nat} {rm : Room} {M : MH} {st : List Value} {a0 a1 a2 : Option Value} (g : jG X cc own Ts 3 rm) {x : Int32} (hd : decode cc pc = .ok (.istore_n 1, 1)) (k : J X 3 cells slots M [a0, some (.int x), a2] st (pc + 1)) : J X 3 cells slots M [a0, a1, a2] (.int x :: st) pc := j_istore_n g 1 hd rfl (Nat.le_of_ble_eq_true rfl) k
theorem inwX0_X0_add : ∀ w ∈ wsX00, w ∈ wsX0_add := fun w h => List.mem_cons_of_mem _ (List.mem_append_right _ h)
theorem inwX0_X0_isOver : ∀ w ∈ wsX00, w ∈ wsX0_isOver := fun w h => List.mem_cons_of_mem _ (List.mem_append_right _ h)
theorem inwX0_X0_nextWriter : ∀ w ∈ wsX00, w ∈ wsX0_nextWriter := fun w h => List.mem_cons_of_mem _ (List.mem_append_right _ h)
theorem inwX0_X0_promptAt : ∀ w ∈ wsX00, w ∈ wsX0_promptAt := fun w h => List.mem_cons_of_mem _ (List.mem_append_right _ h)
theorem inwX0_X0_writingAt : ∀ w ∈ wsX00, w ∈ wsX0_writingAt := fun w h => List.mem_cons_of_mem _ (List.mem_append_right _ h)
theorem inwX1_X1_countKnown : ∀ w ∈ wsX10, w ∈ wsX1_countKnown := fun w h => List.mem_cons_of_mem _ (List.mem_append_right _ h)
theorem inwX1_X1_init : ∀ w ∈ wsX10, w ∈ wsX1_init := fun w h => List.mem_cons_of_mem _ (List.mem_append_right _ h)
theorem inwX1_X1_knowsOn : ∀ w ∈ wsX10, w ∈ wsX1_knowsOn := fun w h => List.mem_cons_of_mem _ (List.mem_append_right _ h)
theorem inwX1_X1_takeUp : ∀ w ∈ wsX10, w ∈ wsX1_takeUp := fun w h => List.mem_cons_of_mem _ (List.mem_append_right _ h)
theorem inwX2_X2_age : ∀ w ∈ wsX20, w ∈ wsX2_age := fun w h => List.mem_cons_of_mem _ (List.mem_append_right _ h)


set_option maxHeartbeats 400000 in
set_option maxRecDepth 100000 in
theorem c_knowsOn (l : Launch) (D : va_G) (M : MH) (x a y : Nat) (f : Nat → Int32) (hx : M x = some (oB 1 [.ref a])) (ha : M a = some (aI 4 f)) (hy : y < 4) (day : Int32) : xC l D yX1_knowsOn wsX1_knowsOn ({ frames := 0, cells := 0, slots := 0, locals := 0 }) 0 0 [.ref x, .int (nI y), .int day] (M) (xq (some (.int (b01 (¬ f y = -1 ∧ f y ≤ day)))) M) := by
  refine xC_of (cc := cX1_knowsOn) (maxL := 3) (ret := (some .boolean)) (own := RX1) [some (.ref x), some (.int (nI y)), some (.int day)] (by decide) rfl rfl (Nat.le_of_ble_eq_true rfl) rfl rfl rfl ?_
  intro X hXl hXD g r
  subst hXl
  subst hXD
  have inX1 : ∀ w ∈ wsX10, w ∈ wsX1_knowsOn := inwX1_X1_knowsOn
  refine j_iload_n (pc := 0) g 1 dX1_knowsOn_0 rfl rfl ?_
  refine j_if_lt (pc := 1) g 37 dX1_knowsOn_1 (by decide) (fun c1 => absurd c1 (nI_pos (by omega))) (fun c1 => ?_)
  refine j_iload_n (pc := 4) g 1 dX1_knowsOn_4 rfl rfl ?_
  refine j_aload_n (pc := 5) g 0 dX1_knowsOn_5 rfl rfl ?_
  refine j_get (pc := 6) g dX1_knowsOn_6 (by assumption) rfl inX1 0 (by decide) (by decide +kernel) rfl rfl ?_
  refine j_alen (pc := 9) g (nI 4) dX1_knowsOn_9 (ha) rfl ?_
  refine j_icmp_ge (pc := 10) g 37 dX1_knowsOn_10 (by decide) (fun c10 => absurd c10 (nI_ge (by omega) (by omega))) (fun c10 => ?_)
  refine j_aload_n (pc := 13) g 0 dX1_knowsOn_13 rfl rfl ?_
  refine j_get (pc := 14) g dX1_knowsOn_14 (by assumption) rfl inX1 0 (by decide) (by decide +kernel) rfl rfl ?_
  refine j_iload_n (pc := 17) g 1 dX1_knowsOn_17 rfl rfl ?_
  refine j_iald (pc := 18) g dX1_knowsOn_18 (ha) (vp_in_nI (by omega) (by omega)) ?_
  rw [nI_clamp (by omega : y < 2 ^ 31)]
  refine j_iconst (pc := 19) g (-1) dX1_knowsOn_19 (by decide) ?_
  refine j_icmp_eq (pc := 20) g 37 dX1_knowsOn_20 (by decide) (fun c20 => ?_) (fun c20 => ?_)
  · refine j_iconst (pc := 37) g (0) dX1_knowsOn_37 (by decide) ?_
    exact j_iret (pc := 38) g r rfl rfl (xq_i (by grind [b01]) rfl) dX1_knowsOn_38 (Nat.le_of_ble_eq_true rfl) (Nat.le_of_ble_eq_true rfl)
  · refine j_aload_n (pc := 23) g 0 dX1_knowsOn_23 rfl rfl ?_
    refine j_get (pc := 24) g dX1_knowsOn_24 (by assumption) rfl inX1 0 (by decide) (by decide +kernel) rfl rfl ?_
    refine j_iload_n (pc := 27) g 1 dX1_knowsOn_27 rfl rfl ?_
    refine j_iald (pc := 28) g dX1_knowsOn_28 (ha) (vp_in_nI (by omega) (by omega)) ?_
    rw [nI_clamp (by omega : y < 2 ^ 31)]
    refine j_iload_n (pc := 29) g 2 dX1_knowsOn_29 rfl rfl ?_
    refine j_icmp_gt (pc := 30) g 37 dX1_knowsOn_30 (by decide) (fun c30 => ?_) (fun c30 => ?_)
    · refine j_iconst (pc := 37) g (0) dX1_knowsOn_37 (by decide) ?_
      exact j_iret (pc := 38) g r rfl rfl (xq_i (by grind [b01]) rfl) dX1_knowsOn_38 (Nat.le_of_ble_eq_true rfl) (Nat.le_of_ble_eq_true rfl)
    · refine j_iconst (pc := 33) g (1) dX1_knowsOn_33 (by decide) ?_
      refine j_goto (pc := 34) g 38 dX1_knowsOn_34 (by decide) ?_
      exact j_iret (pc := 38) g r rfl rfl (xq_i (by grind [b01]) rfl) dX1_knowsOn_38 (Nat.le_of_ble_eq_true rfl) (Nat.le_of_ble_eq_true rfl)

set_option maxHeartbeats 400000 in
set_option maxRecDepth 100000 in
theorem c_takeUp (l : Launch) (D : va_G) (M : MH) (x a y : Nat) (f : Nat → Int32) (hx : M x = some (oB 1 [.ref a])) (ha : M a = some (aI 4 f)) (hy : y < 4) (day : Int32) : xC l D yX1_takeUp wsX1_takeUp ({ frames := 0, cells := 0, slots := 0, locals := 0 }) 0 0 [.ref x, .int (nI y), .int day] (M) (xq none (xu M a (aI 4 (upd f y day)))) := by
  refine xC_of (cc := cX1_takeUp) (maxL := 3) (ret := none) (own := RX1) [some (.ref x), some (.int (nI y)), some (.int day)] (by decide) rfl rfl (Nat.le_of_ble_eq_true rfl) rfl rfl rfl ?_
  intro X hXl hXD g r
  subst hXl
  subst hXD
  have inX1 : ∀ w ∈ wsX10, w ∈ wsX1_takeUp := inwX1_X1_takeUp
  refine j_iload_n (pc := 0) g 1 dX1_takeUp_0 rfl rfl ?_
  refine j_if_lt (pc := 1) g 20 dX1_takeUp_1 (by decide) (fun c1 => absurd c1 (nI_pos (by omega))) (fun c1 => ?_)
  refine j_iload_n (pc := 4) g 1 dX1_takeUp_4 rfl rfl ?_
  refine j_aload_n (pc := 5) g 0 dX1_takeUp_5 rfl rfl ?_
  refine j_get (pc := 6) g dX1_takeUp_6 (by assumption) rfl inX1 0 (by decide) (by decide +kernel) rfl rfl ?_
  refine j_alen (pc := 9) g (nI 4) dX1_takeUp_9 (ha) rfl ?_
  refine j_icmp_ge (pc := 10) g 20 dX1_takeUp_10 (by decide) (fun c10 => absurd c10 (nI_ge (by omega) (by omega))) (fun c10 => ?_)
  refine j_aload_n (pc := 13) g 0 dX1_takeUp_13 rfl rfl ?_
  refine j_get (pc := 14) g dX1_takeUp_14 (by assumption) rfl inX1 0 (by decide) (by decide +kernel) rfl rfl ?_
  refine j_iload_n (pc := 17) g 1 dX1_takeUp_17 rfl rfl ?_
  refine j_iload_n (pc := 18) g 2 dX1_takeUp_18 rfl rfl ?_
  refine j_iast (pc := 19) g dX1_takeUp_19 (ha) (vp_in_nI (by omega) (by omega)) ?_
  rw [nI_clamp (by omega : y < 2 ^ 31)]
  exact j_vret (pc := 20) g r rfl  (xq_v rfl) dX1_takeUp_20 (Nat.le_of_ble_eq_true rfl) (Nat.le_of_ble_eq_true rfl)

set_option maxHeartbeats 400000 in
set_option maxRecDepth 100000 in
theorem c_countKnown (l : Launch) (D : va_G) (M : MH) (x a : Nat) (f : Nat → Int32) (hx : M x = some (oB 1 [.ref a])) (ha : M a = some (aI 4 f)) : xC l D yX1_countKnown wsX1_countKnown ({ frames := 0, cells := 0, slots := 0, locals := 0 }) 0 0 [.ref x] (M) (xq (some (.int (cntf f 4))) M) := by
  refine xC_of (cc := cX1_countKnown) (maxL := 3) (ret := (some .int)) (own := RX1) [some (.ref x), none, none] (by decide) rfl rfl (Nat.le_of_ble_eq_true rfl) rfl rfl rfl ?_
  intro X hXl hXD g r
  subst hXl
  subst hXD
  have inX1 : ∀ w ∈ wsX10, w ∈ wsX1_countKnown := inwX1_X1_countKnown
  refine j_iconst (pc := 0) g (0) dX1_countKnown_0 (by decide) ?_
  refine istore_n_3_1 (pc := 1) g dX1_countKnown_1 ?_
  refine j_iconst (pc := 2) g (0) dX1_countKnown_2 (by decide) ?_
  refine istore_n_3_2 (pc := 3) g dX1_countKnown_3 ?_
  have L4 : ∀ (n : Nat) (k : Nat) (hk : k + n = 4), J X 3 0 0 (M) [some (.ref x), some (.int (cntf f k)), some (.int (nI k))] [] 4 := by
    intro n
    induction n with
    | zero =>
      intro k hk
      have hk6 : k = 4 := by omega
      subst hk6
      refine j_iload_n (pc := 4) g 2 dX1_countKnown_4 rfl rfl ?_
      refine j_aload_n (pc := 5) g 0 dX1_countKnown_5 rfl rfl ?_
      refine j_get (pc := 6) g dX1_countKnown_6 (by assumption) rfl inX1 0 (by decide) (by decide +kernel) rfl rfl ?_
      refine j_alen (pc := 9) g (nI 4) dX1_countKnown_9 (ha) rfl ?_
      refine j_icmp_ge (pc := 10) g 32 dX1_countKnown_10 (by decide) (fun c10 => ?_) (fun c10 => absurd (by decide) c10)
      refine j_iload_n (pc := 32) g 1 dX1_countKnown_32 rfl rfl ?_
      exact j_iret (pc := 33) g r rfl rfl (⟨rfl, rfl⟩) dX1_countKnown_33 (Nat.le_of_ble_eq_true rfl) (Nat.le_of_ble_eq_true rfl)
    | succ n ih =>
      intro k hk
      refine j_iload_n (pc := 4) g 2 dX1_countKnown_4 rfl rfl ?_
      refine j_aload_n (pc := 5) g 0 dX1_countKnown_5 rfl rfl ?_
      refine j_get (pc := 6) g dX1_countKnown_6 (by assumption) rfl inX1 0 (by decide) (by decide +kernel) rfl rfl ?_
      refine j_alen (pc := 9) g (nI 4) dX1_countKnown_9 (ha) rfl ?_
      refine j_icmp_ge (pc := 10) g 32 dX1_countKnown_10 (by decide) (fun c10 => absurd c10 (nI_ge (by omega) (by omega))) (fun c10 => ?_)
      refine j_aload_n (pc := 13) g 0 dX1_countKnown_13 rfl rfl ?_
      refine j_get (pc := 14) g dX1_countKnown_14 (by assumption) rfl inX1 0 (by decide) (by decide +kernel) rfl rfl ?_
      refine j_iload_n (pc := 17) g 2 dX1_countKnown_17 rfl rfl ?_
      refine j_iald (pc := 18) g dX1_countKnown_18 (ha) (vp_in_nI (by omega) (by omega)) ?_
      rw [nI_clamp (by omega : k < 2 ^ 31)]
      refine j_iconst (pc := 19) g (-1) dX1_countKnown_19 (by decide) ?_
      refine j_icmp_eq (pc := 20) g 26 dX1_countKnown_20 (by decide) (fun c20 => ?_) (fun c20 => ?_)
      · refine iinc_3_2_1 (pc := 26) g dX1_countKnown_26 ?_
        refine j_goto (pc := 29) g 4 dX1_countKnown_29 (by decide) ?_
        exact (by have q9 := ih (k + 1) (by omega); rw [← nI_1 k, cntf] at q9; first | (rw [if_pos c20, Int32.add_zero] at q9; exact q9) | (rw [if_neg c20] at q9; exact q9))
      · refine iinc_3_1_1 (pc := 23) g dX1_countKnown_23 ?_
        refine iinc_3_2_1 (pc := 26) g dX1_countKnown_26 ?_
        refine j_goto (pc := 29) g 4 dX1_countKnown_29 (by decide) ?_
        exact (by have q9 := ih (k + 1) (by omega); rw [← nI_1 k, cntf] at q9; first | (rw [if_pos c20, Int32.add_zero] at q9; exact q9) | (rw [if_neg c20] at q9; exact q9))
  exact L4 4 0 rfl

set_option maxHeartbeats 400000 in
set_option maxRecDepth 100000 in
theorem c_jInit (l : Launch) (D : va_G) (M : MH) (x : Nat) (hx : M x = some (oB 1 dvX1)) : xC l D yX1_init wsX1_init ({ frames := 1, cells := 1, slots := 4, locals := 24 }) 1 4 [.ref x] (M) (fun v M' => v = none ∧ ∃ a f, M a = none ∧ (∀ y, y < 4 → f y = -1) ∧ M' = xu (xu M a (aI 4 f)) x (oB 1 [.ref a])) := by
  refine xC_ofI (cc := cX1_init) (maxL := 2) (ret := none) (own := RX1) [some (.ref x), none] (by decide) rfl rfl rfl (Nat.le_of_ble_eq_true rfl) rfl rfl rfl ?_
  intro X hXl hXD g r hinit
  subst hXl
  subst hXD
  have inX1 : ∀ w ∈ wsX10, w ∈ wsX1_init := inwX1_X1_init
  refine j_aload_n (pc := 0) g 0 dX1_init_0 rfl rfl ?_
  refine j_objInit (pc := 1) g dX1_init_1 (by decide +kernel) (by decide +kernel) (by decide +kernel) (Nat.le_of_ble_eq_true rfl) (Nat.le_of_ble_eq_true rfl) ?_
  refine j_aload_n (pc := 4) g 0 dX1_init_4 rfl rfl ?_
  refine j_iconst (pc := 5) g (4) dX1_init_5 (by decide) ?_
  refine j_newaI (pc := 6) g 4 dX1_init_6 (by decide +kernel) (by decide) (by decide) (by decide) (Nat.le_of_ble_eq_true rfl) (Nat.le_of_ble_eq_true rfl) (fun a ha => ?_)
  have hx2 := xu_k (e' := aI 4 (fun _ => 0)) ha hx
  have hax : a ≠ x := fun z => by rw [z, hx] at ha; exact absurd ha (by simp)
  refine j_putF (pc := 8) g dX1_init_8 (hx2) rfl inX1 tyX1 tyX1_ok nmX1 0 (by decide) (by decide +kernel) rfl hinit rfl rfl rfl (rfl) (rfl) (Nat.le_of_ble_eq_true rfl) ?_
  refine j_iconst (pc := 11) g (0) dX1_init_11 (by decide) ?_
  refine istore_n_2_1 (pc := 12) g dX1_init_12 ?_
  have L13 : ∀ (n : Nat) (k : Nat) (f : Nat → Int32) (hk : k + n = 4) (hf : ∀ y, y < k → f y = -1), J X 2 (0 + 1) (0 + 4) (xu (xu M a (aI 4 f)) x (oB 1 [.ref a])) [some (.ref x), some (.int (nI k))] [] 13 := by
    intro n
    induction n with
    | zero =>
      intro k f hk hf
      have hk6 : k = 4 := by omega
      subst hk6
      have ha2 : xu (xu M a (aI 4 f)) x (oB 1 [.ref a]) a = some (aI 4 f) := by rw [xu_n hax, xu_s]
      refine j_iload_n (pc := 13) g 1 dX1_init_13 rfl rfl ?_
      refine j_aload_n (pc := 14) g 0 dX1_init_14 rfl rfl ?_
      refine j_get (pc := 15) g dX1_init_15 (xu_s _ _ _) rfl inX1 0 (by decide) (by decide +kernel) rfl rfl ?_
      refine j_alen (pc := 18) g (nI 4) dX1_init_18 (ha2) rfl ?_
      refine j_icmp_ge (pc := 19) g 35 dX1_init_19 (by decide) (fun c19 => ?_) (fun c19 => absurd (by decide) c19)
      exact j_vret (pc := 35) g r rfl  (⟨rfl, a, f, ha, hf, rfl⟩) dX1_init_35 (Nat.le_of_ble_eq_true rfl) (Nat.le_of_ble_eq_true rfl)
    | succ n ih =>
      intro k f hk hf
      have ha2 : xu (xu M a (aI 4 f)) x (oB 1 [.ref a]) a = some (aI 4 f) := by rw [xu_n hax, xu_s]
      refine j_iload_n (pc := 13) g 1 dX1_init_13 rfl rfl ?_
      refine j_aload_n (pc := 14) g 0 dX1_init_14 rfl rfl ?_
      refine j_get (pc := 15) g dX1_init_15 (xu_s _ _ _) rfl inX1 0 (by decide) (by decide +kernel) rfl rfl ?_
      refine j_alen (pc := 18) g (nI 4) dX1_init_18 (ha2) rfl ?_
      refine j_icmp_ge (pc := 19) g 35 dX1_init_19 (by decide) (fun c19 => absurd c19 (nI_ge (by omega) (by omega))) (fun c19 => ?_)
      refine j_aload_n (pc := 22) g 0 dX1_init_22 rfl rfl ?_
      refine j_get (pc := 23) g dX1_init_23 (xu_s _ _ _) rfl inX1 0 (by decide) (by decide +kernel) rfl rfl ?_
      refine j_iload_n (pc := 26) g 1 dX1_init_26 rfl rfl ?_
      refine j_iconst (pc := 27) g (-1) dX1_init_27 (by decide) ?_
      refine j_iast (pc := 28) g dX1_init_28 (ha2) (vp_in_nI (by omega) (by omega)) ?_
      rw [nI_clamp (by omega : k < 2 ^ 31), xu_sw (Ne.symm hax), xu_xu]
      refine iinc_2_1_1 (pc := 29) g dX1_init_29 ?_
      refine j_goto (pc := 32) g 13 dX1_init_32 (by decide) ?_
      exact (by have q9 := ih (k + 1) (upd f k (-1)) (by omega) (fun y hy => by unfold upd; by_cases hyk : y = k <;> simp [hyk]; exact hf y (by omega)); rw [← nI_1 k] at q9; exact q9)
  exact L13 4 0 _ rfl (fun y hy => absurd hy (by omega))

set_option maxHeartbeats 400000 in
set_option maxRecDepth 100000 in
theorem c_age (l : Launch) (D : va_G) (M : MH) (x : Nat) (s d r_ : Int32) (hx : M x = some (oB 2 [.int s, .int d, .int r_])) (n : Int32) : xC l D yX2_age wsX2_age ({ frames := 1, cells := 0, slots := 0, locals := 24 }) 0 0 [.ref x, .int n] (M) (xq none (xu M x (oB 2 [.int s, .int (ageV (d + n * r_)), .int r_]))) := by
  refine xC_of (cc := cX2_age) (maxL := 2) (ret := none) (own := RX2) [some (.ref x), some (.int n)] (by decide) rfl rfl (Nat.le_of_ble_eq_true rfl) rfl rfl rfl ?_
  intro X hXl hXD g r
  subst hXl
  subst hXD
  have inX2 : ∀ w ∈ wsX20, w ∈ wsX2_age := inwX2_X2_age
  refine j_aload_n (pc := 0) g 0 dX2_age_0 rfl rfl ?_
  refine j_iconst (pc := 1) g (0) dX2_age_1 (by decide) ?_
  refine j_bipush (pc := 2) g (100) dX2_age_2 (by decide) ?_
  refine j_aload_n (pc := 4) g 0 dX2_age_4 rfl rfl ?_
  refine j_get (pc := 5) g dX2_age_5 (by assumption) rfl inX2 1 (by decide) (by decide +kernel) rfl rfl ?_
  refine j_iload_n (pc := 8) g 1 dX2_age_8 rfl rfl ?_
  refine j_aload_n (pc := 9) g 0 dX2_age_9 rfl rfl ?_
  refine j_get (pc := 10) g dX2_age_10 (by assumption) rfl inX2 2 (by decide) (by decide +kernel) rfl rfl ?_
  refine j_imul (pc := 13) g dX2_age_13 ?_
  refine j_iadd (pc := 14) g dX2_age_14 ?_
  refine j_mmin (pc := 15) g dX2_age_15 (by decide +kernel) (by decide +kernel) (by decide +kernel) (by decide +kernel) (Nat.le_of_ble_eq_true rfl) (Nat.le_of_ble_eq_true rfl) (Nat.le_of_ble_eq_true rfl) (Nat.le_of_ble_eq_true rfl) ?_
  refine j_mmax (pc := 18) g dX2_age_18 (by decide +kernel) (by decide +kernel) (by decide +kernel) (by decide +kernel) (Nat.le_of_ble_eq_true rfl) (Nat.le_of_ble_eq_true rfl) (Nat.le_of_ble_eq_true rfl) (Nat.le_of_ble_eq_true rfl) ?_
  refine j_topi (ageV (d + n * r_)) rfl ?_
  refine j_put (pc := 21) g dX2_age_21 (by assumption) rfl inX2 tyX2 tyX2_ok nmX2 1 (by decide) (by decide +kernel) rfl rfl rfl (rfl) (rfl) (Nat.le_of_ble_eq_true rfl) ?_
  exact j_vret (pc := 24) g r rfl  (xq_v rfl) dX2_age_24 (Nat.le_of_ble_eq_true rfl) (Nat.le_of_ble_eq_true rfl)

set_option maxHeartbeats 400000 in
set_option maxRecDepth 100000 in
theorem c_promptAt (l : Launch) (D : va_G) (M : MH) (x : Nat) (one other judge paper day rounds : Int32) (p w : Nat) (handed second : Int32) (hx : M x = some (dlC one other judge paper day rounds p w handed second)) (f : Nat → Int32) (hp : M p = some (aI 5 f)) (k : Int32) : xC l D yX0_promptAt wsX0_promptAt ({ frames := 0, cells := 0, slots := 0, locals := 0 }) 0 0 [.ref x, .int k] (M) (xq (some (.int (atI 5 f k))) M) := by
  refine xC_of (cc := cX0_promptAt) (maxL := 2) (ret := (some .int)) (own := RX0) [some (.ref x), some (.int k)] (by decide) rfl rfl (Nat.le_of_ble_eq_true rfl) rfl rfl rfl ?_
  intro X hXl hXD g r
  subst hXl
  subst hXD
  have inX0 : ∀ w ∈ wsX00, w ∈ wsX0_promptAt := inwX0_X0_promptAt
  refine j_iload_n (pc := 0) g 1 dX0_promptAt_0 rfl rfl ?_
  refine j_if_lt (pc := 1) g 22 dX0_promptAt_1 (by decide) (fun c1 => ?_) (fun c1 => ?_)
  · refine j_iconst (pc := 22) g (-1) dX0_promptAt_22 (by decide) ?_
    exact j_iret (pc := 23) g r rfl rfl (by first | exact xq_i (by rw [atI_in c1 c10]; rfl) rfl | exact xq_i (by rw [atI_lo c1]) rfl | exact xq_i (by rw [atI_hi c10]) rfl) dX0_promptAt_23 (Nat.le_of_ble_eq_true rfl) (Nat.le_of_ble_eq_true rfl)
  · refine j_iload_n (pc := 4) g 1 dX0_promptAt_4 rfl rfl ?_
    refine j_aload_n (pc := 5) g 0 dX0_promptAt_5 rfl rfl ?_
    refine j_get (pc := 6) g dX0_promptAt_6 (by assumption) rfl inX0 6 (by decide) (by decide +kernel) rfl rfl ?_
    refine j_alen (pc := 9) g (nI 5) dX0_promptAt_9 (hp) rfl ?_
    refine j_icmp_ge (pc := 10) g 22 dX0_promptAt_10 (by decide) (fun c10 => ?_) (fun c10 => ?_)
    · refine j_iconst (pc := 22) g (-1) dX0_promptAt_22 (by decide) ?_
      exact j_iret (pc := 23) g r rfl rfl (by first | exact xq_i (by rw [atI_in c1 c10]; rfl) rfl | exact xq_i (by rw [atI_lo c1]) rfl | exact xq_i (by rw [atI_hi c10]) rfl) dX0_promptAt_23 (Nat.le_of_ble_eq_true rfl) (Nat.le_of_ble_eq_true rfl)
    · refine j_aload_n (pc := 13) g 0 dX0_promptAt_13 rfl rfl ?_
      refine j_get (pc := 14) g dX0_promptAt_14 (by assumption) rfl inX0 6 (by decide) (by decide +kernel) rfl rfl ?_
      refine j_iload_n (pc := 17) g 1 dX0_promptAt_17 rfl rfl ?_
      refine j_iald (pc := 18) g dX0_promptAt_18 (hp) (vp_in_of2 (n := 5) (by omega) (Nat.le_refl _) c1 c10) ?_
      refine j_goto (pc := 19) g 23 dX0_promptAt_19 (by decide) ?_
      exact j_iret (pc := 23) g r rfl rfl (by first | exact xq_i (by rw [atI_in c1 c10]; rfl) rfl | exact xq_i (by rw [atI_lo c1]) rfl | exact xq_i (by rw [atI_hi c10]) rfl) dX0_promptAt_23 (Nat.le_of_ble_eq_true rfl) (Nat.le_of_ble_eq_true rfl)

set_option maxHeartbeats 400000 in
set_option maxRecDepth 100000 in
theorem c_dOver (l : Launch) (D : va_G) (M : MH) (x : Nat) (one other judge paper day rounds : Int32) (p w : Nat) (handed second : Int32) (hx : M x = some (dlC one other judge paper day rounds p w handed second)) : xC l D yX0_isOver wsX0_isOver ({ frames := 0, cells := 0, slots := 0, locals := 0 }) 0 0 [.ref x] (M) (xq (some (.int (b01 (2 * rounds ≤ handed)))) M) := by
  refine xC_of (cc := cX0_isOver) (maxL := 1) (ret := (some .boolean)) (own := RX0) [some (.ref x)] (by decide) rfl rfl (Nat.le_of_ble_eq_true rfl) rfl rfl rfl ?_
  intro X hXl hXD g r
  subst hXl
  subst hXD
  have inX0 : ∀ w ∈ wsX00, w ∈ wsX0_isOver := inwX0_X0_isOver
  refine j_aload_n (pc := 0) g 0 dX0_isOver_0 rfl rfl ?_
  refine j_get (pc := 1) g dX0_isOver_1 (by assumption) rfl inX0 8 (by decide) (by decide +kernel) rfl rfl ?_
  refine j_iconst (pc := 4) g (2) dX0_isOver_4 (by decide) ?_
  refine j_aload_n (pc := 5) g 0 dX0_isOver_5 rfl rfl ?_
  refine j_get (pc := 6) g dX0_isOver_6 (by assumption) rfl inX0 5 (by decide) (by decide +kernel) rfl rfl ?_
  refine j_imul (pc := 9) g dX0_isOver_9 ?_
  refine j_icmp_lt (pc := 10) g 17 dX0_isOver_10 (by decide) (fun c10 => ?_) (fun c10 => ?_)
  · refine j_iconst (pc := 17) g (0) dX0_isOver_17 (by decide) ?_
    exact j_iret (pc := 18) g r rfl rfl (xq_i (by grind [b01]) rfl) dX0_isOver_18 (Nat.le_of_ble_eq_true rfl) (Nat.le_of_ble_eq_true rfl)
  · refine j_iconst (pc := 13) g (1) dX0_isOver_13 (by decide) ?_
    refine j_goto (pc := 14) g 18 dX0_isOver_14 (by decide) ?_
    exact j_iret (pc := 18) g r rfl rfl (xq_i (by grind [b01]) rfl) dX0_isOver_18 (Nat.le_of_ble_eq_true rfl) (Nat.le_of_ble_eq_true rfl)

set_option maxHeartbeats 400000 in
set_option maxRecDepth 100000 in
theorem c_nextWriter (l : Launch) (D : va_G) (M : MH) (x h : Nat) (one other judge paper day rounds : Int32) (p w : Nat) (handed second : Int32) (hx : M x = some (dlC one other judge paper day rounds p w handed second)) (hh : handed = nI h) (h10 : h ≤ 10) : xC l D yX0_nextWriter wsX0_nextWriter ({ frames := 0, cells := 0, slots := 0, locals := 0 }) 0 0 [.ref x] (M) (xq (some (.int (if h % 2 = 0 then one else other))) M) := by
  refine xC_of (cc := cX0_nextWriter) (maxL := 1) (ret := (some .int)) (own := RX0) [some (.ref x)] (by decide) rfl rfl (Nat.le_of_ble_eq_true rfl) rfl rfl rfl ?_
  intro X hXl hXD g r
  subst hXl
  subst hXD
  have inX0 : ∀ w ∈ wsX00, w ∈ wsX0_nextWriter := inwX0_X0_nextWriter
  refine j_aload_n (pc := 0) g 0 dX0_nextWriter_0 rfl rfl ?_
  refine j_get (pc := 1) g dX0_nextWriter_1 (by assumption) rfl inX0 8 (by decide) (by decide +kernel) rfl rfl ?_
  refine j_iconst (pc := 4) g (2) dX0_nextWriter_4 (by decide) ?_
  refine j_irem (pc := 5) g dX0_nextWriter_5 (by decide) ?_
  refine j_topi (nI (h % 2)) (by show handed - handed / 2 * 2 = _; rw [hh]; exact pk_rem (d := 2) (by omega) (by omega) (by omega)) ?_
  have hz : nI (h % 2) = 0 ↔ h % 2 = 0 := nI_eq (b := 0) (by omega) (by omega)
  refine j_if_ne (pc := 6) g 16 dX0_nextWriter_6 (by decide) (fun c6 => ?_) (fun c6 => ?_)
  · refine j_aload_n (pc := 16) g 0 dX0_nextWriter_16 rfl rfl ?_
    refine j_get (pc := 17) g dX0_nextWriter_17 (by assumption) rfl inX0 1 (by decide) (by decide +kernel) rfl rfl ?_
    exact j_iret (pc := 20) g r rfl rfl (by first | exact xq_i (if_pos (hz.mp (Decidable.not_not.mp c6))).symm rfl | exact xq_i (if_pos (hz.mp c6)).symm rfl | exact xq_i (if_neg (fun z => c6 (hz.mpr z))).symm rfl) dX0_nextWriter_20 (Nat.le_of_ble_eq_true rfl) (Nat.le_of_ble_eq_true rfl)
  · refine j_aload_n (pc := 9) g 0 dX0_nextWriter_9 rfl rfl ?_
    refine j_get (pc := 10) g dX0_nextWriter_10 (by assumption) rfl inX0 0 (by decide) (by decide +kernel) rfl rfl ?_
    refine j_goto (pc := 13) g 20 dX0_nextWriter_13 (by decide) ?_
    exact j_iret (pc := 20) g r rfl rfl (by first | exact xq_i (if_pos (hz.mp (Decidable.not_not.mp c6))).symm rfl | exact xq_i (if_pos (hz.mp c6)).symm rfl | exact xq_i (if_neg (fun z => c6 (hz.mpr z))).symm rfl) dX0_nextWriter_20 (Nat.le_of_ble_eq_true rfl) (Nat.le_of_ble_eq_true rfl)

set_option maxHeartbeats 400000 in
set_option maxRecDepth 100000 in
theorem c_dAdd (l : Launch) (D : va_G) (M : MH) (x q h : Nat) (one other judge paper day rounds : Int32) (p w : Nat) (handed second : Int32) (hx : M x = some (dlC one other judge paper day rounds p w handed second)) (hh : handed = nI h) (h10 : h < 10) (f : Nat → Option Nat) (hw : M w = some (aR 7 10 f)) (fs : List Value) (hq : M q = some (oB 7 fs)) : xC l D yX0_add wsX0_add ({ frames := 0, cells := 0, slots := 0, locals := 0 }) 0 0 [.ref x, .ref q] (M) (xq none (xu (xu M w (aR 7 10 (va_up f h (some q)))) x (dlC one other judge paper day rounds p w (nI (h + 1)) second))) := by
  refine xC_of (cc := cX0_add) (maxL := 2) (ret := none) (own := RX0) [some (.ref x), some (.ref q)] (by decide) rfl rfl (Nat.le_of_ble_eq_true rfl) rfl rfl rfl ?_
  intro X hXl hXD g r
  subst hXl
  subst hXD
  have inX0 : ∀ w ∈ wsX00, w ∈ wsX0_add := inwX0_X0_add
  subst hh
  refine j_aload_n (pc := 0) g 0 dX0_add_0 rfl rfl ?_
  refine j_get (pc := 1) g dX0_add_1 (by assumption) rfl inX0 8 (by decide) (by decide +kernel) rfl rfl ?_
  refine j_if_lt (pc := 4) g 39 dX0_add_4 (by decide) (fun c4 => absurd c4 (nI_pos (by omega))) (fun c4 => ?_)
  refine j_aload_n (pc := 7) g 0 dX0_add_7 rfl rfl ?_
  refine j_get (pc := 8) g dX0_add_8 (by assumption) rfl inX0 8 (by decide) (by decide +kernel) rfl rfl ?_
  refine j_aload_n (pc := 11) g 0 dX0_add_11 rfl rfl ?_
  refine j_get (pc := 12) g dX0_add_12 (by assumption) rfl inX0 7 (by decide) (by decide +kernel) rfl rfl ?_
  refine j_alen (pc := 15) g (nI 10) dX0_add_15 (hw) rfl ?_
  refine j_icmp_ge (pc := 16) g 39 dX0_add_16 (by decide) (fun c16 => absurd c16 (nI_ge (by omega) (by omega))) (fun c16 => ?_)
  refine j_aload_n (pc := 19) g 0 dX0_add_19 rfl rfl ?_
  refine j_get (pc := 20) g dX0_add_20 (by assumption) rfl inX0 7 (by decide) (by decide +kernel) rfl rfl ?_
  refine j_aload_n (pc := 23) g 0 dX0_add_23 rfl rfl ?_
  refine j_get (pc := 24) g dX0_add_24 (by assumption) rfl inX0 8 (by decide) (by decide +kernel) rfl rfl ?_
  refine j_aload_n (pc := 27) g 1 dX0_add_27 rfl rfl ?_
  refine j_aast (pc := 28) g dX0_add_28 (hw) (hq) rfl rfl (vp_in_nI (by omega) (by omega)) ?_
  rw [nI_clamp (by omega : h < 2 ^ 31)]
  have hx2 := xu_o (e' := aR 7 10 (va_up f h (some q))) hx hw (by simp [dlC])
  refine j_aload_n (pc := 29) g 0 dX0_add_29 rfl rfl ?_
  refine j_dup (pc := 30) g dX0_add_30 rfl ?_
  refine j_get (pc := 31) g dX0_add_31 (hx2) rfl inX0 8 (by decide) (by decide +kernel) rfl rfl ?_
  refine j_iconst (pc := 34) g (1) dX0_add_34 (by decide) ?_
  refine j_iadd (pc := 35) g dX0_add_35 ?_
  refine j_topi (nI (h + 1)) (nI_1 h) ?_
  refine j_put (pc := 36) g dX0_add_36 (hx2) rfl inX0 tyX0 tyX0_ok nmX0 8 (by decide) (by decide +kernel) rfl rfl rfl (rfl) (rfl) (Nat.le_of_ble_eq_true rfl) ?_
  exact j_vret (pc := 39) g r rfl  (xq_v rfl) dX0_add_39 (Nat.le_of_ble_eq_true rfl) (Nat.le_of_ble_eq_true rfl)

set_option maxHeartbeats 400000 in
set_option maxRecDepth 100000 in
theorem c_writingAt (l : Launch) (D : va_G) (M : MH) (x : Nat) (one other judge paper day rounds : Int32) (p w : Nat) (handed second : Int32) (hx : M x = some (dlC one other judge paper day rounds p w handed second)) (f : Nat → Option Nat) (hw : M w = some (aR 7 10 f)) (k o : Int32) : xC l D yX0_writingAt wsX0_writingAt ({ frames := 0, cells := 0, slots := 0, locals := 0 }) 0 0 [.ref x, .int k, .int o] (M) (xq (some (va_rf (wAt f k o))) M) := by
  refine xC_of (cc := cX0_writingAt) (maxL := 4) (ret := (some (.object "InkRing$Writing"))) (own := RX0) [some (.ref x), some (.int k), some (.int o), none] (by decide) rfl rfl (Nat.le_of_ble_eq_true rfl) rfl rfl rfl ?_
  intro X hXl hXD g r
  subst hXl
  subst hXD
  have inX0 : ∀ w ∈ wsX00, w ∈ wsX0_writingAt := inwX0_X0_writingAt
  refine j_iload_n (pc := 0) g 1 dX0_writingAt_0 rfl rfl ?_
  refine j_if_lt (pc := 1) g 9 dX0_writingAt_1 (by decide) (fun c1 => ?_) (fun c1 => ?_)
  · refine j_aconst_null (pc := 9) g dX0_writingAt_9 ?_
    exact j_aretN (pc := 10) g r rfl  (by unfold wAt; first | (rw [if_neg (fun z => absurd z.1 (Int32.not_le.mpr c1))]; exact ⟨rfl, rfl⟩) | (rw [if_neg (fun z => c6 z.2)]; exact ⟨rfl, rfl⟩)) dX0_writingAt_10 (Nat.le_of_ble_eq_true rfl) (Nat.le_of_ble_eq_true rfl)
  · refine j_iload_n (pc := 4) g 1 dX0_writingAt_4 rfl rfl ?_
    refine j_iconst (pc := 5) g (5) dX0_writingAt_5 (by decide) ?_
    refine j_icmp_lt (pc := 6) g 11 dX0_writingAt_6 (by decide) (fun c6 => ?_) (fun c6 => ?_)
    · have hk : 0 ≤ k ∧ k < 5 := ⟨Int32.not_lt.mp c1, c6⟩
      have hkx := ix_lt (n := 5) (by omega) hk.1 hk.2
      have ho1 : ofI o ≤ 1 := by unfold ofI; split <;> omega
      refine j_iconst (pc := 11) g (2) dX0_writingAt_11 (by decide) ?_
      refine j_iload_n (pc := 12) g 1 dX0_writingAt_12 rfl rfl ?_
      refine j_imul (pc := 13) g dX0_writingAt_13 ?_
      refine j_iload_n (pc := 14) g 2 dX0_writingAt_14 rfl rfl ?_
      refine j_if_eq (pc := 15) g 22 dX0_writingAt_15 (by decide) (fun c15 => ?_) (fun c15 => ?_)
      · refine j_iconst (pc := 22) g (0) dX0_writingAt_22 (by decide) ?_
        refine j_iadd (pc := 23) g dX0_writingAt_23 ?_
        refine j_topi (nI (2 * ix k + ofI o)) (by unfold ofI; first | (rw [if_pos c15, hkx.1, ix_nI (by omega)]; exact lx_a (lx_m 2 rfl) rfl) | (rw [if_neg c15, hkx.1, ix_nI (by omega)]; exact lx_a (lx_m 2 rfl) rfl)) ?_
        refine istore_n_4_3 (pc := 24) g dX0_writingAt_24 ?_
        refine j_iload_n (pc := 25) g 3 dX0_writingAt_25 rfl rfl ?_
        refine j_aload_n (pc := 26) g 0 dX0_writingAt_26 rfl rfl ?_
        refine j_get (pc := 27) g dX0_writingAt_27 (by assumption) rfl inX0 7 (by decide) (by decide +kernel) rfl rfl ?_
        refine j_alen (pc := 30) g (nI 10) dX0_writingAt_30 (hw) rfl ?_
        refine j_icmp_ge (pc := 31) g 43 dX0_writingAt_31 (by decide) (fun c31 => absurd c31 (nI_ge (by omega) (by omega))) (fun c31 => ?_)
        refine j_aload_n (pc := 34) g 0 dX0_writingAt_34 rfl rfl ?_
        refine j_get (pc := 35) g dX0_writingAt_35 (by assumption) rfl inX0 7 (by decide) (by decide +kernel) rfl rfl ?_
        refine j_iload_n (pc := 38) g 3 dX0_writingAt_38 rfl rfl ?_
        refine j_aald (pc := 39) g dX0_writingAt_39 (hw) rfl (vp_in_nI (by omega) (by omega)) ?_
        rw [nI_clamp (by omega : 2 * ix k + ofI o < 2 ^ 31)]
        refine j_goto (pc := 40) g 44 dX0_writingAt_40 (by decide) ?_
        exact j_aretV (pc := 44) g r rfl (va_rf_ok _) (xq_r (by unfold wAt; rw [if_pos hk]) rfl) dX0_writingAt_44 (Nat.le_of_ble_eq_true rfl) (Nat.le_of_ble_eq_true rfl)
      · refine j_iconst (pc := 18) g (1) dX0_writingAt_18 (by decide) ?_
        refine j_goto (pc := 19) g 23 dX0_writingAt_19 (by decide) ?_
        refine j_iadd (pc := 23) g dX0_writingAt_23 ?_
        refine j_topi (nI (2 * ix k + ofI o)) (by unfold ofI; first | (rw [if_pos c15, hkx.1, ix_nI (by omega)]; exact lx_a (lx_m 2 rfl) rfl) | (rw [if_neg c15, hkx.1, ix_nI (by omega)]; exact lx_a (lx_m 2 rfl) rfl)) ?_
        refine istore_n_4_3 (pc := 24) g dX0_writingAt_24 ?_
        refine j_iload_n (pc := 25) g 3 dX0_writingAt_25 rfl rfl ?_
        refine j_aload_n (pc := 26) g 0 dX0_writingAt_26 rfl rfl ?_
        refine j_get (pc := 27) g dX0_writingAt_27 (by assumption) rfl inX0 7 (by decide) (by decide +kernel) rfl rfl ?_
        refine j_alen (pc := 30) g (nI 10) dX0_writingAt_30 (hw) rfl ?_
        refine j_icmp_ge (pc := 31) g 43 dX0_writingAt_31 (by decide) (fun c31 => absurd c31 (nI_ge (by omega) (by omega))) (fun c31 => ?_)
        refine j_aload_n (pc := 34) g 0 dX0_writingAt_34 rfl rfl ?_
        refine j_get (pc := 35) g dX0_writingAt_35 (by assumption) rfl inX0 7 (by decide) (by decide +kernel) rfl rfl ?_
        refine j_iload_n (pc := 38) g 3 dX0_writingAt_38 rfl rfl ?_
        refine j_aald (pc := 39) g dX0_writingAt_39 (hw) rfl (vp_in_nI (by omega) (by omega)) ?_
        rw [nI_clamp (by omega : 2 * ix k + ofI o < 2 ^ 31)]
        refine j_goto (pc := 40) g 44 dX0_writingAt_40 (by decide) ?_
        exact j_aretV (pc := 44) g r rfl (va_rf_ok _) (xq_r (by unfold wAt; rw [if_pos hk]) rfl) dX0_writingAt_44 (Nat.le_of_ble_eq_true rfl) (Nat.le_of_ble_eq_true rfl)
    · refine j_aconst_null (pc := 9) g dX0_writingAt_9 ?_
      exact j_aretN (pc := 10) g r rfl  (by unfold wAt; first | (rw [if_neg (fun z => absurd z.1 (Int32.not_le.mpr c1))]; exact ⟨rfl, rfl⟩) | (rw [if_neg (fun z => c6 z.2)]; exact ⟨rfl, rfl⟩)) dX0_writingAt_10 (Nat.le_of_ble_eq_true rfl) (Nat.le_of_ble_eq_true rfl)
