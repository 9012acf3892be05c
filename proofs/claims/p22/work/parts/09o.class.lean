theorem astore_n_5_3 {X : JC} {cc : ByteArray} {own : String} {Ts : List Cond} {cells slots pc : Nat} {rm : Room} {M : MH} {st : List Value} {a0 a1 a2 a3 a4 : Option Value} (g : jG X cc own Ts 5 rm) {x : Nat} (hd : decode cc pc = .ok (.astore_n 3, 1)) (k : J X 5 cells slots M [a0, a1, a2, some (.ref x), a4] st (pc + 1)) : J X 5 cells slots M [a0, a1, a2, a3, a4] (.ref x :: st) pc := j_astore_n g 3 hd rfl (Nat.le_of_ble_eq_true rfl) k
theorem astore_nN_5_3 {X : JC} {cc : ByteArray} {own : String} {Ts : List Cond} {cells slots pc : Nat} {rm : Room} {M : MH} {st : List Value} {a0 a1 a2 a3 a4 : Option Value} (g : jG X cc own Ts 5 rm) (hd : decode cc pc = .ok (.astore_n 3, 1)) (k : J X 5 cells slots M [a0, a1, a2, some (.null), a4] st (pc + 1)) : J X 5 cells slots M [a0, a1, a2, a3, a4] (.null :: st) pc := j_astore_nN g 3 hd rfl (Nat.le_of_ble_eq_true rfl) k
theorem inwX8_X8_prompt : ∀ w ∈ wsX80, w ∈ wsX8_prompt := fun w h => List.mem_cons_of_mem _ (List.mem_append_left _ (List.mem_append_left _ (List.mem_append_right _ h)))
theorem atX8_prompt_100 : ∀ w ∈ (vx_atS RX8 100 eIO eNs).filter goodWord, w ∈ wsX8_prompt := fun w h => List.mem_cons_of_mem _ (List.mem_append_right _ h)

theorem atB_55 : xTwB RX8 55 eIA = true := by decide +kernel
theorem atG_55 : ∀ w ∈ Cond.classLink RX8 51 eIA :: Cond.initialized eIA :: vx_atS RX8 55 eIA eNs, vx_ot w = true := by decide +kernel
theorem atB_68 : xTwB RX8 68 eIS = true := by decide +kernel
theorem atG_68 : ∀ w ∈ Cond.classLink RX8 64 eIS :: Cond.initialized eIS :: vx_atS RX8 68 eIS eNs, vx_ot w = true := by decide +kernel
theorem atB_100 : xTwB RX8 100 eIO = true := by decide +kernel
theorem atG_100 : ∀ w ∈ Cond.classLink RX8 96 eIO :: Cond.initialized eIO :: vx_atS RX8 100 eIO eNs, vx_ot w = true := by decide +kernel

set_option maxHeartbeats 400000 in
set_option maxRecDepth 100000 in
theorem k_prompt (l : Launch) (D : va_G) (hst : l.stackTraces = false) (M : MH) (x : Nat) (al : Nat → Nat → Nat) (S : ST) (d ns nd : Nat) (hc : CRep M x al S d ns nd) (hnd : S 12 0 = nI nd) (hnd12 : nd ≤ 12) (hdu : ∀ i, i < nd → mDu S i) (its k : Int32) : xT l D yX8_prompt wsX8_prompt ({ frames := 6, cells := 1, slots := 6, locals := 96 }) 1 6 [.ref x, .int its, .int k] (M) (fun v M' => tPrompt S its k = 0 ∧ v = some (.int (nI (promptI S (ix its) (ix k)))) ∧ M' = M) (fun E M' => xE (tPrompt S its k) eIO "" "" E ∧ M' = M) := by
  refine xT_of (cc := cX8_prompt) (maxL := 5) (ret := (some .int)) (own := RX8) hst [some (.ref x), some (.int its), some (.int k), none, none] (by decide) rfl rfl (Nat.le_of_ble_eq_true rfl) rfl rfl rfl ?_
  intro X hXl hXD g r t
  subst hXl
  subst hXD
  have inX8 : ∀ w ∈ wsX80, w ∈ wsX8_prompt := inwX8_X8_prompt
  have hc0 := hc
  have hdu0 := hdu
  obtain ⟨⟨hx, hT0, hT1, hT2, hT3, hT4⟩, hP, hY, hJ, hG, hD, hW⟩ := hc
  refine j_aload_n (pc := 0) g 0 dX8_prompt_0 rfl rfl ?_
  refine j_iload_n (pc := 1) g 1 dX8_prompt_1 rfl rfl ?_
  refine j_cVr (pc := 2) (n := 1) g (c_duelAt (jl X) (jD X) M x _ _ _ _ _ _ _ _ _ _ hx (rowF (al 7) nd) hT4 _) dX8_prompt_2 (hx) rfl gX8_prompt_X8_duelAt rfl rfl rfl rfl ⟨rfl, by decide, by decide, by decide +kernel⟩ ⟨Nat.le_of_ble_eq_true rfl, Nat.le_of_ble_eq_true rfl⟩ ⟨Nat.le_of_ble_eq_true rfl, Nat.le_of_ble_eq_true rfl⟩ rfl (Nat.le_of_ble_eq_true rfl) ?_
  rcases at_or (g := al 7) (i := its) hnd12 (by decide) with ⟨hdu, hix, hlt, e1⟩ | ⟨hdu, e1⟩
  · rw [e1]
    have hdS : isDu S its := by unfold isDu; rw [hnd]; exact hdu
    obtain ⟨hd, ⟨fp, hfp, hfv⟩, hdw⟩ := hD.1 _ hlt
    refine astore_n_5_3 (pc := 5) g dX8_prompt_5 ?_
    refine j_aload_n (pc := 6) g 3 dX8_prompt_6 rfl rfl ?_
    refine j_ifnonnull (pc := 7) g 14 dX8_prompt_7 (by decide) ?_
    refine j_aload_n (pc := 14) g 3 dX8_prompt_14 rfl rfl ?_
    refine j_iload_n (pc := 15) g 2 dX8_prompt_15 rfl rfl ?_
    refine j_cVi (pc := 16) (n := 1) g (c_promptAt (jl X) (jD X) M _ _ _ _ _ _ _ _ _ _ _ hd fp hfp k) dX8_prompt_16 (hd) rfl gX8_prompt_X0_promptAt rfl rfl rfl rfl ⟨rfl, by decide, by decide, by decide +kernel⟩ ⟨Nat.le_of_ble_eq_true rfl, Nat.le_of_ble_eq_true rfl⟩ ⟨Nat.le_of_ble_eq_true rfl, Nat.le_of_ble_eq_true rfl⟩ rfl (Nat.le_of_ble_eq_true rfl) ?_
    rcases pr_at (k := k) (hdu0 _ hlt) hfv with ⟨hk0, hk1, e2⟩ | ⟨hkn, e2⟩
    · rw [e2]
      refine istore_5_4 (pc := 19) g dX8_prompt_19 ?_
      refine j_iload (pc := 21) g dX8_prompt_21 rfl ?_
      refine j_iconst (pc := 23) g (-1) dX8_prompt_23 (by decide) ?_
      refine j_icmp_ne (pc := 24) g 38 dX8_prompt_24 (by decide) (fun c24 => ?_) (fun c24 => absurd c24 (ne_m1 (by have := Nat.mod_lt (ix (S 19 (ix its)) + 17 * ix k) (y := ix (S 20 (ix its))) (by have := (hdu0 _ hlt).i20; omega); have := (hdu0 _ hlt).i20; show (ix (S 19 (ix its)) + 17 * ix k) % ix (S 20 (ix its)) < 2 ^ 31; omega)))
      refine j_iload (pc := 38) g dX8_prompt_38 rfl ?_
      exact j_iret (pc := 40) g r rfl rfl (⟨by unfold tPrompt; rw [if_neg (not_not_intro ⟨hdS, hk0, hk1⟩)], rfl, rfl⟩) dX8_prompt_40 (Nat.le_of_ble_eq_true rfl) (Nat.le_of_ble_eq_true rfl)
    · rw [e2]
      refine istore_5_4 (pc := 19) g dX8_prompt_19 ?_
      refine j_iload (pc := 21) g dX8_prompt_21 rfl ?_
      refine j_iconst (pc := 23) g (-1) dX8_prompt_23 (by decide) ?_
      refine j_icmp_ne (pc := 24) g 38 dX8_prompt_24 (by decide) (fun c24 => absurd c24 (fun z => z rfl)) (fun c24 => ?_)
      exact j_throwSW (pc := 27) g t "java/lang/IndexOutOfBoundsException" "no such duel or round" dX8_prompt_27 dX8_prompt_30 dX8_prompt_31 dX8_prompt_34 dX8_prompt_37 rfl (by decide +kernel) (by decide) (by decide +kernel) (by decide +kernel) atX8_prompt_100 atB_100 atG_100 (Nat.le_of_ble_eq_true rfl) (Nat.le_of_ble_eq_true rfl) (Nat.le_of_ble_eq_true rfl) (Nat.le_of_ble_eq_true rfl) (Nat.le_of_ble_eq_true rfl) (Nat.le_of_ble_eq_true rfl) (⟨Or.inl ⟨by unfold tPrompt; rw [if_pos (fun z => hkn z.2)], rfl⟩, rfl⟩)
  · rw [e1]
    have hdN : ¬ isDu S its := by unfold isDu; rw [hnd]; exact hdu
    refine astore_nN_5_3 (pc := 5) g dX8_prompt_5 ?_
    refine j_aload_nN (pc := 6) g 3 dX8_prompt_6 rfl rfl ?_
    refine j_ifnonnullN (pc := 7) g dX8_prompt_7 ?_
    refine j_iconst (pc := 10) g (-1) dX8_prompt_10 (by decide) ?_
    refine j_goto (pc := 11) g 19 dX8_prompt_11 (by decide) ?_
    refine istore_5_4 (pc := 19) g dX8_prompt_19 ?_
    refine j_iload (pc := 21) g dX8_prompt_21 rfl ?_
    refine j_iconst (pc := 23) g (-1) dX8_prompt_23 (by decide) ?_
    refine j_icmp_ne (pc := 24) g 38 dX8_prompt_24 (by decide) (fun c24 => absurd c24 (fun z => z rfl)) (fun c24 => ?_)
    exact j_throwSW (pc := 27) g t "java/lang/IndexOutOfBoundsException" "no such duel or round" dX8_prompt_27 dX8_prompt_30 dX8_prompt_31 dX8_prompt_34 dX8_prompt_37 rfl (by decide +kernel) (by decide) (by decide +kernel) (by decide +kernel) atX8_prompt_100 atB_100 atG_100 (Nat.le_of_ble_eq_true rfl) (Nat.le_of_ble_eq_true rfl) (Nat.le_of_ble_eq_true rfl) (Nat.le_of_ble_eq_true rfl) (Nat.le_of_ble_eq_true rfl) (Nat.le_of_ble_eq_true rfl) (⟨Or.inl ⟨by unfold tPrompt; rw [if_pos (fun z => hdN z.1)], rfl⟩, rfl⟩)
