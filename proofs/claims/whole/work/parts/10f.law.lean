



set_option maxHeartbeats 400000 in
set_option maxRecDepth 100000 in
theorem w_look (l : Launch) (D : va_G) (hst : l.stackTraces = false) (M Mx : MH) (x m o od : Nat) (ad : Nat → Nat) (al : Nat → Nat → Nat) (S : ST) (d ns nd : Nat) (f : Nat → Int64) (fd : Nat → UInt64) (hr : LR M Mx m ad S o od f fd) (hc : CRep Mx x al S d ns nd) (hk : mOK S d ns nd) (its k b : Int32) : xW l D yL_look wsL_look ({ frames := 7, cells := 1, slots := 6, locals := 121 }) 1 6 [.ref x, .int its, .int k, .int b, .ref o] M (wP (tLook S its k b) ((if S 25 (wI (ix its) (ix k) b) = 0 then 0 else 1)) x m ad S o od fd d ns nd (nLook S its k b) d ns nd) := by
  refine xW_of (cc := cL_look) (maxL := 6) (ret := (some .int)) (own := RL) [some (.ref x), some (.int its), some (.int k), some (.int b), some (.ref o), none] (by decide) rfl rfl (Nat.le_of_ble_eq_true rfl) rfl rfl rfl ?_
  intro X hXl hXD g r t0 t
  subst hXl
  subst hXD
  refine j_aload (pc := 0) g dL_look_0 rfl ?_
  refine j_iconst (pc := 2) g (0) dL_look_2 (by decide) ?_
  refine j_aload_n (pc := 3) g 0 dL_look_3 rfl rfl ?_
  refine j_iload_n (pc := 4) g 1 dL_look_4 rfl rfl ?_
  refine j_iload_n (pc := 5) g 2 dL_look_5 rfl rfl ?_
  refine j_iload_n (pc := 6) g 3 dL_look_6 rfl rfl ?_
  refine j_callTV (pc := 7) (n := 3) g t0 (hr.1 _ _ hc.1.1) rfl (hr.1) (k_look (jl X) (jD X) hst Mx x al S d ns nd hc hk.2.2.1.1 hk.2.2.1.2.1 (fun i hi => (hk.2.2.1.2.2 i hi).1) hk.2.2.2.2.2.1 its k b) dL_look_7 gL_look_X8_look rfl rfl rfl rfl ⟨rfl, by decide, by decide, by decide +kernel⟩ ⟨Nat.le_of_ble_eq_true rfl, Nat.le_of_ble_eq_true rfl⟩ ⟨Nat.le_of_ble_eq_true rfl, Nat.le_of_ble_eq_true rfl⟩ rfl (Nat.le_of_ble_eq_true rfl) (fun E M1 hE hn => ?_) (fun v M1 hp hn => ?_)
  · obtain ⟨hE, rfl⟩ := hE
    rcases hE with ⟨t1, rfl⟩ | ⟨t1, rfl⟩ | ⟨t1, rfl⟩
    · refine j_catch (pc := 7) (nm := eIO) g t0 t [] [] 0 19 22 25 rfl (fun z hz => absurd hz (by simp)) rfl (by decide) (by decide +kernel) (by decide) (fun q => ?_)
      refine astore_6_5 (pc := 22) g dL_look_22 ?_
      refine j_iconst (pc := 24) g (1) dL_look_24 (by decide) ?_
      exact j_iret (pc := 25) g r rfl rfl (⟨by rw [t1], _, al, f, hr.call hn, fun z => absurd (t1.symm.trans z) (by decide), fun _ => hc⟩) dL_look_25 (Nat.le_of_ble_eq_true rfl) (Nat.le_of_ble_eq_true rfl)
    · exact absurd t1 (by unfold tLook; (repeat' split) <;> decide)
    · exact absurd t1 (by unfold tLook; (repeat' split) <;> decide)
  · obtain ⟨tz, rfl, hR⟩ := hp
    show J X 6 _ _ _ _ [.int (S 25 (wI (ix its) (ix k) b)), .int 0, .ref o] (7 + 3)
    refine j_if_eq (pc := 10) g 17 dL_look_10 (by decide) (fun c10 => ?_) (fun c10 => ?_)
    · refine j_lconst (pc := 17) g 0 dL_look_17 (by decide) ?_
      refine j_last (pc := 18) g dL_look_18 ((hr.call hn).2.2.2.1.1) (vp_in_nI (n := 0) (by omega) (by omega)) ?_
      refine j_goto (pc := 19) g 26 dL_look_19 (by decide) ?_
      refine j_iconst (pc := 26) g (0) dL_look_26 (by decide) ?_
      exact j_iret (pc := 27) g r rfl rfl (⟨by rw [tz], _, al, _, (hr.call hn).out _, fun _ => ⟨by first | (rw [if_pos c10]; exact if_pos rfl) | (rw [if_neg c10]; exact if_pos rfl), hR⟩, fun z => absurd tz z⟩) dL_look_27 (Nat.le_of_ble_eq_true rfl) (Nat.le_of_ble_eq_true rfl)
    · refine j_lconst (pc := 13) g 1 dL_look_13 (by decide) ?_
      refine j_goto (pc := 14) g 18 dL_look_14 (by decide) ?_
      refine j_last (pc := 18) g dL_look_18 ((hr.call hn).2.2.2.1.1) (vp_in_nI (n := 0) (by omega) (by omega)) ?_
      refine j_goto (pc := 19) g 26 dL_look_19 (by decide) ?_
      refine j_iconst (pc := 26) g (0) dL_look_26 (by decide) ?_
      exact j_iret (pc := 27) g r rfl rfl (⟨by rw [tz], _, al, _, (hr.call hn).out _, fun _ => ⟨by first | (rw [if_pos c10]; exact if_pos rfl) | (rw [if_neg c10]; exact if_pos rfl), hR⟩, fun z => absurd tz z⟩) dL_look_27 (Nat.le_of_ble_eq_true rfl) (Nat.le_of_ble_eq_true rfl)

set_option maxHeartbeats 400000 in
set_option maxRecDepth 100000 in
theorem w_appeal (l : Launch) (D : va_G) (hst : l.stackTraces = false) (M Mx : MH) (x m o od : Nat) (ad : Nat → Nat) (al : Nat → Nat → Nat) (S : ST) (d ns nd : Nat) (f : Nat → Int64) (fd : Nat → UInt64) (hr : LR M Mx m ad S o od f fd) (hc : CRep Mx x al S d ns nd) (hk : mOK S d ns nd) (its w : Int32) : xW l D yL_appeal wsL_appeal ({ frames := 7, cells := 1, slots := 6, locals := 167 }) 1 6 [.ref x, .int its, .int w, .ref o] M (wP (tAppeal S its w) ((wnS (nAppeal S its w) (ix its)).toInt64) x m ad S o od fd d ns nd (nAppeal S its w) d ns nd) := by
  refine xW_of (cc := cL_appeal) (maxL := 5) (ret := (some .int)) (own := RL) [some (.ref x), some (.int its), some (.int w), some (.ref o), none] (by decide) rfl rfl (Nat.le_of_ble_eq_true rfl) rfl rfl rfl ?_
  intro X hXl hXD g r t0 t
  subst hXl
  subst hXD
  refine j_aload_n (pc := 0) g 3 dL_appeal_0 rfl rfl ?_
  refine j_iconst (pc := 1) g (0) dL_appeal_1 (by decide) ?_
  refine j_aload_n (pc := 2) g 0 dL_appeal_2 rfl rfl ?_
  refine j_iload_n (pc := 3) g 1 dL_appeal_3 rfl rfl ?_
  refine j_iload_n (pc := 4) g 2 dL_appeal_4 rfl rfl ?_
  refine j_callTV (pc := 5) (n := 2) g t0 (hr.1 _ _ hc.1.1) rfl (hr.1) (k_appeal (jl X) (jD X) hst Mx x al S d ns nd hc hk.2.2.1.1 hk.2.2.1.2.1 hk.2.2.1.2.2 hk.2.1.2 its w) dL_appeal_5 gL_appeal_X8_appeal rfl rfl rfl rfl ⟨rfl, by decide, by decide, by decide +kernel⟩ ⟨Nat.le_of_ble_eq_true rfl, Nat.le_of_ble_eq_true rfl⟩ ⟨Nat.le_of_ble_eq_true rfl, Nat.le_of_ble_eq_true rfl⟩ rfl (Nat.le_of_ble_eq_true rfl) (fun E M1 hE hn => ?_) (fun v M1 hp hn => ?_)
  · obtain ⟨hE, rfl⟩ := hE
    rcases hE with ⟨t1, rfl⟩ | ⟨t1, rfl⟩ | ⟨t1, rfl⟩
    · refine j_catch (pc := 5) (nm := eIO) g t0 t [] [(0, 10, 17, 15)] 0 10 13 25 rfl (fun z hz => absurd hz (by simp)) rfl (by decide) (by decide +kernel) (by decide) (fun q => ?_)
      refine astore_5_4 (pc := 13) g dL_appeal_13 ?_
      refine j_iconst (pc := 15) g (1) dL_appeal_15 (by decide) ?_
      exact j_iret (pc := 16) g r rfl rfl (⟨by rw [t1], _, al, f, hr.call hn, fun z => absurd (t1.symm.trans z) (by decide), fun _ => hc⟩) dL_appeal_16 (Nat.le_of_ble_eq_true rfl) (Nat.le_of_ble_eq_true rfl)
    · refine j_catch (pc := 5) (nm := eIS) g t0 t [(0, 10, 13, 25)] [] 0 10 17 15 rfl (List.forall_mem_cons.mpr ⟨⟨by decide, eIO, by decide +kernel, t0.n2⟩, fun _ h => absurd h List.not_mem_nil⟩) rfl (by decide) (by decide +kernel) (by decide) (fun q => ?_)
      refine astore_5_4 (pc := 17) g dL_appeal_17 ?_
      refine j_iconst (pc := 19) g (2) dL_appeal_19 (by decide) ?_
      exact j_iret (pc := 20) g r rfl rfl (⟨by rw [t1], _, al, f, hr.call hn, fun z => absurd (t1.symm.trans z) (by decide), fun _ => hc⟩) dL_appeal_20 (Nat.le_of_ble_eq_true rfl) (Nat.le_of_ble_eq_true rfl)
    · exact absurd t1 (by unfold tAppeal; (repeat' split) <;> decide)
  · obtain ⟨tz, rfl, hR⟩ := hp
    show J X 5 _ _ _ _ [.int (wnS (nAppeal S its w) (ix its)), .int 0, .ref o] (5 + 3)
    refine j_i2l (pc := 8) g dL_appeal_8 ?_
    refine j_last (pc := 9) g dL_appeal_9 ((hr.call hn).2.2.2.1.1) (vp_in_nI (n := 0) (by omega) (by omega)) ?_
    refine j_goto (pc := 10) g 21 dL_appeal_10 (by decide) ?_
    refine j_iconst (pc := 21) g (0) dL_appeal_21 (by decide) ?_
    exact j_iret (pc := 22) g r rfl rfl (⟨by rw [tz], _, al, _, (hr.call hn).out _, fun _ => ⟨if_pos rfl, hR⟩, fun z => absurd tz z⟩) dL_appeal_22 (Nat.le_of_ble_eq_true rfl) (Nat.le_of_ble_eq_true rfl)

set_option maxHeartbeats 400000 in
set_option maxRecDepth 100000 in
theorem w_prompt (l : Launch) (D : va_G) (hst : l.stackTraces = false) (M Mx : MH) (x m o od : Nat) (ad : Nat → Nat) (al : Nat → Nat → Nat) (S : ST) (d ns nd : Nat) (f : Nat → Int64) (fd : Nat → UInt64) (hr : LR M Mx m ad S o od f fd) (hc : CRep Mx x al S d ns nd) (hk : mOK S d ns nd) (its k : Int32) : xW l D yL_prompt wsL_prompt ({ frames := 7, cells := 1, slots := 6, locals := 120 }) 1 6 [.ref x, .int its, .int k, .ref o] M (wP (tPrompt S its k) ((nI (promptI S (ix its) (ix k))).toInt64) x m ad S o od fd d ns nd (S) d ns nd) := by
  refine xW_of (cc := cL_prompt) (maxL := 5) (ret := (some .int)) (own := RL) [some (.ref x), some (.int its), some (.int k), some (.ref o), none] (by decide) rfl rfl (Nat.le_of_ble_eq_true rfl) rfl rfl rfl ?_
  intro X hXl hXD g r t0 t
  subst hXl
  subst hXD
  refine j_aload_n (pc := 0) g 3 dL_prompt_0 rfl rfl ?_
  refine j_iconst (pc := 1) g (0) dL_prompt_1 (by decide) ?_
  refine j_aload_n (pc := 2) g 0 dL_prompt_2 rfl rfl ?_
  refine j_iload_n (pc := 3) g 1 dL_prompt_3 rfl rfl ?_
  refine j_iload_n (pc := 4) g 2 dL_prompt_4 rfl rfl ?_
  refine j_callTV (pc := 5) (n := 2) g t0 (hr.1 _ _ hc.1.1) rfl (hr.1) (k_prompt (jl X) (jD X) hst Mx x al S d ns nd hc hk.2.2.1.1 hk.2.2.1.2.1 (fun i hi => (hk.2.2.1.2.2 i hi).1) its k) dL_prompt_5 gL_prompt_X8_prompt rfl rfl rfl rfl ⟨rfl, by decide, by decide, by decide +kernel⟩ ⟨Nat.le_of_ble_eq_true rfl, Nat.le_of_ble_eq_true rfl⟩ ⟨Nat.le_of_ble_eq_true rfl, Nat.le_of_ble_eq_true rfl⟩ rfl (Nat.le_of_ble_eq_true rfl) (fun E M1 hE hn => ?_) (fun v M1 hp hn => ?_)
  · obtain ⟨hE, rfl⟩ := hE
    rcases hE with ⟨t1, rfl⟩ | ⟨t1, rfl⟩ | ⟨t1, rfl⟩
    · refine j_catch (pc := 5) (nm := eIO) g t0 t [] [] 0 10 13 25 rfl (fun z hz => absurd hz (by simp)) rfl (by decide) (by decide +kernel) (by decide) (fun q => ?_)
      refine astore_5_4 (pc := 13) g dL_prompt_13 ?_
      refine j_iconst (pc := 15) g (1) dL_prompt_15 (by decide) ?_
      exact j_iret (pc := 16) g r rfl rfl (⟨by rw [t1], _, al, f, hr.call hn, fun z => absurd (t1.symm.trans z) (by decide), fun _ => hc⟩) dL_prompt_16 (Nat.le_of_ble_eq_true rfl) (Nat.le_of_ble_eq_true rfl)
    · exact absurd t1 (by unfold tPrompt; (repeat' split) <;> decide)
    · exact absurd t1 (by unfold tPrompt; (repeat' split) <;> decide)
  · obtain ⟨tz, rfl, rfl⟩ := hp
    show J X 5 _ _ _ _ [.int (nI (promptI S (ix its) (ix k))), .int 0, .ref o] (5 + 3)
    refine j_i2l (pc := 8) g dL_prompt_8 ?_
    refine j_last (pc := 9) g dL_prompt_9 ((hr.call hn).2.2.2.1.1) (vp_in_nI (n := 0) (by omega) (by omega)) ?_
    refine j_goto (pc := 10) g 17 dL_prompt_10 (by decide) ?_
    refine j_iconst (pc := 17) g (0) dL_prompt_17 (by decide) ?_
    exact j_iret (pc := 18) g r rfl rfl (⟨by rw [tz], _, al, _, (hr.call hn).out _, fun _ => ⟨if_pos rfl, hc⟩, fun z => absurd tz z⟩) dL_prompt_18 (Nat.le_of_ble_eq_true rfl) (Nat.le_of_ble_eq_true rfl)

set_option maxHeartbeats 400000 in
set_option maxRecDepth 100000 in
theorem w_mark (l : Launch) (D : va_G) (hst : l.stackTraces = false) (M Mx : MH) (x m o od : Nat) (ad : Nat → Nat) (al : Nat → Nat → Nat) (S : ST) (d ns nd : Nat) (f : Nat → Int64) (fd : Nat → UInt64) (hr : LR M Mx m ad S o od f fd) (hc : CRep Mx x al S d ns nd) (hk : mOK S d ns nd) (gn y : Int32) : xW l D yL_mark wsL_mark ({ frames := 7, cells := 8, slots := 28, locals := 123 }) 8 28 [.ref x, .int gn, .int y, .ref od] M (wD (tMark S gn y) (markS S 2 0 d (ix gn) (ix y) (ix (S 4 (ix gn))) 0) x m ad S o od f d ns nd) := by
  refine xW_of (cc := cL_mark) (maxL := 5) (ret := (some .int)) (own := RL) [some (.ref x), some (.int gn), some (.int y), some (.ref od), none] (by decide) rfl rfl (Nat.le_of_ble_eq_true rfl) rfl rfl rfl ?_
  intro X hXl hXD g r t0 t
  subst hXl
  subst hXD
  refine j_aload_n (pc := 0) g 3 dL_mark_0 rfl rfl ?_
  refine j_iconst (pc := 1) g (0) dL_mark_1 (by decide) ?_
  refine j_aload_n (pc := 2) g 0 dL_mark_2 rfl rfl ?_
  refine j_iload_n (pc := 3) g 1 dL_mark_3 rfl rfl ?_
  refine j_iload_n (pc := 4) g 2 dL_mark_4 rfl rfl ?_
  refine j_callTV (pc := 5) (n := 2) g t0 (hr.1 _ _ hc.1.1) rfl (hr.1) (k_mark (jl X) (jD X) hst Mx x al S d ns nd hc hk.1.2.1 hk.1.2.2 hk.2.1.1 hk.2.1.2 gn y) dL_mark_5 gL_mark_X8_mark rfl rfl rfl rfl ⟨rfl, by decide, by decide, by decide +kernel⟩ ⟨Nat.le_of_ble_eq_true rfl, Nat.le_of_ble_eq_true rfl⟩ ⟨Nat.le_of_ble_eq_true rfl, Nat.le_of_ble_eq_true rfl⟩ rfl (Nat.le_of_ble_eq_true rfl) (fun E M1 hE hn => ?_) (fun v M1 hp hn => ?_)
  · obtain ⟨hE, rfl⟩ := hE
    rcases hE with ⟨t1, rfl⟩ | ⟨t1, rfl⟩ | ⟨t1, rfl⟩
    · refine j_catch (pc := 5) (nm := eIO) g t0 t [] [] 0 10 13 25 rfl (fun z hz => absurd hz (by simp)) rfl (by decide) (by decide +kernel) (by decide) (fun q => ?_)
      refine astore_5_4 (pc := 13) g dL_mark_13 ?_
      refine j_iconst (pc := 15) g (1) dL_mark_15 (by decide) ?_
      exact j_iret (pc := 16) g r rfl rfl (⟨by rw [t1], _, al, fd, hr.call hn, fun z => absurd (t1.symm.trans z) (by decide), hc⟩) dL_mark_16 (Nat.le_of_ble_eq_true rfl) (Nat.le_of_ble_eq_true rfl)
    · exact absurd t1 (by unfold tMark; (repeat' split) <;> decide)
    · exact absurd t1 (by unfold tMark; (repeat' split) <;> decide)
  · obtain ⟨tz, rfl, hR⟩ := hp
    show J X 5 _ _ _ _ [.float (markS S 2 0 d (ix gn) (ix y) (ix (S 4 (ix gn))) 0), .int 0, .ref od] (5 + 3)
    refine j_f2d (pc := 8) g dL_mark_8 (f2d_n (fl_mark hk tz) (by decide)) ?_
    refine j_dast (pc := 9) g dL_mark_9 ((hr.call hn).2.2.2.1.2) (vp_in_nI (n := 0) (by omega) (by omega)) ?_
    refine j_goto (pc := 10) g 17 dL_mark_10 (by decide) ?_
    refine j_iconst (pc := 17) g (0) dL_mark_17 (by decide) ?_
    exact j_iret (pc := 18) g r rfl rfl (⟨by rw [tz], _, al, _, (hr.call hn).outD _, fun _ => if_pos rfl, hc.st hR sf.rf⟩) dL_mark_18 (Nat.le_of_ble_eq_true rfl) (Nat.le_of_ble_eq_true rfl)

set_option maxHeartbeats 400000 in
set_option maxRecDepth 100000 in
theorem w_part (l : Launch) (D : va_G) (hst : l.stackTraces = false) (M Mx : MH) (x m o od : Nat) (ad : Nat → Nat) (al : Nat → Nat → Nat) (S : ST) (d ns nd : Nat) (f : Nat → Int64) (fd : Nat → UInt64) (hr : LR M Mx m ad S o od f fd) (hc : CRep Mx x al S d ns nd) (hk : mOK S d ns nd) (gn k w : Int32) : xW l D yL_part wsL_part ({ frames := 7, cells := 2, slots := 9, locals := 121 }) 2 9 [.ref x, .int gn, .int k, .int w, .ref od] M (wD (tPart S gn k w) (vPart S gn k w) x m ad S o od f d ns nd) := by
  refine xW_of (cc := cL_part) (maxL := 6) (ret := (some .int)) (own := RL) [some (.ref x), some (.int gn), some (.int k), some (.int w), some (.ref od), none] (by decide) rfl rfl (Nat.le_of_ble_eq_true rfl) rfl rfl rfl ?_
  intro X hXl hXD g r t0 t
  subst hXl
  subst hXD
  refine j_aload (pc := 0) g dL_part_0 rfl ?_
  refine j_iconst (pc := 2) g (0) dL_part_2 (by decide) ?_
  refine j_aload_n (pc := 3) g 0 dL_part_3 rfl rfl ?_
  refine j_iload_n (pc := 4) g 1 dL_part_4 rfl rfl ?_
  refine j_iload_n (pc := 5) g 2 dL_part_5 rfl rfl ?_
  refine j_iload_n (pc := 6) g 3 dL_part_6 rfl rfl ?_
  refine j_callTV (pc := 7) (n := 3) g t0 (hr.1 _ _ hc.1.1) rfl (hr.1) (k_part (jl X) (jD X) hst Mx x al S d ns nd hc hk.1.2.1 hk.1.2.2 hk.2.1.1 hk.2.1.2 hk.1.1 gn k w) dL_part_7 gL_part_X8_part rfl rfl rfl rfl ⟨rfl, by decide, by decide, by decide +kernel⟩ ⟨Nat.le_of_ble_eq_true rfl, Nat.le_of_ble_eq_true rfl⟩ ⟨Nat.le_of_ble_eq_true rfl, Nat.le_of_ble_eq_true rfl⟩ rfl (Nat.le_of_ble_eq_true rfl) (fun E M1 hE hn => ?_) (fun v M1 hp hn => ?_)
  · obtain ⟨hE, hpr⟩ := hE
    rcases hE with ⟨t1, rfl⟩ | ⟨t1, rfl⟩ | ⟨t1, rfl⟩
    · refine j_catch (pc := 7) (nm := eIO) g t0 t [] [(0, 12, 19, 13)] 0 12 15 25 rfl (fun z hz => absurd hz (by simp)) rfl (by decide) (by decide +kernel) (by decide) (fun q => ?_)
      refine astore_6_5 (pc := 15) g dL_part_15 ?_
      refine j_iconst (pc := 17) g (1) dL_part_17 (by decide) ?_
      exact j_iret (pc := 18) g r rfl rfl (⟨by rw [t1], _, al, fd, hr.call hn, fun z => absurd (t1.symm.trans z) (by decide), hc.st hpr sf.rf⟩) dL_part_18 (Nat.le_of_ble_eq_true rfl) (Nat.le_of_ble_eq_true rfl)
    · refine j_catch (pc := 7) (nm := eIA) g t0 t [(0, 12, 15, 25)] [] 0 12 19 13 rfl (List.forall_mem_cons.mpr ⟨⟨by decide, eIO, by decide +kernel, t0.n1⟩, fun _ h => absurd h List.not_mem_nil⟩) rfl (by decide) (by decide +kernel) (by decide) (fun q => ?_)
      refine astore_6_5 (pc := 19) g dL_part_19 ?_
      refine j_iconst (pc := 21) g (2) dL_part_21 (by decide) ?_
      exact j_iret (pc := 22) g r rfl rfl (⟨by rw [t1], _, al, fd, hr.call hn, fun z => absurd (t1.symm.trans z) (by decide), hc.st hpr sf.rf⟩) dL_part_22 (Nat.le_of_ble_eq_true rfl) (Nat.le_of_ble_eq_true rfl)
    · exact absurd t1 (by unfold tPart; (repeat' split) <;> decide)
  · obtain ⟨tz, rfl, hR⟩ := hp
    show J X 6 _ _ _ _ [.float (vPart S gn k w), .int 0, .ref od] (7 + 3)
    refine j_f2d (pc := 10) g dL_part_10 (f2d_n (fl_part hk tz) (by decide)) ?_
    refine j_dast (pc := 11) g dL_part_11 ((hr.call hn).2.2.2.1.2) (vp_in_nI (n := 0) (by omega) (by omega)) ?_
    refine j_goto (pc := 12) g 23 dL_part_12 (by decide) ?_
    refine j_iconst (pc := 23) g (0) dL_part_23 (by decide) ?_
    exact j_iret (pc := 24) g r rfl rfl (⟨by rw [tz], _, al, _, (hr.call hn).outD _, fun _ => if_pos rfl, hc.st hR sf.rf⟩) dL_part_24 (Nat.le_of_ble_eq_true rfl) (Nat.le_of_ble_eq_true rfl)

set_option maxHeartbeats 400000 in
set_option maxRecDepth 100000 in
theorem w_marked (l : Launch) (D : va_G) (hst : l.stackTraces = false) (M Mx : MH) (x m o od : Nat) (ad : Nat → Nat) (al : Nat → Nat → Nat) (S : ST) (d ns nd : Nat) (f : Nat → Int64) (fd : Nat → UInt64) (hr : LR M Mx m ad S o od f fd) (hc : CRep Mx x al S d ns nd) (hk : mOK S d ns nd) (its k b : Int32) : xW l D yL_marked wsL_marked ({ frames := 7, cells := 1, slots := 6, locals := 121 }) 1 6 [.ref x, .int its, .int k, .int b, .ref od] M (wD (tMarked S its k b) (allS S (ix its) (wI (ix its) (ix k) b)) x m ad S o od f d ns nd) := by
  refine xW_of (cc := cL_marked) (maxL := 6) (ret := (some .int)) (own := RL) [some (.ref x), some (.int its), some (.int k), some (.int b), some (.ref od), none] (by decide) rfl rfl (Nat.le_of_ble_eq_true rfl) rfl rfl rfl ?_
  intro X hXl hXD g r t0 t
  subst hXl
  subst hXD
  refine j_aload (pc := 0) g dL_marked_0 rfl ?_
  refine j_iconst (pc := 2) g (0) dL_marked_2 (by decide) ?_
  refine j_aload_n (pc := 3) g 0 dL_marked_3 rfl rfl ?_
  refine j_iload_n (pc := 4) g 1 dL_marked_4 rfl rfl ?_
  refine j_iload_n (pc := 5) g 2 dL_marked_5 rfl rfl ?_
  refine j_iload_n (pc := 6) g 3 dL_marked_6 rfl rfl ?_
  refine j_callTV (pc := 7) (n := 3) g t0 (hr.1 _ _ hc.1.1) rfl (hr.1) (k_marked (jl X) (jD X) hst Mx x al S d ns nd hc hk.2.2.1.1 hk.2.2.1.2.1 hk.2.2.1.2.2 hk.2.1.2 its k b) dL_marked_7 gL_marked_X8_marked rfl rfl rfl rfl ⟨rfl, by decide, by decide, by decide +kernel⟩ ⟨Nat.le_of_ble_eq_true rfl, Nat.le_of_ble_eq_true rfl⟩ ⟨Nat.le_of_ble_eq_true rfl, Nat.le_of_ble_eq_true rfl⟩ rfl (Nat.le_of_ble_eq_true rfl) (fun E M1 hE hn => ?_) (fun v M1 hp hn => ?_)
  · obtain ⟨hE, rfl⟩ := hE
    rcases hE with ⟨t1, rfl⟩ | ⟨t1, rfl⟩ | ⟨t1, rfl⟩
    · refine j_catch (pc := 7) (nm := eIO) g t0 t [] [] 0 12 15 25 rfl (fun z hz => absurd hz (by simp)) rfl (by decide) (by decide +kernel) (by decide) (fun q => ?_)
      refine astore_6_5 (pc := 15) g dL_marked_15 ?_
      refine j_iconst (pc := 17) g (1) dL_marked_17 (by decide) ?_
      exact j_iret (pc := 18) g r rfl rfl (⟨by rw [t1], _, al, fd, hr.call hn, fun z => absurd (t1.symm.trans z) (by decide), hc⟩) dL_marked_18 (Nat.le_of_ble_eq_true rfl) (Nat.le_of_ble_eq_true rfl)
    · exact absurd t1 (by unfold tMarked; (repeat' split) <;> decide)
    · exact absurd t1 (by unfold tMarked; (repeat' split) <;> decide)
  · obtain ⟨tz, rfl, rfl⟩ := hp
    show J X 6 _ _ _ _ [.float (allS S (ix its) (wI (ix its) (ix k) b)), .int 0, .ref od] (7 + 3)
    refine j_f2d (pc := 10) g dL_marked_10 (f2d_n (fl_marked hk tz) (by decide)) ?_
    refine j_dast (pc := 11) g dL_marked_11 ((hr.call hn).2.2.2.1.2) (vp_in_nI (n := 0) (by omega) (by omega)) ?_
    refine j_goto (pc := 12) g 19 dL_marked_12 (by decide) ?_
    refine j_iconst (pc := 19) g (0) dL_marked_19 (by decide) ?_
    exact j_iret (pc := 20) g r rfl rfl (⟨by rw [tz], _, al, _, (hr.call hn).outD _, fun _ => if_pos rfl, hc⟩) dL_marked_20 (Nat.le_of_ble_eq_true rfl) (Nat.le_of_ble_eq_true rfl)

set_option maxHeartbeats 400000 in
set_option maxRecDepth 100000 in
theorem w_of (l : Launch) (D : va_G) (hst : l.stackTraces = false) (M Mx : MH) (x m o od : Nat) (ad : Nat → Nat) (al : Nat → Nat → Nat) (S : ST) (d ns nd : Nat) (f : Nat → Int64) (fd : Nat → UInt64) (hr : LR M Mx m ad S o od f fd) (hc : CRep Mx x al S d ns nd) (hk : mOK S d ns nd) (its w : Int32) : xW l D yL_of wsL_of ({ frames := 7, cells := 1, slots := 6, locals := 168 }) 1 6 [.ref x, .int its, .int w, .ref o] M (wP (tOf S its w) ((vOf S (ix its) w).toInt64) x m ad S o od fd d ns nd (S) d ns nd) := by
  refine xW_of (cc := cL_of) (maxL := 5) (ret := (some .int)) (own := RL) [some (.ref x), some (.int its), some (.int w), some (.ref o), none] (by decide) rfl rfl (Nat.le_of_ble_eq_true rfl) rfl rfl rfl ?_
  intro X hXl hXD g r t0 t
  subst hXl
  subst hXD
  refine j_aload_n (pc := 0) g 3 dL_of_0 rfl rfl ?_
  refine j_iconst (pc := 1) g (0) dL_of_1 (by decide) ?_
  refine j_aload_n (pc := 2) g 0 dL_of_2 rfl rfl ?_
  refine j_iload_n (pc := 3) g 1 dL_of_3 rfl rfl ?_
  refine j_iload_n (pc := 4) g 2 dL_of_4 rfl rfl ?_
  refine j_callTV (pc := 5) (n := 2) g t0 (hr.1 _ _ hc.1.1) rfl (hr.1) (k_of (jl X) (jD X) hst Mx x al S d ns nd hc hk.2.2.1.1 hk.2.2.1.2.1 hk.2.2.1.2.2 hk.2.1.2 its w) dL_of_5 gL_of_X8_of rfl rfl rfl rfl ⟨rfl, by decide, by decide, by decide +kernel⟩ ⟨Nat.le_of_ble_eq_true rfl, Nat.le_of_ble_eq_true rfl⟩ ⟨Nat.le_of_ble_eq_true rfl, Nat.le_of_ble_eq_true rfl⟩ rfl (Nat.le_of_ble_eq_true rfl) (fun E M1 hE hn => ?_) (fun v M1 hp hn => ?_)
  · obtain ⟨hE, rfl⟩ := hE
    rcases hE with ⟨t1, rfl⟩ | ⟨t1, rfl⟩ | ⟨t1, rfl⟩
    · refine j_catch (pc := 5) (nm := eIO) g t0 t [] [(0, 10, 17, 13)] 0 10 13 25 rfl (fun z hz => absurd hz (by simp)) rfl (by decide) (by decide +kernel) (by decide) (fun q => ?_)
      refine astore_5_4 (pc := 13) g dL_of_13 ?_
      refine j_iconst (pc := 15) g (1) dL_of_15 (by decide) ?_
      exact j_iret (pc := 16) g r rfl rfl (⟨by rw [t1], _, al, f, hr.call hn, fun z => absurd (t1.symm.trans z) (by decide), fun _ => hc⟩) dL_of_16 (Nat.le_of_ble_eq_true rfl) (Nat.le_of_ble_eq_true rfl)
    · refine j_catch (pc := 5) (nm := eIA) g t0 t [(0, 10, 13, 25)] [] 0 10 17 13 rfl (List.forall_mem_cons.mpr ⟨⟨by decide, eIO, by decide +kernel, t0.n1⟩, fun _ h => absurd h List.not_mem_nil⟩) rfl (by decide) (by decide +kernel) (by decide) (fun q => ?_)
      refine astore_5_4 (pc := 17) g dL_of_17 ?_
      refine j_iconst (pc := 19) g (2) dL_of_19 (by decide) ?_
      exact j_iret (pc := 20) g r rfl rfl (⟨by rw [t1], _, al, f, hr.call hn, fun z => absurd (t1.symm.trans z) (by decide), fun _ => hc⟩) dL_of_20 (Nat.le_of_ble_eq_true rfl) (Nat.le_of_ble_eq_true rfl)
    · exact absurd t1 (by unfold tOf; (repeat' split) <;> decide)
  · obtain ⟨tz, rfl, rfl⟩ := hp
    show J X 5 _ _ _ _ [.int (vOf S (ix its) w), .int 0, .ref o] (5 + 3)
    refine j_i2l (pc := 8) g dL_of_8 ?_
    refine j_last (pc := 9) g dL_of_9 ((hr.call hn).2.2.2.1.1) (vp_in_nI (n := 0) (by omega) (by omega)) ?_
    refine j_goto (pc := 10) g 21 dL_of_10 (by decide) ?_
    refine j_iconst (pc := 21) g (0) dL_of_21 (by decide) ?_
    exact j_iret (pc := 22) g r rfl rfl (⟨by rw [tz], _, al, _, (hr.call hn).out _, fun _ => ⟨if_pos rfl, hc⟩, fun z => absurd tz z⟩) dL_of_22 (Nat.le_of_ble_eq_true rfl) (Nat.le_of_ble_eq_true rfl)

set_option maxHeartbeats 400000 in
set_option maxRecDepth 100000 in
theorem w_paper (l : Launch) (D : va_G) (hst : l.stackTraces = false) (M Mx : MH) (x m o od : Nat) (ad : Nat → Nat) (al : Nat → Nat → Nat) (S : ST) (d ns nd : Nat) (f : Nat → Int64) (fd : Nat → UInt64) (hr : LR M Mx m ad S o od f fd) (hc : CRep Mx x al S d ns nd) (hk : mOK S d ns nd) (its w : Int32) : xW l D yL_paper wsL_paper ({ frames := 7, cells := 1, slots := 6, locals := 119 }) 1 6 [.ref x, .int its, .int w, .ref o] M (wP (tPaper its w) ((vPaper S its w).toInt64) x m ad S o od fd d ns nd (S) d ns nd) := by
  refine xW_of (cc := cL_paper) (maxL := 5) (ret := (some .int)) (own := RL) [some (.ref x), some (.int its), some (.int w), some (.ref o), none] (by decide) rfl rfl (Nat.le_of_ble_eq_true rfl) rfl rfl rfl ?_
  intro X hXl hXD g r t0 t
  subst hXl
  subst hXD
  refine j_aload_n (pc := 0) g 3 dL_paper_0 rfl rfl ?_
  refine j_iconst (pc := 1) g (0) dL_paper_1 (by decide) ?_
  refine j_aload_n (pc := 2) g 0 dL_paper_2 rfl rfl ?_
  refine j_iload_n (pc := 3) g 1 dL_paper_3 rfl rfl ?_
  refine j_iload_n (pc := 4) g 2 dL_paper_4 rfl rfl ?_
  refine j_callTV (pc := 5) (n := 2) g t0 (hr.1 _ _ hc.1.1) rfl (hr.1) (k_paper (jl X) (jD X) hst Mx x al S d ns nd hc  its w) dL_paper_5 gL_paper_X8_paper rfl rfl rfl rfl ⟨rfl, by decide, by decide, by decide +kernel⟩ ⟨Nat.le_of_ble_eq_true rfl, Nat.le_of_ble_eq_true rfl⟩ ⟨Nat.le_of_ble_eq_true rfl, Nat.le_of_ble_eq_true rfl⟩ rfl (Nat.le_of_ble_eq_true rfl) (fun E M1 hE hn => ?_) (fun v M1 hp hn => ?_)
  · obtain ⟨hE, rfl⟩ := hE
    rcases hE with ⟨t1, rfl⟩ | ⟨t1, rfl⟩ | ⟨t1, rfl⟩
    · refine j_catch (pc := 5) (nm := eIO) g t0 t [] [(0, 10, 17, 13)] 0 10 13 25 rfl (fun z hz => absurd hz (by simp)) rfl (by decide) (by decide +kernel) (by decide) (fun q => ?_)
      refine astore_5_4 (pc := 13) g dL_paper_13 ?_
      refine j_iconst (pc := 15) g (1) dL_paper_15 (by decide) ?_
      exact j_iret (pc := 16) g r rfl rfl (⟨by rw [t1], _, al, f, hr.call hn, fun z => absurd (t1.symm.trans z) (by decide), fun _ => hc⟩) dL_paper_16 (Nat.le_of_ble_eq_true rfl) (Nat.le_of_ble_eq_true rfl)
    · refine j_catch (pc := 5) (nm := eIA) g t0 t [(0, 10, 13, 25)] [] 0 10 17 13 rfl (List.forall_mem_cons.mpr ⟨⟨by decide, eIO, by decide +kernel, t0.n1⟩, fun _ h => absurd h List.not_mem_nil⟩) rfl (by decide) (by decide +kernel) (by decide) (fun q => ?_)
      refine astore_5_4 (pc := 17) g dL_paper_17 ?_
      refine j_iconst (pc := 19) g (2) dL_paper_19 (by decide) ?_
      exact j_iret (pc := 20) g r rfl rfl (⟨by rw [t1], _, al, f, hr.call hn, fun z => absurd (t1.symm.trans z) (by decide), fun _ => hc⟩) dL_paper_20 (Nat.le_of_ble_eq_true rfl) (Nat.le_of_ble_eq_true rfl)
    · exact absurd t1 (by unfold tPaper; (repeat' split) <;> decide)
  · obtain ⟨tz, rfl, rfl⟩ := hp
    show J X 5 _ _ _ _ [.int (vPaper S its w), .int 0, .ref o] (5 + 3)
    refine j_i2l (pc := 8) g dL_paper_8 ?_
    refine j_last (pc := 9) g dL_paper_9 ((hr.call hn).2.2.2.1.1) (vp_in_nI (n := 0) (by omega) (by omega)) ?_
    refine j_goto (pc := 10) g 21 dL_paper_10 (by decide) ?_
    refine j_iconst (pc := 21) g (0) dL_paper_21 (by decide) ?_
    exact j_iret (pc := 22) g r rfl rfl (⟨by rw [tz], _, al, _, (hr.call hn).out _, fun _ => ⟨if_pos rfl, hc⟩, fun z => absurd tz z⟩) dL_paper_22 (Nat.le_of_ble_eq_true rfl) (Nat.le_of_ble_eq_true rfl)

set_option maxHeartbeats 400000 in
set_option maxRecDepth 100000 in
theorem w_won (l : Launch) (D : va_G) (hst : l.stackTraces = false) (M Mx : MH) (x m o od : Nat) (ad : Nat → Nat) (al : Nat → Nat → Nat) (S : ST) (d ns nd : Nat) (f : Nat → Int64) (fd : Nat → UInt64) (hr : LR M Mx m ad S o od f fd) (hc : CRep Mx x al S d ns nd) (hk : mOK S d ns nd) (w : Int32) : xW l D yL_won wsL_won ({ frames := 7, cells := 1, slots := 6, locals := 167 }) 1 6 [.ref x, .int w, .ref o] M (wP (tWon w) ((cntW S w nd).toInt64) x m ad S o od fd d ns nd (S) d ns nd) := by
  refine xW_of (cc := cL_won) (maxL := 4) (ret := (some .int)) (own := RL) [some (.ref x), some (.int w), some (.ref o), none] (by decide) rfl rfl (Nat.le_of_ble_eq_true rfl) rfl rfl rfl ?_
  intro X hXl hXD g r t0 t
  subst hXl
  subst hXD
  refine j_aload_n (pc := 0) g 2 dL_won_0 rfl rfl ?_
  refine j_iconst (pc := 1) g (0) dL_won_1 (by decide) ?_
  refine j_aload_n (pc := 2) g 0 dL_won_2 rfl rfl ?_
  refine j_iload_n (pc := 3) g 1 dL_won_3 rfl rfl ?_
  refine j_callTV (pc := 4) (n := 1) g t0 (hr.1 _ _ hc.1.1) rfl (hr.1) (k_won (jl X) (jD X) hst Mx x al S d ns nd hc hk.2.2.1.1 hk.2.2.1.2.1 hk.2.2.1.2.2 hk.2.1.2 w) dL_won_4 gL_won_X8_won rfl rfl rfl rfl ⟨rfl, by decide, by decide, by decide +kernel⟩ ⟨Nat.le_of_ble_eq_true rfl, Nat.le_of_ble_eq_true rfl⟩ ⟨Nat.le_of_ble_eq_true rfl, Nat.le_of_ble_eq_true rfl⟩ rfl (Nat.le_of_ble_eq_true rfl) (fun E M1 hE hn => ?_) (fun v M1 hp hn => ?_)
  · obtain ⟨hE, rfl⟩ := hE
    rcases hE with ⟨t1, rfl⟩ | ⟨t1, rfl⟩ | ⟨t1, rfl⟩
    · refine j_catch (pc := 4) (nm := eIO) g t0 t [] [] 0 9 12 25 rfl (fun z hz => absurd hz (by simp)) rfl (by decide) (by decide +kernel) (by decide) (fun q => ?_)
      refine astore_n_4_3 (pc := 12) g dL_won_12 ?_
      refine j_iconst (pc := 13) g (1) dL_won_13 (by decide) ?_
      exact j_iret (pc := 14) g r rfl rfl (⟨by rw [t1], _, al, f, hr.call hn, fun z => absurd (t1.symm.trans z) (by decide), fun _ => hc⟩) dL_won_14 (Nat.le_of_ble_eq_true rfl) (Nat.le_of_ble_eq_true rfl)
    · exact absurd t1 (by unfold tWon; (repeat' split) <;> decide)
    · exact absurd t1 (by unfold tWon; (repeat' split) <;> decide)
  · obtain ⟨tz, rfl, rfl⟩ := hp
    show J X 4 _ _ _ _ [.int (cntW S w nd), .int 0, .ref o] (4 + 3)
    refine j_i2l (pc := 7) g dL_won_7 ?_
    refine j_last (pc := 8) g dL_won_8 ((hr.call hn).2.2.2.1.1) (vp_in_nI (n := 0) (by omega) (by omega)) ?_
    refine j_goto (pc := 9) g 15 dL_won_9 (by decide) ?_
    refine j_iconst (pc := 15) g (0) dL_won_15 (by decide) ?_
    exact j_iret (pc := 16) g r rfl rfl (⟨by rw [tz], _, al, _, (hr.call hn).out _, fun _ => ⟨if_pos rfl, hc⟩, fun z => absurd tz z⟩) dL_won_16 (Nat.le_of_ble_eq_true rfl) (Nat.le_of_ble_eq_true rfl)
