theorem astore_7_6 {X : JC} {cc : ByteArray} {own : String} {Ts : List Cond} {cells slots pc : Nat} {rm : Room} {M : MH} {st : List Value} {a0 a1 a2 a3 a4 a5 a6 : Option Value} (g : jG X cc own Ts 7 rm) {x : Nat} (hd : decode cc pc = .ok (.astore 6, 2)) (k : J X 7 cells slots M [a0, a1, a2, a3, a4, a5, some (.ref x)] st (pc + 2)) : J X 7 cells slots M [a0, a1, a2, a3, a4, a5, a6] (.ref x :: st) pc := j_astore g hd (Nat.le_of_ble_eq_true rfl) k
theorem astore_n_3_2 {X : JC} {cc : ByteArray} {own : String} {Ts : List Cond} {cells slots pc : Nat} {rm : Room} {M : MH} {st : List Value} {a0 a1 a2 : Option Value} (g : jG X cc own Ts 3 rm) {x : Nat} (hd : decode cc pc = .ok (.astore_n 2, 1)) (k : J X 3 cells slots M [a0, a1, some (.ref x)] st (pc + 1)) : J X 3 cells slots M [a0, a1, a2] (.ref x :: st) pc := j_astore_n g 2 hd rfl (Nat.le_of_ble_eq_true rfl) k



/-! ===== marks that the law compares are no NaN ===== -/
section Marks
variable {S : ST} {d ns nd : Nat}
theorem fl_mark {gn y : Int32} (h : mOK S d ns nd) (t : tMark S gn y = 0) : fl (markS S 2 0 d (ix gn) (ix y) (ix (S 4 (ix gn))) 0) 188 := by
  obtain ⟨⟨h1, h2⟩, -⟩ := t_a (by decide) t
  obtain ⟨-, hg⟩ := isSi_ix h.2.1.1 h.2.1.2.2.1 h1
  obtain ⟨-, hy⟩ := iN_ix (n := 3) (by omega) h2
  have hsg := h.2.1.2.2.2 _ hg
  have i4 := hsg.i4
  exact markS_fl h.2.1.2.1 (by omega) (by unfold rg; decide) i4.2.2 i4.2.1 (fun i hi => ⟨by rw [Nat.zero_add]; exact h.1.2.2 i (by omega), hsg.2 i (by omega)⟩)
theorem fl_part {gn k w : Int32} (h : mOK S d ns nd) (t : tPart S gn k w = 0) : fl (vPart S gn k w) 167 := by
  obtain ⟨⟨h1, h2, h3⟩, -⟩ := t_a (by decide) t
  obtain ⟨-, hg⟩ := isSi_ix h.2.1.1 h.2.1.2.2.1 h1
  have h8 := h.1.2.1
  rw [h.1.1] at h2
  obtain ⟨hk, hkd⟩ := iN_ix1 (by omega) h2
  have hsg := h.2.1.2.2.2 _ hg
  have i4 := hsg.i4
  rw [hk, i4.1] at h3
  have hk4 : ix k < ix (S 4 (ix gn)) := (nI_ltI (by omega) (by omega)).mp h3
  have a := h.1.2.2 (ix k) hkd
  have b := hsg.2 (ix k) hk4
  unfold vPart
  split
  · exact fl_m (nearS_fl a b (by unfold rg; decide)) (by decide)
  · split
    · exact slopeS_fl a b
    · exact fl_m (ord_fl _ _) (by decide)
theorem fl_marked {its k o : Int32} (h : mOK S d ns nd) (t : tMarked S its k o = 0) : fl (allS S (ix its) (wI (ix its) (ix k) o)) 190 := by
  obtain ⟨hh, -⟩ := t_a (by decide) t
  obtain ⟨a1, a2, b1, b2, h3⟩ := isHa_at h hh
  rw [show wI (ix its) (ix k) o = 10 * ix its + (2 * ix k + ofI o) by unfold wI; omega]
  exact allS_fl (h.2.2.1.2.2 _ a2) h.2.1.2 h3
end Marks

set_option maxHeartbeats 400000 in
set_option maxRecDepth 100000 in
theorem w_stroke (l : Launch) (D : va_G) (hst : l.stackTraces = false) (M Mx : MH) (x m o od : Nat) (ad : Nat → Nat) (al : Nat → Nat → Nat) (S : ST) (d ns nd : Nat) (f : Nat → Int64) (fd : Nat → UInt64) (hr : LR M Mx m ad S o od f fd) (hc : CRep Mx x al S d ns nd) (hk : mOK S d ns nd) (a b c e : Int32) : xW l D yL_stroke wsL_stroke ({ frames := 7, cells := 1, slots := 6, locals := 120 }) 1 6 [.ref x, .int a, .int b, .int c, .int e, .ref o] M (wP (tStroke S a b c e) ((nI (d + 1)).toInt64) x m ad S o od fd d ns nd (nStroke S d a b c e) (d + 1) ns nd) := by
  refine xW_of (cc := cL_stroke) (maxL := 7) (ret := (some .int)) (own := RL) [some (.ref x), some (.int a), some (.int b), some (.int c), some (.int e), some (.ref o), none] (by decide) rfl rfl (Nat.le_of_ble_eq_true rfl) rfl rfl rfl ?_
  intro X hXl hXD g r t0 t
  subst hXl
  subst hXD
  refine j_aload (pc := 0) g dL_stroke_0 rfl ?_
  refine j_iconst (pc := 2) g (0) dL_stroke_2 (by decide) ?_
  refine j_aload_n (pc := 3) g 0 dL_stroke_3 rfl rfl ?_
  refine j_iload_n (pc := 4) g 1 dL_stroke_4 rfl rfl ?_
  refine j_iload_n (pc := 5) g 2 dL_stroke_5 rfl rfl ?_
  refine j_iload_n (pc := 6) g 3 dL_stroke_6 rfl rfl ?_
  refine j_iload (pc := 7) g dL_stroke_7 rfl ?_
  refine j_callTV (pc := 9) (n := 4) g t0 (hr.1 _ _ hc.1.1) rfl (hr.1) (k_stroke (jl X) (jD X) hst Mx x al S d ns nd hc hk.1.1 hk.1.2.1 a b c e) dL_stroke_9 gL_stroke_X8_stroke rfl rfl rfl rfl ⟨rfl, by decide, by decide, by decide +kernel⟩ ⟨Nat.le_of_ble_eq_true rfl, Nat.le_of_ble_eq_true rfl⟩ ⟨Nat.le_of_ble_eq_true rfl, Nat.le_of_ble_eq_true rfl⟩ rfl (Nat.le_of_ble_eq_true rfl) (fun E M1 hE hn => ?_) (fun v M1 hp hn => ?_)
  · obtain ⟨hE, rfl⟩ := hE
    rcases hE with ⟨t1, rfl⟩ | ⟨t1, rfl⟩ | ⟨t1, rfl⟩
    · refine j_catch (pc := 9) (nm := eIA) g t0 t [] [(0, 14, 21, 15)] 0 14 17 13 rfl (fun z hz => absurd hz (by simp)) rfl (by decide) (by decide +kernel) (by decide) (fun q => ?_)
      refine astore_7_6 (pc := 17) g dL_stroke_17 ?_
      refine j_iconst (pc := 19) g (1) dL_stroke_19 (by decide) ?_
      exact j_iret (pc := 20) g r rfl rfl (⟨by rw [t1], _, al, f, hr.call hn, fun z => absurd (t1.symm.trans z) (by decide), fun _ => hc⟩) dL_stroke_20 (Nat.le_of_ble_eq_true rfl) (Nat.le_of_ble_eq_true rfl)
    · refine j_catch (pc := 9) (nm := eIS) g t0 t [(0, 14, 17, 13)] [] 0 14 21 15 rfl (List.forall_mem_cons.mpr ⟨⟨by decide, eIA, by decide +kernel, t0.n3⟩, fun _ h => absurd h List.not_mem_nil⟩) rfl (by decide) (by decide +kernel) (by decide) (fun q => ?_)
      refine astore_7_6 (pc := 21) g dL_stroke_21 ?_
      refine j_iconst (pc := 23) g (2) dL_stroke_23 (by decide) ?_
      exact j_iret (pc := 24) g r rfl rfl (⟨by rw [t1], _, al, f, hr.call hn, fun z => absurd (t1.symm.trans z) (by decide), fun _ => hc⟩) dL_stroke_24 (Nat.le_of_ble_eq_true rfl) (Nat.le_of_ble_eq_true rfl)
    · exact absurd t1 (by unfold tStroke; (repeat' split) <;> decide)
  · obtain ⟨tz, rfl, hR⟩ := hp
    show J X 7 _ _ _ _ [.int (nI (d + 1)), .int 0, .ref o] (9 + 3)
    refine j_i2l (pc := 12) g dL_stroke_12 ?_
    refine j_last (pc := 13) g dL_stroke_13 ((hr.call hn).2.2.2.1.1) (vp_in_nI (n := 0) (by omega) (by omega)) ?_
    refine j_goto (pc := 14) g 25 dL_stroke_14 (by decide) ?_
    refine j_iconst (pc := 25) g (0) dL_stroke_25 (by decide) ?_
    exact j_iret (pc := 26) g r rfl rfl (⟨by rw [tz], _, al, _, (hr.call hn).out _, fun _ => ⟨if_pos rfl, hR⟩, fun z => absurd tz z⟩) dL_stroke_26 (Nat.le_of_ble_eq_true rfl) (Nat.le_of_ble_eq_true rfl)

set_option maxHeartbeats 400000 in
set_option maxRecDepth 100000 in
theorem w_sign (l : Launch) (D : va_G) (hst : l.stackTraces = false) (M Mx : MH) (x m o od : Nat) (ad : Nat → Nat) (al : Nat → Nat → Nat) (S : ST) (d ns nd : Nat) (f : Nat → Int64) (fd : Nat → UInt64) (hr : LR M Mx m ad S o od f fd) (hc : CRep Mx x al S d ns nd) (hk : mOK S d ns nd) : xW l D yL_sign wsL_sign ({ frames := 7, cells := 2, slots := 10, locals := 117 }) 2 10 [.ref x, .ref o] M (wP (tSign S) ((nI ns).toInt64) x m ad S o od fd d ns nd (nSign S d ns) 0 (ns + 1) nd) := by
  refine xW_of (cc := cL_sign) (maxL := 3) (ret := (some .int)) (own := RL) [some (.ref x), some (.ref o), none] (by decide) rfl rfl (Nat.le_of_ble_eq_true rfl) rfl rfl rfl ?_
  intro X hXl hXD g r t0 t
  subst hXl
  subst hXD
  refine j_aload_n (pc := 0) g 1 dL_sign_0 rfl rfl ?_
  refine j_iconst (pc := 1) g (0) dL_sign_1 (by decide) ?_
  refine j_aload_n (pc := 2) g 0 dL_sign_2 rfl rfl ?_
  refine j_callTV (pc := 3) (n := 0) g t0 (hr.1 _ _ hc.1.1) rfl (hr.1) (k_sign (jl X) (jD X) hst Mx x al S d ns nd hc hk.2.2.1.2.2 hk.2.1.2 hk.1.1 hk.1.2.1 hk.2.1.1 ) dL_sign_3 gL_sign_X8_sign rfl rfl rfl rfl ⟨rfl, by decide, by decide, by decide +kernel⟩ ⟨Nat.le_of_ble_eq_true rfl, Nat.le_of_ble_eq_true rfl⟩ ⟨Nat.le_of_ble_eq_true rfl, Nat.le_of_ble_eq_true rfl⟩ rfl (Nat.le_of_ble_eq_true rfl) (fun E M1 hE hn => ?_) (fun v M1 hp hn => ?_)
  · obtain ⟨hE, rfl⟩ := hE
    rcases hE with ⟨t1, rfl⟩ | ⟨t1, rfl⟩ | ⟨t1, rfl⟩
    · refine j_catch (pc := 3) (nm := eIS) g t0 t [] [] 0 8 11 15 rfl (fun z hz => absurd hz (by simp)) rfl (by decide) (by decide +kernel) (by decide) (fun q => ?_)
      refine astore_n_3_2 (pc := 11) g dL_sign_11 ?_
      refine j_iconst (pc := 12) g (1) dL_sign_12 (by decide) ?_
      exact j_iret (pc := 13) g r rfl rfl (⟨by rw [t1], _, al, f, hr.call hn, fun z => absurd (t1.symm.trans z) (by decide), fun _ => hc⟩) dL_sign_13 (Nat.le_of_ble_eq_true rfl) (Nat.le_of_ble_eq_true rfl)
    · exact absurd t1 (by unfold tSign; (repeat' split) <;> decide)
    · exact absurd t1 (by unfold tSign; (repeat' split) <;> decide)
  · obtain ⟨tz, rfl, al2, hR⟩ := hp
    show J X 3 _ _ _ _ [.int (nI ns), .int 0, .ref o] (3 + 3)
    refine j_i2l (pc := 6) g dL_sign_6 ?_
    refine j_last (pc := 7) g dL_sign_7 ((hr.call hn).2.2.2.1.1) (vp_in_nI (n := 0) (by omega) (by omega)) ?_
    refine j_goto (pc := 8) g 14 dL_sign_8 (by decide) ?_
    refine j_iconst (pc := 14) g (0) dL_sign_14 (by decide) ?_
    exact j_iret (pc := 15) g r rfl rfl (⟨by rw [tz], _, al2, _, (hr.call hn).out _, fun _ => ⟨if_pos rfl, hR⟩, fun z => absurd tz z⟩) dL_sign_15 (Nat.le_of_ble_eq_true rfl) (Nat.le_of_ble_eq_true rfl)

set_option maxHeartbeats 400000 in
set_option maxRecDepth 100000 in
theorem w_buy (l : Launch) (D : va_G) (hst : l.stackTraces = false) (M Mx : MH) (x m o od : Nat) (ad : Nat → Nat) (al : Nat → Nat → Nat) (S : ST) (d ns nd : Nat) (f : Nat → Int64) (fd : Nat → UInt64) (hr : LR M Mx m ad S o od f fd) (hc : CRep Mx x al S d ns nd) (hk : mOK S d ns nd) (its many : Int32) : xW l D yL_buy wsL_buy ({ frames := 7, cells := 1, slots := 6, locals := 119 }) 1 6 [.ref x, .int its, .int many, .ref o] M (wP (tBuy S its many) ((S 6 (ix its) + many).toInt64) x m ad S o od fd d ns nd (nBuy S its many) d ns nd) := by
  refine xW_of (cc := cL_buy) (maxL := 5) (ret := (some .int)) (own := RL) [some (.ref x), some (.int its), some (.int many), some (.ref o), none] (by decide) rfl rfl (Nat.le_of_ble_eq_true rfl) rfl rfl rfl ?_
  intro X hXl hXD g r t0 t
  subst hXl
  subst hXD
  refine j_aload_n (pc := 0) g 3 dL_buy_0 rfl rfl ?_
  refine j_iconst (pc := 1) g (0) dL_buy_1 (by decide) ?_
  refine j_aload_n (pc := 2) g 0 dL_buy_2 rfl rfl ?_
  refine j_iload_n (pc := 3) g 1 dL_buy_3 rfl rfl ?_
  refine j_iload_n (pc := 4) g 2 dL_buy_4 rfl rfl ?_
  refine j_callTV (pc := 5) (n := 2) g t0 (hr.1 _ _ hc.1.1) rfl (hr.1) (k_buy (jl X) (jD X) hst Mx x al S d ns nd hc  its many) dL_buy_5 gL_buy_X8_buy rfl rfl rfl rfl ⟨rfl, by decide, by decide, by decide +kernel⟩ ⟨Nat.le_of_ble_eq_true rfl, Nat.le_of_ble_eq_true rfl⟩ ⟨Nat.le_of_ble_eq_true rfl, Nat.le_of_ble_eq_true rfl⟩ rfl (Nat.le_of_ble_eq_true rfl) (fun E M1 hE hn => ?_) (fun v M1 hp hn => ?_)
  · obtain ⟨hE, rfl⟩ := hE
    rcases hE with ⟨t1, rfl⟩ | ⟨t1, rfl⟩ | ⟨t1, rfl⟩
    · refine j_catch (pc := 5) (nm := eIO) g t0 t [] [(0, 10, 17, 13), (0, 10, 21, 15)] 0 10 13 25 rfl (fun z hz => absurd hz (by simp)) rfl (by decide) (by decide +kernel) (by decide) (fun q => ?_)
      refine astore_5_4 (pc := 13) g dL_buy_13 ?_
      refine j_iconst (pc := 15) g (1) dL_buy_15 (by decide) ?_
      exact j_iret (pc := 16) g r rfl rfl (⟨by rw [t1], _, al, f, hr.call hn, fun z => absurd (t1.symm.trans z) (by decide), fun _ => hc⟩) dL_buy_16 (Nat.le_of_ble_eq_true rfl) (Nat.le_of_ble_eq_true rfl)
    · refine j_catch (pc := 5) (nm := eIA) g t0 t [(0, 10, 13, 25)] [(0, 10, 21, 15)] 0 10 17 13 rfl (List.forall_mem_cons.mpr ⟨⟨by decide, eIO, by decide +kernel, t0.n1⟩, fun _ h => absurd h List.not_mem_nil⟩) rfl (by decide) (by decide +kernel) (by decide) (fun q => ?_)
      refine astore_5_4 (pc := 17) g dL_buy_17 ?_
      refine j_iconst (pc := 19) g (2) dL_buy_19 (by decide) ?_
      exact j_iret (pc := 20) g r rfl rfl (⟨by rw [t1], _, al, f, hr.call hn, fun z => absurd (t1.symm.trans z) (by decide), fun _ => hc⟩) dL_buy_20 (Nat.le_of_ble_eq_true rfl) (Nat.le_of_ble_eq_true rfl)
    · refine j_catch (pc := 5) (nm := eIS) g t0 t [(0, 10, 13, 25), (0, 10, 17, 13)] [] 0 10 21 15 rfl (List.forall_mem_cons.mpr ⟨⟨by decide, eIO, by decide +kernel, t0.n2⟩, List.forall_mem_cons.mpr ⟨⟨by decide, eIA, by decide +kernel, t0.n3⟩, fun _ h => absurd h List.not_mem_nil⟩⟩) rfl (by decide) (by decide +kernel) (by decide) (fun q => ?_)
      refine astore_5_4 (pc := 21) g dL_buy_21 ?_
      refine j_iconst (pc := 23) g (3) dL_buy_23 (by decide) ?_
      exact j_iret (pc := 24) g r rfl rfl (⟨by rw [t1], _, al, f, hr.call hn, fun z => absurd (t1.symm.trans z) (by decide), fun _ => hc⟩) dL_buy_24 (Nat.le_of_ble_eq_true rfl) (Nat.le_of_ble_eq_true rfl)
  · obtain ⟨tz, rfl, hR⟩ := hp
    show J X 5 _ _ _ _ [.int (S 6 (ix its) + many), .int 0, .ref o] (5 + 3)
    refine j_i2l (pc := 8) g dL_buy_8 ?_
    refine j_last (pc := 9) g dL_buy_9 ((hr.call hn).2.2.2.1.1) (vp_in_nI (n := 0) (by omega) (by omega)) ?_
    refine j_goto (pc := 10) g 25 dL_buy_10 (by decide) ?_
    refine j_iconst (pc := 25) g (0) dL_buy_25 (by decide) ?_
    exact j_iret (pc := 26) g r rfl rfl (⟨by rw [tz], _, al, _, (hr.call hn).out _, fun _ => ⟨if_pos rfl, hR⟩, fun z => absurd tz z⟩) dL_buy_26 (Nat.le_of_ble_eq_true rfl) (Nat.le_of_ble_eq_true rfl)

set_option maxHeartbeats 400000 in
set_option maxRecDepth 100000 in
theorem w_rise (l : Launch) (D : va_G) (hst : l.stackTraces = false) (M Mx : MH) (x m o od : Nat) (ad : Nat → Nat) (al : Nat → Nat → Nat) (S : ST) (d ns nd : Nat) (f : Nat → Int64) (fd : Nat → UInt64) (hr : LR M Mx m ad S o od f fd) (hc : CRep Mx x al S d ns nd) (hk : mOK S d ns nd) (its b : Int32) : xW l D yL_rise wsL_rise ({ frames := 7, cells := 1, slots := 6, locals := 119 }) 1 6 [.ref x, .int its, .int b, .ref o] M (wP (tRise its b) ((S 7 (ix its)).toInt64) x m ad S o od fd d ns nd (nRise S its b) d ns nd) := by
  refine xW_of (cc := cL_rise) (maxL := 5) (ret := (some .int)) (own := RL) [some (.ref x), some (.int its), some (.int b), some (.ref o), none] (by decide) rfl rfl (Nat.le_of_ble_eq_true rfl) rfl rfl rfl ?_
  intro X hXl hXD g r t0 t
  subst hXl
  subst hXD
  refine j_aload_n (pc := 0) g 3 dL_rise_0 rfl rfl ?_
  refine j_iconst (pc := 1) g (0) dL_rise_1 (by decide) ?_
  refine j_aload_n (pc := 2) g 0 dL_rise_2 rfl rfl ?_
  refine j_iload_n (pc := 3) g 1 dL_rise_3 rfl rfl ?_
  refine j_iload_n (pc := 4) g 2 dL_rise_4 rfl rfl ?_
  refine j_callTV (pc := 5) (n := 2) g t0 (hr.1 _ _ hc.1.1) rfl (hr.1) (k_rise (jl X) (jD X) hst Mx x al S d ns nd hc  its b) dL_rise_5 gL_rise_X8_rise rfl rfl rfl rfl ⟨rfl, by decide, by decide, by decide +kernel⟩ ⟨Nat.le_of_ble_eq_true rfl, Nat.le_of_ble_eq_true rfl⟩ ⟨Nat.le_of_ble_eq_true rfl, Nat.le_of_ble_eq_true rfl⟩ rfl (Nat.le_of_ble_eq_true rfl) (fun E M1 hE hn => ?_) (fun v M1 hp hn => ?_)
  · obtain ⟨hE, rfl⟩ := hE
    rcases hE with ⟨t1, rfl⟩ | ⟨t1, rfl⟩ | ⟨t1, rfl⟩
    · refine j_catch (pc := 5) (nm := eIO) g t0 t [] [(0, 10, 17, 13)] 0 10 13 25 rfl (fun z hz => absurd hz (by simp)) rfl (by decide) (by decide +kernel) (by decide) (fun q => ?_)
      refine astore_5_4 (pc := 13) g dL_rise_13 ?_
      refine j_iconst (pc := 15) g (1) dL_rise_15 (by decide) ?_
      exact j_iret (pc := 16) g r rfl rfl (⟨by rw [t1], _, al, f, hr.call hn, fun z => absurd (t1.symm.trans z) (by decide), fun _ => hc⟩) dL_rise_16 (Nat.le_of_ble_eq_true rfl) (Nat.le_of_ble_eq_true rfl)
    · refine j_catch (pc := 5) (nm := eIA) g t0 t [(0, 10, 13, 25)] [] 0 10 17 13 rfl (List.forall_mem_cons.mpr ⟨⟨by decide, eIO, by decide +kernel, t0.n1⟩, fun _ h => absurd h List.not_mem_nil⟩) rfl (by decide) (by decide +kernel) (by decide) (fun q => ?_)
      refine astore_5_4 (pc := 17) g dL_rise_17 ?_
      refine j_iconst (pc := 19) g (2) dL_rise_19 (by decide) ?_
      exact j_iret (pc := 20) g r rfl rfl (⟨by rw [t1], _, al, f, hr.call hn, fun z => absurd (t1.symm.trans z) (by decide), fun _ => hc⟩) dL_rise_20 (Nat.le_of_ble_eq_true rfl) (Nat.le_of_ble_eq_true rfl)
    · exact absurd t1 (by unfold tRise; (repeat' split) <;> decide)
  · obtain ⟨tz, rfl, hR⟩ := hp
    show J X 5 _ _ _ _ [.int (S 7 (ix its)), .int 0, .ref o] (5 + 3)
    refine j_i2l (pc := 8) g dL_rise_8 ?_
    refine j_last (pc := 9) g dL_rise_9 ((hr.call hn).2.2.2.1.1) (vp_in_nI (n := 0) (by omega) (by omega)) ?_
    refine j_goto (pc := 10) g 21 dL_rise_10 (by decide) ?_
    refine j_iconst (pc := 21) g (0) dL_rise_21 (by decide) ?_
    exact j_iret (pc := 22) g r rfl rfl (⟨by rw [tz], _, al, _, (hr.call hn).out _, fun _ => ⟨if_pos rfl, hR⟩, fun z => absurd tz z⟩) dL_rise_22 (Nat.le_of_ble_eq_true rfl) (Nat.le_of_ble_eq_true rfl)

set_option maxHeartbeats 400000 in
set_option maxRecDepth 100000 in
theorem w_style (l : Launch) (D : va_G) (hst : l.stackTraces = false) (M Mx : MH) (x m o od : Nat) (ad : Nat → Nat) (al : Nat → Nat → Nat) (S : ST) (d ns nd : Nat) (f : Nat → Int64) (fd : Nat → UInt64) (hr : LR M Mx m ad S o od f fd) (hc : CRep Mx x al S d ns nd) (hk : mOK S d ns nd) (its a b c : Int32) : xW l D yL_style wsL_style ({ frames := 7, cells := 1, slots := 6, locals := 121 }) 1 6 [.ref x, .int its, .int a, .int b, .int c] M (wP (tStyle its a b c) (f 0) x m ad S o od fd d ns nd (nStyle S its a b c) d ns nd) := by
  refine xW_of (cc := cL_style) (maxL := 6) (ret := (some .int)) (own := RL) [some (.ref x), some (.int its), some (.int a), some (.int b), some (.int c), none] (by decide) rfl rfl (Nat.le_of_ble_eq_true rfl) rfl rfl rfl ?_
  intro X hXl hXD g r t0 t
  subst hXl
  subst hXD
  refine j_aload_n (pc := 0) g 0 dL_style_0 rfl rfl ?_
  refine j_iload_n (pc := 1) g 1 dL_style_1 rfl rfl ?_
  refine j_iload_n (pc := 2) g 2 dL_style_2 rfl rfl ?_
  refine j_iload_n (pc := 3) g 3 dL_style_3 rfl rfl ?_
  refine j_iload (pc := 4) g dL_style_4 rfl ?_
  refine j_callTV (pc := 6) (n := 4) g t0 (hr.1 _ _ hc.1.1) rfl (hr.1) (k_style (jl X) (jD X) hst Mx x al S d ns nd hc  its a b c) dL_style_6 gL_style_X8_style rfl rfl rfl rfl ⟨rfl, by decide, by decide, by decide +kernel⟩ ⟨Nat.le_of_ble_eq_true rfl, Nat.le_of_ble_eq_true rfl⟩ ⟨Nat.le_of_ble_eq_true rfl, Nat.le_of_ble_eq_true rfl⟩ rfl (Nat.le_of_ble_eq_true rfl) (fun E M1 hE hn => ?_) (fun v M1 hp hn => ?_)
  · obtain ⟨hE, rfl⟩ := hE
    rcases hE with ⟨t1, rfl⟩ | ⟨t1, rfl⟩ | ⟨t1, rfl⟩
    · refine j_catch (pc := 6) (nm := eIO) g t0 t [] [(0, 9, 16, 13)] 0 9 12 25 rfl (fun z hz => absurd hz (by simp)) rfl (by decide) (by decide +kernel) (by decide) (fun q => ?_)
      refine astore_6_5 (pc := 12) g dL_style_12 ?_
      refine j_iconst (pc := 14) g (1) dL_style_14 (by decide) ?_
      exact j_iret (pc := 15) g r rfl rfl (⟨by rw [t1], _, al, f, hr.call hn, fun z => absurd (t1.symm.trans z) (by decide), fun _ => hc⟩) dL_style_15 (Nat.le_of_ble_eq_true rfl) (Nat.le_of_ble_eq_true rfl)
    · refine j_catch (pc := 6) (nm := eIA) g t0 t [(0, 9, 12, 25)] [] 0 9 16 13 rfl (List.forall_mem_cons.mpr ⟨⟨by decide, eIO, by decide +kernel, t0.n1⟩, fun _ h => absurd h List.not_mem_nil⟩) rfl (by decide) (by decide +kernel) (by decide) (fun q => ?_)
      refine astore_6_5 (pc := 16) g dL_style_16 ?_
      refine j_iconst (pc := 18) g (2) dL_style_18 (by decide) ?_
      exact j_iret (pc := 19) g r rfl rfl (⟨by rw [t1], _, al, f, hr.call hn, fun z => absurd (t1.symm.trans z) (by decide), fun _ => hc⟩) dL_style_19 (Nat.le_of_ble_eq_true rfl) (Nat.le_of_ble_eq_true rfl)
    · exact absurd t1 (by unfold tStyle; (repeat' split) <;> decide)
  · obtain ⟨tz, rfl, hR⟩ := hp
    show J X 6 _ _ _ _ [] (6 + 3)
    refine j_goto (pc := 9) g 20 dL_style_9 (by decide) ?_
    refine j_iconst (pc := 20) g (0) dL_style_20 (by decide) ?_
    exact j_iret (pc := 21) g r rfl rfl (⟨by rw [tz], _, al, f, hr.call hn, fun _ => ⟨rfl, hR⟩, fun z => absurd tz z⟩) dL_style_21 (Nat.le_of_ble_eq_true rfl) (Nat.le_of_ble_eq_true rfl)

set_option maxHeartbeats 400000 in
set_option maxRecDepth 100000 in
theorem w_learn (l : Launch) (D : va_G) (hst : l.stackTraces = false) (M Mx : MH) (x m o od : Nat) (ad : Nat → Nat) (al : Nat → Nat → Nat) (S : ST) (d ns nd : Nat) (f : Nat → Int64) (fd : Nat → UInt64) (hr : LR M Mx m ad S o od f fd) (hc : CRep Mx x al S d ns nd) (hk : mOK S d ns nd) (w s : Int32) : xW l D yL_learn wsL_learn ({ frames := 7, cells := 1, slots := 6, locals := 119 }) 1 6 [.ref x, .int w, .int s, .ref o] M (wP (tLearn S w s) ((cntL (nLearn S w s) (ix w) 4).toInt64) x m ad S o od fd d ns nd (nLearn S w s) d ns nd) := by
  refine xW_of (cc := cL_learn) (maxL := 5) (ret := (some .int)) (own := RL) [some (.ref x), some (.int w), some (.int s), some (.ref o), none] (by decide) rfl rfl (Nat.le_of_ble_eq_true rfl) rfl rfl rfl ?_
  intro X hXl hXD g r t0 t
  subst hXl
  subst hXD
  refine j_aload_n (pc := 0) g 3 dL_learn_0 rfl rfl ?_
  refine j_iconst (pc := 1) g (0) dL_learn_1 (by decide) ?_
  refine j_aload_n (pc := 2) g 0 dL_learn_2 rfl rfl ?_
  refine j_iload_n (pc := 3) g 1 dL_learn_3 rfl rfl ?_
  refine j_iload_n (pc := 4) g 2 dL_learn_4 rfl rfl ?_
  refine j_callTV (pc := 5) (n := 2) g t0 (hr.1 _ _ hc.1.1) rfl (hr.1) (k_learn (jl X) (jD X) hst Mx x al S d ns nd hc hk.2.2.2.2.1.2 w s) dL_learn_5 gL_learn_X8_learn rfl rfl rfl rfl ⟨rfl, by decide, by decide, by decide +kernel⟩ ⟨Nat.le_of_ble_eq_true rfl, Nat.le_of_ble_eq_true rfl⟩ ⟨Nat.le_of_ble_eq_true rfl, Nat.le_of_ble_eq_true rfl⟩ rfl (Nat.le_of_ble_eq_true rfl) (fun E M1 hE hn => ?_) (fun v M1 hp hn => ?_)
  · obtain ⟨hE, rfl⟩ := hE
    rcases hE with ⟨t1, rfl⟩ | ⟨t1, rfl⟩ | ⟨t1, rfl⟩
    · refine j_catch (pc := 5) (nm := eIO) g t0 t [] [(0, 10, 17, 15)] 0 10 13 25 rfl (fun z hz => absurd hz (by simp)) rfl (by decide) (by decide +kernel) (by decide) (fun q => ?_)
      refine astore_5_4 (pc := 13) g dL_learn_13 ?_
      refine j_iconst (pc := 15) g (1) dL_learn_15 (by decide) ?_
      exact j_iret (pc := 16) g r rfl rfl (⟨by rw [t1], _, al, f, hr.call hn, fun z => absurd (t1.symm.trans z) (by decide), fun _ => hc⟩) dL_learn_16 (Nat.le_of_ble_eq_true rfl) (Nat.le_of_ble_eq_true rfl)
    · refine j_catch (pc := 5) (nm := eIS) g t0 t [(0, 10, 13, 25)] [] 0 10 17 15 rfl (List.forall_mem_cons.mpr ⟨⟨by decide, eIO, by decide +kernel, t0.n2⟩, fun _ h => absurd h List.not_mem_nil⟩) rfl (by decide) (by decide +kernel) (by decide) (fun q => ?_)
      refine astore_5_4 (pc := 17) g dL_learn_17 ?_
      refine j_iconst (pc := 19) g (2) dL_learn_19 (by decide) ?_
      exact j_iret (pc := 20) g r rfl rfl (⟨by rw [t1], _, al, f, hr.call hn, fun z => absurd (t1.symm.trans z) (by decide), fun _ => hc⟩) dL_learn_20 (Nat.le_of_ble_eq_true rfl) (Nat.le_of_ble_eq_true rfl)
    · exact absurd t1 (by unfold tLearn; (repeat' split) <;> decide)
  · obtain ⟨tz, rfl, hR⟩ := hp
    show J X 5 _ _ _ _ [.int (cntL (nLearn S w s) (ix w) 4), .int 0, .ref o] (5 + 3)
    refine j_i2l (pc := 8) g dL_learn_8 ?_
    refine j_last (pc := 9) g dL_learn_9 ((hr.call hn).2.2.2.1.1) (vp_in_nI (n := 0) (by omega) (by omega)) ?_
    refine j_goto (pc := 10) g 21 dL_learn_10 (by decide) ?_
    refine j_iconst (pc := 21) g (0) dL_learn_21 (by decide) ?_
    exact j_iret (pc := 22) g r rfl rfl (⟨by rw [tz], _, al, _, (hr.call hn).out _, fun _ => ⟨if_pos rfl, hR⟩, fun z => absurd tz z⟩) dL_learn_22 (Nat.le_of_ble_eq_true rfl) (Nat.le_of_ble_eq_true rfl)

set_option maxHeartbeats 400000 in
set_option maxRecDepth 100000 in
theorem w_pass (l : Launch) (D : va_G) (hst : l.stackTraces = false) (M Mx : MH) (x m o od : Nat) (ad : Nat → Nat) (al : Nat → Nat → Nat) (S : ST) (d ns nd : Nat) (f : Nat → Int64) (fd : Nat → UInt64) (hr : LR M Mx m ad S o od f fd) (hc : CRep Mx x al S d ns nd) (hk : mOK S d ns nd) (n : Int32) : xW l D yL_pass wsL_pass ({ frames := 7, cells := 1, slots := 6, locals := 118 }) 1 6 [.ref x, .int n, .ref o] M (wP (tPass S n) ((S 0 0 + n).toInt64) x m ad S o od fd d ns nd (nPass S n) d ns nd) := by
  refine xW_of (cc := cL_pass) (maxL := 4) (ret := (some .int)) (own := RL) [some (.ref x), some (.int n), some (.ref o), none] (by decide) rfl rfl (Nat.le_of_ble_eq_true rfl) rfl rfl rfl ?_
  intro X hXl hXD g r t0 t
  subst hXl
  subst hXD
  refine j_aload_n (pc := 0) g 2 dL_pass_0 rfl rfl ?_
  refine j_iconst (pc := 1) g (0) dL_pass_1 (by decide) ?_
  refine j_aload_n (pc := 2) g 0 dL_pass_2 rfl rfl ?_
  refine j_iload_n (pc := 3) g 1 dL_pass_3 rfl rfl ?_
  refine j_callTV (pc := 4) (n := 1) g t0 (hr.1 _ _ hc.1.1) rfl (hr.1) (k_pass (jl X) (jD X) hst Mx x al S d ns nd hc hk.2.2.2.1 n) dL_pass_4 gL_pass_X8_pass rfl rfl rfl rfl ⟨rfl, by decide, by decide, by decide +kernel⟩ ⟨Nat.le_of_ble_eq_true rfl, Nat.le_of_ble_eq_true rfl⟩ ⟨Nat.le_of_ble_eq_true rfl, Nat.le_of_ble_eq_true rfl⟩ rfl (Nat.le_of_ble_eq_true rfl) (fun E M1 hE hn => ?_) (fun v M1 hp hn => ?_)
  · obtain ⟨hE, rfl⟩ := hE
    rcases hE with ⟨t1, rfl⟩ | ⟨t1, rfl⟩ | ⟨t1, rfl⟩
    · refine j_catch (pc := 4) (nm := eIA) g t0 t [] [(0, 9, 15, 15)] 0 9 12 13 rfl (fun z hz => absurd hz (by simp)) rfl (by decide) (by decide +kernel) (by decide) (fun q => ?_)
      refine astore_n_4_3 (pc := 12) g dL_pass_12 ?_
      refine j_iconst (pc := 13) g (1) dL_pass_13 (by decide) ?_
      exact j_iret (pc := 14) g r rfl rfl (⟨by rw [t1], _, al, f, hr.call hn, fun z => absurd (t1.symm.trans z) (by decide), fun _ => hc⟩) dL_pass_14 (Nat.le_of_ble_eq_true rfl) (Nat.le_of_ble_eq_true rfl)
    · refine j_catch (pc := 4) (nm := eIS) g t0 t [(0, 9, 12, 13)] [] 0 9 15 15 rfl (List.forall_mem_cons.mpr ⟨⟨by decide, eIA, by decide +kernel, t0.n3⟩, fun _ h => absurd h List.not_mem_nil⟩) rfl (by decide) (by decide +kernel) (by decide) (fun q => ?_)
      refine astore_n_4_3 (pc := 15) g dL_pass_15 ?_
      refine j_iconst (pc := 16) g (2) dL_pass_16 (by decide) ?_
      exact j_iret (pc := 17) g r rfl rfl (⟨by rw [t1], _, al, f, hr.call hn, fun z => absurd (t1.symm.trans z) (by decide), fun _ => hc⟩) dL_pass_17 (Nat.le_of_ble_eq_true rfl) (Nat.le_of_ble_eq_true rfl)
    · exact absurd t1 (by unfold tPass; (repeat' split) <;> decide)
  · obtain ⟨tz, rfl, hR⟩ := hp
    show J X 4 _ _ _ _ [.int (S 0 0 + n), .int 0, .ref o] (4 + 3)
    refine j_i2l (pc := 7) g dL_pass_7 ?_
    refine j_last (pc := 8) g dL_pass_8 ((hr.call hn).2.2.2.1.1) (vp_in_nI (n := 0) (by omega) (by omega)) ?_
    refine j_goto (pc := 9) g 18 dL_pass_9 (by decide) ?_
    refine j_iconst (pc := 18) g (0) dL_pass_18 (by decide) ?_
    exact j_iret (pc := 19) g r rfl rfl (⟨by rw [tz], _, al, _, (hr.call hn).out _, fun _ => ⟨if_pos rfl, hR⟩, fun z => absurd tz z⟩) dL_pass_19 (Nat.le_of_ble_eq_true rfl) (Nat.le_of_ble_eq_true rfl)

set_option maxHeartbeats 400000 in
set_option maxRecDepth 100000 in
theorem w_duel (l : Launch) (D : va_G) (hst : l.stackTraces = false) (M Mx : MH) (x m o od : Nat) (ad : Nat → Nat) (al : Nat → Nat → Nat) (S : ST) (d ns nd : Nat) (f : Nat → Int64) (fd : Nat → UInt64) (hr : LR M Mx m ad S o od f fd) (hc : CRep Mx x al S d ns nd) (hk : mOK S d ns nd) (a b j q r9 w : Int32) : xW l D yL_duel wsL_duel ({ frames := 7, cells := 3, slots := 25, locals := 124 }) 3 25 [.ref x, .int a, .int b, .int j, .int q, .int r9, .int w, .ref o] M (wP (tDuel S a b j q r9 w) ((nI nd).toInt64) x m ad S o od fd d ns nd (nDuel S nd a b j q r9 w) d ns (nd + 1)) := by
  refine xW_of (cc := cL_duel) (maxL := 9) (ret := (some .int)) (own := RL) [some (.ref x), some (.int a), some (.int b), some (.int j), some (.int q), some (.int r9), some (.int w), some (.ref o), none] (by decide) rfl rfl (Nat.le_of_ble_eq_true rfl) rfl rfl rfl ?_
  intro X hXl hXD g r t0 t
  subst hXl
  subst hXD
  refine j_aload (pc := 0) g dL_duel_0 rfl ?_
  refine j_iconst (pc := 2) g (0) dL_duel_2 (by decide) ?_
  refine j_aload_n (pc := 3) g 0 dL_duel_3 rfl rfl ?_
  refine j_iload_n (pc := 4) g 1 dL_duel_4 rfl rfl ?_
  refine j_iload_n (pc := 5) g 2 dL_duel_5 rfl rfl ?_
  refine j_iload_n (pc := 6) g 3 dL_duel_6 rfl rfl ?_
  refine j_iload (pc := 7) g dL_duel_7 rfl ?_
  refine j_iload (pc := 9) g dL_duel_9 rfl ?_
  refine j_iload (pc := 11) g dL_duel_11 rfl ?_
  refine j_callTV (pc := 13) (n := 6) g t0 (hr.1 _ _ hc.1.1) rfl (hr.1) (k_duel (jl X) (jD X) hst Mx x al S d ns nd hc hk.2.1.1 hk.2.1.2.2.1 hk.2.2.1.1 hk.2.2.1.2.1 (hk.2.2.2.2.2.2.1 nd (Nat.le_refl _)) a b j q r9 w) dL_duel_13 gL_duel_X8_duel rfl rfl rfl rfl ⟨rfl, by decide, by decide, by decide +kernel⟩ ⟨Nat.le_of_ble_eq_true rfl, Nat.le_of_ble_eq_true rfl⟩ ⟨Nat.le_of_ble_eq_true rfl, Nat.le_of_ble_eq_true rfl⟩ rfl (Nat.le_of_ble_eq_true rfl) (fun E M1 hE hn => ?_) (fun v M1 hp hn => ?_)
  · obtain ⟨hE, rfl⟩ := hE
    rcases hE with ⟨t1, rfl⟩ | ⟨t1, rfl⟩ | ⟨t1, rfl⟩
    · refine j_catch (pc := 13) (nm := eIO) g t0 t [] [(0, 18, 25, 13), (0, 18, 29, 15)] 0 18 21 25 rfl (fun z hz => absurd hz (by simp)) rfl (by decide) (by decide +kernel) (by decide) (fun q => ?_)
      refine astore_9_8 (pc := 21) g dL_duel_21 ?_
      refine j_iconst (pc := 23) g (1) dL_duel_23 (by decide) ?_
      exact j_iret (pc := 24) g r rfl rfl (⟨by rw [t1], _, al, f, hr.call hn, fun z => absurd (t1.symm.trans z) (by decide), fun _ => hc⟩) dL_duel_24 (Nat.le_of_ble_eq_true rfl) (Nat.le_of_ble_eq_true rfl)
    · refine j_catch (pc := 13) (nm := eIA) g t0 t [(0, 18, 21, 25)] [(0, 18, 29, 15)] 0 18 25 13 rfl (List.forall_mem_cons.mpr ⟨⟨by decide, eIO, by decide +kernel, t0.n1⟩, fun _ h => absurd h List.not_mem_nil⟩) rfl (by decide) (by decide +kernel) (by decide) (fun q => ?_)
      refine astore_9_8 (pc := 25) g dL_duel_25 ?_
      refine j_iconst (pc := 27) g (2) dL_duel_27 (by decide) ?_
      exact j_iret (pc := 28) g r rfl rfl (⟨by rw [t1], _, al, f, hr.call hn, fun z => absurd (t1.symm.trans z) (by decide), fun _ => hc⟩) dL_duel_28 (Nat.le_of_ble_eq_true rfl) (Nat.le_of_ble_eq_true rfl)
    · refine j_catch (pc := 13) (nm := eIS) g t0 t [(0, 18, 21, 25), (0, 18, 25, 13)] [] 0 18 29 15 rfl (List.forall_mem_cons.mpr ⟨⟨by decide, eIO, by decide +kernel, t0.n2⟩, List.forall_mem_cons.mpr ⟨⟨by decide, eIA, by decide +kernel, t0.n3⟩, fun _ h => absurd h List.not_mem_nil⟩⟩) rfl (by decide) (by decide +kernel) (by decide) (fun q => ?_)
      refine astore_9_8 (pc := 29) g dL_duel_29 ?_
      refine j_iconst (pc := 31) g (3) dL_duel_31 (by decide) ?_
      exact j_iret (pc := 32) g r rfl rfl (⟨by rw [t1], _, al, f, hr.call hn, fun z => absurd (t1.symm.trans z) (by decide), fun _ => hc⟩) dL_duel_32 (Nat.le_of_ble_eq_true rfl) (Nat.le_of_ble_eq_true rfl)
  · obtain ⟨tz, rfl, al2, hR⟩ := hp
    show J X 9 _ _ _ _ [.int (nI nd), .int 0, .ref o] (13 + 3)
    refine j_i2l (pc := 16) g dL_duel_16 ?_
    refine j_last (pc := 17) g dL_duel_17 ((hr.call hn).2.2.2.1.1) (vp_in_nI (n := 0) (by omega) (by omega)) ?_
    refine j_goto (pc := 18) g 33 dL_duel_18 (by decide) ?_
    refine j_iconst (pc := 33) g (0) dL_duel_33 (by decide) ?_
    exact j_iret (pc := 34) g r rfl rfl (⟨by rw [tz], _, al2, _, (hr.call hn).out _, fun _ => ⟨if_pos rfl, hR⟩, fun z => absurd tz z⟩) dL_duel_34 (Nat.le_of_ble_eq_true rfl) (Nat.le_of_ble_eq_true rfl)

set_option maxHeartbeats 400000 in
set_option maxRecDepth 100000 in
theorem w_hand (l : Launch) (D : va_G) (hst : l.stackTraces = false) (M Mx : MH) (x m o od : Nat) (ad : Nat → Nat) (al : Nat → Nat → Nat) (S : ST) (d ns nd : Nat) (f : Nat → Int64) (fd : Nat → UInt64) (hr : LR M Mx m ad S o od f fd) (hc : CRep Mx x al S d ns nd) (hk : mOK S d ns nd) (its s : Int32) : xW l D yL_hand wsL_hand ({ frames := 7, cells := 8, slots := 28, locals := 125 }) 8 28 [.ref x, .int its, .int s, .ref o] M (wP (tHand S its s) ((S 9 0 + 1).toInt64) x m ad S o od fd d ns nd (nHand S (ix its) (ix (S 17 (ix its))) (ix (S 22 (ix its))) d s) 0 ns nd) := by
  refine xW_of (cc := cL_hand) (maxL := 5) (ret := (some .int)) (own := RL) [some (.ref x), some (.int its), some (.int s), some (.ref o), none] (by decide) rfl rfl (Nat.le_of_ble_eq_true rfl) rfl rfl rfl ?_
  intro X hXl hXD g r t0 t
  subst hXl
  subst hXD
  refine j_aload_n (pc := 0) g 3 dL_hand_0 rfl rfl ?_
  refine j_iconst (pc := 1) g (0) dL_hand_1 (by decide) ?_
  refine j_aload_n (pc := 2) g 0 dL_hand_2 rfl rfl ?_
  refine j_iload_n (pc := 3) g 1 dL_hand_3 rfl rfl ?_
  refine j_iload_n (pc := 4) g 2 dL_hand_4 rfl rfl ?_
  refine j_callTV (pc := 5) (n := 2) g t0 (hr.1 _ _ hc.1.1) rfl (hr.1) (k_hand (jl X) (jD X) hst Mx x al S d ns nd hc hk.2.2.1.1 hk.2.2.1.2.1 hk.2.2.1.2.2 hk.2.1.2 hk.1.1 hk.1.2.1 hk.1.2.2 (fun i hi => (hk.2.2.2.1 i hi).1) (fun i hi h9 => hk.2.2.2.2.2.2.2 i _ (by have := hk.2.2.1.2.1; omega) h9 (Nat.le_refl _)) its s) dL_hand_5 gL_hand_X8_hand rfl rfl rfl rfl ⟨rfl, by decide, by decide, by decide +kernel⟩ ⟨Nat.le_of_ble_eq_true rfl, Nat.le_of_ble_eq_true rfl⟩ ⟨Nat.le_of_ble_eq_true rfl, Nat.le_of_ble_eq_true rfl⟩ rfl (Nat.le_of_ble_eq_true rfl) (fun E M1 hE hn => ?_) (fun v M1 hp hn => ?_)
  · obtain ⟨hE, rfl⟩ := hE
    rcases hE with ⟨t1, rfl⟩ | ⟨t1, rfl⟩ | ⟨t1, rfl⟩
    · refine j_catch (pc := 5) (nm := eIO) g t0 t [] [(0, 10, 17, 13), (0, 10, 21, 15)] 0 10 13 25 rfl (fun z hz => absurd hz (by simp)) rfl (by decide) (by decide +kernel) (by decide) (fun q => ?_)
      refine astore_5_4 (pc := 13) g dL_hand_13 ?_
      refine j_iconst (pc := 15) g (1) dL_hand_15 (by decide) ?_
      exact j_iret (pc := 16) g r rfl rfl (⟨by rw [t1], _, al, f, hr.call hn, fun z => absurd (t1.symm.trans z) (by decide), fun _ => hc⟩) dL_hand_16 (Nat.le_of_ble_eq_true rfl) (Nat.le_of_ble_eq_true rfl)
    · refine j_catch (pc := 5) (nm := eIA) g t0 t [(0, 10, 13, 25)] [(0, 10, 21, 15)] 0 10 17 13 rfl (List.forall_mem_cons.mpr ⟨⟨by decide, eIO, by decide +kernel, t0.n1⟩, fun _ h => absurd h List.not_mem_nil⟩) rfl (by decide) (by decide +kernel) (by decide) (fun q => ?_)
      refine astore_5_4 (pc := 17) g dL_hand_17 ?_
      refine j_iconst (pc := 19) g (2) dL_hand_19 (by decide) ?_
      exact j_iret (pc := 20) g r rfl rfl (⟨by rw [t1], _, al, f, hr.call hn, fun z => absurd (t1.symm.trans z) (by decide), fun _ => hc⟩) dL_hand_20 (Nat.le_of_ble_eq_true rfl) (Nat.le_of_ble_eq_true rfl)
    · refine j_catch (pc := 5) (nm := eIS) g t0 t [(0, 10, 13, 25), (0, 10, 17, 13)] [] 0 10 21 15 rfl (List.forall_mem_cons.mpr ⟨⟨by decide, eIO, by decide +kernel, t0.n2⟩, List.forall_mem_cons.mpr ⟨⟨by decide, eIA, by decide +kernel, t0.n3⟩, fun _ h => absurd h List.not_mem_nil⟩⟩) rfl (by decide) (by decide +kernel) (by decide) (fun q => ?_)
      refine astore_5_4 (pc := 21) g dL_hand_21 ?_
      refine j_iconst (pc := 23) g (3) dL_hand_23 (by decide) ?_
      exact j_iret (pc := 24) g r rfl rfl (⟨by rw [t1], _, al, f, hr.call hn, fun z => absurd (t1.symm.trans z) (by decide), fun _ => hc⟩) dL_hand_24 (Nat.le_of_ble_eq_true rfl) (Nat.le_of_ble_eq_true rfl)
  · obtain ⟨tz, rfl, al2, hR⟩ := hp
    show J X 5 _ _ _ _ [.int (S 9 0 + 1), .int 0, .ref o] (5 + 3)
    refine j_i2l (pc := 8) g dL_hand_8 ?_
    refine j_last (pc := 9) g dL_hand_9 ((hr.call hn).2.2.2.1.1) (vp_in_nI (n := 0) (by omega) (by omega)) ?_
    refine j_goto (pc := 10) g 25 dL_hand_10 (by decide) ?_
    refine j_iconst (pc := 25) g (0) dL_hand_25 (by decide) ?_
    exact j_iret (pc := 26) g r rfl rfl (⟨by rw [tz], _, al2, _, (hr.call hn).out _, fun _ => ⟨if_pos rfl, hR⟩, fun z => absurd tz z⟩) dL_hand_26 (Nat.le_of_ble_eq_true rfl) (Nat.le_of_ble_eq_true rfl)
