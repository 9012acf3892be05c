theorem astore_5_4 {X : JC} {cc : ByteArray} {own : String} {Ts : List Cond} {cells slots pc : Nat} {rm : Room} {M : MH} {st : List Value} {a0 a1 a2 a3 a4 : Option Value} (g : jG X cc own Ts 5 rm) {x : Nat} (hd : decode cc pc = .ok (.astore 4, 2)) (k : J X 5 cells slots M [a0, a1, a2, a3, some (.ref x)] st (pc + 2)) : J X 5 cells slots M [a0, a1, a2, a3, a4] (.ref x :: st) pc := j_astore g hd (Nat.le_of_ble_eq_true rfl) k
theorem astoreN_5_4 {X : JC} {cc : ByteArray} {own : String} {Ts : List Cond} {cells slots pc : Nat} {rm : Room} {M : MH} {st : List Value} {a0 a1 a2 a3 a4 : Option Value} (g : jG X cc own Ts 5 rm) (hd : decode cc pc = .ok (.astore 4, 2)) (k : J X 5 cells slots M [a0, a1, a2, a3, some (.null)] st (pc + 2)) : J X 5 cells slots M [a0, a1, a2, a3, a4] (.null :: st) pc := j_astoreN g hd (Nat.le_of_ble_eq_true rfl) k
theorem astoreV_5_4 {X : JC} {cc : ByteArray} {own : String} {Ts : List Cond} {cells slots pc : Nat} {rm : Room} {M : MH} {st : List Value} {a0 a1 a2 a3 a4 : Option Value} (g : jG X cc own Ts 5 rm) {x : Value} (hv : x = .null ∨ ∃ a, x = .ref a) (hd : decode cc pc = .ok (.astore 4, 2)) (k : J X 5 cells slots M [a0, a1, a2, a3, some (x)] st (pc + 2)) : J X 5 cells slots M [a0, a1, a2, a3, a4] (x :: st) pc := j_astoreV g hv hd (Nat.le_of_ble_eq_true rfl) k
theorem inwX3_X8_part : ∀ w ∈ wsX30, w ∈ wsX8_part := fun w h => List.mem_cons_of_mem _ (List.mem_append_left _ (List.mem_append_left _ (List.mem_append_left _ (List.mem_append_left _ (List.mem_append_right _ h)))))
theorem inwX7_X8_mark : ∀ w ∈ wsX70, w ∈ wsX8_mark := fun w h => List.mem_cons_of_mem _ (List.mem_append_left _ (List.mem_append_left _ (List.mem_append_left _ (List.mem_append_left _ (List.mem_append_left _ (List.mem_append_left _ (List.mem_append_right _ h)))))))
theorem inwX8_X8_mark : ∀ w ∈ wsX80, w ∈ wsX8_mark := fun w h => List.mem_cons_of_mem _ (List.mem_append_left _ (List.mem_append_left _ (List.mem_append_left _ (List.mem_append_left _ (List.mem_append_left _ (List.mem_append_right _ h))))))
theorem inwX8_X8_part : ∀ w ∈ wsX80, w ∈ wsX8_part := fun w h => List.mem_cons_of_mem _ (List.mem_append_left _ (List.mem_append_left _ (List.mem_append_left _ (List.mem_append_left _ (List.mem_append_left _ (List.mem_append_right _ h))))))
theorem atX8_mark_100 : ∀ w ∈ (vx_atS RX8 100 eIO eNs).filter goodWord, w ∈ wsX8_mark := fun w h => List.mem_cons_of_mem _ (List.mem_append_right _ h)
theorem atX8_part_55 : ∀ w ∈ (vx_atS RX8 55 eIA eNs).filter goodWord, w ∈ wsX8_part := fun w h => List.mem_cons_of_mem _ (List.mem_append_right _ h)
theorem atX8_part_100 : ∀ w ∈ (vx_atS RX8 100 eIO eNs).filter goodWord, w ∈ wsX8_part := fun w h => List.mem_cons_of_mem _ (List.mem_append_left _ (List.mem_append_right _ h))

set_option maxHeartbeats 400000 in
set_option maxRecDepth 100000 in
theorem k_mark (l : Launch) (D : va_G) (hst : l.stackTraces = false) (M : MH) (x : Nat) (al : Nat → Nat → Nat) (S : ST) (d ns nd : Nat) (hc : CRep M x al S d ns nd) (hd8 : d ≤ 8) (hdr : ∀ i, i < d → okC S 2 (4 * i)) (hns : S 3 0 = nI ns) (hkk : mMK S ns) (gn y : Int32) : xT l D yX8_mark wsX8_mark ({ frames := 6, cells := 8, slots := 28, locals := 99 }) 8 28 [.ref x, .int gn, .int y] (M) (fun v M' => tMark S gn y = 0 ∧ v = some (.float (markS S 2 0 d (ix gn) (ix y) (ix (S 4 (ix gn))) 0)) ∧ pr [] M M') (fun E M' => xE (tMark S gn y) eIO "" "" E ∧ M' = M) := by
  refine xT_of (cc := cX8_mark) (maxL := 5) (ret := (some .float)) (own := RX8) hst [some (.ref x), some (.int gn), some (.int y), none, none] (by decide) rfl rfl (Nat.le_of_ble_eq_true rfl) rfl rfl rfl ?_
  intro X hXl hXD g r t
  subst hXl
  subst hXD
  have inX8 : ∀ w ∈ wsX80, w ∈ wsX8_mark := inwX8_X8_mark
  have inX7 : ∀ w ∈ wsX70, w ∈ wsX8_mark := inwX7_X8_mark
  have hc0 := hc
  obtain ⟨⟨hx, hT0, hT1, hT2, hT3, hT4⟩, hP, hY, hJ, hG, hD, hW⟩ := hc
  refine j_aload_n (pc := 0) g 0 dX8_mark_0 rfl rfl ?_
  refine j_iload_n (pc := 1) g 1 dX8_mark_1 rfl rfl ?_
  refine j_cVr (pc := 2) (n := 1) g (c_signAt (jl X) (jD X) M x _ _ _ _ _ _ _ _ _ _ hx (rowF (al 5) ns) hT0 _) dX8_mark_2 (hx) rfl gX8_mark_X8_signAt rfl rfl rfl rfl ⟨rfl, by decide, by decide, by decide +kernel⟩ ⟨Nat.le_of_ble_eq_true rfl, Nat.le_of_ble_eq_true rfl⟩ ⟨Nat.le_of_ble_eq_true rfl, Nat.le_of_ble_eq_true rfl⟩ rfl (Nat.le_of_ble_eq_true rfl) ?_
  rcases at_or (g := al 5) (n := ns) (m := 6) (i := gn) hkk.2.1 (by decide) with ⟨hsu, hgx, hgl, e1⟩ | ⟨hsu, e1⟩
  · rw [e1]
    have hsi : isSi S gn := by unfold isSi; rw [hns]; exact hsu
    have hsg := hkk.2.2 _ hgl
    refine astore_n_5_3 (pc := 5) g dX8_mark_5 ?_
    refine j_aload_n (pc := 6) g 0 dX8_mark_6 rfl rfl ?_
    refine j_iload_n (pc := 7) g 2 dX8_mark_7 rfl rfl ?_
    refine j_cVr (pc := 8) (n := 1) g (c_styleAt (jl X) (jD X) M x _ _ _ _ _ _ _ _ _ _ hx (rowF (al 2) 4) hT2 _) dX8_mark_8 (hx) rfl gX8_mark_X8_styleAt rfl rfl rfl rfl ⟨rfl, by decide, by decide, by decide +kernel⟩ ⟨Nat.le_of_ble_eq_true rfl, Nat.le_of_ble_eq_true rfl⟩ ⟨Nat.le_of_ble_eq_true rfl, Nat.le_of_ble_eq_true rfl⟩ rfl (Nat.le_of_ble_eq_true rfl) ?_
    rcases at_or (g := al 2) (n := 4) (m := 4) (i := y) (by decide) (by decide) with ⟨hyu, hyx, hyl, e2⟩ | ⟨hyu, e2⟩
    · rw [e2]
      have hyi : iN y 0 3 := hyu
      refine astore_5_4 (pc := 11) g dX8_mark_11 ?_
      refine j_aload_n (pc := 13) g 3 dX8_mark_13 rfl rfl ?_
      refine j_ifnull (pc := 14) g dX8_mark_14 ?_
      refine j_aload (pc := 17) g dX8_mark_17 rfl ?_
      refine j_ifnonnull (pc := 19) g 33 dX8_mark_19 (by decide) ?_
      refine j_new (pc := 33) (ci := 7) g dvX7 dX8_mark_33 inX7 tyX7 tyX7_ok (by decide +kernel) (by decide +kernel) (by decide +kernel) rfl dfX7 (Nat.le_of_ble_eq_true rfl) (Nat.le_of_ble_eq_true rfl) (fun q hq => ?_)
      have hx2 := xu_k (e' := oB 7 dvX7) hq hx
      have hpn := (pr.rf (L := []) (M := M)).nw (e' := oB 7 dvX7) hq
      have hw2 := hG.2.1.k (S' := S) (k' := 2) (p' := 0) hpn (by decide) (by decide) (by decide) (fun _ _ => rfl)
      have hm2 := (hG.1 _ hgl).k (S' := S) (k' := 5) (p' := 24 * ix gn) hpn (by decide) (by decide) (by decide) (fun _ _ => rfl)
      refine j_dup (pc := 36) g dX8_mark_36 rfl ?_
      refine j_aload_n (pc := 37) g 0 dX8_mark_37 rfl rfl ?_
      refine j_get (pc := 38) g dX8_mark_38 (hx2) rfl inX8 5 (by decide) (by decide +kernel) rfl rfl ?_
      refine j_aload_n (pc := 41) g 3 dX8_mark_41 rfl rfl ?_
      refine j_iconst (pc := 42) g (0) dX8_mark_42 (by decide) ?_
      refine j_iconst (pc := 43) g (0) dX8_mark_43 (by decide) ?_
      refine j_callI (pc := 44) (ret := none) (n := 4) g (by decide +kernel) (by decide +kernel) (by decide +kernel) rfl (c_wInit (jl X) (jD X) _ q _ _ _ _ S 2 0 d (ix gn) _ hd8 (by have := hsg.i4; omega) (fun i hi => by rw [Nat.zero_add]; exact hdr i hi) (fun i hi => hsg.2 i hi) 0 ⟨by decide, by decide⟩ 0 (Or.inl rfl) (xu_s _ _ _) hw2 hm2) dX8_mark_44 gX8_mark_X7_init rfl rfl rfl rfl ⟨by decide, by decide, by decide +kernel⟩ ⟨Nat.le_of_ble_eq_true rfl, Nat.le_of_ble_eq_true rfl⟩ ⟨Nat.le_of_ble_eq_true rfl, Nat.le_of_ble_eq_true rfl⟩ rfl (Nat.le_of_ble_eq_true rfl) (fun v M1 hp => ?_)
      obtain ⟨rfl, pa, hwp⟩ := hp
      have hpe : pr [] M M1 := fun a e9 ha9 hk9 => hwp.1 a e9 (fun z => by rw [z, hq] at ha9; exact absurd ha9 (by simp)) (hpn a e9 ha9 hk9)
      have hy2 := hpe _ _ (hY.1 _ hyl) (fun z => nomatch z)
      refine j_aload (pc := 47) g dX8_mark_47 rfl ?_
      refine j_cVf (pc := 49) (n := 1) g (c_wMark (jl X) (jD X) M1 q pa (al 2 (ix y)) S 2 0 d (ix gn) _ (ix y) 0 0 0 hwp.wr hy2 hkk.1 ⟨by decide, by decide⟩ hyl hd8 hsg.i4.2.2 hsg.i4.2.1 (fun i hi => ⟨by rw [Nat.zero_add]; exact hdr i (by omega), hsg.2 i (by omega)⟩)) dX8_mark_49 (hwp.2.2.1) rfl gX8_mark_X7_markBy rfl rfl rfl rfl ⟨rfl, by decide, by decide, by decide +kernel⟩ ⟨Nat.le_of_ble_eq_true rfl, Nat.le_of_ble_eq_true rfl⟩ ⟨Nat.le_of_ble_eq_true rfl, Nat.le_of_ble_eq_true rfl⟩ rfl (Nat.le_of_ble_eq_true rfl) ?_
      exact j_fret (pc := 52) g r rfl  (⟨by unfold tMark; rw [if_neg (not_not_intro (⟨hsi, hyi⟩))], rfl, hpe⟩) dX8_mark_52 (Nat.le_of_ble_eq_true rfl) (Nat.le_of_ble_eq_true rfl)
    · rw [e2]
      have hyi : ¬ iN y 0 3 := hyu
      refine astoreN_5_4 (pc := 11) g dX8_mark_11 ?_
      refine j_aload_n (pc := 13) g 3 dX8_mark_13 rfl rfl ?_
      refine j_ifnull (pc := 14) g dX8_mark_14 ?_
      refine j_aloadN (pc := 17) g dX8_mark_17 rfl ?_
      refine j_ifnonnullN (pc := 19) g dX8_mark_19 ?_
      exact j_throwSW (pc := 22) g t "java/lang/IndexOutOfBoundsException" "no such sign or style" dX8_mark_22 dX8_mark_25 dX8_mark_26 dX8_mark_29 dX8_mark_32 rfl (by decide +kernel) (by decide) (by decide +kernel) (by decide +kernel) atX8_mark_100 atB_100 atG_100 (Nat.le_of_ble_eq_true rfl) (Nat.le_of_ble_eq_true rfl) (Nat.le_of_ble_eq_true rfl) (Nat.le_of_ble_eq_true rfl) (Nat.le_of_ble_eq_true rfl) (Nat.le_of_ble_eq_true rfl) (⟨Or.inl ⟨by unfold tMark; rw [if_pos (fun z => hyi z.2)], rfl⟩, rfl⟩)
  · rw [e1]
    have hsn : ¬ isSi S gn := by unfold isSi; rw [hns]; exact hsu
    refine astore_nN_5_3 (pc := 5) g dX8_mark_5 ?_
    refine j_aload_n (pc := 6) g 0 dX8_mark_6 rfl rfl ?_
    refine j_iload_n (pc := 7) g 2 dX8_mark_7 rfl rfl ?_
    refine j_cVr (pc := 8) (n := 1) g (c_styleAt (jl X) (jD X) M x _ _ _ _ _ _ _ _ _ _ hx (rowF (al 2) 4) hT2 _) dX8_mark_8 (hx) rfl gX8_mark_X8_styleAt rfl rfl rfl rfl ⟨rfl, by decide, by decide, by decide +kernel⟩ ⟨Nat.le_of_ble_eq_true rfl, Nat.le_of_ble_eq_true rfl⟩ ⟨Nat.le_of_ble_eq_true rfl, Nat.le_of_ble_eq_true rfl⟩ rfl (Nat.le_of_ble_eq_true rfl) ?_
    refine astoreV_5_4 (pc := 11) g (va_rf_ok _) dX8_mark_11 ?_
    refine j_aload_nN (pc := 13) g 3 dX8_mark_13 rfl rfl ?_
    refine j_ifnullN (pc := 14) g 22 dX8_mark_14 (by decide) ?_
    exact j_throwSW (pc := 22) g t "java/lang/IndexOutOfBoundsException" "no such sign or style" dX8_mark_22 dX8_mark_25 dX8_mark_26 dX8_mark_29 dX8_mark_32 rfl (by decide +kernel) (by decide) (by decide +kernel) (by decide +kernel) atX8_mark_100 atB_100 atG_100 (Nat.le_of_ble_eq_true rfl) (Nat.le_of_ble_eq_true rfl) (Nat.le_of_ble_eq_true rfl) (Nat.le_of_ble_eq_true rfl) (Nat.le_of_ble_eq_true rfl) (Nat.le_of_ble_eq_true rfl) (⟨Or.inl ⟨by unfold tMark; rw [if_pos (fun z => hsn z.1)], rfl⟩, rfl⟩)

set_option maxHeartbeats 400000 in
set_option maxRecDepth 100000 in
theorem k_part (l : Launch) (D : va_G) (hst : l.stackTraces = false) (M : MH) (x : Nat) (al : Nat → Nat → Nat) (S : ST) (d ns nd : Nat) (hc : CRep M x al S d ns nd) (hd8 : d ≤ 8) (hdr : ∀ i, i < d → okC S 2 (4 * i)) (hns : S 3 0 = nI ns) (hkk : mMK S ns) (hd : S 1 0 = nI d) (gn k w : Int32) : xT l D yX8_part wsX8_part ({ frames := 6, cells := 2, slots := 9, locals := 96 }) 2 9 [.ref x, .int gn, .int k, .int w] (M) (fun v M' => tPart S gn k w = 0 ∧ v = some (.float (vPart S gn k w)) ∧ pr [] M M') (fun E M' => xE (tPart S gn k w) eIO eIA "" E ∧ pr [] M M') := by
  refine xT_of (cc := cX8_part) (maxL := 6) (ret := (some .float)) (own := RX8) hst [some (.ref x), some (.int gn), some (.int k), some (.int w), none, none] (by decide) rfl rfl (Nat.le_of_ble_eq_true rfl) rfl rfl rfl ?_
  intro X hXl hXD g r t
  subst hXl
  subst hXD
  have inX8 : ∀ w ∈ wsX80, w ∈ wsX8_part := inwX8_X8_part
  have inX3 : ∀ w ∈ wsX30, w ∈ wsX8_part := inwX3_X8_part
  have hc0 := hc
  obtain ⟨⟨hx, hT0, hT1, hT2, hT3, hT4⟩, hP, hY, hJ, hG, hD, hW⟩ := hc
  refine j_aload_n (pc := 0) g 0 dX8_part_0 rfl rfl ?_
  refine j_iload_n (pc := 1) g 1 dX8_part_1 rfl rfl ?_
  refine j_cVr (pc := 2) (n := 1) g (c_signAt (jl X) (jD X) M x _ _ _ _ _ _ _ _ _ _ hx (rowF (al 5) ns) hT0 _) dX8_part_2 (hx) rfl gX8_part_X8_signAt rfl rfl rfl rfl ⟨rfl, by decide, by decide, by decide +kernel⟩ ⟨Nat.le_of_ble_eq_true rfl, Nat.le_of_ble_eq_true rfl⟩ ⟨Nat.le_of_ble_eq_true rfl, Nat.le_of_ble_eq_true rfl⟩ rfl (Nat.le_of_ble_eq_true rfl) ?_
  rcases at_or (g := al 5) (n := ns) (m := 6) (i := gn) hkk.2.1 (by decide) with ⟨hsu, hgx, hgl, e1⟩ | ⟨hsu, e1⟩
  · rw [e1]
    have hsi : isSi S gn := by unfold isSi; rw [hns]; exact hsu
    have hsg := hkk.2.2 _ hgl
    have h4 := hsg.i4
    refine astore_6_4 (pc := 5) g dX8_part_5 ?_
    refine j_aload (pc := 7) g dX8_part_7 rfl ?_
    refine j_ifnonnull (pc := 9) g 16 dX8_part_9 (by decide) ?_
    refine j_aload_n (pc := 16) g 0 dX8_part_16 rfl rfl ?_
    refine j_get (pc := 17) g dX8_part_17 (hx) rfl inX8 5 (by decide) (by decide +kernel) rfl rfl ?_
    refine j_aload (pc := 20) g dX8_part_20 rfl ?_
    refine j_iload_n (pc := 22) g 2 dX8_part_22 rfl rfl ?_
    refine j_iconst (pc := 23) g (0) dX8_part_23 (by decide) ?_
    refine j_callS (pc := 24) (n := 4) g (c_between (jl X) (jD X) _ _ _ _ _ S 2 0 d (ix gn) _ hd8 (by omega) (fun i hi => by rw [Nat.zero_add]; exact hdr i hi) (fun i hi => hsg.2 i hi) 0 ⟨by decide, by decide⟩ hG.2.1 (hG.1 _ hgl) k) dX8_part_24 gX8_part_X3_between rfl rfl rfl rfl ⟨by decide, by decide, by decide +kernel⟩ ⟨Nat.le_of_ble_eq_true rfl, Nat.le_of_ble_eq_true rfl⟩ ⟨Nat.le_of_ble_eq_true rfl, Nat.le_of_ble_eq_true rfl⟩ rfl (Nat.le_of_ble_eq_true rfl) (fun v M1 hp => ?_)
    rcases hp with ⟨i, q, ek, hi1, hi2, hq, rfl, rfl⟩ | ⟨hn, rfl, rfl⟩
    · have hxk : ix k = i := by rw [ek, ix_nI (by omega)]
      have hok : okPart S gn k := ⟨hsi, by rw [hd, ek]; exact iN_ix1' (by omega) hi1, by rw [h4.1, ek]; exact nI_lt hi2 (by omega)⟩
      have hpe : pr [] M _ := (pr.rf (L := []) (M := M)).nw (e' := paC S 2 (0 + 4 * i) (24 * ix gn + 4 * i) d (ix (S 4 (ix gn))) 0) hq
      refine astore_6_5 (pc := 27) g dX8_part_27 ?_
      refine j_aload (pc := 29) g dX8_part_29 rfl ?_
      refine j_ifnonnull (pc := 31) g 45 dX8_part_31 (by decide) ?_
      refine j_iload_n (pc := 45) g 3 dX8_part_45 rfl rfl ?_
      rcases i2_or w with rfl | rfl | rfl | ⟨hw, hwo⟩
      · refine j_tableIn (pc := 46) g (26) 72 dX8_part_46 (by decide) (by decide) (by decide) (by decide) ?_
        refine j_aload (pc := 72) g dX8_part_72 rfl ?_
        refine j_get (pc := 74) g dX8_part_74 (xu_s _ _ _) rfl inX3 0 (by decide) (by decide +kernel) rfl rfl ?_
        exact j_fret (pc := 77) g r rfl  (⟨by unfold tPart; rw [if_neg (not_not_intro (hok)), if_neg (not_not_intro (by decide))], by unfold vPart; rw [if_pos rfl, hxk, Nat.zero_add], hpe⟩) dX8_part_77 (Nat.le_of_ble_eq_true rfl) (Nat.le_of_ble_eq_true rfl)
      · refine j_tableIn (pc := 46) g (32) 78 dX8_part_46 (by decide) (by decide) (by decide) (by decide) ?_
        refine j_aload (pc := 78) g dX8_part_78 rfl ?_
        refine j_get (pc := 80) g dX8_part_80 (xu_s _ _ _) rfl inX3 1 (by decide) (by decide +kernel) rfl rfl ?_
        exact j_fret (pc := 83) g r rfl  (⟨by unfold tPart; rw [if_neg (not_not_intro (hok)), if_neg (not_not_intro (by decide))], by unfold vPart; rw [if_neg (by decide), if_pos rfl, hxk, Nat.zero_add], hpe⟩) dX8_part_83 (Nat.le_of_ble_eq_true rfl) (Nat.le_of_ble_eq_true rfl)
      · refine j_tableIn (pc := 46) g (38) 84 dX8_part_46 (by decide) (by decide) (by decide) (by decide) ?_
        refine j_aload (pc := 84) g dX8_part_84 rfl ?_
        refine j_get (pc := 86) g dX8_part_86 (xu_s _ _ _) rfl inX3 2 (by decide) (by decide +kernel) rfl rfl ?_
        exact j_fret (pc := 89) g r rfl  (⟨by unfold tPart; rw [if_neg (not_not_intro (hok)), if_neg (not_not_intro (by decide))], by unfold vPart; rw [if_neg (by decide), if_neg (by decide), hd, ← h4.1], hpe⟩) dX8_part_89 (Nat.le_of_ble_eq_true rfl) (Nat.le_of_ble_eq_true rfl)
      · refine j_tableOut (pc := 46) g 90 dX8_part_46 (hwo) (by decide) ?_
        exact j_throwSW (pc := 90) g t "java/lang/IllegalArgumentException" "what is out of range" dX8_part_90 dX8_part_93 dX8_part_94 dX8_part_97 dX8_part_100 rfl (by decide +kernel) (by decide) (by decide +kernel) (by decide +kernel) atX8_part_55 atB_55 atG_55 (Nat.le_of_ble_eq_true rfl) (Nat.le_of_ble_eq_true rfl) (Nat.le_of_ble_eq_true rfl) (Nat.le_of_ble_eq_true rfl) (Nat.le_of_ble_eq_true rfl) (Nat.le_of_ble_eq_true rfl) (⟨Or.inr (Or.inl ⟨by unfold tPart; rw [if_neg (not_not_intro hok), if_pos hw], rfl⟩), hpe⟩)
    · have hok : ¬ okPart S gn k := fun z => hn ⟨z.2.1.1, by have h9 := iN_ix1 (n := d) (by omega) (by rw [← hd]; exact z.2.1); rw [h9.1]; exact nI_lt h9.2 (by omega), by rw [← h4.1]; exact z.2.2⟩
      refine astoreN_6_5 (pc := 27) g dX8_part_27 ?_
      refine j_aloadN (pc := 29) g dX8_part_29 rfl ?_
      refine j_ifnonnullN (pc := 31) g dX8_part_31 ?_
      exact j_throwSW (pc := 34) g t "java/lang/IndexOutOfBoundsException" "no such sign or stroke" dX8_part_34 dX8_part_37 dX8_part_38 dX8_part_41 dX8_part_44 rfl (by decide +kernel) (by decide) (by decide +kernel) (by decide +kernel) atX8_part_100 atB_100 atG_100 (Nat.le_of_ble_eq_true rfl) (Nat.le_of_ble_eq_true rfl) (Nat.le_of_ble_eq_true rfl) (Nat.le_of_ble_eq_true rfl) (Nat.le_of_ble_eq_true rfl) (Nat.le_of_ble_eq_true rfl) (⟨Or.inl ⟨by unfold tPart; rw [if_pos hok], rfl⟩, pr.rf⟩)
  · rw [e1]
    have hsn : ¬ isSi S gn := by unfold isSi; rw [hns]; exact hsu
    refine astoreN_6_4 (pc := 5) g dX8_part_5 ?_
    refine j_aloadN (pc := 7) g dX8_part_7 rfl ?_
    refine j_ifnonnullN (pc := 9) g dX8_part_9 ?_
    refine j_aconst_null (pc := 12) g dX8_part_12 ?_
    refine j_goto (pc := 13) g 27 dX8_part_13 (by decide) ?_
    refine astoreN_6_5 (pc := 27) g dX8_part_27 ?_
    refine j_aloadN (pc := 29) g dX8_part_29 rfl ?_
    refine j_ifnonnullN (pc := 31) g dX8_part_31 ?_
    exact j_throwSW (pc := 34) g t "java/lang/IndexOutOfBoundsException" "no such sign or stroke" dX8_part_34 dX8_part_37 dX8_part_38 dX8_part_41 dX8_part_44 rfl (by decide +kernel) (by decide) (by decide +kernel) (by decide +kernel) atX8_part_100 atB_100 atG_100 (Nat.le_of_ble_eq_true rfl) (Nat.le_of_ble_eq_true rfl) (Nat.le_of_ble_eq_true rfl) (Nat.le_of_ble_eq_true rfl) (Nat.le_of_ble_eq_true rfl) (Nat.le_of_ble_eq_true rfl) (⟨Or.inl ⟨by unfold tPart; rw [if_pos (fun z => hsn z.1)], rfl⟩, pr.rf⟩)
