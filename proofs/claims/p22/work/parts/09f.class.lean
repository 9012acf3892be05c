theorem astore_7_4 {X : JC} {cc : ByteArray} {own : String} {Ts : List Cond} {cells slots pc : Nat} {rm : Room} {M : MH} {st : List Value} {a0 a1 a2 a3 a4 a5 a6 : Option Value} (g : jG X cc own Ts 7 rm) {x : Nat} (hd : decode cc pc = .ok (.astore 4, 2)) (k : J X 7 cells slots M [a0, a1, a2, a3, some (.ref x), a5, a6] st (pc + 2)) : J X 7 cells slots M [a0, a1, a2, a3, a4, a5, a6] (.ref x :: st) pc := j_astore g hd (Nat.le_of_ble_eq_true rfl) k
theorem astore_7_5 {X : JC} {cc : ByteArray} {own : String} {Ts : List Cond} {cells slots pc : Nat} {rm : Room} {M : MH} {st : List Value} {a0 a1 a2 a3 a4 a5 a6 : Option Value} (g : jG X cc own Ts 7 rm) {x : Nat} (hd : decode cc pc = .ok (.astore 5, 2)) (k : J X 7 cells slots M [a0, a1, a2, a3, a4, some (.ref x), a6] st (pc + 2)) : J X 7 cells slots M [a0, a1, a2, a3, a4, a5, a6] (.ref x :: st) pc := j_astore g hd (Nat.le_of_ble_eq_true rfl) k
theorem astoreN_7_4 {X : JC} {cc : ByteArray} {own : String} {Ts : List Cond} {cells slots pc : Nat} {rm : Room} {M : MH} {st : List Value} {a0 a1 a2 a3 a4 a5 a6 : Option Value} (g : jG X cc own Ts 7 rm) (hd : decode cc pc = .ok (.astore 4, 2)) (k : J X 7 cells slots M [a0, a1, a2, a3, some (.null), a5, a6] st (pc + 2)) : J X 7 cells slots M [a0, a1, a2, a3, a4, a5, a6] (.null :: st) pc := j_astoreN g hd (Nat.le_of_ble_eq_true rfl) k
theorem astoreN_7_5 {X : JC} {cc : ByteArray} {own : String} {Ts : List Cond} {cells slots pc : Nat} {rm : Room} {M : MH} {st : List Value} {a0 a1 a2 a3 a4 a5 a6 : Option Value} (g : jG X cc own Ts 7 rm) (hd : decode cc pc = .ok (.astore 5, 2)) (k : J X 7 cells slots M [a0, a1, a2, a3, a4, some (.null), a6] st (pc + 2)) : J X 7 cells slots M [a0, a1, a2, a3, a4, a5, a6] (.null :: st) pc := j_astoreN g hd (Nat.le_of_ble_eq_true rfl) k
theorem astoreV_7_5 {X : JC} {cc : ByteArray} {own : String} {Ts : List Cond} {cells slots pc : Nat} {rm : Room} {M : MH} {st : List Value} {a0 a1 a2 a3 a4 a5 a6 : Option Value} (g : jG X cc own Ts 7 rm) {x : Value} (hv : x = .null ∨ ∃ a, x = .ref a) (hd : decode cc pc = .ok (.astore 5, 2)) (k : J X 7 cells slots M [a0, a1, a2, a3, a4, some (x), a6] st (pc + 2)) : J X 7 cells slots M [a0, a1, a2, a3, a4, a5, a6] (x :: st) pc := j_astoreV g hv hd (Nat.le_of_ble_eq_true rfl) k
theorem fstore_n_3_2 {X : JC} {cc : ByteArray} {own : String} {Ts : List Cond} {cells slots pc : Nat} {rm : Room} {M : MH} {st : List Value} {a0 a1 a2 : Option Value} (g : jG X cc own Ts 3 rm) {x : UInt32} (hd : decode cc pc = .ok (.fstore_n 2, 1)) (k : J X 3 cells slots M [a0, a1, some (.float x)] st (pc + 1)) : J X 3 cells slots M [a0, a1, a2] (.float x :: st) pc := j_fstore_n g 2 hd rfl (Nat.le_of_ble_eq_true rfl) k
theorem inwX3_X3_between : ∀ w ∈ wsX30, w ∈ wsX3_between := fun w h => List.mem_cons_of_mem _ (List.mem_append_left _ (List.mem_append_right _ h))
theorem inwX3_X3_markBy : ∀ w ∈ wsX30, w ∈ wsX3_markBy := fun w h => List.mem_cons_of_mem _ (List.mem_append_right _ h)
theorem inwX5_X3_between : ∀ w ∈ wsX50, w ∈ wsX3_between := fun w h => List.mem_cons_of_mem _ (List.mem_append_left _ (List.mem_append_left _ (List.mem_append_right _ h)))
theorem inwX6_X3_markBy : ∀ w ∈ wsX60, w ∈ wsX3_markBy := fun w h => List.mem_cons_of_mem _ (List.mem_append_left _ (List.mem_append_right _ h))


set_option maxHeartbeats 400000 in
set_option maxRecDepth 100000 in
theorem c_between (l : Launch) (D : va_G) (M : MH) (w aw m am : Nat) (S : ST) (kw pw dw gg dm : Nat) (hdw : dw ≤ 8) (hdm : dm ≤ 8) (how : ∀ i, i < dw → okC S kw (pw + 4 * i)) (hom : ∀ i, i < dm → okC S 5 (24 * gg + 4 * i)) (wet : Int32) (hwet : rg wet 0 100) (hw : stR M w aw S kw pw dw) (hm : stR M m am S 5 (24 * gg) dm) (k : Int32) : xC l D yX3_between wsX3_between ({ frames := 2, cells := 1, slots := 3, locals := 48 }) 1 3 [.ref w, .ref m, .int k, .int wet] (M) (btw M S kw pw dw gg dm wet k) := by
  refine xC_of (cc := cX3_between) (maxL := 7) (ret := (some (.object "InkRing$Parts"))) (own := RX3) [some (.ref w), some (.ref m), some (.int k), some (.int wet), none, none, none] (by decide) rfl rfl (Nat.le_of_ble_eq_true rfl) rfl rfl rfl ?_
  intro X hXl hXD g r
  subst hXl
  subst hXD
  have inX3 : ∀ w ∈ wsX30, w ∈ wsX3_between := inwX3_X3_between
  have inX5 : ∀ w ∈ wsX50, w ∈ wsX3_between := inwX5_X3_between
  obtain ⟨hw1, fw, hw2, hw3⟩ := hw
  obtain ⟨hm1, fm, hm2, hm3⟩ := hm
  refine j_aload_n (pc := 0) g 0 dX3_between_0 rfl rfl ?_
  refine j_iload_n (pc := 1) g 2 dX3_between_1 rfl rfl ?_
  refine j_cVr (pc := 2) (n := 1) g (c_sAt (jl X) (jD X) M w aw dw fw hw1 hw2 hdw k) dX3_between_2 (hw1) rfl gX3_between_X5_at rfl rfl rfl rfl ⟨rfl, by decide, by decide, by decide +kernel⟩ ⟨Nat.le_of_ble_eq_true rfl, Nat.le_of_ble_eq_true rfl⟩ ⟨Nat.le_of_ble_eq_true rfl, Nat.le_of_ble_eq_true rfl⟩ rfl (Nat.le_of_ble_eq_true rfl) ?_
  rcases atR_or (by omega) hw3 k with ⟨i, q1, e0, hi, e1, hq1⟩ | ⟨hn1, e1⟩
  · rw [e1]
    subst e0
    refine astore_7_4 (pc := 5) g dX3_between_5 ?_
    refine j_aload_n (pc := 7) g 1 dX3_between_7 rfl rfl ?_
    refine j_iload_n (pc := 8) g 2 dX3_between_8 rfl rfl ?_
    refine j_cVr (pc := 9) (n := 1) g (c_sAt (jl X) (jD X) M m am dm fm hm1 hm2 hdm _) dX3_between_9 (hm1) rfl gX3_between_X5_at rfl rfl rfl rfl ⟨rfl, by decide, by decide, by decide +kernel⟩ ⟨Nat.le_of_ble_eq_true rfl, Nat.le_of_ble_eq_true rfl⟩ ⟨Nat.le_of_ble_eq_true rfl, Nat.le_of_ble_eq_true rfl⟩ rfl (Nat.le_of_ble_eq_true rfl) ?_
    rcases atR_or (by omega) hm3 (nI i) with ⟨j, q2, e3, hj, e2, hq2⟩ | ⟨hn2, e2⟩
    · rw [e2]
      have hij : i = j := (nI_eq (by omega) (by omega)).mp e3
      subst hij
      refine astore_7_5 (pc := 12) g dX3_between_12 ?_
      refine j_aload (pc := 14) g dX3_between_14 rfl ?_
      refine j_ifnull (pc := 16) g dX3_between_16 ?_
      refine j_aload (pc := 19) g dX3_between_19 rfl ?_
      refine j_ifnonnull (pc := 21) g 26 dX3_between_21 (by decide) ?_
      refine j_aload_n (pc := 26) g 0 dX3_between_26 rfl rfl ?_
      refine j_get (pc := 27) g dX3_between_27 (hw1) rfl inX5 1 (by decide) (by decide +kernel) rfl rfl ?_
      refine j_aload_n (pc := 30) g 1 dX3_between_30 rfl rfl ?_
      refine j_get (pc := 31) g dX3_between_31 (hm1) rfl inX5 1 (by decide) (by decide +kernel) rfl rfl ?_
      refine j_icmp_ne (pc := 34) g 42 dX3_between_34 (by decide) (fun c34 => ?_) (fun c34 => ?_)
      · refine j_fconst0 (pc := 42) g dX3_between_42 ?_
        refine j_topf (ordV (nI dw) (nI dm)) (by first | exact (if_pos c34).symm | exact (if_neg c34).symm | exact (if_pos (Decidable.not_not.mp c34)).symm) ?_
        refine fstore_7_6 (pc := 43) g dX3_between_43 ?_
        refine j_new (pc := 45) (ci := 3) g dvX3 dX3_between_45 inX3 tyX3 tyX3_ok (by decide +kernel) (by decide +kernel) (by decide +kernel) rfl dfX3 (Nat.le_of_ble_eq_true rfl) (Nat.le_of_ble_eq_true rfl) (fun q hq => ?_)
        have hw9 := xu_k (e' := oB 3 dvX3) hq hq1
        have hm9 := xu_k (e' := oB 3 dvX3) hq hq2
        refine j_dup (pc := 48) g dX3_between_48 rfl ?_
        refine j_aload (pc := 49) g dX3_between_49 rfl ?_
        refine j_aload (pc := 51) g dX3_between_51 rfl ?_
        refine j_iload_n (pc := 53) g 3 dX3_between_53 rfl rfl ?_
        refine j_cVf (pc := 54) (n := 2) g (c_nearnessTo (jl X) (jD X) _ q1 q2 _ _ _ _ _ _ _ _ hw9 hm9 (okC_S (how i hi)) (okC_S (hom i hj)) wet hwet) dX3_between_54 (hw9) rfl gX3_between_X4_nearnessTo rfl rfl rfl rfl ⟨rfl, by decide, by decide, by decide +kernel⟩ ⟨Nat.le_of_ble_eq_true rfl, Nat.le_of_ble_eq_true rfl⟩ ⟨Nat.le_of_ble_eq_true rfl, Nat.le_of_ble_eq_true rfl⟩ rfl (Nat.le_of_ble_eq_true rfl) ?_
        refine j_topf (nearS S kw (pw + 4 * i) (24 * gg + 4 * i) wet) (by unfold nearS; rw [← sum4_d]) ?_
        refine j_aload (pc := 57) g dX3_between_57 rfl ?_
        refine j_aload (pc := 59) g dX3_between_59 rfl ?_
        refine j_cVf (pc := 61) (n := 1) g (c_slopeTo (jl X) (jD X) _ q1 q2 _ _ _ _ _ _ _ _ hw9 hm9 (okC_S (how i hi)) (okC_S (hom i hj))) dX3_between_61 (hw9) rfl gX3_between_X4_slopeTo rfl rfl rfl rfl ⟨rfl, by decide, by decide, by decide +kernel⟩ ⟨Nat.le_of_ble_eq_true rfl, Nat.le_of_ble_eq_true rfl⟩ ⟨Nat.le_of_ble_eq_true rfl, Nat.le_of_ble_eq_true rfl⟩ rfl (Nat.le_of_ble_eq_true rfl) ?_
        refine j_topf (slopeS S kw (pw + 4 * i) (24 * gg + 4 * i)) rfl ?_
        refine j_fload (pc := 64) g dX3_between_64 rfl ?_
        refine j_callI (pc := 66) (ret := none) (n := 3) g (by decide +kernel) (by decide +kernel) (by decide +kernel) rfl (c_paInit (jl X) (jD X) _ q _ _ _ (xu_s _ _ _)) dX3_between_66 gX3_between_X3_init rfl rfl rfl rfl ⟨by decide, by decide, by decide +kernel⟩ ⟨Nat.le_of_ble_eq_true rfl, Nat.le_of_ble_eq_true rfl⟩ ⟨Nat.le_of_ble_eq_true rfl, Nat.le_of_ble_eq_true rfl⟩ rfl (Nat.le_of_ble_eq_true rfl) (fun v M1 hp => ?_)
        obtain ⟨rfl, rfl⟩ := hp
        exact j_aret (pc := 69) g r rfl  (Or.inl ⟨i, q, rfl, hi, hj, hq, rfl, by rw [xu_xu]; rfl⟩) dX3_between_69 (Nat.le_of_ble_eq_true rfl) (Nat.le_of_ble_eq_true rfl)
      · refine j_ldcf (pc := 37) g 1092616192 dX3_between_37 (by decide +kernel) ?_
        refine j_goto (pc := 39) g 43 dX3_between_39 (by decide) ?_
        refine j_topf (ordV (nI dw) (nI dm)) (by first | exact (if_pos c34).symm | exact (if_neg c34).symm | exact (if_pos (Decidable.not_not.mp c34)).symm) ?_
        refine fstore_7_6 (pc := 43) g dX3_between_43 ?_
        refine j_new (pc := 45) (ci := 3) g dvX3 dX3_between_45 inX3 tyX3 tyX3_ok (by decide +kernel) (by decide +kernel) (by decide +kernel) rfl dfX3 (Nat.le_of_ble_eq_true rfl) (Nat.le_of_ble_eq_true rfl) (fun q hq => ?_)
        have hw9 := xu_k (e' := oB 3 dvX3) hq hq1
        have hm9 := xu_k (e' := oB 3 dvX3) hq hq2
        refine j_dup (pc := 48) g dX3_between_48 rfl ?_
        refine j_aload (pc := 49) g dX3_between_49 rfl ?_
        refine j_aload (pc := 51) g dX3_between_51 rfl ?_
        refine j_iload_n (pc := 53) g 3 dX3_between_53 rfl rfl ?_
        refine j_cVf (pc := 54) (n := 2) g (c_nearnessTo (jl X) (jD X) _ q1 q2 _ _ _ _ _ _ _ _ hw9 hm9 (okC_S (how i hi)) (okC_S (hom i hj)) wet hwet) dX3_between_54 (hw9) rfl gX3_between_X4_nearnessTo rfl rfl rfl rfl ⟨rfl, by decide, by decide, by decide +kernel⟩ ⟨Nat.le_of_ble_eq_true rfl, Nat.le_of_ble_eq_true rfl⟩ ⟨Nat.le_of_ble_eq_true rfl, Nat.le_of_ble_eq_true rfl⟩ rfl (Nat.le_of_ble_eq_true rfl) ?_
        refine j_topf (nearS S kw (pw + 4 * i) (24 * gg + 4 * i) wet) (by unfold nearS; rw [← sum4_d]) ?_
        refine j_aload (pc := 57) g dX3_between_57 rfl ?_
        refine j_aload (pc := 59) g dX3_between_59 rfl ?_
        refine j_cVf (pc := 61) (n := 1) g (c_slopeTo (jl X) (jD X) _ q1 q2 _ _ _ _ _ _ _ _ hw9 hm9 (okC_S (how i hi)) (okC_S (hom i hj))) dX3_between_61 (hw9) rfl gX3_between_X4_slopeTo rfl rfl rfl rfl ⟨rfl, by decide, by decide, by decide +kernel⟩ ⟨Nat.le_of_ble_eq_true rfl, Nat.le_of_ble_eq_true rfl⟩ ⟨Nat.le_of_ble_eq_true rfl, Nat.le_of_ble_eq_true rfl⟩ rfl (Nat.le_of_ble_eq_true rfl) ?_
        refine j_topf (slopeS S kw (pw + 4 * i) (24 * gg + 4 * i)) rfl ?_
        refine j_fload (pc := 64) g dX3_between_64 rfl ?_
        refine j_callI (pc := 66) (ret := none) (n := 3) g (by decide +kernel) (by decide +kernel) (by decide +kernel) rfl (c_paInit (jl X) (jD X) _ q _ _ _ (xu_s _ _ _)) dX3_between_66 gX3_between_X3_init rfl rfl rfl rfl ⟨by decide, by decide, by decide +kernel⟩ ⟨Nat.le_of_ble_eq_true rfl, Nat.le_of_ble_eq_true rfl⟩ ⟨Nat.le_of_ble_eq_true rfl, Nat.le_of_ble_eq_true rfl⟩ rfl (Nat.le_of_ble_eq_true rfl) (fun v M1 hp => ?_)
        obtain ⟨rfl, rfl⟩ := hp
        exact j_aret (pc := 69) g r rfl  (Or.inl ⟨i, q, rfl, hi, hj, hq, rfl, by rw [xu_xu]; rfl⟩) dX3_between_69 (Nat.le_of_ble_eq_true rfl) (Nat.le_of_ble_eq_true rfl)
    · rw [e2]
      refine astoreN_7_5 (pc := 12) g dX3_between_12 ?_
      refine j_aload (pc := 14) g dX3_between_14 rfl ?_
      refine j_ifnull (pc := 16) g dX3_between_16 ?_
      refine j_aloadN (pc := 19) g dX3_between_19 rfl ?_
      refine j_ifnonnullN (pc := 21) g dX3_between_21 ?_
      refine j_aconst_null (pc := 24) g dX3_between_24 ?_
      exact j_aretN (pc := 25) g r rfl  (Or.inr ⟨fun z => hn2 ⟨z.1, z.2.2⟩, rfl, rfl⟩) dX3_between_25 (Nat.le_of_ble_eq_true rfl) (Nat.le_of_ble_eq_true rfl)
  · rw [e1]
    refine astoreN_7_4 (pc := 5) g dX3_between_5 ?_
    refine j_aload_n (pc := 7) g 1 dX3_between_7 rfl rfl ?_
    refine j_iload_n (pc := 8) g 2 dX3_between_8 rfl rfl ?_
    refine j_cVr (pc := 9) (n := 1) g (c_sAt (jl X) (jD X) M m am dm fm hm1 hm2 hdm _) dX3_between_9 (hm1) rfl gX3_between_X5_at rfl rfl rfl rfl ⟨rfl, by decide, by decide, by decide +kernel⟩ ⟨Nat.le_of_ble_eq_true rfl, Nat.le_of_ble_eq_true rfl⟩ ⟨Nat.le_of_ble_eq_true rfl, Nat.le_of_ble_eq_true rfl⟩ rfl (Nat.le_of_ble_eq_true rfl) ?_
    refine astoreV_7_5 (pc := 12) g (va_rf_ok _) dX3_between_12 ?_
    refine j_aloadN (pc := 14) g dX3_between_14 rfl ?_
    refine j_ifnullN (pc := 16) g 24 dX3_between_16 (by decide) ?_
    refine j_aconst_null (pc := 24) g dX3_between_24 ?_
    exact j_aretN (pc := 25) g r rfl  (Or.inr ⟨fun z => hn1 ⟨z.1, z.2.1⟩, rfl, rfl⟩) dX3_between_25 (Nat.le_of_ble_eq_true rfl) (Nat.le_of_ble_eq_true rfl)

set_option maxHeartbeats 400000 in
set_option maxRecDepth 100000 in
theorem c_paMark (l : Launch) (D : va_G) (M : MH) (q y : Nat) (u v w : UInt32) (a b c : Int32) (hx : M q = some (oB 3 [.float u, .float v, .float w])) (hy : M y = some (oB 6 [.int a, .int b, .int c])) (ha : rg a 0 100) (hb : rg b 0 100) (hc : rg c 0 100) (hu : fl u 142) (hv : fl v 167) (hw : fl w 131) : xC l D yX3_markBy wsX3_markBy ({ frames := 0, cells := 0, slots := 0, locals := 0 }) 0 0 [.ref q, .ref y] (M) (xq (some (.float (mkV a b c u v w))) M) := by
  refine xC_of (cc := cX3_markBy) (maxL := 3) (ret := (some .float)) (own := RX3) [some (.ref q), some (.ref y), none] (by decide) rfl rfl (Nat.le_of_ble_eq_true rfl) rfl rfl rfl ?_
  intro X hXl hXD g r
  subst hXl
  subst hXD
  have inX3 : ∀ w ∈ wsX30, w ∈ wsX3_markBy := inwX3_X3_markBy
  have inX6 : ∀ w ∈ wsX60, w ∈ wsX3_markBy := inwX6_X3_markBy
  refine j_fconst0 (pc := 0) g dX3_markBy_0 ?_
  refine fstore_n_3_2 (pc := 1) g dX3_markBy_1 ?_
  refine j_fload_n (pc := 2) g 2 dX3_markBy_2 rfl rfl ?_
  refine j_aload_n (pc := 3) g 1 dX3_markBy_3 rfl rfl ?_
  refine j_get (pc := 4) g dX3_markBy_4 (hy) rfl inX6 0 (by decide) (by decide +kernel) rfl rfl ?_
  refine j_i2f (pc := 7) g dX3_markBy_7 ?_
  refine j_aload_n (pc := 8) g 0 dX3_markBy_8 rfl rfl ?_
  refine j_get (pc := 9) g dX3_markBy_9 (hx) rfl inX3 0 (by decide) (by decide +kernel) rfl rfl ?_
  refine j_fmul (pc := 12) g dX3_markBy_12 (fl_n (mk_a ha hu) (by decide)) ?_
  refine j_fadd (pc := 13) g dX3_markBy_13 (fl_n (mk_b ha hu) (by decide)) ?_
  refine j_topf (mk1 a u) rfl ?_
  refine fstore_n_3_2 (pc := 14) g dX3_markBy_14 ?_
  refine j_fload_n (pc := 15) g 2 dX3_markBy_15 rfl rfl ?_
  refine j_aload_n (pc := 16) g 1 dX3_markBy_16 rfl rfl ?_
  refine j_get (pc := 17) g dX3_markBy_17 (hy) rfl inX6 1 (by decide) (by decide +kernel) rfl rfl ?_
  refine j_i2f (pc := 20) g dX3_markBy_20 ?_
  refine j_aload_n (pc := 21) g 0 dX3_markBy_21 rfl rfl ?_
  refine j_get (pc := 22) g dX3_markBy_22 (hx) rfl inX3 1 (by decide) (by decide +kernel) rfl rfl ?_
  refine j_fmul (pc := 25) g dX3_markBy_25 (fl_n (mk_c hb hv) (by decide)) ?_
  refine j_fadd (pc := 26) g dX3_markBy_26 (fl_n (mk_d ha hb hu hv) (by decide)) ?_
  refine j_topf (mk2 a b u v) rfl ?_
  refine fstore_n_3_2 (pc := 27) g dX3_markBy_27 ?_
  refine j_fload_n (pc := 28) g 2 dX3_markBy_28 rfl rfl ?_
  refine j_aload_n (pc := 29) g 1 dX3_markBy_29 rfl rfl ?_
  refine j_get (pc := 30) g dX3_markBy_30 (hy) rfl inX6 2 (by decide) (by decide +kernel) rfl rfl ?_
  refine j_i2f (pc := 33) g dX3_markBy_33 ?_
  refine j_aload_n (pc := 34) g 0 dX3_markBy_34 rfl rfl ?_
  refine j_get (pc := 35) g dX3_markBy_35 (hx) rfl inX3 2 (by decide) (by decide +kernel) rfl rfl ?_
  refine j_fmul (pc := 38) g dX3_markBy_38 (fl_n (mk_e hc hw) (by decide)) ?_
  refine j_fadd (pc := 39) g dX3_markBy_39 (fl_n (mk_f ha hb hc hu hv hw) (by decide)) ?_
  refine j_topf (mk3 a b c u v w) rfl ?_
  refine fstore_n_3_2 (pc := 40) g dX3_markBy_40 ?_
  refine j_fload_n (pc := 41) g 2 dX3_markBy_41 rfl rfl ?_
  refine j_ldcf (pc := 42) g 1120403456 dX3_markBy_42 (by decide +kernel) ?_
  refine j_fdiv (pc := 44) g dX3_markBy_44 (fl_n (mk_g ha hb hc hu hv hw) (by decide)) ?_
  exact j_fret (pc := 45) g r rfl  (xq_f rfl rfl) dX3_markBy_45 (Nat.le_of_ble_eq_true rfl) (Nat.le_of_ble_eq_true rfl)
