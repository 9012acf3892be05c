theorem astore_9_8 {X : JC} {cc : ByteArray} {own : String} {Ts : List Cond} {cells slots pc : Nat} {rm : Room} {M : MH} {st : List Value} {a0 a1 a2 a3 a4 a5 a6 a7 a8 : Option Value} (g : jG X cc own Ts 9 rm) {x : Nat} (hd : decode cc pc = .ok (.astore 8, 2)) (k : J X 9 cells slots M [a0, a1, a2, a3, a4, a5, a6, a7, some (.ref x)] st (pc + 2)) : J X 9 cells slots M [a0, a1, a2, a3, a4, a5, a6, a7, a8] (.ref x :: st) pc := j_astore g hd (Nat.le_of_ble_eq_true rfl) k
theorem inwX0_X8_duel : ∀ w ∈ wsX00, w ∈ wsX8_duel := fun w h => List.mem_cons_of_mem _ (List.mem_append_left _ (List.mem_append_left _ (List.mem_append_left _ (List.mem_append_right _ h))))
theorem inwX8_X8_duel : ∀ w ∈ wsX80, w ∈ wsX8_duel := fun w h => List.mem_cons_of_mem _ (List.mem_append_left _ (List.mem_append_left _ (List.mem_append_left _ (List.mem_append_left _ (List.mem_append_right _ h)))))
theorem atX8_duel_55 : ∀ w ∈ (vx_atS RX8 55 eIA eNs).filter goodWord, w ∈ wsX8_duel := fun w h => List.mem_cons_of_mem _ (List.mem_append_left _ (List.mem_append_right _ h))
theorem atX8_duel_68 : ∀ w ∈ (vx_atS RX8 68 eIS eNs).filter goodWord, w ∈ wsX8_duel := fun w h => List.mem_cons_of_mem _ (List.mem_append_right _ h)
theorem atX8_duel_100 : ∀ w ∈ (vx_atS RX8 100 eIO eNs).filter goodWord, w ∈ wsX8_duel := fun w h => List.mem_cons_of_mem _ (List.mem_append_left _ (List.mem_append_left _ (List.mem_append_right _ h)))

theorem c_drawPromptsV (l : Launch) (D : va_G) (M : MH) (x dr sn R : Nat) (one other judge paper day rounds : Int32) (p w : Nat) (handed second : Int32) (hx : M x = some (dlC one other judge paper day rounds p w handed second)) (hR : rounds = nI R) (hR5 : R ≤ 5) (hd : dr ≤ 999) (hn : 1 ≤ sn) (hn6 : sn ≤ 6) (f0 : Nat → Int32) (hp : M p = some (aI 5 f0)) (v : Int32) (hv : v = nI dr) : xC l D yX0_drawPrompts wsX0_drawPrompts ({ frames := 0, cells := 0, slots := 0, locals := 0 }) 0 0 [.ref x, .int v, .int (nI sn)] M (fun v M' => v = none ∧ ∃ f, (∀ r, r < 5 → f r = prV dr sn R r) ∧ M' = xu M p (aI 5 f)) := by
  subst hv
  exact c_drawPrompts l D M x dr sn R one other judge paper day rounds p w handed second hx hR hR5 hd hn hn6 f0 hp

set_option maxHeartbeats 400000 in
set_option maxRecDepth 100000 in
theorem k_duel (l : Launch) (D : va_G) (hst : l.stackTraces = false) (M : MH) (x : Nat) (al : Nat → Nat → Nat) (S : ST) (d ns nd : Nat) (hc : CRep M x al S d ns nd) (hns : S 3 0 = nI ns) (hns6 : ns ≤ 6) (hnd : S 12 0 = nI nd) (hnd12 : nd ≤ 12) (h22 : S 22 nd = 0) (a b j p r_ w : Int32) : xT l D yX8_duel wsX8_duel ({ frames := 6, cells := 3, slots := 25, locals := 96 }) 3 25 [.ref x, .int a, .int b, .int j, .int p, .int r_, .int w] (M) (fun v M' => tDuel S a b j p r_ w = 0 ∧ v = some (.int (nI nd)) ∧ ∃ al', CRep M' x al' (nDuel S nd a b j p r_ w) d ns (nd + 1)) (fun E M' => xE (tDuel S a b j p r_ w) eIO eIA eIS E ∧ M' = M) := by
  refine xT_of (cc := cX8_duel) (maxL := 9) (ret := (some .int)) (own := RX8) hst [some (.ref x), some (.int a), some (.int b), some (.int j), some (.int p), some (.int r_), some (.int w), none, none] (by decide) rfl rfl (Nat.le_of_ble_eq_true rfl) rfl rfl rfl ?_
  intro X hXl hXD g r t
  subst hXl
  subst hXD
  have inX8 : ∀ w ∈ wsX80, w ∈ wsX8_duel := inwX8_X8_duel
  have inX0 : ∀ w ∈ wsX00, w ∈ wsX8_duel := inwX0_X8_duel
  have hc0 := hc
  obtain ⟨⟨hx, hT0, hT1, hT2, hT3, hT4⟩, hP, hY, hJ, hG, hD, hW⟩ := hc
  refine j_iload_n (pc := 0) g 1 dX8_duel_0 rfl rfl ?_
  refine j_cSi (pc := 1) (n := 1) g (c_isWriter (jl X) (jD X) _ _) dX8_duel_1 gX8_duel_X8_isWriter rfl rfl rfl rfl ⟨by decide, by decide, by decide +kernel⟩ ⟨Nat.le_of_ble_eq_true rfl, Nat.le_of_ble_eq_true rfl⟩ ⟨Nat.le_of_ble_eq_true rfl, Nat.le_of_ble_eq_true rfl⟩ rfl (Nat.le_of_ble_eq_true rfl) ?_
  refine j_if_eq (pc := 4) g 14 dX8_duel_4 (by decide) (fun c4 => ?_) (fun c4 => ?_)
  · exact j_throwS (pc := 14) g t "java/lang/IndexOutOfBoundsException" "no such writer" dX8_duel_14 dX8_duel_17 dX8_duel_18 dX8_duel_20 dX8_duel_23 rfl (by decide +kernel) (by decide) (by decide +kernel) (by decide +kernel) atX8_duel_100 atB_100 atG_100 (Nat.le_of_ble_eq_true rfl) (Nat.le_of_ble_eq_true rfl) (Nat.le_of_ble_eq_true rfl) (Nat.le_of_ble_eq_true rfl) (Nat.le_of_ble_eq_true rfl) (Nat.le_of_ble_eq_true rfl) (⟨Or.inl ⟨by unfold tDuel; rw [if_pos (fun ⟨z1, z2, z3, z4⟩ => by grind [b01])], rfl⟩, rfl⟩)
  · refine j_iload_n (pc := 7) g 2 dX8_duel_7 rfl rfl ?_
    refine j_cSi (pc := 8) (n := 1) g (c_isWriter (jl X) (jD X) _ _) dX8_duel_8 gX8_duel_X8_isWriter rfl rfl rfl rfl ⟨by decide, by decide, by decide +kernel⟩ ⟨Nat.le_of_ble_eq_true rfl, Nat.le_of_ble_eq_true rfl⟩ ⟨Nat.le_of_ble_eq_true rfl, Nat.le_of_ble_eq_true rfl⟩ rfl (Nat.le_of_ble_eq_true rfl) ?_
    refine j_if_ne (pc := 11) g 24 dX8_duel_11 (by decide) (fun c11 => ?_) (fun c11 => ?_)
    · refine j_aload_n (pc := 24) g 0 dX8_duel_24 rfl rfl ?_
      refine j_iload_n (pc := 25) g 3 dX8_duel_25 rfl rfl ?_
      refine j_cVr (pc := 26) (n := 1) g (c_judgeAt (jl X) (jD X) M x _ _ _ _ _ _ _ _ _ _ hx (rowF (al 3) 4) hT3 _) dX8_duel_26 (hx) rfl gX8_duel_X8_judgeAt rfl rfl rfl rfl ⟨rfl, by decide, by decide, by decide +kernel⟩ ⟨Nat.le_of_ble_eq_true rfl, Nat.le_of_ble_eq_true rfl⟩ ⟨Nat.le_of_ble_eq_true rfl, Nat.le_of_ble_eq_true rfl⟩ rfl (Nat.le_of_ble_eq_true rfl) ?_
      rcases at_or (g := al 3) (n := 4) (m := 4) (i := j) (by decide) (by decide) with ⟨hju, hjx, hjl, e1⟩ | ⟨hju, e1⟩
      · rw [e1]
        have hji : iN j 0 3 := hju
        refine j_ifnull (pc := 29) g dX8_duel_29 ?_
        refine j_aload_n (pc := 32) g 0 dX8_duel_32 rfl rfl ?_
        refine j_iload (pc := 33) g dX8_duel_33 rfl ?_
        refine j_cVr (pc := 35) (n := 1) g (c_paperAt (jl X) (jD X) M x _ _ _ _ _ _ _ _ _ _ hx (rowF (al 1) 3) hT1 _) dX8_duel_35 (hx) rfl gX8_duel_X8_paperAt rfl rfl rfl rfl ⟨rfl, by decide, by decide, by decide +kernel⟩ ⟨Nat.le_of_ble_eq_true rfl, Nat.le_of_ble_eq_true rfl⟩ ⟨Nat.le_of_ble_eq_true rfl, Nat.le_of_ble_eq_true rfl⟩ rfl (Nat.le_of_ble_eq_true rfl) ?_
        rcases at_or (g := al 1) (n := 3) (m := 3) (i := p) (by decide) (by decide) with ⟨hpu, hpx, hpl, e2⟩ | ⟨hpu, e2⟩
        · rw [e2]
          have hpi : iN p 0 2 := hpu
          refine j_ifnonnull (pc := 38) g 51 dX8_duel_38 (by decide) ?_
          have hok : okDuel a b j p := ⟨by grind [b01], by grind [b01], hji, hpi⟩
          refine j_iload_n (pc := 51) g 1 dX8_duel_51 rfl rfl ?_
          refine j_iload_n (pc := 52) g 2 dX8_duel_52 rfl rfl ?_
          refine j_icmp_ne (pc := 53) g 66 dX8_duel_53 (by decide) (fun c53 => ?_) (fun c53 => ?_)
          · refine j_iload (pc := 66) g dX8_duel_66 rfl ?_
            refine j_iconst (pc := 68) g (1) dX8_duel_68 (by decide) ?_
            refine j_iconst (pc := 69) g (5) dX8_duel_69 (by decide) ?_
            refine j_cSi (pc := 70) (n := 3) g (c_isWithin (jl X) (jD X) _ _ _ _) dX8_duel_70 gX8_duel_X8_isWithin rfl rfl rfl rfl ⟨by decide, by decide, by decide +kernel⟩ ⟨Nat.le_of_ble_eq_true rfl, Nat.le_of_ble_eq_true rfl⟩ ⟨Nat.le_of_ble_eq_true rfl, Nat.le_of_ble_eq_true rfl⟩ rfl (Nat.le_of_ble_eq_true rfl) ?_
            refine j_if_eq (pc := 73) g 88 dX8_duel_73 (by decide) (fun c73 => ?_) (fun c73 => ?_)
            · exact j_throwS (pc := 88) g t "java/lang/IllegalArgumentException" "rounds or draw is out of range" dX8_duel_88 dX8_duel_91 dX8_duel_92 dX8_duel_94 dX8_duel_97 rfl (by decide +kernel) (by decide) (by decide +kernel) (by decide +kernel) atX8_duel_55 atB_55 atG_55 (Nat.le_of_ble_eq_true rfl) (Nat.le_of_ble_eq_true rfl) (Nat.le_of_ble_eq_true rfl) (Nat.le_of_ble_eq_true rfl) (Nat.le_of_ble_eq_true rfl) (Nat.le_of_ble_eq_true rfl) (⟨Or.inr (Or.inl ⟨by unfold tDuel; rw [if_neg (not_not_intro hok), if_pos (fun ⟨z1, z2, z3⟩ => by grind [b01])], rfl⟩), rfl⟩)
            · refine j_iload (pc := 76) g dX8_duel_76 rfl ?_
              refine j_iconst (pc := 78) g (0) dX8_duel_78 (by decide) ?_
              refine j_sipush (pc := 79) g (999) dX8_duel_79 (by decide) ?_
              refine j_cSi (pc := 82) (n := 3) g (c_isWithin (jl X) (jD X) _ _ _ _) dX8_duel_82 gX8_duel_X8_isWithin rfl rfl rfl rfl ⟨by decide, by decide, by decide +kernel⟩ ⟨Nat.le_of_ble_eq_true rfl, Nat.le_of_ble_eq_true rfl⟩ ⟨Nat.le_of_ble_eq_true rfl, Nat.le_of_ble_eq_true rfl⟩ rfl (Nat.le_of_ble_eq_true rfl) ?_
              refine j_if_ne (pc := 85) g 98 dX8_duel_85 (by decide) (fun c85 => ?_) (fun c85 => ?_)
              · have hr : iN r_ 1 5 := by grind [b01]
                have hw : iN w 0 999 := by grind [b01]
                have hrx := iN_ix (v := r_) (n := 5) (by decide) ⟨Int32.le_trans (by decide) hr.1, hr.2⟩
                have hwx := iN_ix (v := w) (n := 999) (by decide) hw
                refine j_aload_n (pc := 98) g 0 dX8_duel_98 rfl rfl ?_
                refine j_get (pc := 99) g dX8_duel_99 (hx) rfl inX8 6 (by decide) (by decide +kernel) rfl rfl ?_
                refine j_if_eq (pc := 102) g 123 dX8_duel_102 (by decide) (fun c102 => ?_) (fun c102 => ?_)
                · exact j_throwS (pc := 123) g t "java/lang/IllegalStateException" "there are no signs, or all duels" dX8_duel_123 dX8_duel_126 dX8_duel_127 dX8_duel_129 dX8_duel_132 rfl (by decide +kernel) (by decide) (by decide +kernel) (by decide +kernel) atX8_duel_68 atB_68 atG_68 (Nat.le_of_ble_eq_true rfl) (Nat.le_of_ble_eq_true rfl) (Nat.le_of_ble_eq_true rfl) (Nat.le_of_ble_eq_true rfl) (Nat.le_of_ble_eq_true rfl) (Nat.le_of_ble_eq_true rfl) (⟨Or.inr (Or.inr ⟨by unfold tDuel; rw [if_neg (not_not_intro hok), if_neg (not_not_intro ⟨c53, hr, hw⟩), if_pos (fun ⟨z1, z2⟩ => by rw [hns] at z1; rw [hnd] at z2; first | exact (by have z3 : nI nd < nI 12 := z2; grind [b01]) | (rw [c102] at z1; exact absurd z1 (by decide)))], rfl⟩), rfl⟩)
                · refine j_aload_n (pc := 105) g 0 dX8_duel_105 rfl rfl ?_
                  refine j_get (pc := 106) g dX8_duel_106 (hx) rfl inX8 7 (by decide) (by decide +kernel) rfl rfl ?_
                  refine j_iconst (pc := 109) g (0) dX8_duel_109 (by decide) ?_
                  refine j_aload_n (pc := 110) g 0 dX8_duel_110 rfl rfl ?_
                  refine j_get (pc := 111) g dX8_duel_111 (hx) rfl inX8 4 (by decide) (by decide +kernel) rfl rfl ?_
                  refine j_alen (pc := 114) g (nI 12) dX8_duel_114 (hT4) rfl ?_
                  refine j_iconst (pc := 115) g (1) dX8_duel_115 (by decide) ?_
                  refine j_isub (pc := 116) g dX8_duel_116 ?_
                  refine j_cSi (pc := 117) (n := 3) g (c_isWithin (jl X) (jD X) _ _ _ _) dX8_duel_117 gX8_duel_X8_isWithin rfl rfl rfl rfl ⟨by decide, by decide, by decide +kernel⟩ ⟨Nat.le_of_ble_eq_true rfl, Nat.le_of_ble_eq_true rfl⟩ ⟨Nat.le_of_ble_eq_true rfl, Nat.le_of_ble_eq_true rfl⟩ rfl (Nat.le_of_ble_eq_true rfl) ?_
                  refine j_topi (b01 (nI nd < nI 12)) (b01_lt (by omega) (by omega) (by omega)) ?_
                  refine j_if_ne (pc := 120) g 133 dX8_duel_120 (by decide) (fun c120 => ?_) (fun c120 => ?_)
                  · have c114 : nI nd < nI 12 := by grind [b01]
                    have hns1 : 1 ≤ ns := Nat.pos_of_ne_zero (fun z => c102 (by rw [z]; rfl))
                    have hnd7 : nd < 12 := (nI_ltI (b := 12) (by omega) (by omega)).mp c114
                    refine j_aload_n (pc := 133) g 0 dX8_duel_133 rfl rfl ?_
                    refine j_get (pc := 134) g dX8_duel_134 (hx) rfl inX8 7 (by decide) (by decide +kernel) rfl rfl ?_
                    refine istore_9_7 (pc := 137) g dX8_duel_137 ?_
                    refine j_new (pc := 139) (ci := 0) g dvX0 dX8_duel_139 inX0 tyX0 tyX0_ok (by decide +kernel) (by decide +kernel) (by decide +kernel) rfl dfX0 (Nat.le_of_ble_eq_true rfl) (Nat.le_of_ble_eq_true rfl) (fun q hq => ?_)
                    have hx2 := xu_k (e' := oB 0 dvX0) hq hx
                    have hq0 := hq
                    refine j_dup (pc := 142) g dX8_duel_142 rfl ?_
                    refine j_iload_n (pc := 143) g 1 dX8_duel_143 rfl rfl ?_
                    refine j_iload_n (pc := 144) g 2 dX8_duel_144 rfl rfl ?_
                    refine j_iload_n (pc := 145) g 3 dX8_duel_145 rfl rfl ?_
                    refine j_iload (pc := 146) g dX8_duel_146 rfl ?_
                    refine j_iload (pc := 148) g dX8_duel_148 rfl ?_
                    refine j_aload_n (pc := 150) g 0 dX8_duel_150 rfl rfl ?_
                    refine j_get (pc := 151) g dX8_duel_151 (hx2) rfl inX8 9 (by decide) (by decide +kernel) rfl rfl ?_
                    refine j_callI (pc := 154) (ret := none) (n := 6) g (by decide +kernel) (by decide +kernel) (by decide +kernel) rfl (c_dInit (jl X) (jD X) _ q (xu_s _ _ _) _ _ _ _ _ _) dX8_duel_154 gX8_duel_X0_init rfl rfl rfl rfl ⟨by decide, by decide, by decide +kernel⟩ ⟨Nat.le_of_ble_eq_true rfl, Nat.le_of_ble_eq_true rfl⟩ ⟨Nat.le_of_ble_eq_true rfl, Nat.le_of_ble_eq_true rfl⟩ rfl (Nat.le_of_ble_eq_true rfl) (fun v M1 hp => ?_)
                    obtain ⟨rfl, pp, ww, hpp, hww, hpw, rfl⟩ := hp
                    have hp1 := xu_none hpp
                    have hw1 := xu_none hww
                    have hxq : x ≠ q := fun z => by rw [← z, hx] at hq; exact absurd hq (by simp)
                    have hxp : x ≠ pp := fun z => by rw [← z, hx] at hp1; exact absurd hp1.1 (by simp)
                    have hxw : x ≠ ww := fun z => by rw [← z, hx] at hw1; exact absurd hw1.1 (by simp)
                    have hsq : al 0 4 ≠ q := fun z => by rw [← z, hT4] at hq; exact absurd hq (by simp)
                    have hsp : al 0 4 ≠ pp := fun z => by rw [← z, hT4] at hp1; exact absurd hp1.1 (by simp)
                    have hsw : al 0 4 ≠ ww := fun z => by rw [← z, hT4] at hw1; exact absurd hw1.1 (by simp)
                    have hsx : al 0 4 ≠ x := kd_ne hT4 hx (by show (112 : Nat) ≠ 8; decide)
                    refine astore_9_8 (pc := 157) g dX8_duel_157 ?_
                    refine j_aload (pc := 159) g dX8_duel_159 rfl ?_
                    refine j_iload (pc := 161) g dX8_duel_161 rfl ?_
                    refine j_aload_n (pc := 163) g 0 dX8_duel_163 rfl rfl ?_
                    refine j_get (pc := 164) g dX8_duel_164 ((by rw [xu_n hxq, xu_n hxw, xu_n hxp, xu_n hxq]; exact hx)) rfl inX8 6 (by decide) (by decide +kernel) rfl rfl ?_
                    refine j_callV (pc := 167) (n := 2) g (xu_s _ _ _) rfl (c_drawPromptsV (jl X) (jD X) _ q (ix w) ns (ix r_) _ _ _ _ _ _ pp ww _ _ (xu_s _ _ _) hrx.1 hrx.2 hwx.2 hns1 hns6 _ (by rw [xu_n hp1.2, xu_n hpw, xu_s]) _ hwx.1) dX8_duel_167 gX8_duel_X0_drawPrompts rfl rfl rfl rfl ⟨rfl, by decide, by decide, by decide +kernel⟩ ⟨Nat.le_of_ble_eq_true rfl, Nat.le_of_ble_eq_true rfl⟩ ⟨Nat.le_of_ble_eq_true rfl, Nat.le_of_ble_eq_true rfl⟩ rfl (Nat.le_of_ble_eq_true rfl) (fun v M1 hp => ?_)
                    obtain ⟨rfl, f, hf, rfl⟩ := hp
                    refine j_aload_n (pc := 170) g 0 dX8_duel_170 rfl rfl ?_
                    refine j_get (pc := 171) g dX8_duel_171 ((by rw [xu_n hxp, xu_n hxq, xu_n hxw, xu_n hxp, xu_n hxq]; exact hx)) rfl inX8 4 (by decide) (by decide +kernel) rfl rfl ?_
                    refine j_iload (pc := 174) g dX8_duel_174 rfl ?_
                    refine j_aload (pc := 176) g dX8_duel_176 rfl ?_
                    refine j_aast (pc := 178) g dX8_duel_178 (by rw [xu_n hsp, xu_n hsq, xu_n hsw, xu_n hsp, xu_n hsq]; exact hT4) (by rw [xu_n hp1.2.symm]; exact xu_s _ _ _) rfl rfl (vp_in_nI (by omega) (by omega)) ?_
                    rw [nI_clamp (by omega : nd < 2 ^ 31)]
                    refine j_aload_n (pc := 179) g 0 dX8_duel_179 rfl rfl ?_
                    refine j_dup (pc := 180) g dX8_duel_180 rfl ?_
                    refine j_get (pc := 181) g dX8_duel_181 ((by rw [xu_n hsx.symm, xu_n hxp, xu_n hxq, xu_n hxw, xu_n hxp, xu_n hxq]; exact hx)) rfl inX8 7 (by decide) (by decide +kernel) rfl rfl ?_
                    refine j_iconst (pc := 184) g (1) dX8_duel_184 (by decide) ?_
                    refine j_iadd (pc := 185) g dX8_duel_185 ?_
                    refine j_topi (nI (nd + 1)) (nI_1 nd) ?_
                    refine j_put (pc := 186) g dX8_duel_186 (by rw [xu_n hsx.symm, xu_n hxp, xu_n hxq, xu_n hxw, xu_n hxp, xu_n hxq]; exact hx) rfl inX8 tyX8 tyX8_ok nmX8 7 (by decide) (by decide +kernel) rfl rfl rfl (rfl) (rfl) (Nat.le_of_ble_eq_true rfl) ?_
                    refine j_iload (pc := 189) g dX8_duel_189 rfl ?_
                    exact j_iret (pc := 191) g r rfl rfl (⟨by unfold tDuel; rw [if_neg (not_not_intro hok), if_neg (not_not_intro ⟨c53, hr, hw⟩), if_neg (not_not_intro ⟨by rw [hns]; exact nI_lt (a := 0) hns1 (by omega), by rw [hnd]; exact c114⟩)], rfl, _, R_duel (q := q) (pp := pp) (ww := ww) (f := f) hc0 h22 (by rw [xu_n hsx, xu_s, rowF_up (g' := al789 al nd q pp ww 7) al_7n (fun i hi => al_7o (by omega))]) (xu_s _ _ _) (by rw [xu_n hxq.symm, xu_n hsq.symm, xu_n hp1.2.symm]; exact xu_s _ _ _) (by rw [xu_n hxp.symm, xu_n hsp.symm]; exact xu_s _ _ _) (by rw [hns, ix_nI (by omega)]; exact hf) (by rw [xu_n hxw.symm, xu_n hsw.symm, xu_n hpw.symm, xu_n hw1.2]; exact xu_s _ _ _) hq0 hw1.1 (fun y e9 hy h1 h2 => by rw [xu_n h2, xu_n h1, xu_n (fun z => by rw [z, hp1.1] at hy; exact absurd hy (by simp)), xu_n (fun z => by rw [z, hq0] at hy; exact absurd hy (by simp)), xu_n (fun z => by rw [z, hw1.1] at hy; exact absurd hy (by simp)), xu_n (fun z => by rw [z, hp1.1] at hy; exact absurd hy (by simp)), xu_n (fun z => by rw [z, hq0] at hy; exact absurd hy (by simp))]; exact hy)⟩) dX8_duel_191 (Nat.le_of_ble_eq_true rfl) (Nat.le_of_ble_eq_true rfl)
                  · exact j_throwS (pc := 123) g t "java/lang/IllegalStateException" "there are no signs, or all duels" dX8_duel_123 dX8_duel_126 dX8_duel_127 dX8_duel_129 dX8_duel_132 rfl (by decide +kernel) (by decide) (by decide +kernel) (by decide +kernel) atX8_duel_68 atB_68 atG_68 (Nat.le_of_ble_eq_true rfl) (Nat.le_of_ble_eq_true rfl) (Nat.le_of_ble_eq_true rfl) (Nat.le_of_ble_eq_true rfl) (Nat.le_of_ble_eq_true rfl) (Nat.le_of_ble_eq_true rfl) (⟨Or.inr (Or.inr ⟨by unfold tDuel; rw [if_neg (not_not_intro hok), if_neg (not_not_intro ⟨c53, hr, hw⟩), if_pos (fun ⟨z1, z2⟩ => by rw [hns] at z1; rw [hnd] at z2; first | exact (by have z3 : nI nd < nI 12 := z2; grind [b01]) | (rw [c102] at z1; exact absurd z1 (by decide)))], rfl⟩), rfl⟩)
              · exact j_throwS (pc := 88) g t "java/lang/IllegalArgumentException" "rounds or draw is out of range" dX8_duel_88 dX8_duel_91 dX8_duel_92 dX8_duel_94 dX8_duel_97 rfl (by decide +kernel) (by decide) (by decide +kernel) (by decide +kernel) atX8_duel_55 atB_55 atG_55 (Nat.le_of_ble_eq_true rfl) (Nat.le_of_ble_eq_true rfl) (Nat.le_of_ble_eq_true rfl) (Nat.le_of_ble_eq_true rfl) (Nat.le_of_ble_eq_true rfl) (Nat.le_of_ble_eq_true rfl) (⟨Or.inr (Or.inl ⟨by unfold tDuel; rw [if_neg (not_not_intro hok), if_pos (fun ⟨z1, z2, z3⟩ => by grind [b01])], rfl⟩), rfl⟩)
          · exact j_throwS (pc := 56) g t "java/lang/IllegalArgumentException" "both writers are the same" dX8_duel_56 dX8_duel_59 dX8_duel_60 dX8_duel_62 dX8_duel_65 rfl (by decide +kernel) (by decide) (by decide +kernel) (by decide +kernel) atX8_duel_55 atB_55 atG_55 (Nat.le_of_ble_eq_true rfl) (Nat.le_of_ble_eq_true rfl) (Nat.le_of_ble_eq_true rfl) (Nat.le_of_ble_eq_true rfl) (Nat.le_of_ble_eq_true rfl) (Nat.le_of_ble_eq_true rfl) (⟨Or.inr (Or.inl ⟨by unfold tDuel; rw [if_neg (not_not_intro hok), if_pos (fun z => z.1 c53)], rfl⟩), rfl⟩)
        · rw [e2]
          have hpi : ¬ iN p 0 2 := hpu
          refine j_ifnonnullN (pc := 38) g dX8_duel_38 ?_
          exact j_throwS (pc := 41) g t "java/lang/IndexOutOfBoundsException" "no such judge or paper" dX8_duel_41 dX8_duel_44 dX8_duel_45 dX8_duel_47 dX8_duel_50 rfl (by decide +kernel) (by decide) (by decide +kernel) (by decide +kernel) atX8_duel_100 atB_100 atG_100 (Nat.le_of_ble_eq_true rfl) (Nat.le_of_ble_eq_true rfl) (Nat.le_of_ble_eq_true rfl) (Nat.le_of_ble_eq_true rfl) (Nat.le_of_ble_eq_true rfl) (Nat.le_of_ble_eq_true rfl) (⟨Or.inl ⟨by unfold tDuel; rw [if_pos (fun ⟨z1, z2, z3, z4⟩ => hpi z4)], rfl⟩, rfl⟩)
      · rw [e1]
        have hji : ¬ iN j 0 3 := hju
        refine j_ifnullN (pc := 29) g 41 dX8_duel_29 (by decide) ?_
        exact j_throwS (pc := 41) g t "java/lang/IndexOutOfBoundsException" "no such judge or paper" dX8_duel_41 dX8_duel_44 dX8_duel_45 dX8_duel_47 dX8_duel_50 rfl (by decide +kernel) (by decide) (by decide +kernel) (by decide +kernel) atX8_duel_100 atB_100 atG_100 (Nat.le_of_ble_eq_true rfl) (Nat.le_of_ble_eq_true rfl) (Nat.le_of_ble_eq_true rfl) (Nat.le_of_ble_eq_true rfl) (Nat.le_of_ble_eq_true rfl) (Nat.le_of_ble_eq_true rfl) (⟨Or.inl ⟨by unfold tDuel; rw [if_pos (fun ⟨z1, z2, z3, z4⟩ => hji z3)], rfl⟩, rfl⟩)
    · exact j_throwS (pc := 14) g t "java/lang/IndexOutOfBoundsException" "no such writer" dX8_duel_14 dX8_duel_17 dX8_duel_18 dX8_duel_20 dX8_duel_23 rfl (by decide +kernel) (by decide) (by decide +kernel) (by decide +kernel) atX8_duel_100 atB_100 atG_100 (Nat.le_of_ble_eq_true rfl) (Nat.le_of_ble_eq_true rfl) (Nat.le_of_ble_eq_true rfl) (Nat.le_of_ble_eq_true rfl) (Nat.le_of_ble_eq_true rfl) (Nat.le_of_ble_eq_true rfl) (⟨Or.inl ⟨by unfold tDuel; rw [if_pos (fun ⟨z1, z2, z3, z4⟩ => by grind [b01])], rfl⟩, rfl⟩)
