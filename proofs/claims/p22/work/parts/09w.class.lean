
theorem inwX0_X8_hand : ∀ w ∈ wsX00, w ∈ wsX8_hand := fun w h => List.mem_cons_of_mem _ (List.mem_append_left _ (List.mem_append_left _ (List.mem_append_left _ (List.mem_append_left _ (List.mem_append_left _ (List.mem_append_left _ (List.mem_append_left _ (List.mem_append_left _ (List.mem_append_left _ (List.mem_append_right _ h))))))))))
theorem inwX2_X8_hand : ∀ w ∈ wsX20, w ∈ wsX8_hand := fun w h => List.mem_cons_of_mem _ (List.mem_append_left _ (List.mem_append_left _ (List.mem_append_left _ (List.mem_append_left _ (List.mem_append_left _ (List.mem_append_left _ (List.mem_append_right _ h)))))))
theorem inwX5_X8_hand : ∀ w ∈ wsX50, w ∈ wsX8_hand := fun w h => List.mem_cons_of_mem _ (List.mem_append_left _ (List.mem_append_left _ (List.mem_append_left _ (List.mem_append_left _ (List.mem_append_left _ (List.mem_append_left _ (List.mem_append_left _ (List.mem_append_right _ h))))))))
theorem inwX7_X8_hand : ∀ w ∈ wsX70, w ∈ wsX8_hand := fun w h => List.mem_cons_of_mem _ (List.mem_append_left _ (List.mem_append_left _ (List.mem_append_left _ (List.mem_append_left _ (List.mem_append_left _ (List.mem_append_right _ h))))))
theorem inwX8_X8_hand : ∀ w ∈ wsX80, w ∈ wsX8_hand := fun w h => List.mem_cons_of_mem _ (List.mem_append_left _ (List.mem_append_left _ (List.mem_append_left _ (List.mem_append_left _ (List.mem_append_left _ (List.mem_append_left _ (List.mem_append_left _ (List.mem_append_left _ (List.mem_append_right _ h)))))))))
theorem atX8_hand_55 : ∀ w ∈ (vx_atS RX8 55 eIA eNs).filter goodWord, w ∈ wsX8_hand := fun w h => List.mem_cons_of_mem _ (List.mem_append_left _ (List.mem_append_right _ h))
theorem atX8_hand_68 : ∀ w ∈ (vx_atS RX8 68 eIS eNs).filter goodWord, w ∈ wsX8_hand := fun w h => List.mem_cons_of_mem _ (List.mem_append_right _ h)
theorem atX8_hand_100 : ∀ w ∈ (vx_atS RX8 100 eIO eNs).filter goodWord, w ∈ wsX8_hand := fun w h => List.mem_cons_of_mem _ (List.mem_append_left _ (List.mem_append_left _ (List.mem_append_right _ h)))

set_option maxHeartbeats 400000 in
set_option maxRecDepth 100000 in
theorem k_hand (l : Launch) (D : va_G) (hst : l.stackTraces = false) (M : MH) (x : Nat) (al : Nat → Nat → Nat) (S : ST) (d ns nd : Nat) (hc : CRep M x al S d ns nd) (hnd : S 12 0 = nI nd) (hnd12 : nd ≤ 12) (hq : ∀ i, i < nd → mHd S ns i) (hkk : mMK S ns) (hdd : S 1 0 = nI d) (hd8 : d ≤ 8) (hdr : ∀ i, i < d → okC S 2 (4 * i)) (hpa : ∀ i, i < 3 → rg (S 7 i) 0 100) (hz26 : ∀ i, i < nd → ix (S 22 i) < 10 → S 26 (10 * i + ix (S 22 i)) = 0) (its s : Int32) : xT l D yX8_hand wsX8_hand ({ frames := 6, cells := 8, slots := 28, locals := 99 }) 8 28 [.ref x, .int its, .int s] (M) (fun v M' => tHand S its s = 0 ∧ v = some (.int (S 9 0 + 1)) ∧ ∃ al', CRep M' x al' (nHand S (ix its) (ix (S 17 (ix its))) (ix (S 22 (ix its))) d s) 0 ns nd) (fun E M' => xE (tHand S its s) eIO eIA eIS E ∧ M' = M) := by
  refine xT_of (cc := cX8_hand) (maxL := 7) (ret := (some .int)) (own := RX8) hst [some (.ref x), some (.int its), some (.int s), none, none, none, none] (by decide) rfl rfl (Nat.le_of_ble_eq_true rfl) rfl rfl rfl ?_
  intro X hXl hXD g r t
  subst hXl
  subst hXD
  have inX8 : ∀ w ∈ wsX80, w ∈ wsX8_hand := inwX8_X8_hand
  have inX0 : ∀ w ∈ wsX00, w ∈ wsX8_hand := inwX0_X8_hand
  have inX2 : ∀ w ∈ wsX20, w ∈ wsX8_hand := inwX2_X8_hand
  have inX5 : ∀ w ∈ wsX50, w ∈ wsX8_hand := inwX5_X8_hand
  have inX7 : ∀ w ∈ wsX70, w ∈ wsX8_hand := inwX7_X8_hand
  have hc0 := hc
  obtain ⟨⟨hx, hT0, hT1, hT2, hT3, hT4⟩, hP, hY, hJ, hG, hD, hW⟩ := hc
  have hq0 := hq
  refine j_aload_n (pc := 0) g 0 dX8_hand_0 rfl rfl ?_
  refine j_iload_n (pc := 1) g 1 dX8_hand_1 rfl rfl ?_
  refine j_cVr (pc := 2) (n := 1) g (c_duelAt (jl X) (jD X) M x _ _ _ _ _ _ _ _ _ _ hx (rowF (al 7) nd) hT4 _) dX8_hand_2 (hx) rfl gX8_hand_X8_duelAt rfl rfl rfl rfl ⟨rfl, by decide, by decide, by decide +kernel⟩ ⟨Nat.le_of_ble_eq_true rfl, Nat.le_of_ble_eq_true rfl⟩ ⟨Nat.le_of_ble_eq_true rfl, Nat.le_of_ble_eq_true rfl⟩ rfl (Nat.le_of_ble_eq_true rfl) ?_
  rcases at_or (g := al 7) (i := its) hnd12 (by decide) with ⟨hdu, hix, hlt, e1⟩ | ⟨hdu, e1⟩
  · rw [e1]
    have hdS : isDu S its := by unfold isDu; rw [hnd]; exact hdu
    obtain ⟨hd, ⟨fp, hfp, hfv⟩, hdw⟩ := hD.1 _ hlt
    have hqi := hq _ hlt
    have hov := isOv_le hqi.1
    have i22 := hqi.1.i22
    have i18 := hqi.1.i18
    have i17 := hqi.1.i17
    have h10 := mDu_10 hqi.1
    have hdr1 := hG.2.1.1
    have hns6 := hkk.2.1
    have hpc := hP.1 (ix (S 17 (ix its))) (by omega)
    refine astore_n_7_3 (pc := 5) g dX8_hand_5 ?_
    refine j_aload_n (pc := 6) g 3 dX8_hand_6 rfl rfl ?_
    refine j_ifnonnull (pc := 7) g 20 dX8_hand_7 (by decide) ?_
    refine j_iload_n (pc := 20) g 2 dX8_hand_20 rfl rfl ?_
    refine j_iconst (pc := 21) g (0) dX8_hand_21 (by decide) ?_
    refine j_sipush (pc := 22) g (999) dX8_hand_22 (by decide) ?_
    refine j_cSi (pc := 25) (n := 3) g (c_isWithin (jl X) (jD X) _ _ _ _) dX8_hand_25 gX8_hand_X8_isWithin rfl rfl rfl rfl ⟨by decide, by decide, by decide +kernel⟩ ⟨Nat.le_of_ble_eq_true rfl, Nat.le_of_ble_eq_true rfl⟩ ⟨Nat.le_of_ble_eq_true rfl, Nat.le_of_ble_eq_true rfl⟩ rfl (Nat.le_of_ble_eq_true rfl) ?_
    refine j_if_ne (pc := 28) g 41 dX8_hand_28 (by decide) (fun c28 => ?_) (fun c28 => ?_)
    · refine j_aload_n (pc := 41) g 0 dX8_hand_41 rfl rfl ?_
      refine j_aload_n (pc := 42) g 3 dX8_hand_42 rfl rfl ?_
      refine j_aload_n (pc := 43) g 3 dX8_hand_43 rfl rfl ?_
      refine j_get (pc := 44) g dX8_hand_44 (hd) rfl inX0 8 (by decide) (by decide +kernel) rfl rfl ?_
      refine j_topi (nI (ix (S 22 (ix its)))) hqi.1.i22.1 ?_
      refine j_iconst (pc := 47) g (2) dX8_hand_47 (by decide) ?_
      refine j_idiv (pc := 48) g dX8_hand_48 (by decide) ?_
      refine j_topi (nI ((ix (S 22 (ix its))) / 2)) (pk_div (d := 2) (by omega) (by omega) (by omega)) ?_
      refine j_cVi (pc := 49) (n := 1) g (c_promptAt (jl X) (jD X) M _ _ _ _ _ _ _ _ _ _ _ hd fp hfp (nI ((ix (S 22 (ix its))) / 2))) dX8_hand_49 (hd) rfl gX8_hand_X0_promptAt rfl rfl rfl rfl ⟨rfl, by decide, by decide, by decide +kernel⟩ ⟨Nat.le_of_ble_eq_true rfl, Nat.le_of_ble_eq_true rfl⟩ ⟨Nat.le_of_ble_eq_true rfl, Nat.le_of_ble_eq_true rfl⟩ rfl (Nat.le_of_ble_eq_true rfl) ?_
      rcases Nat.lt_or_ge (ix (S 22 (ix its))) (2 * ix (S 18 (ix its))) with hlo | hlo
      · have hpl : (promptI S (ix its) (ix (S 22 (ix its)) / 2)) < ns := promptI_lt hqi
        have e3 : atI 5 fp (nI ((ix (S 22 (ix its))) / 2)) = nI (promptI S (ix its) (ix (S 22 (ix its)) / 2)) := by
          rcases pr_at (k := nI ((ix (S 22 (ix its))) / 2)) hqi.1 hfv with ⟨_, _, e⟩ | ⟨hn, _⟩
          · rw [e, ix_nI (by omega)]
          · exact absurd ⟨Int32.not_lt.mp (nI_pos (by omega)), by rw [i18.1]; exact nI_lt (by omega) (by omega)⟩ hn
        have e4 : va_rf (atR 6 (rowF (al 5) ns) (nI (promptI S (ix its) (ix (S 22 (ix its)) / 2)))) = .ref (al 5 (promptI S (ix its) (ix (S 22 (ix its)) / 2))) := by
          rw [atR_nI (by omega) (by decide), rowF_in hpl]
          rfl
        rw [e3]
        refine j_cVr (pc := 52) (n := 1) g (c_signAt (jl X) (jD X) M x _ _ _ _ _ _ _ _ _ _ hx (rowF (al 5) ns) hT0 _) dX8_hand_52 (hx) rfl gX8_hand_X8_signAt rfl rfl rfl rfl ⟨rfl, by decide, by decide, by decide +kernel⟩ ⟨Nat.le_of_ble_eq_true rfl, Nat.le_of_ble_eq_true rfl⟩ ⟨Nat.le_of_ble_eq_true rfl, Nat.le_of_ble_eq_true rfl⟩ rfl (Nat.le_of_ble_eq_true rfl) ?_
        rw [e4]
        · refine astore_7_4 (pc := 55) g dX8_hand_55 ?_
          refine j_aload_n (pc := 57) g 3 dX8_hand_57 rfl rfl ?_
          refine j_cVi (pc := 58) (n := 0) g (c_dOver (jl X) (jD X) M (al 7 (ix its)) _ _ _ _ _ _ _ _ _ _ hd) dX8_hand_58 (hd) rfl gX8_hand_X0_isOver rfl rfl rfl rfl ⟨rfl, by decide, by decide, by decide +kernel⟩ ⟨Nat.le_of_ble_eq_true rfl, Nat.le_of_ble_eq_true rfl⟩ ⟨Nat.le_of_ble_eq_true rfl, Nat.le_of_ble_eq_true rfl⟩ rfl (Nat.le_of_ble_eq_true rfl) ?_
          refine j_if_ne (pc := 61) g 69 dX8_hand_61 (by decide) (fun c61 => ?_) (fun c61 => ?_)
          · exact j_throwS (pc := 69) g t "java/lang/IllegalStateException" "the duel has all rounds" dX8_hand_69 dX8_hand_72 dX8_hand_73 dX8_hand_75 dX8_hand_78 rfl (by decide +kernel) (by decide) (by decide +kernel) (by decide +kernel) atX8_hand_68 atB_68 atG_68 (Nat.le_of_ble_eq_true rfl) (Nat.le_of_ble_eq_true rfl) (Nat.le_of_ble_eq_true rfl) (Nat.le_of_ble_eq_true rfl) (Nat.le_of_ble_eq_true rfl) (Nat.le_of_ble_eq_true rfl) (⟨Or.inr (Or.inr ⟨by unfold tHand; rw [if_neg (not_not_intro hdS), if_neg (by grind [b01]), if_pos (fun z => by first | exact z.1 hio | exact z.1 (hov.mpr (by grind [b01])))], rfl⟩), rfl⟩)
          · refine j_aload (pc := 64) g dX8_hand_64 rfl ?_
            refine j_ifnonnull (pc := 66) g 79 dX8_hand_66 (by decide) ?_
            refine j_aload_n (pc := 79) g 0 dX8_hand_79 rfl rfl ?_
            refine j_aload_n (pc := 80) g 3 dX8_hand_80 rfl rfl ?_
            refine j_get (pc := 81) g dX8_hand_81 (hd) rfl inX0 3 (by decide) (by decide +kernel) rfl rfl ?_
            refine j_cVr (pc := 84) (n := 1) g (c_paperAt (jl X) (jD X) M x _ _ _ _ _ _ _ _ _ _ hx (rowF (al 1) 3) hT1 _) dX8_hand_84 (hx) rfl gX8_hand_X8_paperAt rfl rfl rfl rfl ⟨rfl, by decide, by decide, by decide +kernel⟩ ⟨Nat.le_of_ble_eq_true rfl, Nat.le_of_ble_eq_true rfl⟩ ⟨Nat.le_of_ble_eq_true rfl, Nat.le_of_ble_eq_true rfl⟩ rfl (Nat.le_of_ble_eq_true rfl) ?_
            rw [atR_row (m := 2) hqi.1.2.2.1 (by decide) (by decide)]
            · refine astore_7_5 (pc := 87) g dX8_hand_87 ?_
              refine j_aload_n (pc := 89) g 0 dX8_hand_89 rfl rfl ?_
              refine j_get (pc := 90) g dX8_hand_90 (hx) rfl inX8 5 (by decide) (by decide +kernel) rfl rfl ?_
              refine j_get (pc := 93) g dX8_hand_93 (hdr1) rfl inX5 1 (by decide) (by decide +kernel) rfl rfl ?_
              refine j_if_eq (pc := 96) g 112 dX8_hand_96 (by decide) (fun c96 => ?_) (fun c96 => ?_)
              · exact j_throwS (pc := 112) g t "java/lang/IllegalStateException" "the draft is empty, or there is no sheet" dX8_hand_112 dX8_hand_115 dX8_hand_116 dX8_hand_118 dX8_hand_121 rfl (by decide +kernel) (by decide) (by decide +kernel) (by decide +kernel) atX8_hand_68 atB_68 atG_68 (Nat.le_of_ble_eq_true rfl) (Nat.le_of_ble_eq_true rfl) (Nat.le_of_ble_eq_true rfl) (Nat.le_of_ble_eq_true rfl) (Nat.le_of_ble_eq_true rfl) (Nat.le_of_ble_eq_true rfl) (⟨Or.inr (Or.inr ⟨by unfold tHand; rw [if_neg (not_not_intro hdS), if_neg (by grind [b01]), if_pos (fun z => by first | exact c109 z.2.2 | (have z1 := z.2.1; rw [hdd, c96] at z1; exact absurd z1 (by decide)))], rfl⟩), rfl⟩)
              · refine j_aload (pc := 99) g dX8_hand_99 rfl ?_
                refine j_ifnull (pc := 101) g dX8_hand_101 ?_
                refine j_aload (pc := 104) g dX8_hand_104 rfl ?_
                refine j_get (pc := 106) g dX8_hand_106 (hpc) rfl inX2 0 (by decide) (by decide +kernel) rfl rfl ?_
                refine j_if_gt (pc := 109) g 122 dX8_hand_109 (by decide) (fun c109 => ?_) (fun c109 => ?_)
                · refine j_aload (pc := 122) g dX8_hand_122 rfl ?_
                  refine j_dup (pc := 124) g dX8_hand_124 rfl ?_
                  refine j_get (pc := 125) g dX8_hand_125 (hpc) rfl inX2 0 (by decide) (by decide +kernel) rfl rfl ?_
                  refine j_iconst (pc := 128) g (1) dX8_hand_128 (by decide) ?_
                  refine j_isub (pc := 129) g dX8_hand_129 ?_
                  refine j_put (pc := 130) g dX8_hand_130 (hpc) rfl inX2 tyX2 tyX2_ok nmX2 0 (by decide) (by decide +kernel) rfl rfl rfl (rfl) (rfl) (Nat.le_of_ble_eq_true rfl) ?_
                  have hp1 : pr [2] M (xu M (al 1 (ix (S 17 (ix its)))) (oB 2 [.int (S 6 (ix (S 17 (ix its))) - 1), .int (S 7 (ix (S 17 (ix its)))), .int (S 8 (ix (S 17 (ix its))))])) := pr.rf.wr hpc (by show 2 ∈ [2]; decide)
                  have hc1 := R_pap (S' := su S 6 (ix (S 17 (ix its))) (S 6 (ix (S 17 (ix its))) - 1)) (a := S 6 (ix (S 17 (ix its))) - 1) (b := S 7 (ix (S 17 (ix its)))) (c := S 8 (ix (S 17 (ix its)))) hc0 (p := (ix (S 17 (ix its)))) (by omega) (sf.rf.su (by decide)) ⟨su_s, rfl, rfl⟩ (fun i hi => ⟨su_n hi, rfl, rfl⟩)
                  have hx1 := hp1 _ _ hx (by show 8 ∉ [2]; decide)
                  refine j_aload_n (pc := 133) g 0 dX8_hand_133 rfl rfl ?_
                  refine j_dup (pc := 134) g dX8_hand_134 rfl ?_
                  refine j_get (pc := 135) g dX8_hand_135 (hx1) rfl inX8 8 (by decide) (by decide +kernel) rfl rfl ?_
                  refine j_iconst (pc := 138) g (1) dX8_hand_138 (by decide) ?_
                  refine j_iadd (pc := 139) g dX8_hand_139 ?_
                  refine j_put (pc := 140) g dX8_hand_140 (hx1) rfl inX8 tyX8 tyX8_ok nmX8 8 (by decide) (by decide +kernel) rfl rfl rfl (rfl) (rfl) (Nat.le_of_ble_eq_true rfl) ?_
                  have hp2 := (pr.m hp1 (L' := [2, 8]) (by decide)).wr (e' := oB 8 [.ref (al 0 0), .ref (al 0 1), .ref (al 0 2), .ref (al 0 3), .ref (al 0 4), .ref (al 5 ns), .int (nI ns), .int (nI nd), .int (S 9 0 + 1), .int (S 0 0)]) hx1 (by show 8 ∈ [2, 8]; decide)
                  have hc2 := R_top (S' := su (su S 6 (ix (S 17 (ix its))) (S 6 (ix (S 17 (ix its))) - 1)) 9 0 (S 9 0 + 1)) (tk := S 9 0 + 1) (dy := S 0 0) hc1 (sf.rf.su (by decide)) su_s rfl
                  have hd2 := hp2 _ _ hd (by show 0 ∉ [2, 8]; decide)
                  have hpx : al 1 (ix (S 17 (ix its))) ≠ x := kd_ne hpc hx (by show (2 : Nat) ≠ 8; decide)
                  refine j_iload_n (pc := 143) g 2 dX8_hand_143 rfl rfl ?_
                  refine j_aload_n (pc := 144) g 3 dX8_hand_144 rfl rfl ?_
                  refine j_cVi (pc := 145) (n := 0) g (c_nextWriter (jl X) (jD X) _ (al 7 (ix its)) (ix (S 22 (ix its))) _ _ _ _ _ _ _ _ _ _ hd2 i22.1 h10) dX8_hand_145 (hd2) rfl gX8_hand_X0_nextWriter rfl rfl rfl rfl ⟨rfl, by decide, by decide, by decide +kernel⟩ ⟨Nat.le_of_ble_eq_true rfl, Nat.le_of_ble_eq_true rfl⟩ ⟨Nat.le_of_ble_eq_true rfl, Nat.le_of_ble_eq_true rfl⟩ rfl (Nat.le_of_ble_eq_true rfl) ?_
                  refine j_aload_n (pc := 148) g 0 dX8_hand_148 rfl rfl ?_
                  refine j_get (pc := 149) g dX8_hand_149 (xu_s _ _ _) rfl inX8 8 (by decide) (by decide +kernel) rfl rfl ?_
                  refine j_cSi (pc := 152) (n := 2) g (c_rightSeal (jl X) (jD X) _ _ _) dX8_hand_152 gX8_hand_X8_rightSeal rfl rfl rfl rfl ⟨by decide, by decide, by decide +kernel⟩ ⟨Nat.le_of_ble_eq_true rfl, Nat.le_of_ble_eq_true rfl⟩ ⟨Nat.le_of_ble_eq_true rfl, Nat.le_of_ble_eq_true rfl⟩ rfl (Nat.le_of_ble_eq_true rfl) ?_
                  refine j_icmp_eq (pc := 155) g 162 dX8_hand_155 (by decide) (fun c155 => ?_) (fun c155 => ?_)
                  · refine j_iconst (pc := 162) g (0) dX8_hand_162 (by decide) ?_
                    refine j_topi (b01 (s ≠ remI (101 * whoH S (ix its) (ix (S 22 (ix its))) + 37 * (S 9 0 + 1)) 1000)) (by unfold b01; first | exact (if_pos c155).symm | exact (if_neg (not_not_intro c155)).symm | exact (if_neg c155).symm) ?_
                    refine istore_7_6 (pc := 163) g dX8_hand_163 ?_
                    refine j_aload_n (pc := 165) g 3 dX8_hand_165 rfl rfl ?_
                    refine j_new (pc := 166) (ci := 7) g dvX7 dX8_hand_166 inX7 tyX7 tyX7_ok (by decide +kernel) (by decide +kernel) (by decide +kernel) rfl dfX7 (Nat.le_of_ble_eq_true rfl) (Nat.le_of_ble_eq_true rfl) (fun q hq => ?_)
                    have hq9 := hq
                    have hp3 := hp2.nw (e' := oB 7 dvX7) hq9
                    have hx3 := xu_k (e' := oB 7 dvX7) hq9 (xu_s _ _ _)
                    have hw3 := hG.2.1.k (S' := S) (k' := 2) (p' := 0) hp3 (by decide) (by decide) (by decide) (fun _ _ => rfl)
                    have hm3 := (hG.1 _ hpl).k (S' := S) (k' := 5) (p' := 24 * (promptI S (ix its) (ix (S 22 (ix its)) / 2))) hp3 (by decide) (by decide) (by decide) (fun _ _ => rfl)
                    have hsg := hkk.2.2 _ hpl
                    refine j_dup (pc := 169) g dX8_hand_169 rfl ?_
                    refine j_aload_n (pc := 170) g 0 dX8_hand_170 rfl rfl ?_
                    refine j_get (pc := 171) g dX8_hand_171 (hx3) rfl inX8 5 (by decide) (by decide +kernel) rfl rfl ?_
                    refine j_aload (pc := 174) g dX8_hand_174 rfl ?_
                    refine j_aload (pc := 176) g dX8_hand_176 rfl ?_
                    refine j_get (pc := 178) g dX8_hand_178 ((by rw [xu_n (fun z => by rw [← z, xu_n hpx, xu_s] at hq9; exact absurd hq9 (by simp)), xu_n hpx]; exact xu_s _ _ _)) rfl inX2 1 (by decide) (by decide +kernel) rfl rfl ?_
                    refine j_iload (pc := 181) g dX8_hand_181 rfl ?_
                    refine j_callI (pc := 183) (ret := none) (n := 4) g (by decide +kernel) (by decide +kernel) (by decide +kernel) rfl (c_wInit (jl X) (jD X) _ q (al 5 ns) (al 6 ns) (al 5 (promptI S (ix its) (ix (S 22 (ix its)) / 2))) (al 6 (promptI S (ix its) (ix (S 22 (ix its)) / 2))) S 2 0 d (promptI S (ix its) (ix (S 22 (ix its)) / 2)) _ hd8 (by have := hsg.i4; omega) (fun i hi => by rw [Nat.zero_add]; exact hdr i hi) (fun i hi => hsg.2 i hi) (S 7 (ix (S 17 (ix its)))) (hpa (ix (S 17 (ix its))) (by omega)) (b01 (s ≠ remI (101 * whoH S (ix its) (ix (S 22 (ix its))) + 37 * (S 9 0 + 1)) 1000)) b01_or (xu_s _ _ _) hw3 hm3) dX8_hand_183 gX8_hand_X7_init rfl rfl rfl rfl ⟨by decide, by decide, by decide +kernel⟩ ⟨Nat.le_of_ble_eq_true rfl, Nat.le_of_ble_eq_true rfl⟩ ⟨Nat.le_of_ble_eq_true rfl, Nat.le_of_ble_eq_true rfl⟩ rfl (Nat.le_of_ble_eq_true rfl) (fun v M1 hp => ?_)
                    obtain ⟨rfl, pa, hwp⟩ := hp
                    have hq8 := (xu_none (xu_none hq9).1).1
                    have hp4 : pr [2, 8] M M1 := fun a e9 ha9 hk9 => hwp.1 a e9 (fun z => by rw [z, hq8] at ha9; exact absurd ha9 (by simp)) (hp3 a e9 ha9 hk9)
                    have hd4 := hp4 _ _ hd (by show 0 ∉ [2, 8]; decide)
                    have hw4 := hp4 _ _ hdw (by show 810 ∉ [2, 8]; decide)
                    have hdr4 := hp4 _ _ hdr1 (by show 5 ∉ [2, 8]; decide)
                    have hxq : x ≠ q := fun z => by rw [← z, xu_s] at hq9; exact absurd hq9 (by simp)
                    have hx4 := hwp.1 _ _ hxq hx3
                    have hx7 : x ≠ al 7 (ix its) := kd_ne hx hd (by show (8 : Nat) ≠ 0; decide)
                    have hx9 : x ≠ al 9 (ix its) := kd_ne hx hdw (by show (8 : Nat) ≠ 810; decide)
                    have h57 : al 5 ns ≠ al 7 (ix its) := kd_ne hdr1 hd (by show (5 : Nat) ≠ 0; decide)
                    have h59 : al 5 ns ≠ al 9 (ix its) := kd_ne hdr1 hdw (by show (5 : Nat) ≠ 810; decide)
                    have hx5n : x ≠ al 5 ns := kd_ne hx hdr1 (by show (8 : Nat) ≠ 5; decide)
                    have h79 : al 7 (ix its) ≠ al 9 (ix its) := kd_ne hd hdw (by show (0 : Nat) ≠ 810; decide)
                    have h9 : (ix (S 22 (ix its))) < 10 := by omega
                    refine j_cVv (pc := 186) (n := 1) g (c_dAdd (jl X) (jD X) M1 (al 7 (ix its)) q (ix (S 22 (ix its))) _ _ _ _ _ _ (al 8 (ix its)) (al 9 (ix its)) _ _ hd4 i22.1 h9 _ hw4 _ hwp.wr.1) dX8_hand_186 (hd4) rfl gX8_hand_X0_add rfl rfl rfl rfl ⟨rfl, by decide, by decide, by decide +kernel⟩ ⟨Nat.le_of_ble_eq_true rfl, Nat.le_of_ble_eq_true rfl⟩ ⟨Nat.le_of_ble_eq_true rfl, Nat.le_of_ble_eq_true rfl⟩ rfl (Nat.le_of_ble_eq_true rfl) ?_
                    refine j_aload_n (pc := 189) g 0 dX8_hand_189 rfl rfl ?_
                    refine j_get (pc := 190) g dX8_hand_190 ((by rw [xu_n hx7, xu_n hx9]; exact hx4)) rfl inX8 5 (by decide) (by decide +kernel) rfl rfl ?_
                    refine j_cVv (pc := 193) (n := 0) g (c_sEmpty (jl X) (jD X) _ (al 5 ns) (al 6 ns) d (by rw [xu_n h57, xu_n h59]; exact hdr4)) dX8_hand_193 ((by rw [xu_n h57, xu_n h59]; exact hdr4)) rfl gX8_hand_X5_empty rfl rfl rfl rfl ⟨rfl, by decide, by decide, by decide +kernel⟩ ⟨Nat.le_of_ble_eq_true rfl, Nat.le_of_ble_eq_true rfl⟩ ⟨Nat.le_of_ble_eq_true rfl, Nat.le_of_ble_eq_true rfl⟩ rfl (Nat.le_of_ble_eq_true rfl) ?_
                    refine j_aload_n (pc := 196) g 0 dX8_hand_196 rfl rfl ?_
                    refine j_get (pc := 197) g dX8_hand_197 ((by rw [xu_n hx5n, xu_n hx7, xu_n hx9]; exact hx4)) rfl inX8 8 (by decide) (by decide +kernel) rfl rfl ?_
                    exact j_iret (pc := 200) g r rfl rfl (⟨by unfold tHand; rw [if_neg (not_not_intro hdS), if_neg (by grind [b01]), if_neg (not_not_intro ⟨fun z => by have z1 := hov.mp z; grind [b01], by rw [hdd]; exact nI_lt (a := 0) (Nat.pos_of_ne_zero (fun z => c96 (by rw [z]; rfl))) (by omega), c109⟩)], rfl, _, R_clr (al := al1011 al (10 * (ix its) + (ix (S 22 (ix its)))) q pa) (R_hand hc2 hlt i22.1 h9 (fun k hk => mDu_10 (hq0 k hk).1) hwp.wr hd8 hq9 hwp.1 (hz26 _ hlt h9) (fun k l hk hl => ((hq0 k hk).2.2 l hl).i23.2)) sf.rf⟩) dX8_hand_200 (Nat.le_of_ble_eq_true rfl) (Nat.le_of_ble_eq_true rfl)
                  · refine j_iconst (pc := 158) g (1) dX8_hand_158 (by decide) ?_
                    refine j_goto (pc := 159) g 163 dX8_hand_159 (by decide) ?_
                    refine j_topi (b01 (s ≠ remI (101 * whoH S (ix its) (ix (S 22 (ix its))) + 37 * (S 9 0 + 1)) 1000)) (by unfold b01; first | exact (if_pos c155).symm | exact (if_neg (not_not_intro c155)).symm | exact (if_neg c155).symm) ?_
                    refine istore_7_6 (pc := 163) g dX8_hand_163 ?_
                    refine j_aload_n (pc := 165) g 3 dX8_hand_165 rfl rfl ?_
                    refine j_new (pc := 166) (ci := 7) g dvX7 dX8_hand_166 inX7 tyX7 tyX7_ok (by decide +kernel) (by decide +kernel) (by decide +kernel) rfl dfX7 (Nat.le_of_ble_eq_true rfl) (Nat.le_of_ble_eq_true rfl) (fun q hq => ?_)
                    have hq9 := hq
                    have hp3 := hp2.nw (e' := oB 7 dvX7) hq9
                    have hx3 := xu_k (e' := oB 7 dvX7) hq9 (xu_s _ _ _)
                    have hw3 := hG.2.1.k (S' := S) (k' := 2) (p' := 0) hp3 (by decide) (by decide) (by decide) (fun _ _ => rfl)
                    have hm3 := (hG.1 _ hpl).k (S' := S) (k' := 5) (p' := 24 * (promptI S (ix its) (ix (S 22 (ix its)) / 2))) hp3 (by decide) (by decide) (by decide) (fun _ _ => rfl)
                    have hsg := hkk.2.2 _ hpl
                    refine j_dup (pc := 169) g dX8_hand_169 rfl ?_
                    refine j_aload_n (pc := 170) g 0 dX8_hand_170 rfl rfl ?_
                    refine j_get (pc := 171) g dX8_hand_171 (hx3) rfl inX8 5 (by decide) (by decide +kernel) rfl rfl ?_
                    refine j_aload (pc := 174) g dX8_hand_174 rfl ?_
                    refine j_aload (pc := 176) g dX8_hand_176 rfl ?_
                    refine j_get (pc := 178) g dX8_hand_178 ((by rw [xu_n (fun z => by rw [← z, xu_n hpx, xu_s] at hq9; exact absurd hq9 (by simp)), xu_n hpx]; exact xu_s _ _ _)) rfl inX2 1 (by decide) (by decide +kernel) rfl rfl ?_
                    refine j_iload (pc := 181) g dX8_hand_181 rfl ?_
                    refine j_callI (pc := 183) (ret := none) (n := 4) g (by decide +kernel) (by decide +kernel) (by decide +kernel) rfl (c_wInit (jl X) (jD X) _ q (al 5 ns) (al 6 ns) (al 5 (promptI S (ix its) (ix (S 22 (ix its)) / 2))) (al 6 (promptI S (ix its) (ix (S 22 (ix its)) / 2))) S 2 0 d (promptI S (ix its) (ix (S 22 (ix its)) / 2)) _ hd8 (by have := hsg.i4; omega) (fun i hi => by rw [Nat.zero_add]; exact hdr i hi) (fun i hi => hsg.2 i hi) (S 7 (ix (S 17 (ix its)))) (hpa (ix (S 17 (ix its))) (by omega)) (b01 (s ≠ remI (101 * whoH S (ix its) (ix (S 22 (ix its))) + 37 * (S 9 0 + 1)) 1000)) b01_or (xu_s _ _ _) hw3 hm3) dX8_hand_183 gX8_hand_X7_init rfl rfl rfl rfl ⟨by decide, by decide, by decide +kernel⟩ ⟨Nat.le_of_ble_eq_true rfl, Nat.le_of_ble_eq_true rfl⟩ ⟨Nat.le_of_ble_eq_true rfl, Nat.le_of_ble_eq_true rfl⟩ rfl (Nat.le_of_ble_eq_true rfl) (fun v M1 hp => ?_)
                    obtain ⟨rfl, pa, hwp⟩ := hp
                    have hq8 := (xu_none (xu_none hq9).1).1
                    have hp4 : pr [2, 8] M M1 := fun a e9 ha9 hk9 => hwp.1 a e9 (fun z => by rw [z, hq8] at ha9; exact absurd ha9 (by simp)) (hp3 a e9 ha9 hk9)
                    have hd4 := hp4 _ _ hd (by show 0 ∉ [2, 8]; decide)
                    have hw4 := hp4 _ _ hdw (by show 810 ∉ [2, 8]; decide)
                    have hdr4 := hp4 _ _ hdr1 (by show 5 ∉ [2, 8]; decide)
                    have hxq : x ≠ q := fun z => by rw [← z, xu_s] at hq9; exact absurd hq9 (by simp)
                    have hx4 := hwp.1 _ _ hxq hx3
                    have hx7 : x ≠ al 7 (ix its) := kd_ne hx hd (by show (8 : Nat) ≠ 0; decide)
                    have hx9 : x ≠ al 9 (ix its) := kd_ne hx hdw (by show (8 : Nat) ≠ 810; decide)
                    have h57 : al 5 ns ≠ al 7 (ix its) := kd_ne hdr1 hd (by show (5 : Nat) ≠ 0; decide)
                    have h59 : al 5 ns ≠ al 9 (ix its) := kd_ne hdr1 hdw (by show (5 : Nat) ≠ 810; decide)
                    have hx5n : x ≠ al 5 ns := kd_ne hx hdr1 (by show (8 : Nat) ≠ 5; decide)
                    have h79 : al 7 (ix its) ≠ al 9 (ix its) := kd_ne hd hdw (by show (0 : Nat) ≠ 810; decide)
                    have h9 : (ix (S 22 (ix its))) < 10 := by omega
                    refine j_cVv (pc := 186) (n := 1) g (c_dAdd (jl X) (jD X) M1 (al 7 (ix its)) q (ix (S 22 (ix its))) _ _ _ _ _ _ (al 8 (ix its)) (al 9 (ix its)) _ _ hd4 i22.1 h9 _ hw4 _ hwp.wr.1) dX8_hand_186 (hd4) rfl gX8_hand_X0_add rfl rfl rfl rfl ⟨rfl, by decide, by decide, by decide +kernel⟩ ⟨Nat.le_of_ble_eq_true rfl, Nat.le_of_ble_eq_true rfl⟩ ⟨Nat.le_of_ble_eq_true rfl, Nat.le_of_ble_eq_true rfl⟩ rfl (Nat.le_of_ble_eq_true rfl) ?_
                    refine j_aload_n (pc := 189) g 0 dX8_hand_189 rfl rfl ?_
                    refine j_get (pc := 190) g dX8_hand_190 ((by rw [xu_n hx7, xu_n hx9]; exact hx4)) rfl inX8 5 (by decide) (by decide +kernel) rfl rfl ?_
                    refine j_cVv (pc := 193) (n := 0) g (c_sEmpty (jl X) (jD X) _ (al 5 ns) (al 6 ns) d (by rw [xu_n h57, xu_n h59]; exact hdr4)) dX8_hand_193 ((by rw [xu_n h57, xu_n h59]; exact hdr4)) rfl gX8_hand_X5_empty rfl rfl rfl rfl ⟨rfl, by decide, by decide, by decide +kernel⟩ ⟨Nat.le_of_ble_eq_true rfl, Nat.le_of_ble_eq_true rfl⟩ ⟨Nat.le_of_ble_eq_true rfl, Nat.le_of_ble_eq_true rfl⟩ rfl (Nat.le_of_ble_eq_true rfl) ?_
                    refine j_aload_n (pc := 196) g 0 dX8_hand_196 rfl rfl ?_
                    refine j_get (pc := 197) g dX8_hand_197 ((by rw [xu_n hx5n, xu_n hx7, xu_n hx9]; exact hx4)) rfl inX8 8 (by decide) (by decide +kernel) rfl rfl ?_
                    exact j_iret (pc := 200) g r rfl rfl (⟨by unfold tHand; rw [if_neg (not_not_intro hdS), if_neg (by grind [b01]), if_neg (not_not_intro ⟨fun z => by have z1 := hov.mp z; grind [b01], by rw [hdd]; exact nI_lt (a := 0) (Nat.pos_of_ne_zero (fun z => c96 (by rw [z]; rfl))) (by omega), c109⟩)], rfl, _, R_clr (al := al1011 al (10 * (ix its) + (ix (S 22 (ix its)))) q pa) (R_hand hc2 hlt i22.1 h9 (fun k hk => mDu_10 (hq0 k hk).1) hwp.wr hd8 hq9 hwp.1 (hz26 _ hlt h9) (fun k l hk hl => ((hq0 k hk).2.2 l hl).i23.2)) sf.rf⟩) dX8_hand_200 (Nat.le_of_ble_eq_true rfl) (Nat.le_of_ble_eq_true rfl)
                · exact j_throwS (pc := 112) g t "java/lang/IllegalStateException" "the draft is empty, or there is no sheet" dX8_hand_112 dX8_hand_115 dX8_hand_116 dX8_hand_118 dX8_hand_121 rfl (by decide +kernel) (by decide) (by decide +kernel) (by decide +kernel) atX8_hand_68 atB_68 atG_68 (Nat.le_of_ble_eq_true rfl) (Nat.le_of_ble_eq_true rfl) (Nat.le_of_ble_eq_true rfl) (Nat.le_of_ble_eq_true rfl) (Nat.le_of_ble_eq_true rfl) (Nat.le_of_ble_eq_true rfl) (⟨Or.inr (Or.inr ⟨by unfold tHand; rw [if_neg (not_not_intro hdS), if_neg (by grind [b01]), if_pos (fun z => by first | exact c109 z.2.2 | (have z1 := z.2.1; rw [hdd, c96] at z1; exact absurd z1 (by decide)))], rfl⟩), rfl⟩)
      · have hio : isOv S (ix its) := hqi.1.ov.mpr (by omega)
        have e3 : atI 5 fp (nI ((ix (S 22 (ix its))) / 2)) = -1 := by
          rcases pr_at (k := nI ((ix (S 22 (ix its))) / 2)) hqi.1 hfv with ⟨_, hk, _⟩ | ⟨_, e⟩
          · rw [i18.1] at hk
            exact absurd hk (nI_nlt (by omega) (by omega))
          · exact e
        have e4 : va_rf (atR 6 (rowF (al 5) ns) (-1)) = .null := by
          unfold atR
          rw [if_neg (fun z => absurd z.1 (by decide))]
          rfl
        rw [e3]
        refine j_cVr (pc := 52) (n := 1) g (c_signAt (jl X) (jD X) M x _ _ _ _ _ _ _ _ _ _ hx (rowF (al 5) ns) hT0 _) dX8_hand_52 (hx) rfl gX8_hand_X8_signAt rfl rfl rfl rfl ⟨rfl, by decide, by decide, by decide +kernel⟩ ⟨Nat.le_of_ble_eq_true rfl, Nat.le_of_ble_eq_true rfl⟩ ⟨Nat.le_of_ble_eq_true rfl, Nat.le_of_ble_eq_true rfl⟩ rfl (Nat.le_of_ble_eq_true rfl) ?_
        rw [e4]
        · refine astoreN_7_4 (pc := 55) g dX8_hand_55 ?_
          refine j_aload_n (pc := 57) g 3 dX8_hand_57 rfl rfl ?_
          refine j_cVi (pc := 58) (n := 0) g (c_dOver (jl X) (jD X) M (al 7 (ix its)) _ _ _ _ _ _ _ _ _ _ hd) dX8_hand_58 (hd) rfl gX8_hand_X0_isOver rfl rfl rfl rfl ⟨rfl, by decide, by decide, by decide +kernel⟩ ⟨Nat.le_of_ble_eq_true rfl, Nat.le_of_ble_eq_true rfl⟩ ⟨Nat.le_of_ble_eq_true rfl, Nat.le_of_ble_eq_true rfl⟩ rfl (Nat.le_of_ble_eq_true rfl) ?_
          refine j_if_ne (pc := 61) g 69 dX8_hand_61 (by decide) (fun c61 => ?_) (fun c61 => ?_)
          · exact j_throwS (pc := 69) g t "java/lang/IllegalStateException" "the duel has all rounds" dX8_hand_69 dX8_hand_72 dX8_hand_73 dX8_hand_75 dX8_hand_78 rfl (by decide +kernel) (by decide) (by decide +kernel) (by decide +kernel) atX8_hand_68 atB_68 atG_68 (Nat.le_of_ble_eq_true rfl) (Nat.le_of_ble_eq_true rfl) (Nat.le_of_ble_eq_true rfl) (Nat.le_of_ble_eq_true rfl) (Nat.le_of_ble_eq_true rfl) (Nat.le_of_ble_eq_true rfl) (⟨Or.inr (Or.inr ⟨by unfold tHand; rw [if_neg (not_not_intro hdS), if_neg (by grind [b01]), if_pos (fun z => by first | exact z.1 hio | exact z.1 (hov.mpr (by grind [b01])))], rfl⟩), rfl⟩)
          · refine j_aloadN (pc := 64) g dX8_hand_64 rfl ?_
            refine j_ifnonnullN (pc := 66) g dX8_hand_66 ?_
            exact j_throwS (pc := 69) g t "java/lang/IllegalStateException" "the duel has all rounds" dX8_hand_69 dX8_hand_72 dX8_hand_73 dX8_hand_75 dX8_hand_78 rfl (by decide +kernel) (by decide) (by decide +kernel) (by decide +kernel) atX8_hand_68 atB_68 atG_68 (Nat.le_of_ble_eq_true rfl) (Nat.le_of_ble_eq_true rfl) (Nat.le_of_ble_eq_true rfl) (Nat.le_of_ble_eq_true rfl) (Nat.le_of_ble_eq_true rfl) (Nat.le_of_ble_eq_true rfl) (⟨Or.inr (Or.inr ⟨by unfold tHand; rw [if_neg (not_not_intro hdS), if_neg (by grind [b01]), if_pos (fun z => by first | exact z.1 hio | exact z.1 (hov.mpr (by grind [b01])))], rfl⟩), rfl⟩)
    · exact j_throwS (pc := 31) g t "java/lang/IllegalArgumentException" "seal is out of range" dX8_hand_31 dX8_hand_34 dX8_hand_35 dX8_hand_37 dX8_hand_40 rfl (by decide +kernel) (by decide) (by decide +kernel) (by decide +kernel) atX8_hand_55 atB_55 atG_55 (Nat.le_of_ble_eq_true rfl) (Nat.le_of_ble_eq_true rfl) (Nat.le_of_ble_eq_true rfl) (Nat.le_of_ble_eq_true rfl) (Nat.le_of_ble_eq_true rfl) (Nat.le_of_ble_eq_true rfl) (⟨Or.inr (Or.inl ⟨by unfold tHand; rw [if_neg (not_not_intro hdS), if_pos (by grind [b01])], rfl⟩), rfl⟩)
  · rw [e1]
    have hdN : ¬ isDu S its := by unfold isDu; rw [hnd]; exact hdu
    refine astore_nN_7_3 (pc := 5) g dX8_hand_5 ?_
    refine j_aload_nN (pc := 6) g 3 dX8_hand_6 rfl rfl ?_
    refine j_ifnonnullN (pc := 7) g dX8_hand_7 ?_
    exact j_throwS (pc := 10) g t "java/lang/IndexOutOfBoundsException" "no such duel" dX8_hand_10 dX8_hand_13 dX8_hand_14 dX8_hand_16 dX8_hand_19 rfl (by decide +kernel) (by decide) (by decide +kernel) (by decide +kernel) atX8_hand_100 atB_100 atG_100 (Nat.le_of_ble_eq_true rfl) (Nat.le_of_ble_eq_true rfl) (Nat.le_of_ble_eq_true rfl) (Nat.le_of_ble_eq_true rfl) (Nat.le_of_ble_eq_true rfl) (Nat.le_of_ble_eq_true rfl) (⟨Or.inl ⟨by unfold tHand; rw [if_pos hdN], rfl⟩, rfl⟩)
