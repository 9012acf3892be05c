
theorem inwX9_X9_init : ∀ w ∈ wsX90, w ∈ wsX9_init := fun w h => List.mem_cons_of_mem _ (List.mem_append_right _ h)


set_option maxHeartbeats 400000 in
set_option maxRecDepth 100000 in
theorem m_init (l : Launch) (D : va_G) (m : Nat) (ad0 : Nat → Nat) : xC l D yX9_init wsX9_init ({ frames := 1, cells := 23, slots := 4659, locals := 24 }) 23 4659 [.ref m] (mB m ad0 []) (fun v M' => v = none ∧ ∃ ad, mI m ad ∧ M' = mM m ad (LZ 16)) := by
  refine xC_ofI (cc := cX9_init) (maxL := 2) (ret := none) (own := RX9) [some (.ref m), none] (by decide) rfl rfl rfl (Nat.le_of_ble_eq_true rfl) rfl rfl rfl ?_
  intro X hXl hXD g r hinit
  subst hXl
  subst hXD
  have inX9 : ∀ w ∈ wsX90, w ∈ wsX9_init := inwX9_X9_init
  have hJ0 : mJ m ad0 [] := ⟨fun k h => absurd h (by simp), fun k h => absurd h (by simp)⟩
  refine j_aload_n (pc := 0) g 0 dX9_init_0 rfl rfl ?_
  refine j_objInit (pc := 1) g dX9_init_1 (by decide +kernel) (by decide +kernel) (by decide +kernel) (Nat.le_of_ble_eq_true rfl) (Nat.le_of_ble_eq_true rfl) ?_
  refine j_aload_n (pc := 4) g 0 dX9_init_4 rfl rfl ?_
  refine j_bipush (pc := 5) g (32) dX9_init_5 (by decide) ?_
  refine j_newaI (pc := 7) g 32 dX9_init_7 (by decide +kernel) (by decide) (by decide) (by decide) (Nat.le_of_ble_eq_true rfl) (Nat.le_of_ble_eq_true rfl) (fun q2 hq2 => ?_)
  refine j_putF (pc := 9) g dX9_init_9 (xu_k hq2 (mB_m _ _ _)) rfl inX9 tyX9 tyX9_ok nmX9 2 (by decide) (by decide +kernel) rfl hinit rfl rfl rfl (rfl) (rfl) (Nat.le_of_ble_eq_true rfl) ?_
  obtain ⟨ad2, hJ2, e2⟩ := mB_step 2 hJ0 hq2 (by decide)
  refine j_map _ e2 ?_
  clear e2 hq2 hJ0
  refine j_aload_n (pc := 12) g 0 dX9_init_12 rfl rfl ?_
  refine j_bipush (pc := 13) g (6) dX9_init_13 (by decide) ?_
  refine j_newaI (pc := 15) g 6 dX9_init_15 (by decide +kernel) (by decide) (by decide) (by decide) (Nat.le_of_ble_eq_true rfl) (Nat.le_of_ble_eq_true rfl) (fun q4 hq4 => ?_)
  refine j_putF (pc := 17) g dX9_init_17 (xu_k hq4 (mB_m _ _ _)) rfl inX9 tyX9 tyX9_ok nmX9 4 (by decide) (by decide +kernel) rfl hinit rfl rfl rfl (rfl) (rfl) (Nat.le_of_ble_eq_true rfl) ?_
  obtain ⟨ad4, hJ4, e4⟩ := mB_step 4 hJ2 hq4 (by decide)
  refine j_map _ e4 ?_
  clear e4 hq4 hJ2
  refine j_aload_n (pc := 20) g 0 dX9_init_20 rfl rfl ?_
  refine j_sipush (pc := 21) g (144) dX9_init_21 (by decide) ?_
  refine j_newaI (pc := 24) g 144 dX9_init_24 (by decide +kernel) (by decide) (by decide) (by decide) (Nat.le_of_ble_eq_true rfl) (Nat.le_of_ble_eq_true rfl) (fun q5 hq5 => ?_)
  refine j_putF (pc := 26) g dX9_init_26 (xu_k hq5 (mB_m _ _ _)) rfl inX9 tyX9 tyX9_ok nmX9 5 (by decide) (by decide +kernel) rfl hinit rfl rfl rfl (rfl) (rfl) (Nat.le_of_ble_eq_true rfl) ?_
  obtain ⟨ad5, hJ5, e5⟩ := mB_step 5 hJ4 hq5 (by decide)
  refine j_map _ e5 ?_
  clear e5 hq5 hJ4
  refine j_aload_n (pc := 29) g 0 dX9_init_29 rfl rfl ?_
  refine j_iconst (pc := 30) g (3) dX9_init_30 (by decide) ?_
  refine j_newaI (pc := 31) g 3 dX9_init_31 (by decide +kernel) (by decide) (by decide) (by decide) (Nat.le_of_ble_eq_true rfl) (Nat.le_of_ble_eq_true rfl) (fun q6 hq6 => ?_)
  refine j_putF (pc := 33) g dX9_init_33 (xu_k hq6 (mB_m _ _ _)) rfl inX9 tyX9 tyX9_ok nmX9 6 (by decide) (by decide +kernel) rfl hinit rfl rfl rfl (rfl) (rfl) (Nat.le_of_ble_eq_true rfl) ?_
  obtain ⟨ad6, hJ6, e6⟩ := mB_step 6 hJ5 hq6 (by decide)
  refine j_map _ e6 ?_
  clear e6 hq6 hJ5
  refine j_aload_n (pc := 36) g 0 dX9_init_36 rfl rfl ?_
  refine j_iconst (pc := 37) g (3) dX9_init_37 (by decide) ?_
  refine j_newaI (pc := 38) g 3 dX9_init_38 (by decide +kernel) (by decide) (by decide) (by decide) (Nat.le_of_ble_eq_true rfl) (Nat.le_of_ble_eq_true rfl) (fun q7 hq7 => ?_)
  refine j_putF (pc := 40) g dX9_init_40 (xu_k hq7 (mB_m _ _ _)) rfl inX9 tyX9 tyX9_ok nmX9 7 (by decide) (by decide +kernel) rfl hinit rfl rfl rfl (rfl) (rfl) (Nat.le_of_ble_eq_true rfl) ?_
  obtain ⟨ad7, hJ7, e7⟩ := mB_step 7 hJ6 hq7 (by decide)
  refine j_map _ e7 ?_
  clear e7 hq7 hJ6
  refine j_aload_n (pc := 43) g 0 dX9_init_43 rfl rfl ?_
  refine j_iconst (pc := 44) g (3) dX9_init_44 (by decide) ?_
  refine j_newaI (pc := 45) g 3 dX9_init_45 (by decide +kernel) (by decide) (by decide) (by decide) (Nat.le_of_ble_eq_true rfl) (Nat.le_of_ble_eq_true rfl) (fun q8 hq8 => ?_)
  refine j_putF (pc := 47) g dX9_init_47 (xu_k hq8 (mB_m _ _ _)) rfl inX9 tyX9 tyX9_ok nmX9 8 (by decide) (by decide +kernel) rfl hinit rfl rfl rfl (rfl) (rfl) (Nat.le_of_ble_eq_true rfl) ?_
  obtain ⟨ad8, hJ8, e8⟩ := mB_step 8 hJ7 hq8 (by decide)
  refine j_map _ e8 ?_
  clear e8 hq8 hJ7
  refine j_aload_n (pc := 50) g 0 dX9_init_50 rfl rfl ?_
  refine j_bipush (pc := 51) g (12) dX9_init_51 (by decide) ?_
  refine j_newaI (pc := 53) g 12 dX9_init_53 (by decide +kernel) (by decide) (by decide) (by decide) (Nat.le_of_ble_eq_true rfl) (Nat.le_of_ble_eq_true rfl) (fun q10 hq10 => ?_)
  refine j_putF (pc := 55) g dX9_init_55 (xu_k hq10 (mB_m _ _ _)) rfl inX9 tyX9 tyX9_ok nmX9 10 (by decide) (by decide +kernel) rfl hinit rfl rfl rfl (rfl) (rfl) (Nat.le_of_ble_eq_true rfl) ?_
  obtain ⟨ad10, hJ10, e10⟩ := mB_step 10 hJ8 hq10 (by decide)
  refine j_map _ e10 ?_
  clear e10 hq10 hJ8
  refine j_aload_n (pc := 58) g 0 dX9_init_58 rfl rfl ?_
  refine j_bipush (pc := 59) g (16) dX9_init_59 (by decide) ?_
  refine j_newaI (pc := 61) g 16 dX9_init_61 (by decide +kernel) (by decide) (by decide) (by decide) (Nat.le_of_ble_eq_true rfl) (Nat.le_of_ble_eq_true rfl) (fun q11 hq11 => ?_)
  refine j_putF (pc := 63) g dX9_init_63 (xu_k hq11 (mB_m _ _ _)) rfl inX9 tyX9 tyX9_ok nmX9 11 (by decide) (by decide +kernel) rfl hinit rfl rfl rfl (rfl) (rfl) (Nat.le_of_ble_eq_true rfl) ?_
  obtain ⟨ad11, hJ11, e11⟩ := mB_step 11 hJ10 hq11 (by decide)
  refine j_map _ e11 ?_
  clear e11 hq11 hJ10
  refine j_aload_n (pc := 66) g 0 dX9_init_66 rfl rfl ?_
  refine j_bipush (pc := 67) g (12) dX9_init_67 (by decide) ?_
  refine j_newaI (pc := 69) g 12 dX9_init_69 (by decide +kernel) (by decide) (by decide) (by decide) (Nat.le_of_ble_eq_true rfl) (Nat.le_of_ble_eq_true rfl) (fun q13 hq13 => ?_)
  refine j_putF (pc := 71) g dX9_init_71 (xu_k hq13 (mB_m _ _ _)) rfl inX9 tyX9 tyX9_ok nmX9 13 (by decide) (by decide +kernel) rfl hinit rfl rfl rfl (rfl) (rfl) (Nat.le_of_ble_eq_true rfl) ?_
  obtain ⟨ad13, hJ13, e13⟩ := mB_step 13 hJ11 hq13 (by decide)
  refine j_map _ e13 ?_
  clear e13 hq13 hJ11
  refine j_aload_n (pc := 74) g 0 dX9_init_74 rfl rfl ?_
  refine j_bipush (pc := 75) g (12) dX9_init_75 (by decide) ?_
  refine j_newaI (pc := 77) g 12 dX9_init_77 (by decide +kernel) (by decide) (by decide) (by decide) (Nat.le_of_ble_eq_true rfl) (Nat.le_of_ble_eq_true rfl) (fun q14 hq14 => ?_)
  refine j_putF (pc := 79) g dX9_init_79 (xu_k hq14 (mB_m _ _ _)) rfl inX9 tyX9 tyX9_ok nmX9 14 (by decide) (by decide +kernel) rfl hinit rfl rfl rfl (rfl) (rfl) (Nat.le_of_ble_eq_true rfl) ?_
  obtain ⟨ad14, hJ14, e14⟩ := mB_step 14 hJ13 hq14 (by decide)
  refine j_map _ e14 ?_
  clear e14 hq14 hJ13
  refine j_aload_n (pc := 82) g 0 dX9_init_82 rfl rfl ?_
  refine j_bipush (pc := 83) g (12) dX9_init_83 (by decide) ?_
  refine j_newaI (pc := 85) g 12 dX9_init_85 (by decide +kernel) (by decide) (by decide) (by decide) (Nat.le_of_ble_eq_true rfl) (Nat.le_of_ble_eq_true rfl) (fun q15 hq15 => ?_)
  refine j_putF (pc := 87) g dX9_init_87 (xu_k hq15 (mB_m _ _ _)) rfl inX9 tyX9 tyX9_ok nmX9 15 (by decide) (by decide +kernel) rfl hinit rfl rfl rfl (rfl) (rfl) (Nat.le_of_ble_eq_true rfl) ?_
  obtain ⟨ad15, hJ15, e15⟩ := mB_step 15 hJ14 hq15 (by decide)
  refine j_map _ e15 ?_
  clear e15 hq15 hJ14
  refine j_aload_n (pc := 90) g 0 dX9_init_90 rfl rfl ?_
  refine j_bipush (pc := 91) g (12) dX9_init_91 (by decide) ?_
  refine j_newaI (pc := 93) g 12 dX9_init_93 (by decide +kernel) (by decide) (by decide) (by decide) (Nat.le_of_ble_eq_true rfl) (Nat.le_of_ble_eq_true rfl) (fun q16 hq16 => ?_)
  refine j_putF (pc := 95) g dX9_init_95 (xu_k hq16 (mB_m _ _ _)) rfl inX9 tyX9 tyX9_ok nmX9 16 (by decide) (by decide +kernel) rfl hinit rfl rfl rfl (rfl) (rfl) (Nat.le_of_ble_eq_true rfl) ?_
  obtain ⟨ad16, hJ16, e16⟩ := mB_step 16 hJ15 hq16 (by decide)
  refine j_map _ e16 ?_
  clear e16 hq16 hJ15
  refine j_aload_n (pc := 98) g 0 dX9_init_98 rfl rfl ?_
  refine j_bipush (pc := 99) g (12) dX9_init_99 (by decide) ?_
  refine j_newaI (pc := 101) g 12 dX9_init_101 (by decide +kernel) (by decide) (by decide) (by decide) (Nat.le_of_ble_eq_true rfl) (Nat.le_of_ble_eq_true rfl) (fun q17 hq17 => ?_)
  refine j_putF (pc := 103) g dX9_init_103 (xu_k hq17 (mB_m _ _ _)) rfl inX9 tyX9 tyX9_ok nmX9 17 (by decide) (by decide +kernel) rfl hinit rfl rfl rfl (rfl) (rfl) (Nat.le_of_ble_eq_true rfl) ?_
  obtain ⟨ad17, hJ17, e17⟩ := mB_step 17 hJ16 hq17 (by decide)
  refine j_map _ e17 ?_
  clear e17 hq17 hJ16
  refine j_aload_n (pc := 106) g 0 dX9_init_106 rfl rfl ?_
  refine j_bipush (pc := 107) g (12) dX9_init_107 (by decide) ?_
  refine j_newaI (pc := 109) g 12 dX9_init_109 (by decide +kernel) (by decide) (by decide) (by decide) (Nat.le_of_ble_eq_true rfl) (Nat.le_of_ble_eq_true rfl) (fun q18 hq18 => ?_)
  refine j_putF (pc := 111) g dX9_init_111 (xu_k hq18 (mB_m _ _ _)) rfl inX9 tyX9 tyX9_ok nmX9 18 (by decide) (by decide +kernel) rfl hinit rfl rfl rfl (rfl) (rfl) (Nat.le_of_ble_eq_true rfl) ?_
  obtain ⟨ad18, hJ18, e18⟩ := mB_step 18 hJ17 hq18 (by decide)
  refine j_map _ e18 ?_
  clear e18 hq18 hJ17
  refine j_aload_n (pc := 114) g 0 dX9_init_114 rfl rfl ?_
  refine j_bipush (pc := 115) g (12) dX9_init_115 (by decide) ?_
  refine j_newaI (pc := 117) g 12 dX9_init_117 (by decide +kernel) (by decide) (by decide) (by decide) (Nat.le_of_ble_eq_true rfl) (Nat.le_of_ble_eq_true rfl) (fun q19 hq19 => ?_)
  refine j_putF (pc := 119) g dX9_init_119 (xu_k hq19 (mB_m _ _ _)) rfl inX9 tyX9 tyX9_ok nmX9 19 (by decide) (by decide +kernel) rfl hinit rfl rfl rfl (rfl) (rfl) (Nat.le_of_ble_eq_true rfl) ?_
  obtain ⟨ad19, hJ19, e19⟩ := mB_step 19 hJ18 hq19 (by decide)
  refine j_map _ e19 ?_
  clear e19 hq19 hJ18
  refine j_aload_n (pc := 122) g 0 dX9_init_122 rfl rfl ?_
  refine j_bipush (pc := 123) g (12) dX9_init_123 (by decide) ?_
  refine j_newaI (pc := 125) g 12 dX9_init_125 (by decide +kernel) (by decide) (by decide) (by decide) (Nat.le_of_ble_eq_true rfl) (Nat.le_of_ble_eq_true rfl) (fun q20 hq20 => ?_)
  refine j_putF (pc := 127) g dX9_init_127 (xu_k hq20 (mB_m _ _ _)) rfl inX9 tyX9 tyX9_ok nmX9 20 (by decide) (by decide +kernel) rfl hinit rfl rfl rfl (rfl) (rfl) (Nat.le_of_ble_eq_true rfl) ?_
  obtain ⟨ad20, hJ20, e20⟩ := mB_step 20 hJ19 hq20 (by decide)
  refine j_map _ e20 ?_
  clear e20 hq20 hJ19
  refine j_aload_n (pc := 130) g 0 dX9_init_130 rfl rfl ?_
  refine j_bipush (pc := 131) g (12) dX9_init_131 (by decide) ?_
  refine j_newaI (pc := 133) g 12 dX9_init_133 (by decide +kernel) (by decide) (by decide) (by decide) (Nat.le_of_ble_eq_true rfl) (Nat.le_of_ble_eq_true rfl) (fun q21 hq21 => ?_)
  refine j_putF (pc := 135) g dX9_init_135 (xu_k hq21 (mB_m _ _ _)) rfl inX9 tyX9 tyX9_ok nmX9 21 (by decide) (by decide +kernel) rfl hinit rfl rfl rfl (rfl) (rfl) (Nat.le_of_ble_eq_true rfl) ?_
  obtain ⟨ad21, hJ21, e21⟩ := mB_step 21 hJ20 hq21 (by decide)
  refine j_map _ e21 ?_
  clear e21 hq21 hJ20
  refine j_aload_n (pc := 138) g 0 dX9_init_138 rfl rfl ?_
  refine j_bipush (pc := 139) g (12) dX9_init_139 (by decide) ?_
  refine j_newaI (pc := 141) g 12 dX9_init_141 (by decide +kernel) (by decide) (by decide) (by decide) (Nat.le_of_ble_eq_true rfl) (Nat.le_of_ble_eq_true rfl) (fun q22 hq22 => ?_)
  refine j_putF (pc := 143) g dX9_init_143 (xu_k hq22 (mB_m _ _ _)) rfl inX9 tyX9 tyX9_ok nmX9 22 (by decide) (by decide +kernel) rfl hinit rfl rfl rfl (rfl) (rfl) (Nat.le_of_ble_eq_true rfl) ?_
  obtain ⟨ad22, hJ22, e22⟩ := mB_step 22 hJ21 hq22 (by decide)
  refine j_map _ e22 ?_
  clear e22 hq22 hJ21
  refine j_aload_n (pc := 146) g 0 dX9_init_146 rfl rfl ?_
  refine j_bipush (pc := 147) g (120) dX9_init_147 (by decide) ?_
  refine j_newaI (pc := 149) g 120 dX9_init_149 (by decide +kernel) (by decide) (by decide) (by decide) (Nat.le_of_ble_eq_true rfl) (Nat.le_of_ble_eq_true rfl) (fun q23 hq23 => ?_)
  refine j_putF (pc := 151) g dX9_init_151 (xu_k hq23 (mB_m _ _ _)) rfl inX9 tyX9 tyX9_ok nmX9 23 (by decide) (by decide +kernel) rfl hinit rfl rfl rfl (rfl) (rfl) (Nat.le_of_ble_eq_true rfl) ?_
  obtain ⟨ad23, hJ23, e23⟩ := mB_step 23 hJ22 hq23 (by decide)
  refine j_map _ e23 ?_
  clear e23 hq23 hJ22
  refine j_aload_n (pc := 154) g 0 dX9_init_154 rfl rfl ?_
  refine j_bipush (pc := 155) g (120) dX9_init_155 (by decide) ?_
  refine j_newaI (pc := 157) g 120 dX9_init_157 (by decide +kernel) (by decide) (by decide) (by decide) (Nat.le_of_ble_eq_true rfl) (Nat.le_of_ble_eq_true rfl) (fun q24 hq24 => ?_)
  refine j_putF (pc := 159) g dX9_init_159 (xu_k hq24 (mB_m _ _ _)) rfl inX9 tyX9 tyX9_ok nmX9 24 (by decide) (by decide +kernel) rfl hinit rfl rfl rfl (rfl) (rfl) (Nat.le_of_ble_eq_true rfl) ?_
  obtain ⟨ad24, hJ24, e24⟩ := mB_step 24 hJ23 hq24 (by decide)
  refine j_map _ e24 ?_
  clear e24 hq24 hJ23
  refine j_aload_n (pc := 162) g 0 dX9_init_162 rfl rfl ?_
  refine j_bipush (pc := 163) g (120) dX9_init_163 (by decide) ?_
  refine j_newaZ (pc := 165) g 120 dX9_init_165 (by decide +kernel) (by decide) (by decide) (by decide) (Nat.le_of_ble_eq_true rfl) (Nat.le_of_ble_eq_true rfl) (fun q25 hq25 => ?_)
  refine j_putF (pc := 167) g dX9_init_167 (xu_k hq25 (mB_m _ _ _)) rfl inX9 tyX9 tyX9_ok nmX9 25 (by decide) (by decide +kernel) rfl hinit rfl rfl rfl (rfl) (rfl) (Nat.le_of_ble_eq_true rfl) ?_
  obtain ⟨ad25, hJ25, e25⟩ := mB_step 25 hJ24 hq25 (by decide)
  refine j_map _ e25 ?_
  clear e25 hq25 hJ24
  refine j_aload_n (pc := 170) g 0 dX9_init_170 rfl rfl ?_
  refine j_bipush (pc := 171) g (120) dX9_init_171 (by decide) ?_
  refine j_newaZ (pc := 173) g 120 dX9_init_173 (by decide +kernel) (by decide) (by decide) (by decide) (Nat.le_of_ble_eq_true rfl) (Nat.le_of_ble_eq_true rfl) (fun q26 hq26 => ?_)
  refine j_putF (pc := 175) g dX9_init_175 (xu_k hq26 (mB_m _ _ _)) rfl inX9 tyX9 tyX9_ok nmX9 26 (by decide) (by decide +kernel) rfl hinit rfl rfl rfl (rfl) (rfl) (Nat.le_of_ble_eq_true rfl) ?_
  obtain ⟨ad26, hJ26, e26⟩ := mB_step 26 hJ25 hq26 (by decide)
  refine j_map _ e26 ?_
  clear e26 hq26 hJ25
  refine j_aload_n (pc := 178) g 0 dX9_init_178 rfl rfl ?_
  refine j_sipush (pc := 179) g (3840) dX9_init_179 (by decide) ?_
  refine j_newaI (pc := 182) g 3840 dX9_init_182 (by decide +kernel) (by decide) (by decide) (by decide) (Nat.le_of_ble_eq_true rfl) (Nat.le_of_ble_eq_true rfl) (fun q27 hq27 => ?_)
  refine j_putF (pc := 184) g dX9_init_184 (xu_k hq27 (mB_m _ _ _)) rfl inX9 tyX9 tyX9_ok nmX9 27 (by decide) (by decide +kernel) rfl hinit rfl rfl rfl (rfl) (rfl) (Nat.le_of_ble_eq_true rfl) ?_
  obtain ⟨ad27, hJ27, e27⟩ := mB_step 27 hJ26 hq27 (by decide)
  refine j_map _ e27 ?_
  clear e27 hq27 hJ26
  have hT : ∀ k, k ∈ [27, 26, 25, 24, 23, 22, 21, 20, 19, 18, 17, 16, 15, 14, 13, 11, 10, 8, 7, 6, 5, 4, 2] ↔ k ∈ mArr := by
    intro k
    simp only [mArr, List.mem_cons, List.not_mem_nil, or_false]
    omega
  obtain ⟨hI, eM⟩ := mB_end hT hJ27
  rw [LZ_0] at eM
  refine j_map _ eM ?_
  refine j_iconst (pc := 187) g (0) dX9_init_187 (by decide) ?_
  refine istore_n_2_1 (pc := 188) g dX9_init_188 ?_
  have L189 : ∀ (n : Nat) (i : Nat) (hi : i + n = 16), J X 2 23 4659 (mM m ad27 (LZ i)) [some (.ref m), some (.int (nI i))] [] 189 := by
    intro n
    induction n with
    | zero =>
      intro i hi
      refine j_iload_n (pc := 189) g 1 dX9_init_189 rfl rfl ?_
      refine j_bipush (pc := 190) g (16) dX9_init_190 (by decide) ?_
      refine j_icmp_ge (pc := 192) g 208 dX9_init_192 (by decide) (fun c192 => ?_) (fun c192 => absurd (by rw [show i = 16 by omega]; decide) c192)
      exact j_vret (pc := 208) g r rfl  (⟨rfl, ad27, hI, by rw [show i = 16 by omega]⟩) dX9_init_208 (Nat.le_of_ble_eq_true rfl) (Nat.le_of_ble_eq_true rfl)
    | succ n ih =>
      intro i hi
      refine j_iload_n (pc := 189) g 1 dX9_init_189 rfl rfl ?_
      refine j_bipush (pc := 190) g (16) dX9_init_190 (by decide) ?_
      refine j_icmp_ge (pc := 192) g 208 dX9_init_192 (by decide) (fun c192 => absurd c192 (nI_ge (b := 16) (by omega) (by omega))) (fun c192 => ?_)
      refine j_aload_n (pc := 195) g 0 dX9_init_195 rfl rfl ?_
      refine j_get (pc := 196) g dX9_init_196 (mM_m _ _ _) rfl inX9 11 (by decide) (by decide +kernel) rfl rfl ?_
      refine j_iload_n (pc := 199) g 1 dX9_init_199 rfl rfl ?_
      refine j_iconst (pc := 200) g (-1) dX9_init_200 (by decide) ?_
      refine jm_ast (pc := 201) g hI 11 dX9_init_201 (by decide) rfl (i) (rfl) (by have : mLen 11 = 16 := rfl; omega) ?_
      rw [LZ_s]
      refine iinc_2_1_1 (pc := 202) g dX9_init_202 ?_
      refine j_goto (pc := 205) g 189 dX9_init_205 (by decide) ?_
      exact (by have q9 := ih (i + 1) (by omega); rw [← nI_1 i] at q9; exact q9)
  exact L189 16 0 (by omega)
