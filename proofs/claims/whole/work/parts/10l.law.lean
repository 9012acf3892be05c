theorem astore_8_4 {X : JC} {cc : ByteArray} {own : String} {Ts : List Cond} {cells slots pc : Nat} {rm : Room} {M : MH} {st : List Value} {a0 a1 a2 a3 a4 a5 a6 a7 : Option Value} (g : jG X cc own Ts 8 rm) {x : Nat} (hd : decode cc pc = .ok (.astore 4, 2)) (k : J X 8 cells slots M [a0, a1, a2, a3, some (.ref x), a5, a6, a7] st (pc + 2)) : J X 8 cells slots M [a0, a1, a2, a3, a4, a5, a6, a7] (.ref x :: st) pc := j_astore g hd (Nat.le_of_ble_eq_true rfl) k
theorem astore_n_8_1 {X : JC} {cc : ByteArray} {own : String} {Ts : List Cond} {cells slots pc : Nat} {rm : Room} {M : MH} {st : List Value} {a0 a1 a2 a3 a4 a5 a6 a7 : Option Value} (g : jG X cc own Ts 8 rm) {x : Nat} (hd : decode cc pc = .ok (.astore_n 1, 1)) (k : J X 8 cells slots M [a0, some (.ref x), a2, a3, a4, a5, a6, a7] st (pc + 1)) : J X 8 cells slots M [a0, a1, a2, a3, a4, a5, a6, a7] (.ref x :: st) pc := j_astore_n g 1 hd rfl (Nat.le_of_ble_eq_true rfl) k
theorem astore_n_8_2 {X : JC} {cc : ByteArray} {own : String} {Ts : List Cond} {cells slots pc : Nat} {rm : Room} {M : MH} {st : List Value} {a0 a1 a2 a3 a4 a5 a6 a7 : Option Value} (g : jG X cc own Ts 8 rm) {x : Nat} (hd : decode cc pc = .ok (.astore_n 2, 1)) (k : J X 8 cells slots M [a0, a1, some (.ref x), a3, a4, a5, a6, a7] st (pc + 1)) : J X 8 cells slots M [a0, a1, a2, a3, a4, a5, a6, a7] (.ref x :: st) pc := j_astore_n g 2 hd rfl (Nat.le_of_ble_eq_true rfl) k
theorem astore_n_8_3 {X : JC} {cc : ByteArray} {own : String} {Ts : List Cond} {cells slots pc : Nat} {rm : Room} {M : MH} {st : List Value} {a0 a1 a2 a3 a4 a5 a6 a7 : Option Value} (g : jG X cc own Ts 8 rm) {x : Nat} (hd : decode cc pc = .ok (.astore_n 3, 1)) (k : J X 8 cells slots M [a0, a1, a2, some (.ref x), a4, a5, a6, a7] st (pc + 1)) : J X 8 cells slots M [a0, a1, a2, a3, a4, a5, a6, a7] (.ref x :: st) pc := j_astore_n g 3 hd rfl (Nat.le_of_ble_eq_true rfl) k
theorem iinc_8_5_7 {X : JC} {cc : ByteArray} {own : String} {Ts : List Cond} {cells slots pc : Nat} {rm : Room} {M : MH} {st : List Value} {a0 a1 a2 a3 a4 a6 a7 : Option Value} (g : jG X cc own Ts 8 rm) {x : Int32} (hd : decode cc pc = .ok (.iinc 5 7, 3)) (k : J X 8 cells slots M [a0, a1, a2, a3, a4, some (.int (x + 7)), a6, a7] st (pc + 3)) : J X 8 cells slots M [a0, a1, a2, a3, a4, some (.int x), a6, a7] st pc := j_iinc g (x + 7) hd rfl rfl k
theorem istore_8_5 {X : JC} {cc : ByteArray} {own : String} {Ts : List Cond} {cells slots pc : Nat} {rm : Room} {M : MH} {st : List Value} {a0 a1 a2 a3 a4 a5 a6 a7 : Option Value} (g : jG X cc own Ts 8 rm) {x : Int32} (hd : decode cc pc = .ok (.istore 5, 2)) (k : J X 8 cells slots M [a0, a1, a2, a3, a4, some (.int x), a6, a7] st (pc + 2)) : J X 8 cells slots M [a0, a1, a2, a3, a4, a5, a6, a7] (.int x :: st) pc := j_istore g hd (Nat.le_of_ble_eq_true rfl) k



theorem and31 (v : Int32) : ∃ j, j < 32 ∧ v &&& 31 = nI j := by
  refine ⟨(v &&& 31).toBitVec.toNat, ?_, ?_⟩
  · rw [Int32.toBitVec_and, BitVec.toNat_and]
    exact Nat.lt_of_le_of_lt Nat.and_le_right (by decide)
  · apply Int32.toBitVec_inj.mp
    show _ = BitVec.ofNat 32 _
    rw [BitVec.ofNat_toNat, BitVec.setWidth_eq]
theorem gtL {L i : Nat} (hL : L ≤ 3584) (hi : i ≤ 4000) : nI L - 7 < nI i ↔ L < i + 7 := by
  have h1 : rg (nI L) 0 3584 := by
    unfold rg
    rw [nI_toInt (by omega)]
    omega
  have h2 : rg (7 : Int32) 7 7 := by
    unfold rg
    decide
  obtain ⟨e, -⟩ := rg_sub h1 h2 (by decide)
  have e7 : (7 : Int32).toInt = 7 := rfl
  rw [Int32.lt_iff_toInt_lt, e, nI_toInt (by omega), nI_toInt (by omega), e7]
  omega
theorem mB_none {m a : Nat} {ad : Nat → Nat} (h : a ≠ m) : mB m ad [] a = none := by
  unfold mB
  rw [if_neg h]
  rfl
theorem mB_sub {M : MH} {m : Nat} {ad : Nat → Nat} (h : M m = some (.inr (9, mBf ad []))) : ∀ a e, mB m ad [] a = some e → M a = some e := fun a e he => by
  by_cases ha : a = m
  · rw [ha] at he ⊢
    rw [mB_m] at he
    rw [h]
    exact he
  · rw [mB_none ha] at he
    exact absurd he (by simp)
theorem LR_start {M1 : MH} {m o od : Nat} {ad0 ad : Nat → Nat} {S : ST} (hm : M1 m = none) (hn : ∀ q, xu M1 m (oB 9 (mBf ad0 [])) q ≠ none → mB m ad0 [] q = none → mM m ad S q = none) (ho : jn (xu M1 m (oB 9 (mBf ad0 []))) (mB m ad0 []) (mM m ad S) o = none) (hod : xu (jn (xu M1 m (oB 9 (mBf ad0 []))) (mB m ad0 []) (mM m ad S)) o (aJ (fun _ => 0)) od = none) :
    LR (xu (xu (jn (xu M1 m (oB 9 (mBf ad0 []))) (mB m ad0 []) (mM m ad S)) o (aJ (fun _ => 0))) od (aD (fun _ => 0))) M1 m ad S o od (fun _ => 0) (fun _ => 0) := by
  have h1 : ∀ q e, M1 q = some e → jn (xu M1 m (oB 9 (mBf ad0 []))) (mB m ad0 []) (mM m ad S) q = some e ∧ mM m ad S q = none := fun q e he => by
    have hqm : q ≠ m := fun z => by
      rw [z, hm] at he
      exact absurd he (by simp)
    have h2 : xu M1 m (oB 9 (mBf ad0 [])) q = some e := by
      rw [xu_n hqm]
      exact he
    have h3 := hn q (by rw [h2]; simp) (mB_none hqm)
    refine ⟨?_, h3⟩
    rw [jn_o h3 (mB_none hqm)]
    exact h2
  have hod2 := xu_none hod
  refine ⟨fun q e he => xu_k hod (xu_k ho (h1 q e he).1), fun q e he => xu_k hod (xu_k ho (jn_1 he)), fun q hq => ?_, ⟨?_, xu_s _ _ _⟩, ?_, ?_, ?_, ?_⟩
  · cases hc : M1 q with
    | none => exact absurd hc hq
    | some e => exact (h1 q e hc).2
  · rw [xu_n (fun z => hod2.2 z.symm), xu_s]
  · cases hc : M1 o with
    | none => rfl
    | some e =>
      rw [(h1 o e hc).1] at ho
      exact absurd ho (by simp)
  · cases hc : M1 od with
    | none => rfl
    | some e =>
      have z := hod2.1
      rw [(h1 od e hc).1] at z
      exact absurd z (by simp)
  · cases hc : mM m ad S o with
    | none => rfl
    | some e =>
      rw [jn_1 hc] at ho
      exact absurd ho (by simp)
  · cases hc : mM m ad S od with
    | none => rfl
    | some e =>
      have z := hod2.1
      rw [jn_1 hc] at z
      exact absurd z (by simp)
def dvX9 : List Value := mBf (fun _ => 0) []
theorem dfX9 : ∀ j, j < 29 → defaultValue (tyX9 j) = vp_V dvX9 j := fun j hj => match j, hj with
  | 0, _ => rfl
  | 1, _ => rfl
  | 2, _ => rfl
  | 3, _ => rfl
  | 4, _ => rfl
  | 5, _ => rfl
  | 6, _ => rfl
  | 7, _ => rfl
  | 8, _ => rfl
  | 9, _ => rfl
  | 10, _ => rfl
  | 11, _ => rfl
  | 12, _ => rfl
  | 13, _ => rfl
  | 14, _ => rfl
  | 15, _ => rfl
  | 16, _ => rfl
  | 17, _ => rfl
  | 18, _ => rfl
  | 19, _ => rfl
  | 20, _ => rfl
  | 21, _ => rfl
  | 22, _ => rfl
  | 23, _ => rfl
  | 24, _ => rfl
  | 25, _ => rfl
  | 26, _ => rfl
  | 27, _ => rfl
  | 28, _ => rfl
  | n + 29, h => absurd h (by omega)
theorem inLX8 : ∀ w ∈ wsX80, w ∈ wsL_law := fun w h => (ggL_law_X8_init w (inwX8_X8_init w h)).1
theorem inLX9 : ∀ w ∈ wsX90, w ∈ wsL_law := fun w h => (ggL_law_X9_init w (inwX9_X9_init w h)).1

set_option maxHeartbeats 1000000 in
set_option maxRecDepth 100000 in
theorem law_loop {X : JC} (hst : (jl X).stackTraces = false) (g : jG X cL_law RL wsL_law 8 room_1) (t0 : jE0 X) {b L : Nat} {xs : Nat → Int32} (sc : jS X b L xs) (hL : L ≤ 3584) {x m o od : Nat} {ad : Nat → Nat} (hI : mI m ad) (hend : ∀ (cells slots : Nat) (M : MH) (vs : List (Option Value)), cells ≤ 601024 → slots ≤ 7293034 → J X 8 cells slots M vs [.int 1] 1551) : ∀ (n q : Nat) (M : MH) (S : ST) (cells slots : Nat), LI M x m o od ad S → q + n = 513 → cells + 8 * n ≤ 601024 → slots + 28 * n ≤ 7293034 → J X 8 cells slots M [some (.ref b), some (.ref x), some (.ref m), some (.ref o), some (.ref od), some (.int (nI (7 * q))), none, none] [] 28 := by
  intro n
  induction n with
  | zero =>
    intro q M S cells slots h hq hcl hsl
    have hq5 : q = 513 := by omega
    subst hq5
    refine j_iload (pc := 28) g dL_law_28 rfl ?_
    refine j_aload_n (pc := 30) g 0 dL_law_30 rfl rfl ?_
    refine j_slen (pc := 31) g sc dL_law_31 ?_
    refine j_bipush (pc := 32) g (7) dL_law_32 (by decide) ?_
    refine j_isub (pc := 34) g dL_law_34 ?_
    refine j_icmp_gt (pc := 35) g 1550 dL_law_35 (by decide) (fun c35 => ?_) (fun c35 => absurd ((gtL hL (by omega)).mpr (by omega)) c35)
    refine j_iconst (pc := 1550) g (1) dL_law_1550 (by decide) ?_
    exact hend _ _ _ _ (by omega) (by omega)
  | succ n ih =>
    intro q M S cells slots h hq hcl hsl
    refine j_iload (pc := 28) g dL_law_28 rfl ?_
    refine j_aload_n (pc := 30) g 0 dL_law_30 rfl rfl ?_
    refine j_slen (pc := 31) g sc dL_law_31 ?_
    refine j_bipush (pc := 32) g (7) dL_law_32 (by decide) ?_
    refine j_isub (pc := 34) g dL_law_34 ?_
    refine j_icmp_gt (pc := 35) g 1550 dL_law_35 (by decide) (fun c35 => ?_) (fun c35 => ?_)
    · refine j_iconst (pc := 1550) g (1) dL_law_1550 (by decide) ?_
      exact hend _ _ _ _ (by omega) (by omega)
    · have hi : 7 * q + 7 ≤ L := Nat.not_lt.mp (fun z => c35 ((gtL hL (by omega)).mpr z))
      refine j_aload_n (pc := 38) g 0 dL_law_38 rfl rfl ?_
      refine j_iload (pc := 39) g dL_law_39 rfl ?_
      refine j_sld (pc := 41) g sc dL_law_41 (7 * q) rfl (by omega) (by omega) ?_
      refine j_bipush (pc := 42) g (31) dL_law_42 (by decide) ?_
      refine j_iand (pc := 44) g dL_law_44 ?_
      obtain ⟨j, hj, ej⟩ := and31 (xs (7 * q))
      refine j_topi (nI j) ej ?_
      clear ej
      have kk : ∀ M2 S2, LI M2 x m o od ad S2 → J X 8 (cells + 8) (slots + 28) M2 [some (.ref b), some (.ref x), some (.ref m), some (.ref o), some (.ref od), some (.int (nI (7 * q))), none, none] [] 1544 := by
        intro M2 S2 h2
        refine iinc_8_5_7 (pc := 1544) g dL_law_1544 ?_
        refine j_goto (pc := 1547) g 28 dL_law_1547 (by decide) ?_
        have q9 := ih (q + 1) M2 S2 (cells + 8) (slots + 28) h2 (by omega) (by omega) (by omega)
        have e9 : nI (7 * (q + 1)) = nI (7 * q) + 7 := by
          rw [show 7 * (q + 1) = 7 * q + 7 by omega]
          exact (nI_add _ 7).symm
        rw [e9] at q9
        exact q9
      match j, hj with
      | 0, _ => exact j_tableIn (pc := 45) g (91) 136 dL_law_45 (by decide) (by decide) (by decide) (by decide) (lc_stroke hst g t0 sc hL hI h hi (by omega) (by omega) kk)
      | 1, _ => exact j_tableIn (pc := 45) g (183) 228 dL_law_45 (by decide) (by decide) (by decide) (by decide) (lc_clear hst g t0 sc hL hI h hi (by omega) (by omega) kk)
      | 2, _ => exact j_tableIn (pc := 45) g (196) 241 dL_law_45 (by decide) (by decide) (by decide) (by decide) (lc_sign hst g t0 sc hL hI h hi (by omega) (by omega) kk)
      | 3, _ => exact j_tableIn (pc := 45) g (240) 285 dL_law_45 (by decide) (by decide) (by decide) (by decide) (lc_buy hst g t0 sc hL hI h hi (by omega) (by omega) kk)
      | 4, _ => exact j_tableIn (pc := 45) g (308) 353 dL_law_45 (by decide) (by decide) (by decide) (by decide) (lc_rise hst g t0 sc hL hI h hi (by omega) (by omega) kk)
      | 5, _ => exact j_tableIn (pc := 45) g (376) 421 dL_law_45 (by decide) (by decide) (by decide) (by decide) (lc_style hst g t0 sc hL hI h hi (by omega) (by omega) kk)
      | 6, _ => exact j_tableIn (pc := 45) g (448) 493 dL_law_45 (by decide) (by decide) (by decide) (by decide) (lc_learn hst g t0 sc hL hI h hi (by omega) (by omega) kk)
      | 7, _ => exact j_tableIn (pc := 45) g (516) 561 dL_law_45 (by decide) (by decide) (by decide) (by decide) (lc_pass hst g t0 sc hL hI h hi (by omega) (by omega) kk)
      | 8, _ => exact j_tableIn (pc := 45) g (572) 617 dL_law_45 (by decide) (by decide) (by decide) (by decide) (lc_duel hst g t0 sc hL hI h hi (by omega) (by omega) kk)
      | 9, _ => exact j_tableIn (pc := 45) g (690) 735 dL_law_45 (by decide) (by decide) (by decide) (by decide) (lc_hand hst g t0 sc hL hI h hi (by omega) (by omega) kk)
      | 10, _ => exact j_tableIn (pc := 45) g (758) 803 dL_law_45 (by decide) (by decide) (by decide) (by decide) (lc_look hst g t0 sc hL hI h hi (by omega) (by omega) kk)
      | 11, _ => exact j_tableIn (pc := 45) g (861) 906 dL_law_45 (by decide) (by decide) (by decide) (by decide) (lc_appeal hst g t0 sc hL hI h hi (by omega) (by omega) kk)
      | 12, _ => exact j_tableIn (pc := 45) g (929) 974 dL_law_45 (by decide) (by decide) (by decide) (by decide) (lc_prompt hst g t0 sc hL hI h hi (by omega) (by omega) kk)
      | 13, _ => exact j_tableIn (pc := 45) g (997) 1042 dL_law_45 (by decide) (by decide) (by decide) (by decide) (lc_mark hst g t0 sc hL hI h hi (by omega) (by omega) kk)
      | 14, _ => exact j_tableIn (pc := 45) g (1087) 1132 dL_law_45 (by decide) (by decide) (by decide) (by decide) (lc_part hst g t0 sc hL hI h hi (by omega) (by omega) kk)
      | 15, _ => exact j_tableIn (pc := 45) g (1189) 1234 dL_law_45 (by decide) (by decide) (by decide) (by decide) (lc_marked hst g t0 sc hL hI h hi (by omega) (by omega) kk)
      | 16, _ => exact j_tableIn (pc := 45) g (1307) 1352 dL_law_45 (by decide) (by decide) (by decide) (by decide) (lc_of hst g t0 sc hL hI h hi (by omega) (by omega) kk)
      | 17, _ => exact j_tableIn (pc := 45) g (1375) 1420 dL_law_45 (by decide) (by decide) (by decide) (by decide) (lc_paper hst g t0 sc hL hI h hi (by omega) (by omega) kk)
      | 18, _ => exact j_tableIn (pc := 45) g (1443) 1488 dL_law_45 (by decide) (by decide) (by decide) (by decide) (lc_won hst g t0 sc hL hI h hi (by omega) (by omega) kk)
      | n2 + 19, hj => exact j_tableOut (pc := 45) g 1544 dL_law_45 (Or.inr (by rw [nI_toInt (by omega)]; omega)) (by decide) (j_room _ _ (by omega) (by omega) (kk M S h))

set_option maxHeartbeats 1000000 in
set_option maxRecDepth 100000 in
theorem law_pro {X : JC} (hst : (jl X).stackTraces = false) (g : jG X cL_law RL wsL_law 8 room_1) (t0 : jE0 X) {b L : Nat} {xs : Nat → Int32} (sc : jS X b L xs) (hL : L ≤ 3584) (hend : ∀ (cells slots : Nat) (M : MH) (vs : List (Option Value)), cells ≤ 601024 → slots ≤ 7293034 → J X 8 cells slots M vs [.int 1] 1551) : J X 8 0 0 (fun _ => none) [some (.ref b), none, none, none, none, none, none, none] [] 0 := by
  have inX8 := inLX8
  have inX9 := inLX9
  refine j_new (pc := 0) (ci := 8) g dvX8 dL_law_0 inX8 tyX8 tyX8_ok (by decide +kernel) (by decide +kernel) (by decide +kernel) rfl dfX8 (Nat.le_of_ble_eq_true rfl) (Nat.le_of_ble_eq_true rfl) (fun x hx => ?_)
  have Fx : xu (fun _ => none) x (oB 8 dvX8) x = some (oB 8 dvX8) := xu_s _ _ _
  refine j_dup (pc := 3) g dL_law_3 rfl ?_
  refine j_callIT (pc := 4) (n := 0) (rest := [.ref x]) g t0 (by decide +kernel) (by decide +kernel) (by decide +kernel) rfl (k_init (jl X) (jD X) hst _ x Fx) dL_law_4 gL_law_X8_init rfl rfl rfl rfl ⟨by decide, by decide, by decide +kernel⟩ ⟨Nat.le_of_ble_eq_true rfl, Nat.le_of_ble_eq_true rfl⟩ ⟨Nat.le_of_ble_eq_true rfl, Nat.le_of_ble_eq_true rfl⟩ rfl (Nat.le_of_ble_eq_true rfl) (fun v M1 hp => ?_)
  obtain ⟨rfl, al, hc⟩ := hp
  show J X 8 _ _ _ _ [.ref x] (4 + 3)
  refine astore_n_8_1 (pc := 7) g dL_law_7 ?_
  refine j_new (pc := 8) (ci := 9) g dvX9 dL_law_8 inX9 tyX9 tyX9_ok (by decide +kernel) (by decide +kernel) (by decide +kernel) rfl dfX9 (Nat.le_of_ble_eq_true rfl) (Nat.le_of_ble_eq_true rfl) (fun m hm => ?_)
  have Fm := new_s (e := oB 9 dvX9) hm
  refine j_dup (pc := 11) g dL_law_11 rfl ?_
  refine j_callIG (pc := 12) (n := 0) (rest := [.ref m]) (Mc := mB m (fun _ => 0) []) g (mB_sub Fm) (by decide +kernel) (by decide +kernel) (by decide +kernel) rfl (m_init (jl X) (jD X) m (fun _ => 0)) dL_law_12 gL_law_X9_init rfl rfl rfl rfl ⟨by decide, by decide, by decide +kernel⟩ ⟨Nat.le_of_ble_eq_true rfl, Nat.le_of_ble_eq_true rfl⟩ ⟨Nat.le_of_ble_eq_true rfl, Nat.le_of_ble_eq_true rfl⟩ rfl (Nat.le_of_ble_eq_true rfl) (fun v M3 hp hn => ?_)
  obtain ⟨rfl, ad, hI, rfl⟩ := hp
  show J X 8 _ _ _ _ [.ref m] (12 + 3)
  refine astore_n_8_2 (pc := 15) g dL_law_15 ?_
  refine j_iconst (pc := 16) g (1) dL_law_16 (by decide) ?_
  refine j_newaJ (pc := 17) g 1 dL_law_17 (by decide +kernel) (by decide) (by decide) (by decide) (Nat.le_of_ble_eq_true rfl) (Nat.le_of_ble_eq_true rfl) (fun o ho => ?_)
  refine astore_n_8_3 (pc := 19) g dL_law_19 ?_
  refine j_iconst (pc := 20) g (1) dL_law_20 (by decide) ?_
  refine j_newaD (pc := 21) g 1 dL_law_21 (by decide +kernel) (by decide) (by decide) (by decide) (Nat.le_of_ble_eq_true rfl) (Nat.le_of_ble_eq_true rfl) (fun od hod => ?_)
  refine astore_8_4 (pc := 23) g dL_law_23 ?_
  refine j_iconst (pc := 25) g (0) dL_law_25 (by decide) ?_
  refine istore_8_5 (pc := 26) g dL_law_26 ?_
  exact law_loop hst g t0 sc hL hI hend 513 0 _ (LZ 16) _ _ (LI.mk (LR_start hm hn ho hod) rfl (CRep_LZ hc) ok_start) rfl (Nat.le_of_ble_eq_true rfl) (Nat.le_of_ble_eq_true rfl)
