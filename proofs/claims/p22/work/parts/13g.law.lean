theorem iinc_13_12_1 {X : JC} {cc : ByteArray} {own : String} {Ts : List Cond} {cells slots pc : Nat} {rm : Room} {M : MH} {st : List Value} {a0 a1 a2 a3 a4 a5 a6 a7 a8 a9 a10 a11 : Option Value} (g : jG X cc own Ts 13 rm) {x : Int32} (hd : decode cc pc = .ok (.iinc 12 1, 3)) (k : J X 13 cells slots M [a0, a1, a2, a3, a4, a5, a6, a7, a8, a9, a10, a11, some (.int (x + 1))] st (pc + 3)) : J X 13 cells slots M [a0, a1, a2, a3, a4, a5, a6, a7, a8, a9, a10, a11, some (.int x)] st pc := j_iinc g (x + 1) hd rfl rfl k



set_option maxHeartbeats 1000000 in
set_option maxRecDepth 100000 in
theorem h_acts (l : Launch) (D : va_G) (hst : l.stackTraces = false) {n0 : Nat} {M Mx : MH} {x : Nat} {ra : Nat → Nat} {al : Nat → Nat → Nat} {R S : ST} {d ns nd : Nat} (hr : LR M Mx ra R) (hc : CRep Mx x al S d ns nd) (hk : mOK S d ns nd) (ht : tie n0 S R d ns nd) (hn0 : n0 ≤ 57) (a0 b0 : Int32) : xW l D yL_acts wsL_acts ({ frames := 9, cells := 73, slots := 317, locals := 224 }) 73 317 [.ref x, .ref (ra 0), .ref (ra 1), .ref (ra 2), .ref (ra 3), .ref (ra 4), .int a0, .int b0] M (fun v M1 => v = some (.int 1) ∧ ∃ R1 S1 d1 ns1 nd1, LV (n0 + 1) M1 x ra R1 S1 d1 ns1 nd1) := by
  refine xV_of (cc := cL_acts) (maxL := 13) (ret := (some .boolean)) (own := RL) [some (.ref x), some (.ref (ra 0)), some (.ref (ra 1)), some (.ref (ra 2)), some (.ref (ra 3)), some (.ref (ra 4)), some (.int a0), some (.int b0), none, none, none, none, none] (by decide) rfl rfl (Nat.le_of_ble_eq_true rfl) rfl rfl rfl ?_
  intro X hXl hXD g r t0
  subst hXl
  subst hXD
  have n8 := ht.2.2.2.2.2.2.2.2.2
  refine j_iload (pc := 0) g dL_acts_0 rfl ?_
  refine j_bipush (pc := 2) g (16) dL_acts_2 (by decide) ?_
  refine j_callS (pc := 4) (n := 2) g (c_low (jl X) (jD X) _ _ 16 (by omega) (by omega)) dL_acts_4 gL_acts_L_low rfl rfl rfl rfl ⟨by decide, by decide, by decide +kernel⟩ ⟨Nat.le_of_ble_eq_true rfl, Nat.le_of_ble_eq_true rfl⟩ ⟨by show _ ≤ 73; omega, by show _ ≤ 317; omega⟩ rfl (Nat.le_of_ble_eq_true rfl) (fun v M1 hp => ?_)
  obtain ⟨kd, hkd, rfl, rfl⟩ := hp
  show J X 13 _ _ _ _ [.int (nI kd)] (4 + 3)
  refine istore_13_8 (pc := 7) g dL_acts_7 ?_
  refine j_iload (pc := 9) g dL_acts_9 rfl ?_
  refine j_iconst (pc := 11) g (3) dL_acts_11 (by decide) ?_
  refine j_icmp_ge (pc := 12) g 46 dL_acts_12 (by decide) (fun c12 => ?_) (fun c12 => ?_)
  · refine j_iload (pc := 46) g dL_acts_46 rfl ?_
    refine j_iconst (pc := 48) g (3) dL_acts_48 (by decide) ?_
    refine j_icmp_ne (pc := 49) g 59 dL_acts_49 (by decide) (fun c49 => ?_) (fun c49 => ?_)
    · refine j_iload (pc := 59) g dL_acts_59 rfl ?_
      refine j_iconst (pc := 61) g (4) dL_acts_61 (by decide) ?_
      refine j_icmp_ne (pc := 62) g 79 dL_acts_62 (by decide) (fun c62 => ?_) (fun c62 => ?_)
      · refine j_iload (pc := 79) g dL_acts_79 rfl ?_
        refine j_iconst (pc := 81) g (5) dL_acts_81 (by decide) ?_
        refine j_icmp_ne (pc := 82) g 94 dL_acts_82 (by decide) (fun c82 => ?_) (fun c82 => ?_)
        · refine j_iload (pc := 94) g dL_acts_94 rfl ?_
          refine j_bipush (pc := 96) g (6) dL_acts_96 (by decide) ?_
          refine j_icmp_ne (pc := 98) g 202 dL_acts_98 (by decide) (fun c98 => ?_) (fun c98 => ?_)
          · refine j_iload (pc := 202) g dL_acts_202 rfl ?_
            refine j_bipush (pc := 204) g (7) dL_acts_204 (by decide) ?_
            refine j_icmp_ne (pc := 206) g 257 dL_acts_206 (by decide) (fun c206 => ?_) (fun c206 => ?_)
            · refine j_iload (pc := 257) g dL_acts_257 rfl ?_
              refine j_bipush (pc := 259) g (8) dL_acts_259 (by decide) ?_
              refine j_icmp_ne (pc := 261) g 392 dL_acts_261 (by decide) (fun c261 => ?_) (fun c261 => ?_)
              · refine j_aload_n (pc := 392) g 1 dL_acts_392 rfl rfl ?_
                refine j_iconst (pc := 393) g (3) dL_acts_393 (by decide) ?_
                refine j_rd (pc := 394) g hr 0 (by decide) (3) (nI nd) dL_acts_394 (rfl) (by decide) (ht.1.2.2.2.1) ?_
                refine j_if_ne (pc := 395) g 412 dL_acts_395 (by decide) (fun c395 => ?_) (fun c395 => ?_)
                · have hnd0 : 0 < nd := Nat.pos_of_ne_zero (fun z => c395 (by rw [z]; rfl))
                  refine j_iload (pc := 412) g dL_acts_412 rfl ?_
                  refine j_bipush (pc := 414) g (13) dL_acts_414 (by decide) ?_
                  refine j_icmp_ge (pc := 416) g 462 dL_acts_416 (by decide) (fun c416 => ?_) (fun c416 => ?_)
                  · refine j_iload (pc := 462) g dL_acts_462 rfl ?_
                    refine j_bipush (pc := 464) g (13) dL_acts_464 (by decide) ?_
                    refine j_icmp_ne (pc := 466) g 481 dL_acts_466 (by decide) (fun c466 => ?_) (fun c466 => ?_)
                    · refine j_iload (pc := 481) g dL_acts_481 rfl ?_
                      refine j_bipush (pc := 483) g (14) dL_acts_483 (by decide) ?_
                      refine j_icmp_ne (pc := 485) g 506 dL_acts_485 (by decide) (fun c485 => ?_) (fun c485 => ?_)
                      · refine j_aload_n (pc := 506) g 0 dL_acts_506 rfl rfl ?_
                        refine j_aload_n (pc := 507) g 1 dL_acts_507 rfl rfl ?_
                        refine j_callSV (pc := 508) (n := 2) g t0 (h_areWon (jl X) (jD X) hst hr hc hk ht) dL_acts_508 gL_acts_L_areWon rfl rfl rfl rfl ⟨by decide, by decide, by decide +kernel⟩ ⟨Nat.le_of_ble_eq_true rfl, Nat.le_of_ble_eq_true rfl⟩ ⟨by show _ ≤ 73; omega, by show _ ≤ 317; omega⟩ rfl (Nat.le_of_ble_eq_true rfl) (fun v M hp => ?_)
                        obtain ⟨rfl, Mx, al, hr, hc, hk, ht⟩ := hp
                        show J X 13 _ _ _ _ [.int 1] (508 + 3)
                        exact j_iret (pc := 511) g r rfl rfl (⟨rfl, _, _, _, _, _, _, _, hr, hc, hk, by first | exact ht | exact ht.up⟩) dL_acts_511 (by omega) (by omega)
                      · refine j_aload_n (pc := 488) g 0 dL_acts_488 rfl rfl ?_
                        refine j_aload_n (pc := 489) g 1 dL_acts_489 rfl rfl ?_
                        refine j_aload (pc := 490) g dL_acts_490 rfl ?_
                        refine j_iload (pc := 492) g dL_acts_492 rfl ?_
                        refine j_aload_n (pc := 494) g 1 dL_acts_494 rfl rfl ?_
                        refine j_iconst (pc := 495) g (3) dL_acts_495 (by decide) ?_
                        refine j_rd (pc := 496) g hr 0 (by decide) (3) (nI nd) dL_acts_496 (rfl) (by decide) (ht.1.2.2.2.1) ?_
                        refine j_callS (pc := 497) (n := 2) g (c_low (jl X) (jD X) _ _ nd (by omega) (by omega)) dL_acts_497 gL_acts_L_low rfl rfl rfl rfl ⟨by decide, by decide, by decide +kernel⟩ ⟨Nat.le_of_ble_eq_true rfl, Nat.le_of_ble_eq_true rfl⟩ ⟨by show _ ≤ 73; omega, by show _ ≤ 317; omega⟩ rfl (Nat.le_of_ble_eq_true rfl) (fun v M1 hp => ?_)
                        obtain ⟨i, hi, rfl, rfl⟩ := hp
                        show J X 13 _ _ _ _ [.int (nI i), .ref (ra 4), .ref (ra 0), .ref x] (497 + 3)
                        refine j_callSV (pc := 500) (n := 4) g t0 (h_isDuel (jl X) (jD X) hst hr hc hk ht i hi) dL_acts_500 gL_acts_L_isDuel rfl rfl rfl rfl ⟨by decide, by decide, by decide +kernel⟩ ⟨Nat.le_of_ble_eq_true rfl, Nat.le_of_ble_eq_true rfl⟩ ⟨by show _ ≤ 73; omega, by show _ ≤ 317; omega⟩ rfl (Nat.le_of_ble_eq_true rfl) (fun v M hp => ?_)
                        obtain ⟨rfl, Mx, al, hr, hc, hk, ht⟩ := hp
                        show J X 13 _ _ _ _ [.int 1] (500 + 3)
                        refine j_goto (pc := 503) g 511 dL_acts_503 (by decide) ?_
                        exact j_iret (pc := 511) g r rfl rfl (⟨rfl, _, _, _, _, _, _, _, hr, hc, hk, by first | exact ht | exact ht.up⟩) dL_acts_511 (by omega) (by omega)
                    · refine j_aload_n (pc := 469) g 0 dL_acts_469 rfl rfl ?_
                      refine j_aload_n (pc := 470) g 1 dL_acts_470 rfl rfl ?_
                      refine j_aload (pc := 471) g dL_acts_471 rfl ?_
                      refine j_iload (pc := 473) g dL_acts_473 rfl ?_
                      refine j_callSV (pc := 475) (n := 4) g t0 (h_appeals (jl X) (jD X) hst hr hc hk ht hnd0 _) dL_acts_475 gL_acts_L_appeals rfl rfl rfl rfl ⟨by decide, by decide, by decide +kernel⟩ ⟨Nat.le_of_ble_eq_true rfl, Nat.le_of_ble_eq_true rfl⟩ ⟨by show _ ≤ 73; omega, by show _ ≤ 317; omega⟩ rfl (Nat.le_of_ble_eq_true rfl) (fun v M hp => ?_)
                      obtain ⟨rfl, R, S, d, ns, nd, Mx, al, hr, hc, hk, ht⟩ := hp
                      show J X 13 _ _ _ _ [.int 1] (475 + 3)
                      refine j_goto (pc := 478) g 511 dL_acts_478 (by decide) ?_
                      exact j_iret (pc := 511) g r rfl rfl (⟨rfl, _, _, _, _, _, _, _, hr, hc, hk, by first | exact ht | exact ht.up⟩) dL_acts_511 (by omega) (by omega)
                  · have K437 : ∀ (M Mx : MH) (al : Nat → Nat → Nat) (R S : ST) (d : Nat) (hr : LR M Mx ra R) (hc : CRep Mx x al S d ns nd) (hk : mOK S d ns nd) (ht : tie n0 S R d ns nd), J X 13 3 18 (M) [some (.ref x), some (.ref (ra 0)), some (.ref (ra 1)), some (.ref (ra 2)), some (.ref (ra 3)), some (.ref (ra 4)), some (.int a0), some (.int b0), some (.int (nI kd)), none, none, none, none] [] 437 := by
                      intro M Mx al R S d hr hc hk ht
                      refine j_aload_n (pc := 437) g 0 dL_acts_437 rfl rfl ?_
                      refine j_aload_n (pc := 438) g 1 dL_acts_438 rfl rfl ?_
                      refine j_aload_n (pc := 439) g 3 dL_acts_439 rfl rfl ?_
                      refine j_aload (pc := 440) g dL_acts_440 rfl ?_
                      refine j_iload (pc := 442) g dL_acts_442 rfl ?_
                      refine j_iconst (pc := 444) g (4) dL_acts_444 (by decide) ?_
                      refine j_ishr (pc := 445) g dL_acts_445 ?_
                      refine j_iload (pc := 446) g dL_acts_446 rfl ?_
                      refine j_callSV (pc := 448) (n := 6) g t0 (h_hands (jl X) (jD X) hst hr hc hk ht (by omega) hnd0 _ _) dL_acts_448 gL_acts_L_hands rfl rfl rfl rfl ⟨by decide, by decide, by decide +kernel⟩ ⟨Nat.le_of_ble_eq_true rfl, Nat.le_of_ble_eq_true rfl⟩ ⟨by show _ ≤ 73; omega, by show _ ≤ 317; omega⟩ rfl (Nat.le_of_ble_eq_true rfl) (fun v M hp => ?_)
                      obtain ⟨rfl, R, S, d, ns, nd, Mx, al, hr, hc, hk, ht⟩ := hp
                      show J X 13 _ _ _ _ [.int 1] (448 + 3)
                      refine j_if_eq (pc := 451) g 458 dL_acts_451 (by decide) (fun c451 => absurd c451 (by decide)) (fun c451 => ?_)
                      refine j_iconst (pc := 454) g (1) dL_acts_454 (by decide) ?_
                      refine j_goto (pc := 455) g 511 dL_acts_455 (by decide) ?_
                      exact j_iret (pc := 511) g r rfl rfl (⟨rfl, _, _, _, _, _, _, _, hr, hc, hk, by first | exact ht | exact ht.up⟩) dL_acts_511 (by omega) (by omega)
                    refine j_aload_n (pc := 419) g 1 dL_acts_419 rfl rfl ?_
                    refine j_iconst (pc := 420) g (2) dL_acts_420 (by decide) ?_
                    refine j_rd (pc := 421) g hr 0 (by decide) (2) (nI d) dL_acts_421 (rfl) (by decide) (ht.1.2.2.1) ?_
                    refine j_if_gt (pc := 422) g 437 dL_acts_422 (by decide) (fun c422 => ?_) (fun c422 => ?_)
                    · exact j_room _ _ (by omega) (by omega) (K437 M Mx al R S d hr hc hk ht)
                    · refine j_aload_n (pc := 425) g 0 dL_acts_425 rfl rfl ?_
                      refine j_aload_n (pc := 426) g 1 dL_acts_426 rfl rfl ?_
                      refine j_iload (pc := 427) g dL_acts_427 rfl ?_
                      refine j_iload (pc := 429) g dL_acts_429 rfl ?_
                      refine j_callSV (pc := 431) (n := 4) g t0 (h_drafts (jl X) (jD X) hst hr hc hk ht _ _) dL_acts_431 gL_acts_L_drafts rfl rfl rfl rfl ⟨by decide, by decide, by decide +kernel⟩ ⟨Nat.le_of_ble_eq_true rfl, Nat.le_of_ble_eq_true rfl⟩ ⟨by show _ ≤ 73; omega, by show _ ≤ 317; omega⟩ rfl (Nat.le_of_ble_eq_true rfl) (fun v M hp => ?_)
                      obtain ⟨rfl, R, S, d, ⟨Mx, al, hr, hc, hk, ht⟩, -⟩ := hp
                      show J X 13 _ _ _ _ [.int 1] (431 + 3)
                      refine j_if_eq (pc := 434) g 458 dL_acts_434 (by decide) (fun c434 => absurd c434 (by decide)) (fun c434 => ?_)
                      exact j_room _ _ (by omega) (by omega) (K437 M Mx al R S d hr hc hk ht)
                · refine j_aload_n (pc := 398) g 0 dL_acts_398 rfl rfl ?_
                  refine j_aload_n (pc := 399) g 1 dL_acts_399 rfl rfl ?_
                  refine j_aload (pc := 400) g dL_acts_400 rfl ?_
                  refine j_iload (pc := 402) g dL_acts_402 rfl ?_
                  refine j_iconst (pc := 404) g (4) dL_acts_404 (by decide) ?_
                  refine j_ishr (pc := 405) g dL_acts_405 ?_
                  refine j_iload (pc := 406) g dL_acts_406 rfl ?_
                  refine j_callSV (pc := 408) (n := 5) g t0 (h_duels (jl X) (jD X) hst hr hc hk ht _ _) dL_acts_408 gL_acts_L_duels rfl rfl rfl rfl ⟨by decide, by decide, by decide +kernel⟩ ⟨Nat.le_of_ble_eq_true rfl, Nat.le_of_ble_eq_true rfl⟩ ⟨by show _ ≤ 73; omega, by show _ ≤ 317; omega⟩ rfl (Nat.le_of_ble_eq_true rfl) (fun v M hp => ?_)
                  obtain ⟨rfl, R, S, d, ns, nd, Mx, al, hr, hc, hk, ht⟩ := hp
                  show J X 13 _ _ _ _ [.int 1] (408 + 3)
                  exact j_iret (pc := 411) g r rfl rfl (⟨rfl, _, _, _, _, _, _, _, hr, hc, hk, by first | exact ht | exact ht.up⟩) dL_acts_411 (by omega) (by omega)
              · refine j_iload (pc := 264) g dL_acts_264 rfl ?_
                refine j_bipush (pc := 266) g (16) dL_acts_266 (by decide) ?_
                refine j_callS (pc := 268) (n := 2) g (c_low (jl X) (jD X) _ _ 16 (by omega) (by omega)) dL_acts_268 gL_acts_L_low rfl rfl rfl rfl ⟨by decide, by decide, by decide +kernel⟩ ⟨Nat.le_of_ble_eq_true rfl, Nat.le_of_ble_eq_true rfl⟩ ⟨by show _ ≤ 73; omega, by show _ ≤ 317; omega⟩ rfl (Nat.le_of_ble_eq_true rfl) (fun v M1 hp => ?_)
                obtain ⟨c, h16, rfl, rfl⟩ := hp
                show J X 13 _ _ _ _ [.int (nI c)] (268 + 3)
                refine istore_13_9 (pc := 271) g dL_acts_271 ?_
                by_cases e11 : S 11 c = -1
                · have e0 : S 11 c + 1 = 0 := by rw [e11]; rfl
                  refine j_aload (pc := 273) g dL_acts_273 rfl ?_
                  refine j_iload (pc := 275) g dL_acts_275 rfl ?_
                  refine j_rd (pc := 277) g hr 3 (by decide) (c) (S 11 c + 1) dL_acts_277 (rfl) (by show c < 16; omega) (ht.2.2.2.1 c h16) ?_
                  refine j_if_le (pc := 278) g 285 dL_acts_278 (by decide) (fun c278 => ?_) (fun c278 => absurd (by rw [e0]; decide) c278)
                  refine j_iconst (pc := 285) g (0) dL_acts_285 (by decide) ?_
                  refine istore_13_10 (pc := 286) g dL_acts_286 ?_
                  refine j_iconst (pc := 288) g (0) dL_acts_288 (by decide) ?_
                  refine istore_13_11 (pc := 289) g dL_acts_289 ?_
                  refine j_aload (pc := 291) g dL_acts_291 rfl ?_
                  refine j_iload (pc := 293) g dL_acts_293 rfl ?_
                  refine j_iload (pc := 295) g dL_acts_295 rfl ?_
                  refine j_if_eq (pc := 297) g 308 dL_acts_297 (by decide) (fun c297 => ?_) (fun c297 => absurd rfl c297)
                  refine j_aload_n (pc := 308) g 1 dL_acts_308 rfl rfl ?_
                  refine j_iconst (pc := 309) g (0) dL_acts_309 (by decide) ?_
                  refine j_rd (pc := 310) g hr 0 (by decide) (0) (S 0 0) dL_acts_310 (rfl) (by decide) (ht.1.1) ?_
                  refine j_iconst (pc := 311) g (1) dL_acts_311 (by decide) ?_
                  refine j_iadd (pc := 312) g dL_acts_312 ?_
                  refine j_wr (pc := 313) g hr 3 (by decide) (c) dL_acts_313 (rfl) (by show c < 16; omega) (fun M hr => ?_)
                  obtain ⟨R2, S2, hr, ht2, eS2⟩ : ∃ R2 S2, LR M Mx ra R2 ∧ tie n0 S2 R2 d ns nd ∧ S2 = nLearn S (nI (c / 4)) (nI (c % 4)) := ⟨_, _, hr, ht.learn h16 (by omega) (c_ix h16), rfl⟩
                  refine j_iload (pc := 314) g dL_acts_314 rfl ?_
                  refine j_iconst (pc := 316) g (4) dL_acts_316 (by decide) ?_
                  refine j_idiv (pc := 317) g dL_acts_317 (by decide) ?_
                  refine j_topi (nI (c / 4)) (pk_div (d := 4) (by omega) (by omega) (by omega)) ?_
                  refine j_iconst (pc := 318) g (4) dL_acts_318 (by decide) ?_
                  refine j_imul (pc := 319) g dL_acts_319 ?_
                  refine j_topi (nI (4 * (c / 4) + 0)) (by rw [lit_4, pk_mul, Nat.mul_comm, Nat.add_zero]) ?_
                  refine istore_13_12 (pc := 320) g dL_acts_320 ?_
                  have L322 : ∀ (n : Nat) (kk : Nat) (hkn : kk + n = 4), J X 13 0 0 (M) [some (.ref x), some (.ref (ra 0)), some (.ref (ra 1)), some (.ref (ra 2)), some (.ref (ra 3)), some (.ref (ra 4)), some (.int a0), some (.int b0), some (.int (nI kd)), some (.int (nI c)), some (.int 0), some (.int (cntL S2 (c / 4) kk)), some (.int (nI (4 * (c / 4) + kk)))] [] 322 := by
                    intro n
                    induction n with
                    | zero =>
                      intro kk hkn
                      obtain rfl : kk = 4 := by omega
                      refine j_iload (pc := 322) g dL_acts_322 rfl ?_
                      refine j_iload (pc := 324) g dL_acts_324 rfl ?_
                      refine j_iconst (pc := 326) g (4) dL_acts_326 (by decide) ?_
                      refine j_idiv (pc := 327) g dL_acts_327 (by decide) ?_
                      refine j_topi (nI (c / 4)) (pk_div (d := 4) (by omega) (by omega) (by omega)) ?_
                      refine j_iconst (pc := 328) g (4) dL_acts_328 (by decide) ?_
                      refine j_imul (pc := 329) g dL_acts_329 ?_
                      refine j_topi (nI (4 * (c / 4))) (by rw [lit_4, pk_mul, Nat.mul_comm]) ?_
                      refine j_iconst (pc := 330) g (4) dL_acts_330 (by decide) ?_
                      refine j_iadd (pc := 331) g dL_acts_331 ?_
                      refine j_topi (nI (4 * (c / 4) + 4)) (nI_add _ 4) ?_
                      refine j_icmp_ge (pc := 332) g 359 dL_acts_332 (by decide) (fun c332 => ?_) (fun c332 => absurd (nI_le (by omega) (by omega)) c332)
                      refine j_aload_n (pc := 359) g 0 dL_acts_359 rfl rfl ?_
                      refine j_iload (pc := 360) g dL_acts_360 rfl ?_
                      refine j_iconst (pc := 362) g (4) dL_acts_362 (by decide) ?_
                      refine j_idiv (pc := 363) g dL_acts_363 (by decide) ?_
                      refine j_topi (nI (c / 4)) (pk_div (d := 4) (by omega) (by omega) (by omega)) ?_
                      refine j_iload (pc := 364) g dL_acts_364 rfl ?_
                      refine j_iconst (pc := 366) g (4) dL_acts_366 (by decide) ?_
                      refine j_irem (pc := 367) g dL_acts_367 (by decide) ?_
                      refine j_topi (nI (c % 4)) (pk_rem (d := 4) (by omega) (by omega) (by omega)) ?_
                      refine j_cW (pc := 368) (n := 3) g t0 hr (w_learn (jl X) (jD X) hst Mx x al S d ns nd hc hk (nI (c / 4)) (nI (c % 4))) dL_acts_368 gL_acts_L_learn rfl rfl rfl rfl ⟨by decide, by decide, by decide +kernel⟩ ⟨Nat.le_of_ble_eq_true rfl, Nat.le_of_ble_eq_true rfl⟩ ⟨by show _ ≤ 73; omega, by show _ ≤ 317; omega⟩ rfl (Nat.le_of_ble_eq_true rfl) (fun v Mx M hp hr => ?_)
                      obtain ⟨rfl, al, hc⟩ := hp.ok (tl_0 h16 e11)
                      show J X 13 _ _ _ _ [.int (cntL (nLearn S (nI (c / 4)) (nI (c % 4))) (ix (nI (c / 4))) 4)] (368 + 3)
                      refine j_iload (pc := 371) g dL_acts_371 rfl ?_
                      refine j_if_eq (pc := 373) g 381 dL_acts_373 (by decide) (fun c373 => ?_) (fun c373 => absurd rfl c373)
                      refine j_iload (pc := 381) g dL_acts_381 rfl ?_
                      refine j_icmp_ne (pc := 383) g 390 dL_acts_383 (by decide) (fun c383 => absurd c383 (not_not_intro (by rw [eS2, show ix (nI (c / 4)) = c / 4 from ix_nI (by omega)]))) (fun c383 => ?_)
                      refine j_iconst (pc := 386) g (1) dL_acts_386 (by decide) ?_
                      refine j_goto (pc := 387) g 391 dL_acts_387 (by decide) ?_
                      exact j_iret (pc := 391) g r rfl rfl (⟨rfl, _, _, _, _, _, _, _, hr, hc, ok_learn hk, by rw [eS2] at ht2; exact ht2.up⟩) dL_acts_391 (by omega) (by omega)
                    | succ n ih =>
                      intro kk hkn
                      refine j_iload (pc := 322) g dL_acts_322 rfl ?_
                      refine j_iload (pc := 324) g dL_acts_324 rfl ?_
                      refine j_iconst (pc := 326) g (4) dL_acts_326 (by decide) ?_
                      refine j_idiv (pc := 327) g dL_acts_327 (by decide) ?_
                      refine j_topi (nI (c / 4)) (pk_div (d := 4) (by omega) (by omega) (by omega)) ?_
                      refine j_iconst (pc := 328) g (4) dL_acts_328 (by decide) ?_
                      refine j_imul (pc := 329) g dL_acts_329 ?_
                      refine j_topi (nI (4 * (c / 4))) (by rw [lit_4, pk_mul, Nat.mul_comm]) ?_
                      refine j_iconst (pc := 330) g (4) dL_acts_330 (by decide) ?_
                      refine j_iadd (pc := 331) g dL_acts_331 ?_
                      refine j_topi (nI (4 * (c / 4) + 4)) (nI_add _ 4) ?_
                      refine j_icmp_ge (pc := 332) g 359 dL_acts_332 (by decide) (fun c332 => absurd c332 (nI_ge (by omega) (by omega))) (fun c332 => ?_)
                      refine j_iload (pc := 335) g dL_acts_335 rfl ?_
                      refine j_aload (pc := 337) g dL_acts_337 rfl ?_
                      refine j_iload (pc := 339) g dL_acts_339 rfl ?_
                      refine j_rd (pc := 341) g hr 3 (by decide) (4 * (c / 4) + kk) (S2 11 (4 * (c / 4) + kk) + 1) dL_acts_341 (rfl) (by show 4 * (c / 4) + kk < 16; omega) (ht2.2.2.2.1 _ (by omega)) ?_
                      refine j_if_le (pc := 342) g 349 dL_acts_342 (by decide) (fun c342 => ?_) (fun c342 => ?_)
                      · refine j_iconst (pc := 349) g (0) dL_acts_349 (by decide) ?_
                        refine j_iadd (pc := 350) g dL_acts_350 ?_
                        refine j_topi (cntL S2 (c / 4) (kk + 1)) (by have q := le_m1 (ht2.2.2.2.2.2.2.2.2.1 (4 * (c / 4) + kk) (by omega)); rw [cntL]; first | rw [if_pos (q.mp c342)] | rw [if_neg (fun z => c342 (q.mpr z))]) ?_
                        refine istore_13_11 (pc := 351) g dL_acts_351 ?_
                        refine iinc_13_12_1 (pc := 353) g dL_acts_353 ?_
                        refine j_goto (pc := 356) g 322 dL_acts_356 (by decide) ?_
                        have q9 := ih (kk + 1) (by omega)
                        rw [← Nat.add_assoc, ← nI_1 (4 * (c / 4) + kk)] at q9
                        exact q9
                      · refine j_iconst (pc := 345) g (1) dL_acts_345 (by decide) ?_
                        refine j_goto (pc := 346) g 350 dL_acts_346 (by decide) ?_
                        refine j_iadd (pc := 350) g dL_acts_350 ?_
                        refine j_topi (cntL S2 (c / 4) (kk + 1)) (by have q := le_m1 (ht2.2.2.2.2.2.2.2.2.1 (4 * (c / 4) + kk) (by omega)); rw [cntL]; first | rw [if_pos (q.mp c342)] | rw [if_neg (fun z => c342 (q.mpr z))]) ?_
                        refine istore_13_11 (pc := 351) g dL_acts_351 ?_
                        refine iinc_13_12_1 (pc := 353) g dL_acts_353 ?_
                        refine j_goto (pc := 356) g 322 dL_acts_356 (by decide) ?_
                        have q9 := ih (kk + 1) (by omega)
                        rw [← Nat.add_assoc, ← nI_1 (4 * (c / 4) + kk)] at q9
                        exact q9
                  exact L322 4 0 (by omega)
                · have e0 := fun z => e11 ((le_m1 (ht.2.2.2.2.2.2.2.2.1 c h16)).mp z)
                  refine j_aload (pc := 273) g dL_acts_273 rfl ?_
                  refine j_iload (pc := 275) g dL_acts_275 rfl ?_
                  refine j_rd (pc := 277) g hr 3 (by decide) (c) (S 11 c + 1) dL_acts_277 (rfl) (by show c < 16; omega) (ht.2.2.2.1 c h16) ?_
                  refine j_if_le (pc := 278) g 285 dL_acts_278 (by decide) (fun c278 => absurd c278 e0) (fun c278 => ?_)
                  refine j_iconst (pc := 281) g (1) dL_acts_281 (by decide) ?_
                  refine j_goto (pc := 282) g 286 dL_acts_282 (by decide) ?_
                  refine istore_13_10 (pc := 286) g dL_acts_286 ?_
                  refine j_iconst (pc := 288) g (0) dL_acts_288 (by decide) ?_
                  refine istore_13_11 (pc := 289) g dL_acts_289 ?_
                  refine j_aload (pc := 291) g dL_acts_291 rfl ?_
                  refine j_iload (pc := 293) g dL_acts_293 rfl ?_
                  refine j_iload (pc := 295) g dL_acts_295 rfl ?_
                  refine j_if_eq (pc := 297) g 308 dL_acts_297 (by decide) (fun c297 => absurd c297 (by decide)) (fun c297 => ?_)
                  refine j_aload (pc := 300) g dL_acts_300 rfl ?_
                  refine j_iload (pc := 302) g dL_acts_302 rfl ?_
                  refine j_rd (pc := 304) g hr 3 (by decide) (c) (S 11 c + 1) dL_acts_304 (rfl) (by show c < 16; omega) (ht.2.2.2.1 c h16) ?_
                  refine j_goto (pc := 305) g 313 dL_acts_305 (by decide) ?_
                  refine j_wr (pc := 313) g hr 3 (by decide) (c) dL_acts_313 (rfl) (by show c < 16; omega) (fun M hr => ?_)
                  obtain ⟨R2, S2, hr, ht2, eS2⟩ : ∃ R2 S2, LR M Mx ra R2 ∧ tie n0 S2 R2 d ns nd ∧ S2 = S := ⟨_, _, hr, ht.r3 (ht.2.2.2.1 c h16), rfl⟩
                  refine j_iload (pc := 314) g dL_acts_314 rfl ?_
                  refine j_iconst (pc := 316) g (4) dL_acts_316 (by decide) ?_
                  refine j_idiv (pc := 317) g dL_acts_317 (by decide) ?_
                  refine j_topi (nI (c / 4)) (pk_div (d := 4) (by omega) (by omega) (by omega)) ?_
                  refine j_iconst (pc := 318) g (4) dL_acts_318 (by decide) ?_
                  refine j_imul (pc := 319) g dL_acts_319 ?_
                  refine j_topi (nI (4 * (c / 4) + 0)) (by rw [lit_4, pk_mul, Nat.mul_comm, Nat.add_zero]) ?_
                  refine istore_13_12 (pc := 320) g dL_acts_320 ?_
                  have L322 : ∀ (n : Nat) (kk : Nat) (hkn : kk + n = 4), J X 13 0 0 (M) [some (.ref x), some (.ref (ra 0)), some (.ref (ra 1)), some (.ref (ra 2)), some (.ref (ra 3)), some (.ref (ra 4)), some (.int a0), some (.int b0), some (.int (nI kd)), some (.int (nI c)), some (.int 1), some (.int (cntL S2 (c / 4) kk)), some (.int (nI (4 * (c / 4) + kk)))] [] 322 := by
                    intro n
                    induction n with
                    | zero =>
                      intro kk hkn
                      obtain rfl : kk = 4 := by omega
                      refine j_iload (pc := 322) g dL_acts_322 rfl ?_
                      refine j_iload (pc := 324) g dL_acts_324 rfl ?_
                      refine j_iconst (pc := 326) g (4) dL_acts_326 (by decide) ?_
                      refine j_idiv (pc := 327) g dL_acts_327 (by decide) ?_
                      refine j_topi (nI (c / 4)) (pk_div (d := 4) (by omega) (by omega) (by omega)) ?_
                      refine j_iconst (pc := 328) g (4) dL_acts_328 (by decide) ?_
                      refine j_imul (pc := 329) g dL_acts_329 ?_
                      refine j_topi (nI (4 * (c / 4))) (by rw [lit_4, pk_mul, Nat.mul_comm]) ?_
                      refine j_iconst (pc := 330) g (4) dL_acts_330 (by decide) ?_
                      refine j_iadd (pc := 331) g dL_acts_331 ?_
                      refine j_topi (nI (4 * (c / 4) + 4)) (nI_add _ 4) ?_
                      refine j_icmp_ge (pc := 332) g 359 dL_acts_332 (by decide) (fun c332 => ?_) (fun c332 => absurd (nI_le (by omega) (by omega)) c332)
                      refine j_aload_n (pc := 359) g 0 dL_acts_359 rfl rfl ?_
                      refine j_iload (pc := 360) g dL_acts_360 rfl ?_
                      refine j_iconst (pc := 362) g (4) dL_acts_362 (by decide) ?_
                      refine j_idiv (pc := 363) g dL_acts_363 (by decide) ?_
                      refine j_topi (nI (c / 4)) (pk_div (d := 4) (by omega) (by omega) (by omega)) ?_
                      refine j_iload (pc := 364) g dL_acts_364 rfl ?_
                      refine j_iconst (pc := 366) g (4) dL_acts_366 (by decide) ?_
                      refine j_irem (pc := 367) g dL_acts_367 (by decide) ?_
                      refine j_topi (nI (c % 4)) (pk_rem (d := 4) (by omega) (by omega) (by omega)) ?_
                      refine j_cW (pc := 368) (n := 3) g t0 hr (w_learn (jl X) (jD X) hst Mx x al S d ns nd hc hk (nI (c / 4)) (nI (c % 4))) dL_acts_368 gL_acts_L_learn rfl rfl rfl rfl ⟨by decide, by decide, by decide +kernel⟩ ⟨Nat.le_of_ble_eq_true rfl, Nat.le_of_ble_eq_true rfl⟩ ⟨by show _ ≤ 73; omega, by show _ ≤ 317; omega⟩ rfl (Nat.le_of_ble_eq_true rfl) (fun v Mx M hp hr => ?_)
                      obtain ⟨rfl, al, hc⟩ := hp.no2 (tl_2 h16 e11)
                      show J X 13 _ _ _ _ [.int (-1000003)] (368 + 3)
                      refine j_iload (pc := 371) g dL_acts_371 rfl ?_
                      refine j_if_eq (pc := 373) g 381 dL_acts_373 (by decide) (fun c373 => absurd c373 (by decide)) (fun c373 => ?_)
                      refine j_ldci (pc := 376) g (-1000003) dL_acts_376 (by decide +kernel) ?_
                      refine j_goto (pc := 378) g 383 dL_acts_378 (by decide) ?_
                      refine j_icmp_ne (pc := 383) g 390 dL_acts_383 (by decide) (fun c383 => absurd c383 (not_not_intro rfl)) (fun c383 => ?_)
                      refine j_iconst (pc := 386) g (1) dL_acts_386 (by decide) ?_
                      refine j_goto (pc := 387) g 391 dL_acts_387 (by decide) ?_
                      exact j_iret (pc := 391) g r rfl rfl (⟨rfl, _, _, _, _, _, _, _, hr, hc, hk, by rw [eS2] at ht2; exact ht2.up⟩) dL_acts_391 (by omega) (by omega)
                    | succ n ih =>
                      intro kk hkn
                      refine j_iload (pc := 322) g dL_acts_322 rfl ?_
                      refine j_iload (pc := 324) g dL_acts_324 rfl ?_
                      refine j_iconst (pc := 326) g (4) dL_acts_326 (by decide) ?_
                      refine j_idiv (pc := 327) g dL_acts_327 (by decide) ?_
                      refine j_topi (nI (c / 4)) (pk_div (d := 4) (by omega) (by omega) (by omega)) ?_
                      refine j_iconst (pc := 328) g (4) dL_acts_328 (by decide) ?_
                      refine j_imul (pc := 329) g dL_acts_329 ?_
                      refine j_topi (nI (4 * (c / 4))) (by rw [lit_4, pk_mul, Nat.mul_comm]) ?_
                      refine j_iconst (pc := 330) g (4) dL_acts_330 (by decide) ?_
                      refine j_iadd (pc := 331) g dL_acts_331 ?_
                      refine j_topi (nI (4 * (c / 4) + 4)) (nI_add _ 4) ?_
                      refine j_icmp_ge (pc := 332) g 359 dL_acts_332 (by decide) (fun c332 => absurd c332 (nI_ge (by omega) (by omega))) (fun c332 => ?_)
                      refine j_iload (pc := 335) g dL_acts_335 rfl ?_
                      refine j_aload (pc := 337) g dL_acts_337 rfl ?_
                      refine j_iload (pc := 339) g dL_acts_339 rfl ?_
                      refine j_rd (pc := 341) g hr 3 (by decide) (4 * (c / 4) + kk) (S2 11 (4 * (c / 4) + kk) + 1) dL_acts_341 (rfl) (by show 4 * (c / 4) + kk < 16; omega) (ht2.2.2.2.1 _ (by omega)) ?_
                      refine j_if_le (pc := 342) g 349 dL_acts_342 (by decide) (fun c342 => ?_) (fun c342 => ?_)
                      · refine j_iconst (pc := 349) g (0) dL_acts_349 (by decide) ?_
                        refine j_iadd (pc := 350) g dL_acts_350 ?_
                        refine j_topi (cntL S2 (c / 4) (kk + 1)) (by have q := le_m1 (ht2.2.2.2.2.2.2.2.2.1 (4 * (c / 4) + kk) (by omega)); rw [cntL]; first | rw [if_pos (q.mp c342)] | rw [if_neg (fun z => c342 (q.mpr z))]) ?_
                        refine istore_13_11 (pc := 351) g dL_acts_351 ?_
                        refine iinc_13_12_1 (pc := 353) g dL_acts_353 ?_
                        refine j_goto (pc := 356) g 322 dL_acts_356 (by decide) ?_
                        have q9 := ih (kk + 1) (by omega)
                        rw [← Nat.add_assoc, ← nI_1 (4 * (c / 4) + kk)] at q9
                        exact q9
                      · refine j_iconst (pc := 345) g (1) dL_acts_345 (by decide) ?_
                        refine j_goto (pc := 346) g 350 dL_acts_346 (by decide) ?_
                        refine j_iadd (pc := 350) g dL_acts_350 ?_
                        refine j_topi (cntL S2 (c / 4) (kk + 1)) (by have q := le_m1 (ht2.2.2.2.2.2.2.2.2.1 (4 * (c / 4) + kk) (by omega)); rw [cntL]; first | rw [if_pos (q.mp c342)] | rw [if_neg (fun z => c342 (q.mpr z))]) ?_
                        refine istore_13_11 (pc := 351) g dL_acts_351 ?_
                        refine iinc_13_12_1 (pc := 353) g dL_acts_353 ?_
                        refine j_goto (pc := 356) g 322 dL_acts_356 (by decide) ?_
                        have q9 := ih (kk + 1) (by omega)
                        rw [← Nat.add_assoc, ← nI_1 (4 * (c / 4) + kk)] at q9
                        exact q9
                  exact L322 4 0 (by omega)
            · refine j_aload_n (pc := 209) g 0 dL_acts_209 rfl rfl ?_
              refine j_iload (pc := 210) g dL_acts_210 rfl ?_
              refine j_iconst (pc := 212) g (4) dL_acts_212 (by decide) ?_
              refine j_callS (pc := 213) (n := 2) g (c_low (jl X) (jD X) _ _ 4 (by omega) (by omega)) dL_acts_213 gL_acts_L_low rfl rfl rfl rfl ⟨by decide, by decide, by decide +kernel⟩ ⟨Nat.le_of_ble_eq_true rfl, Nat.le_of_ble_eq_true rfl⟩ ⟨by show _ ≤ 73; omega, by show _ ≤ 317; omega⟩ rfl (Nat.le_of_ble_eq_true rfl) (fun v M1 hp => ?_)
              obtain ⟨s7, hs7, rfl, rfl⟩ := hp
              show J X 13 _ _ _ _ [.int (nI s7), .ref x] (213 + 3)
              refine j_iload (pc := 216) g dL_acts_216 rfl ?_
              refine j_iconst (pc := 218) g (2) dL_acts_218 (by decide) ?_
              refine j_ishr (pc := 219) g dL_acts_219 ?_
              refine j_bipush (pc := 220) g (101) dL_acts_220 (by decide) ?_
              refine j_callS (pc := 222) (n := 2) g (c_low (jl X) (jD X) _ _ 101 (by omega) (by omega)) dL_acts_222 gL_acts_L_low rfl rfl rfl rfl ⟨by decide, by decide, by decide +kernel⟩ ⟨Nat.le_of_ble_eq_true rfl, Nat.le_of_ble_eq_true rfl⟩ ⟨by show _ ≤ 73; omega, by show _ ≤ 317; omega⟩ rfl (Nat.le_of_ble_eq_true rfl) (fun v M1 hp => ?_)
              obtain ⟨w1, hw1, rfl, rfl⟩ := hp
              show J X 13 _ _ _ _ [.int (nI w1), .int (nI s7), .ref x] (222 + 3)
              refine j_iload (pc := 225) g dL_acts_225 rfl ?_
              refine j_bipush (pc := 227) g (9) dL_acts_227 (by decide) ?_
              refine j_ishr (pc := 229) g dL_acts_229 ?_
              refine j_bipush (pc := 230) g (101) dL_acts_230 (by decide) ?_
              refine j_callS (pc := 232) (n := 2) g (c_low (jl X) (jD X) _ _ 101 (by omega) (by omega)) dL_acts_232 gL_acts_L_low rfl rfl rfl rfl ⟨by decide, by decide, by decide +kernel⟩ ⟨Nat.le_of_ble_eq_true rfl, Nat.le_of_ble_eq_true rfl⟩ ⟨by show _ ≤ 73; omega, by show _ ≤ 317; omega⟩ rfl (Nat.le_of_ble_eq_true rfl) (fun v M1 hp => ?_)
              obtain ⟨w2, hw2, rfl, rfl⟩ := hp
              show J X 13 _ _ _ _ [.int (nI w2), .int (nI w1), .int (nI s7), .ref x] (232 + 3)
              refine j_iload (pc := 235) g dL_acts_235 rfl ?_
              refine j_bipush (pc := 237) g (16) dL_acts_237 (by decide) ?_
              refine j_ishr (pc := 239) g dL_acts_239 ?_
              refine j_bipush (pc := 240) g (101) dL_acts_240 (by decide) ?_
              refine j_callS (pc := 242) (n := 2) g (c_low (jl X) (jD X) _ _ 101 (by omega) (by omega)) dL_acts_242 gL_acts_L_low rfl rfl rfl rfl ⟨by decide, by decide, by decide +kernel⟩ ⟨Nat.le_of_ble_eq_true rfl, Nat.le_of_ble_eq_true rfl⟩ ⟨by show _ ≤ 73; omega, by show _ ≤ 317; omega⟩ rfl (Nat.le_of_ble_eq_true rfl) (fun v M1 hp => ?_)
              obtain ⟨w3, hw3, rfl, rfl⟩ := hp
              show J X 13 _ _ _ _ [.int (nI w3), .int (nI w2), .int (nI w1), .int (nI s7), .ref x] (242 + 3)
              refine j_cW (pc := 245) (n := 5) g t0 hr (w_style (jl X) (jD X) hst Mx x al S d ns nd hc hk (nI s7) (nI w1) (nI w2) (nI w3)) dL_acts_245 gL_acts_L_style rfl rfl rfl rfl ⟨by decide, by decide, by decide +kernel⟩ ⟨Nat.le_of_ble_eq_true rfl, Nat.le_of_ble_eq_true rfl⟩ ⟨by show _ ≤ 73; omega, by show _ ≤ 317; omega⟩ rfl (Nat.le_of_ble_eq_true rfl) (fun v Mx M hp hr => ?_)
              obtain ⟨rfl, al, hc⟩ := hp.ok (ts7 hs7 hw1 hw2 hw3)
              show J X 13 _ _ _ _ [.int 0] (245 + 3)
              refine j_if_ne (pc := 248) g 255 dL_acts_248 (by decide) (fun c248 => absurd c248 (not_not_intro rfl)) (fun c248 => ?_)
              refine j_iconst (pc := 251) g (1) dL_acts_251 (by decide) ?_
              refine j_goto (pc := 252) g 256 dL_acts_252 (by decide) ?_
              exact j_iret (pc := 256) g r rfl rfl (⟨rfl, _, _, _, _, _, _, _, hr, hc, ok_style hk (ts7 hs7 hw1 hw2 hw3), ht.style.up⟩) dL_acts_256 (by omega) (by omega)
          · refine j_iload (pc := 101) g dL_acts_101 rfl ?_
            refine j_iconst (pc := 103) g (3) dL_acts_103 (by decide) ?_
            refine j_callS (pc := 104) (n := 2) g (c_low (jl X) (jD X) _ _ 3 (by omega) (by omega)) dL_acts_104 gL_acts_L_low rfl rfl rfl rfl ⟨by decide, by decide, by decide +kernel⟩ ⟨Nat.le_of_ble_eq_true rfl, Nat.le_of_ble_eq_true rfl⟩ ⟨by show _ ≤ 73; omega, by show _ ≤ 317; omega⟩ rfl (Nat.le_of_ble_eq_true rfl) (fun v M1 hp => ?_)
            obtain ⟨pp, hpp, rfl, rfl⟩ := hp
            show J X 13 _ _ _ _ [.int (nI pp)] (104 + 3)
            refine istore_13_9 (pc := 107) g dL_acts_107 ?_
            refine j_iconst (pc := 109) g (1) dL_acts_109 (by decide) ?_
            refine j_iload (pc := 110) g dL_acts_110 rfl ?_
            refine j_iconst (pc := 112) g (2) dL_acts_112 (by decide) ?_
            refine j_ishr (pc := 113) g dL_acts_113 ?_
            refine j_bipush (pc := 114) g (15) dL_acts_114 (by decide) ?_
            refine j_callS (pc := 116) (n := 2) g (c_low (jl X) (jD X) _ _ 15 (by omega) (by omega)) dL_acts_116 gL_acts_L_low rfl rfl rfl rfl ⟨by decide, by decide, by decide +kernel⟩ ⟨Nat.le_of_ble_eq_true rfl, Nat.le_of_ble_eq_true rfl⟩ ⟨by show _ ≤ 73; omega, by show _ ≤ 317; omega⟩ rfl (Nat.le_of_ble_eq_true rfl) (fun v M1 hp => ?_)
            obtain ⟨t, h9, rfl, rfl⟩ := hp
            show J X 13 _ _ _ _ [.int (nI t), .int 1] (116 + 3)
            refine j_iadd (pc := 119) g dL_acts_119 ?_
            refine j_topi (nI (1 + t)) (nI_add 1 t) ?_
            refine istore_13_10 (pc := 120) g dL_acts_120 ?_
            refine j_aload_n (pc := 122) g 3 dL_acts_122 rfl rfl ?_
            refine j_iconst (pc := 123) g (3) dL_acts_123 (by decide) ?_
            refine j_iload (pc := 124) g dL_acts_124 rfl ?_
            refine j_imul (pc := 126) g dL_acts_126 ?_
            refine j_dup2 (pc := 127) g dL_acts_127 rfl rfl ?_
            refine j_rd (pc := 128) g hr 2 (by decide) (3 * pp) (S 6 pp) dL_acts_128 (lx_m 3 rfl) (by show 3 * pp + 0 < 9; omega) ((ht.2.2.1 pp hpp).1) ?_
            refine j_iload (pc := 129) g dL_acts_129 rfl ?_
            refine j_iadd (pc := 131) g dL_acts_131 ?_
            refine j_wr (pc := 132) g hr 2 (by decide) (3 * pp) dL_acts_132 (lx_m 3 rfl) (by show 3 * pp + 0 < 9; omega) (fun M hr => ?_)
            refine j_aload_n (pc := 133) g 3 dL_acts_133 rfl rfl ?_
            refine j_iconst (pc := 134) g (3) dL_acts_134 (by decide) ?_
            refine j_iload (pc := 135) g dL_acts_135 rfl ?_
            refine j_imul (pc := 137) g dL_acts_137 ?_
            refine j_iconst (pc := 138) g (2) dL_acts_138 (by decide) ?_
            refine j_iadd (pc := 139) g dL_acts_139 ?_
            refine j_iload (pc := 140) g dL_acts_140 rfl ?_
            refine j_bipush (pc := 142) g (8) dL_acts_142 (by decide) ?_
            refine j_ishr (pc := 144) g dL_acts_144 ?_
            refine j_bipush (pc := 145) g (21) dL_acts_145 (by decide) ?_
            refine j_callS (pc := 147) (n := 2) g (c_low (jl X) (jD X) _ _ 21 (by omega) (by omega)) dL_acts_147 gL_acts_L_low rfl rfl rfl rfl ⟨by decide, by decide, by decide +kernel⟩ ⟨Nat.le_of_ble_eq_true rfl, Nat.le_of_ble_eq_true rfl⟩ ⟨by show _ ≤ 73; omega, by show _ ≤ 317; omega⟩ rfl (Nat.le_of_ble_eq_true rfl) (fun v M1 hp => ?_)
            obtain ⟨b9, hb9, rfl, rfl⟩ := hp
            show J X 13 _ _ _ _ [.int (nI b9), .int (3 * nI pp + 2), .ref (ra 2)] (147 + 3)
            refine j_bipush (pc := 150) g (10) dL_acts_150 (by decide) ?_
            refine j_isub (pc := 152) g dL_acts_152 ?_
            refine j_wr (pc := 153) g hr 2 (by decide) (3 * pp + 2) dL_acts_153 (lx_a (lx_m 3 rfl) (lx_l 2)) (by show 3 * pp + 2 < 9; omega) (fun M hr => ?_)
            refine j_aload_n (pc := 154) g 0 dL_acts_154 rfl rfl ?_
            refine j_iload (pc := 155) g dL_acts_155 rfl ?_
            refine j_iload (pc := 157) g dL_acts_157 rfl ?_
            refine j_cW (pc := 159) (n := 3) g t0 hr (w_buy (jl X) (jD X) hst Mx x al S d ns nd hc hk (nI pp) (nI (1 + t))) dL_acts_159 gL_acts_L_buy rfl rfl rfl rfl ⟨by decide, by decide, by decide +kernel⟩ ⟨Nat.le_of_ble_eq_true rfl, Nat.le_of_ble_eq_true rfl⟩ ⟨by show _ ≤ 73; omega, by show _ ≤ 317; omega⟩ rfl (Nat.le_of_ble_eq_true rfl) (fun v Mx M hp hr => ?_)
            obtain ⟨rfl, al, hc⟩ := hp.ok (tb6 ht (by omega) hpp h9)
            show J X 13 _ _ _ _ [.int (S 6 (ix (nI pp)) + nI (1 + t))] (159 + 3)
            rw [show ix (nI pp) = pp from ix_nI (by omega)]
            refine j_aload_n (pc := 162) g 3 dL_acts_162 rfl rfl ?_
            refine j_iconst (pc := 163) g (3) dL_acts_163 (by decide) ?_
            refine j_iload (pc := 164) g dL_acts_164 rfl ?_
            refine j_imul (pc := 166) g dL_acts_166 ?_
            refine j_rd (pc := 167) g hr 2 (by decide) (3 * pp) (S 6 pp + nI (1 + t)) dL_acts_167 (lx_m 3 rfl) (by show 3 * pp + 0 < 9; omega) ((su_n (by omega)).trans su_s) ?_
            refine j_icmp_ne (pc := 168) g 200 dL_acts_168 (by decide) (fun c168 => absurd c168 (not_not_intro rfl)) (fun c168 => ?_)
            refine j_aload_n (pc := 171) g 0 dL_acts_171 rfl rfl ?_
            refine j_iload (pc := 172) g dL_acts_172 rfl ?_
            refine j_aload_n (pc := 174) g 3 dL_acts_174 rfl rfl ?_
            refine j_iconst (pc := 175) g (3) dL_acts_175 (by decide) ?_
            refine j_iload (pc := 176) g dL_acts_176 rfl ?_
            refine j_imul (pc := 178) g dL_acts_178 ?_
            refine j_iconst (pc := 179) g (2) dL_acts_179 (by decide) ?_
            refine j_iadd (pc := 180) g dL_acts_180 ?_
            refine j_rd (pc := 181) g hr 2 (by decide) (3 * pp + 2) (nI b9 - 10) dL_acts_181 (lx_a (lx_m 3 rfl) (lx_l 2)) (by show 3 * pp + 2 < 9; omega) (su_s) ?_
            refine j_cW (pc := 182) (n := 3) g t0 hr (w_rise (jl X) (jD X) hst Mx x al (nBuy S (nI pp) (nI (1 + t))) d ns nd hc (ok_buy hk) (nI pp) (nI b9 - 10)) dL_acts_182 gL_acts_L_rise rfl rfl rfl rfl ⟨by decide, by decide, by decide +kernel⟩ ⟨Nat.le_of_ble_eq_true rfl, Nat.le_of_ble_eq_true rfl⟩ ⟨by show _ ≤ 73; omega, by show _ ≤ 317; omega⟩ rfl (Nat.le_of_ble_eq_true rfl) (fun v Mx M hp hr => ?_)
            obtain ⟨rfl, al, hc⟩ := hp.ok (tr6 hpp hb9)
            show J X 13 _ _ _ _ [.int (nBuy S (nI pp) (nI (1 + t)) 7 (ix (nI pp)))] (182 + 3)
            rw [nb7 hpp]
            refine j_aload_n (pc := 185) g 3 dL_acts_185 rfl rfl ?_
            refine j_iconst (pc := 186) g (3) dL_acts_186 (by decide) ?_
            refine j_iload (pc := 187) g dL_acts_187 rfl ?_
            refine j_imul (pc := 189) g dL_acts_189 ?_
            refine j_iconst (pc := 190) g (1) dL_acts_190 (by decide) ?_
            refine j_iadd (pc := 191) g dL_acts_191 ?_
            refine j_rd (pc := 192) g hr 2 (by decide) (3 * pp + 1) (S 7 pp) dL_acts_192 (lx_a (lx_m 3 rfl) (lx_l 1)) (by show 3 * pp + 1 < 9; omega) ((su_n (by omega)).trans ((su_n (by omega)).trans (ht.2.2.1 pp hpp).2.1)) ?_
            refine j_icmp_ne (pc := 193) g 200 dL_acts_193 (by decide) (fun c193 => absurd c193 (not_not_intro rfl)) (fun c193 => ?_)
            refine j_iconst (pc := 196) g (1) dL_acts_196 (by decide) ?_
            refine j_goto (pc := 197) g 201 dL_acts_197 (by decide) ?_
            exact j_iret (pc := 201) g r rfl rfl (⟨rfl, _, _, _, _, _, _, _, hr, hc, ok_rise (ok_buy hk) (tr6 hpp hb9), ht.buy hpp (rg6 h9) (by omega)⟩) dL_acts_201 (by omega) (by omega)
        · refine j_aload_n (pc := 85) g 0 dL_acts_85 rfl rfl ?_
          refine j_aload_n (pc := 86) g 1 dL_acts_86 rfl rfl ?_
          refine j_aload_n (pc := 87) g 3 dL_acts_87 rfl rfl ?_
          refine j_iload (pc := 88) g dL_acts_88 rfl ?_
          refine j_callSV (pc := 90) (n := 4) g t0 (h_days (jl X) (jD X) hst hr hc hk ht (by omega) _) dL_acts_90 gL_acts_L_days rfl rfl rfl rfl ⟨by decide, by decide, by decide +kernel⟩ ⟨Nat.le_of_ble_eq_true rfl, Nat.le_of_ble_eq_true rfl⟩ ⟨by show _ ≤ 73; omega, by show _ ≤ 317; omega⟩ rfl (Nat.le_of_ble_eq_true rfl) (fun v M hp => ?_)
          obtain ⟨rfl, R, S, d, ns, nd, Mx, al, hr, hc, hk, ht⟩ := hp
          show J X 13 _ _ _ _ [.int 1] (90 + 3)
          exact j_iret (pc := 93) g r rfl rfl (⟨rfl, _, _, _, _, _, _, _, hr, hc, hk, by first | exact ht | exact ht.up⟩) dL_acts_93 (by omega) (by omega)
      · refine j_aload_n (pc := 65) g 0 dL_acts_65 rfl rfl ?_
        refine j_aload_n (pc := 66) g 1 dL_acts_66 rfl rfl ?_
        refine j_aload (pc := 67) g dL_acts_67 rfl ?_
        refine j_iload (pc := 69) g dL_acts_69 rfl ?_
        refine j_iconst (pc := 71) g (4) dL_acts_71 (by decide) ?_
        refine j_ishr (pc := 72) g dL_acts_72 ?_
        refine j_iload (pc := 73) g dL_acts_73 rfl ?_
        refine j_callSV (pc := 75) (n := 5) g t0 (h_duels (jl X) (jD X) hst hr hc hk ht _ _) dL_acts_75 gL_acts_L_duels rfl rfl rfl rfl ⟨by decide, by decide, by decide +kernel⟩ ⟨Nat.le_of_ble_eq_true rfl, Nat.le_of_ble_eq_true rfl⟩ ⟨by show _ ≤ 73; omega, by show _ ≤ 317; omega⟩ rfl (Nat.le_of_ble_eq_true rfl) (fun v M hp => ?_)
        obtain ⟨rfl, R, S, d, ns, nd, Mx, al, hr, hc, hk, ht⟩ := hp
        show J X 13 _ _ _ _ [.int 1] (75 + 3)
        exact j_iret (pc := 78) g r rfl rfl (⟨rfl, _, _, _, _, _, _, _, hr, hc, hk, by first | exact ht | exact ht.up⟩) dL_acts_78 (by omega) (by omega)
    · refine j_aload_n (pc := 52) g 0 dL_acts_52 rfl rfl ?_
      refine j_aload_n (pc := 53) g 1 dL_acts_53 rfl rfl ?_
      refine j_aload_n (pc := 54) g 2 dL_acts_54 rfl rfl ?_
      refine j_callSV (pc := 55) (n := 3) g t0 (h_signs (jl X) (jD X) hst hr hc hk ht) dL_acts_55 gL_acts_L_signs rfl rfl rfl rfl ⟨by decide, by decide, by decide +kernel⟩ ⟨Nat.le_of_ble_eq_true rfl, Nat.le_of_ble_eq_true rfl⟩ ⟨by show _ ≤ 73; omega, by show _ ≤ 317; omega⟩ rfl (Nat.le_of_ble_eq_true rfl) (fun v M hp => ?_)
      obtain ⟨rfl, R, S, d, ns, ⟨Mx, al, hr, hc, hk, ht⟩, -⟩ := hp
      show J X 13 _ _ _ _ [.int 1] (55 + 3)
      exact j_iret (pc := 58) g r rfl rfl (⟨rfl, _, _, _, _, _, _, _, hr, hc, hk, by first | exact ht | exact ht.up⟩) dL_acts_58 (by omega) (by omega)
  · refine j_aload_n (pc := 15) g 0 dL_acts_15 rfl rfl ?_
    refine j_aload_n (pc := 16) g 1 dL_acts_16 rfl rfl ?_
    refine j_iload (pc := 17) g dL_acts_17 rfl ?_
    refine j_iconst (pc := 19) g (4) dL_acts_19 (by decide) ?_
    refine j_ishr (pc := 20) g dL_acts_20 ?_
    refine j_iload (pc := 21) g dL_acts_21 rfl ?_
    refine j_callSV (pc := 23) (n := 4) g t0 (h_drafts (jl X) (jD X) hst hr hc hk ht _ _) dL_acts_23 gL_acts_L_drafts rfl rfl rfl rfl ⟨by decide, by decide, by decide +kernel⟩ ⟨Nat.le_of_ble_eq_true rfl, Nat.le_of_ble_eq_true rfl⟩ ⟨by show _ ≤ 73; omega, by show _ ≤ 317; omega⟩ rfl (Nat.le_of_ble_eq_true rfl) (fun v M hp => ?_)
    obtain ⟨rfl, R, S, d, ⟨Mx, al, hr, hc, hk, ht⟩, -⟩ := hp
    show J X 13 _ _ _ _ [.int 1] (23 + 3)
    refine j_if_eq (pc := 26) g 44 dL_acts_26 (by decide) (fun c26 => absurd c26 (by decide)) (fun c26 => ?_)
    refine j_aload_n (pc := 29) g 0 dL_acts_29 rfl rfl ?_
    refine j_aload_n (pc := 30) g 1 dL_acts_30 rfl rfl ?_
    refine j_aload_n (pc := 31) g 2 dL_acts_31 rfl rfl ?_
    refine j_iload (pc := 32) g dL_acts_32 rfl ?_
    refine j_callSV (pc := 34) (n := 4) g t0 (h_isDraft (jl X) (jD X) hst hr hc hk ht _) dL_acts_34 gL_acts_L_isDraft rfl rfl rfl rfl ⟨by decide, by decide, by decide +kernel⟩ ⟨Nat.le_of_ble_eq_true rfl, Nat.le_of_ble_eq_true rfl⟩ ⟨by show _ ≤ 73; omega, by show _ ≤ 317; omega⟩ rfl (Nat.le_of_ble_eq_true rfl) (fun v M hp => ?_)
    obtain ⟨rfl, Mx, al, hr, hc, hk, ht⟩ := hp
    show J X 13 _ _ _ _ [.int 1] (34 + 3)
    refine j_if_eq (pc := 37) g 44 dL_acts_37 (by decide) (fun c37 => absurd c37 (by decide)) (fun c37 => ?_)
    refine j_iconst (pc := 40) g (1) dL_acts_40 (by decide) ?_
    refine j_goto (pc := 41) g 45 dL_acts_41 (by decide) ?_
    exact j_iret (pc := 45) g r rfl rfl (⟨rfl, _, _, _, _, _, _, _, hr, hc, hk, by first | exact ht | exact ht.up⟩) dL_acts_45 (by omega) (by omega)
