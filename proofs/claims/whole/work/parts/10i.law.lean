



set_option maxHeartbeats 1000000 in
set_option maxRecDepth 100000 in
theorem lc_learn {X : JC} (hst : (jl X).stackTraces = false) (g : jG X cL_law RL wsL_law 8 room_1) (t0 : jE0 X) {b L : Nat} {xs : Nat → Int32} (sc : jS X b L xs) (hL : L ≤ 3584) {x m o od : Nat} {ad : Nat → Nat} (hI : mI m ad) {M : MH} {S : ST} (h : LI M x m o od ad S) {i : Nat} (hi : i + 7 ≤ L) {cells slots : Nat} (hcl : cells + 8 ≤ 601024) (hsl : slots + 28 ≤ 7293034) (k : ∀ M2 S2, LI M2 x m o od ad S2 → J X 8 (cells + 8) (slots + 28) M2 [some (.ref b), some (.ref x), some (.ref m), some (.ref o), some (.ref od), some (.int (nI i)), none, none] [] 1544) : J X 8 cells slots M [some (.ref b), some (.ref x), some (.ref m), some (.ref o), some (.ref od), some (.int (nI i)), none, none] [] 493 := by
  obtain ⟨Mx, al, d, ns, nd, f, fd, hr, hc, hk⟩ := h
  refine j_aload_n (pc := 493) g 1 dL_law_493 rfl rfl ?_
  refine j_aload_n (pc := 494) g 0 dL_law_494 rfl rfl ?_
  refine j_iload (pc := 495) g dL_law_495 rfl ?_
  refine j_iconst (pc := 497) g (1) dL_law_497 (by decide) ?_
  refine j_iadd (pc := 498) g dL_law_498 ?_
  refine j_sld (pc := 499) g sc dL_law_499 (i + 1) (nI_add i 1) (by omega) (by omega) ?_
  refine j_aload_n (pc := 500) g 0 dL_law_500 rfl rfl ?_
  refine j_iload (pc := 501) g dL_law_501 rfl ?_
  refine j_iconst (pc := 503) g (2) dL_law_503 (by decide) ?_
  refine j_iadd (pc := 504) g dL_law_504 ?_
  refine j_sld (pc := 505) g sc dL_law_505 (i + 2) (nI_add i 2) (by omega) (by omega) ?_
  refine j_aload_n (pc := 506) g 3 dL_law_506 rfl rfl ?_
  refine j_callSW (pc := 507) (n := 4) g t0 (w_learn (jl X) (jD X) hst M Mx x m o od ad al S d ns nd f fd hr hc hk (xs (i + 1)) (xs (i + 2))) dL_law_507 gL_law_L_learn rfl rfl rfl rfl ⟨by decide, by decide, by decide +kernel⟩ ⟨Nat.le_of_ble_eq_true rfl, Nat.le_of_ble_eq_true rfl⟩ ⟨by show _ ≤ 601024; omega, by show _ ≤ 7293034; omega⟩ rfl (Nat.le_of_ble_eq_true rfl) (fun v M1 hp => ?_)
  obtain ⟨rfl, Mx1, al1, f1, hr1, h0, h1⟩ := hp
  show J X 8 _ _ _ _ [.int (tLearn S (xs (i + 1)) (xs (i + 2)))] (507 + 3)
  refine istore_8_6 (pc := 510) g dL_law_510 ?_
  refine j_aload_n (pc := 512) g 2 dL_law_512 rfl rfl ?_
  refine j_aload_n (pc := 513) g 0 dL_law_513 rfl rfl ?_
  refine j_iload (pc := 514) g dL_law_514 rfl ?_
  refine j_iconst (pc := 516) g (1) dL_law_516 (by decide) ?_
  refine j_iadd (pc := 517) g dL_law_517 ?_
  refine j_sld (pc := 518) g sc dL_law_518 (i + 1) (nI_add i 1) (by omega) (by omega) ?_
  refine j_aload_n (pc := 519) g 0 dL_law_519 rfl rfl ?_
  refine j_iload (pc := 520) g dL_law_520 rfl ?_
  refine j_iconst (pc := 522) g (2) dL_law_522 (by decide) ?_
  refine j_iadd (pc := 523) g dL_law_523 ?_
  refine j_sld (pc := 524) g sc dL_law_524 (i + 2) (nI_add i 2) (by omega) (by omega) ?_
  refine j_callVG (pc := 525) (n := 2) g (hr1.2.1 _ _ (mM_m _ _ _)) rfl hr1.2.1 (m_learn (jl X) (jD X) m ad hI S  (xs (i + 1)) (xs (i + 2))) dL_law_525 gL_law_X9_learn rfl rfl rfl rfl ⟨rfl, by decide, by decide, by decide +kernel⟩ ⟨Nat.le_of_ble_eq_true rfl, Nat.le_of_ble_eq_true rfl⟩ ⟨by show _ ≤ 601024; omega, by show _ ≤ 7293034; omega⟩ rfl (Nat.le_of_ble_eq_true rfl) (fun v M2 hp hn2 => ?_)
  obtain ⟨rfl, rfl⟩ := hp
  have hr2 := hr1.model (mSt S (tLearn S (xs (i + 1)) (xs (i + 2))) (fun S => nLearn S (xs (i + 1)) (xs (i + 2))))
  show J X 8 _ _ _ _ [.int (mAns (tLearn S (xs (i + 1)) (xs (i + 2))) (cntL (nLearn S (xs (i + 1)) (xs (i + 2))) (ix (xs (i + 1))) 4))] (525 + 3)
  refine istore_8_7 (pc := 528) g dL_law_528 ?_
  refine j_aload_n (pc := 530) g 2 dL_law_530 rfl rfl ?_
  refine j_callVG (pc := 531) (n := 0) g (hr2.2.1 _ _ (mM_m _ _ _)) rfl hr2.2.1 (m_thrown (jl X) (jD X) m ad hI (mSt S (tLearn S (xs (i + 1)) (xs (i + 2))) (fun S => nLearn S (xs (i + 1)) (xs (i + 2))))) dL_law_531 gL_law_X9_thrown rfl rfl rfl rfl ⟨rfl, by decide, by decide, by decide +kernel⟩ ⟨Nat.le_of_ble_eq_true rfl, Nat.le_of_ble_eq_true rfl⟩ ⟨by show _ ≤ 601024; omega, by show _ ≤ 7293034; omega⟩ rfl (Nat.le_of_ble_eq_true rfl) (fun v M3 hp hn3 => ?_)
  obtain ⟨rfl, rfl⟩ := hp
  have hr3 := hr2.model (mSt S (tLearn S (xs (i + 1)) (xs (i + 2))) (fun S => nLearn S (xs (i + 1)) (xs (i + 2))))
  have eT : (mSt S (tLearn S (xs (i + 1)) (xs (i + 2))) (fun S => nLearn S (xs (i + 1)) (xs (i + 2)))) 28 0 = (tLearn S (xs (i + 1)) (xs (i + 2))) := th_28 (fun S => rfl)
  show J X 8 _ _ _ _ [.int ((mSt S (tLearn S (xs (i + 1)) (xs (i + 2))) (fun S => nLearn S (xs (i + 1)) (xs (i + 2)))) 28 0)] (531 + 3)
  refine j_topi (tLearn S (xs (i + 1)) (xs (i + 2))) eT ?_
  refine j_iload (pc := 534) g dL_law_534 rfl ?_
  refine j_icmp_eq (pc := 536) g 541 dL_law_536 (by decide) (fun c536 => ?_) (fun c536 => absurd rfl c536)
  refine j_iload (pc := 541) g dL_law_541 rfl ?_
  refine j_if_ne (pc := 543) g 558 dL_law_543 (by decide) (fun c543 => ?_) (fun c543 => ?_)
  · refine j_goto (pc := 558) g 1544 dL_law_558 (by decide) ?_
    by_cases tz : (tLearn S (xs (i + 1)) (xs (i + 2))) = 0
    · exact j_loc2 (j_room _ _ (by omega) (by omega) (k _ _ (LI.mk hr3 (if_pos tz) ((h0 tz).2.st pr.rf (sf_nb sf28)) (ok_learn (hk.t sf28)))))
    · exact j_loc2 (j_room _ _ (by omega) (by omega) (k _ _ (LI.mk hr3 (if_neg tz) ((h1 tz).st pr.rf sf28) (hk.t sf28))))
  · have em : mAns (tLearn S (xs (i + 1)) (xs (i + 2))) (cntL (nLearn S (xs (i + 1)) (xs (i + 2))) (ix (xs (i + 1))) 4) = (cntL (nLearn S (xs (i + 1)) (xs (i + 2))) (ix (xs (i + 1))) 4) := by rw [mAns, if_pos c543]
    rw [em]
    refine j_aload_n (pc := 546) g 3 dL_law_546 rfl rfl ?_
    refine j_iconst (pc := 547) g (0) dL_law_547 (by decide) ?_
    refine j_lald (pc := 548) g dL_law_548 (hr3.2.2.2.1.1) (vp_in_nI (n := 0) (by omega) (by omega)) ?_
    show J X 8 _ _ _ _ (.long (f1 0) :: _) _
    refine j_iload (pc := 549) g dL_law_549 rfl ?_
    refine j_i2l (pc := 551) g dL_law_551 ?_
    refine j_lcmp (pc := 552) g dL_law_552 ?_
    refine j_if_eq (pc := 553) g 558 dL_law_553 (by decide) (fun c553 => ?_) (fun c553 => absurd (by rw [(h0 c543).1]; exact lgz _) c553)
    refine j_goto (pc := 558) g 1544 dL_law_558 (by decide) ?_
    by_cases tz : (tLearn S (xs (i + 1)) (xs (i + 2))) = 0
    · exact j_loc2 (j_room _ _ (by omega) (by omega) (k _ _ (LI.mk hr3 (if_pos tz) ((h0 tz).2.st pr.rf (sf_nb sf28)) (ok_learn (hk.t sf28)))))
    · exact j_loc2 (j_room _ _ (by omega) (by omega) (k _ _ (LI.mk hr3 (if_neg tz) ((h1 tz).st pr.rf sf28) (hk.t sf28))))

set_option maxHeartbeats 1000000 in
set_option maxRecDepth 100000 in
theorem lc_pass {X : JC} (hst : (jl X).stackTraces = false) (g : jG X cL_law RL wsL_law 8 room_1) (t0 : jE0 X) {b L : Nat} {xs : Nat → Int32} (sc : jS X b L xs) (hL : L ≤ 3584) {x m o od : Nat} {ad : Nat → Nat} (hI : mI m ad) {M : MH} {S : ST} (h : LI M x m o od ad S) {i : Nat} (hi : i + 7 ≤ L) {cells slots : Nat} (hcl : cells + 8 ≤ 601024) (hsl : slots + 28 ≤ 7293034) (k : ∀ M2 S2, LI M2 x m o od ad S2 → J X 8 (cells + 8) (slots + 28) M2 [some (.ref b), some (.ref x), some (.ref m), some (.ref o), some (.ref od), some (.int (nI i)), none, none] [] 1544) : J X 8 cells slots M [some (.ref b), some (.ref x), some (.ref m), some (.ref o), some (.ref od), some (.int (nI i)), none, none] [] 561 := by
  obtain ⟨Mx, al, d, ns, nd, f, fd, hr, hc, hk⟩ := h
  refine j_aload_n (pc := 561) g 1 dL_law_561 rfl rfl ?_
  refine j_aload_n (pc := 562) g 0 dL_law_562 rfl rfl ?_
  refine j_iload (pc := 563) g dL_law_563 rfl ?_
  refine j_iconst (pc := 565) g (1) dL_law_565 (by decide) ?_
  refine j_iadd (pc := 566) g dL_law_566 ?_
  refine j_sld (pc := 567) g sc dL_law_567 (i + 1) (nI_add i 1) (by omega) (by omega) ?_
  refine j_aload_n (pc := 568) g 3 dL_law_568 rfl rfl ?_
  refine j_callSW (pc := 569) (n := 3) g t0 (w_pass (jl X) (jD X) hst M Mx x m o od ad al S d ns nd f fd hr hc hk (xs (i + 1))) dL_law_569 gL_law_L_pass rfl rfl rfl rfl ⟨by decide, by decide, by decide +kernel⟩ ⟨Nat.le_of_ble_eq_true rfl, Nat.le_of_ble_eq_true rfl⟩ ⟨by show _ ≤ 601024; omega, by show _ ≤ 7293034; omega⟩ rfl (Nat.le_of_ble_eq_true rfl) (fun v M1 hp => ?_)
  obtain ⟨rfl, Mx1, al1, f1, hr1, h0, h1⟩ := hp
  show J X 8 _ _ _ _ [.int (tPass S (xs (i + 1)))] (569 + 3)
  refine istore_8_6 (pc := 572) g dL_law_572 ?_
  refine j_aload_n (pc := 574) g 2 dL_law_574 rfl rfl ?_
  refine j_aload_n (pc := 575) g 0 dL_law_575 rfl rfl ?_
  refine j_iload (pc := 576) g dL_law_576 rfl ?_
  refine j_iconst (pc := 578) g (1) dL_law_578 (by decide) ?_
  refine j_iadd (pc := 579) g dL_law_579 ?_
  refine j_sld (pc := 580) g sc dL_law_580 (i + 1) (nI_add i 1) (by omega) (by omega) ?_
  refine j_callVG (pc := 581) (n := 1) g (hr1.2.1 _ _ (mM_m _ _ _)) rfl hr1.2.1 (m_pass (jl X) (jD X) m ad hI S  (xs (i + 1))) dL_law_581 gL_law_X9_pass rfl rfl rfl rfl ⟨rfl, by decide, by decide, by decide +kernel⟩ ⟨Nat.le_of_ble_eq_true rfl, Nat.le_of_ble_eq_true rfl⟩ ⟨by show _ ≤ 601024; omega, by show _ ≤ 7293034; omega⟩ rfl (Nat.le_of_ble_eq_true rfl) (fun v M2 hp hn2 => ?_)
  obtain ⟨rfl, rfl⟩ := hp
  have hr2 := hr1.model (mSt S (tPass S (xs (i + 1))) (fun S => nPass S (xs (i + 1))))
  show J X 8 _ _ _ _ [.int (mAns (tPass S (xs (i + 1))) (S 0 0 + (xs (i + 1))))] (581 + 3)
  refine istore_8_7 (pc := 584) g dL_law_584 ?_
  refine j_aload_n (pc := 586) g 2 dL_law_586 rfl rfl ?_
  refine j_callVG (pc := 587) (n := 0) g (hr2.2.1 _ _ (mM_m _ _ _)) rfl hr2.2.1 (m_thrown (jl X) (jD X) m ad hI (mSt S (tPass S (xs (i + 1))) (fun S => nPass S (xs (i + 1))))) dL_law_587 gL_law_X9_thrown rfl rfl rfl rfl ⟨rfl, by decide, by decide, by decide +kernel⟩ ⟨Nat.le_of_ble_eq_true rfl, Nat.le_of_ble_eq_true rfl⟩ ⟨by show _ ≤ 601024; omega, by show _ ≤ 7293034; omega⟩ rfl (Nat.le_of_ble_eq_true rfl) (fun v M3 hp hn3 => ?_)
  obtain ⟨rfl, rfl⟩ := hp
  have hr3 := hr2.model (mSt S (tPass S (xs (i + 1))) (fun S => nPass S (xs (i + 1))))
  have eT : (mSt S (tPass S (xs (i + 1))) (fun S => nPass S (xs (i + 1)))) 28 0 = (tPass S (xs (i + 1))) := th_28 (fun S => by rw [nPass, su_o (by decide), ageN_o _ _ _ (by decide)])
  show J X 8 _ _ _ _ [.int ((mSt S (tPass S (xs (i + 1))) (fun S => nPass S (xs (i + 1)))) 28 0)] (587 + 3)
  refine j_topi (tPass S (xs (i + 1))) eT ?_
  refine j_iload (pc := 590) g dL_law_590 rfl ?_
  refine j_icmp_eq (pc := 592) g 597 dL_law_592 (by decide) (fun c592 => ?_) (fun c592 => absurd rfl c592)
  refine j_iload (pc := 597) g dL_law_597 rfl ?_
  refine j_if_ne (pc := 599) g 614 dL_law_599 (by decide) (fun c599 => ?_) (fun c599 => ?_)
  · refine j_goto (pc := 614) g 1544 dL_law_614 (by decide) ?_
    by_cases tz : (tPass S (xs (i + 1))) = 0
    · exact j_loc2 (j_room _ _ (by omega) (by omega) (k _ _ (LI.mk hr3 (if_pos tz) ((h0 tz).2.st pr.rf (sf_nb (s_ageN sf28 _))) (ok_pass (hk.t sf28) tz))))
    · exact j_loc2 (j_room _ _ (by omega) (by omega) (k _ _ (LI.mk hr3 (if_neg tz) ((h1 tz).st pr.rf sf28) (hk.t sf28))))
  · have em : mAns (tPass S (xs (i + 1))) (S 0 0 + (xs (i + 1))) = (S 0 0 + (xs (i + 1))) := by rw [mAns, if_pos c599]
    rw [em]
    refine j_aload_n (pc := 602) g 3 dL_law_602 rfl rfl ?_
    refine j_iconst (pc := 603) g (0) dL_law_603 (by decide) ?_
    refine j_lald (pc := 604) g dL_law_604 (hr3.2.2.2.1.1) (vp_in_nI (n := 0) (by omega) (by omega)) ?_
    show J X 8 _ _ _ _ (.long (f1 0) :: _) _
    refine j_iload (pc := 605) g dL_law_605 rfl ?_
    refine j_i2l (pc := 607) g dL_law_607 ?_
    refine j_lcmp (pc := 608) g dL_law_608 ?_
    refine j_if_eq (pc := 609) g 614 dL_law_609 (by decide) (fun c609 => ?_) (fun c609 => absurd (by rw [(h0 c599).1]; exact lgz _) c609)
    refine j_goto (pc := 614) g 1544 dL_law_614 (by decide) ?_
    by_cases tz : (tPass S (xs (i + 1))) = 0
    · exact j_loc2 (j_room _ _ (by omega) (by omega) (k _ _ (LI.mk hr3 (if_pos tz) ((h0 tz).2.st pr.rf (sf_nb (s_ageN sf28 _))) (ok_pass (hk.t sf28) tz))))
    · exact j_loc2 (j_room _ _ (by omega) (by omega) (k _ _ (LI.mk hr3 (if_neg tz) ((h1 tz).st pr.rf sf28) (hk.t sf28))))

set_option maxHeartbeats 1000000 in
set_option maxRecDepth 100000 in
theorem lc_duel {X : JC} (hst : (jl X).stackTraces = false) (g : jG X cL_law RL wsL_law 8 room_1) (t0 : jE0 X) {b L : Nat} {xs : Nat → Int32} (sc : jS X b L xs) (hL : L ≤ 3584) {x m o od : Nat} {ad : Nat → Nat} (hI : mI m ad) {M : MH} {S : ST} (h : LI M x m o od ad S) {i : Nat} (hi : i + 7 ≤ L) {cells slots : Nat} (hcl : cells + 8 ≤ 601024) (hsl : slots + 28 ≤ 7293034) (k : ∀ M2 S2, LI M2 x m o od ad S2 → J X 8 (cells + 8) (slots + 28) M2 [some (.ref b), some (.ref x), some (.ref m), some (.ref o), some (.ref od), some (.int (nI i)), none, none] [] 1544) : J X 8 cells slots M [some (.ref b), some (.ref x), some (.ref m), some (.ref o), some (.ref od), some (.int (nI i)), none, none] [] 617 := by
  obtain ⟨Mx, al, d, ns, nd, f, fd, hr, hc, hk⟩ := h
  refine j_aload_n (pc := 617) g 1 dL_law_617 rfl rfl ?_
  refine j_aload_n (pc := 618) g 0 dL_law_618 rfl rfl ?_
  refine j_iload (pc := 619) g dL_law_619 rfl ?_
  refine j_iconst (pc := 621) g (1) dL_law_621 (by decide) ?_
  refine j_iadd (pc := 622) g dL_law_622 ?_
  refine j_sld (pc := 623) g sc dL_law_623 (i + 1) (nI_add i 1) (by omega) (by omega) ?_
  refine j_aload_n (pc := 624) g 0 dL_law_624 rfl rfl ?_
  refine j_iload (pc := 625) g dL_law_625 rfl ?_
  refine j_iconst (pc := 627) g (2) dL_law_627 (by decide) ?_
  refine j_iadd (pc := 628) g dL_law_628 ?_
  refine j_sld (pc := 629) g sc dL_law_629 (i + 2) (nI_add i 2) (by omega) (by omega) ?_
  refine j_aload_n (pc := 630) g 0 dL_law_630 rfl rfl ?_
  refine j_iload (pc := 631) g dL_law_631 rfl ?_
  refine j_iconst (pc := 633) g (3) dL_law_633 (by decide) ?_
  refine j_iadd (pc := 634) g dL_law_634 ?_
  refine j_sld (pc := 635) g sc dL_law_635 (i + 3) (nI_add i 3) (by omega) (by omega) ?_
  refine j_aload_n (pc := 636) g 0 dL_law_636 rfl rfl ?_
  refine j_iload (pc := 637) g dL_law_637 rfl ?_
  refine j_iconst (pc := 639) g (4) dL_law_639 (by decide) ?_
  refine j_iadd (pc := 640) g dL_law_640 ?_
  refine j_sld (pc := 641) g sc dL_law_641 (i + 4) (nI_add i 4) (by omega) (by omega) ?_
  refine j_aload_n (pc := 642) g 0 dL_law_642 rfl rfl ?_
  refine j_iload (pc := 643) g dL_law_643 rfl ?_
  refine j_iconst (pc := 645) g (5) dL_law_645 (by decide) ?_
  refine j_iadd (pc := 646) g dL_law_646 ?_
  refine j_sld (pc := 647) g sc dL_law_647 (i + 5) (nI_add i 5) (by omega) (by omega) ?_
  refine j_aload_n (pc := 648) g 0 dL_law_648 rfl rfl ?_
  refine j_iload (pc := 649) g dL_law_649 rfl ?_
  refine j_bipush (pc := 651) g (6) dL_law_651 (by decide) ?_
  refine j_iadd (pc := 653) g dL_law_653 ?_
  refine j_sld (pc := 654) g sc dL_law_654 (i + 6) (nI_add i 6) (by omega) (by omega) ?_
  refine j_aload_n (pc := 655) g 3 dL_law_655 rfl rfl ?_
  refine j_callSW (pc := 656) (n := 8) g t0 (w_duel (jl X) (jD X) hst M Mx x m o od ad al S d ns nd f fd hr hc hk (xs (i + 1)) (xs (i + 2)) (xs (i + 3)) (xs (i + 4)) (xs (i + 5)) (xs (i + 6))) dL_law_656 gL_law_L_duel rfl rfl rfl rfl ⟨by decide, by decide, by decide +kernel⟩ ⟨Nat.le_of_ble_eq_true rfl, Nat.le_of_ble_eq_true rfl⟩ ⟨by show _ ≤ 601024; omega, by show _ ≤ 7293034; omega⟩ rfl (Nat.le_of_ble_eq_true rfl) (fun v M1 hp => ?_)
  obtain ⟨rfl, Mx1, al1, f1, hr1, h0, h1⟩ := hp
  show J X 8 _ _ _ _ [.int (tDuel S (xs (i + 1)) (xs (i + 2)) (xs (i + 3)) (xs (i + 4)) (xs (i + 5)) (xs (i + 6)))] (656 + 3)
  refine istore_8_6 (pc := 659) g dL_law_659 ?_
  refine j_aload_n (pc := 661) g 2 dL_law_661 rfl rfl ?_
  refine j_aload_n (pc := 662) g 0 dL_law_662 rfl rfl ?_
  refine j_iload (pc := 663) g dL_law_663 rfl ?_
  refine j_iconst (pc := 665) g (1) dL_law_665 (by decide) ?_
  refine j_iadd (pc := 666) g dL_law_666 ?_
  refine j_sld (pc := 667) g sc dL_law_667 (i + 1) (nI_add i 1) (by omega) (by omega) ?_
  refine j_aload_n (pc := 668) g 0 dL_law_668 rfl rfl ?_
  refine j_iload (pc := 669) g dL_law_669 rfl ?_
  refine j_iconst (pc := 671) g (2) dL_law_671 (by decide) ?_
  refine j_iadd (pc := 672) g dL_law_672 ?_
  refine j_sld (pc := 673) g sc dL_law_673 (i + 2) (nI_add i 2) (by omega) (by omega) ?_
  refine j_aload_n (pc := 674) g 0 dL_law_674 rfl rfl ?_
  refine j_iload (pc := 675) g dL_law_675 rfl ?_
  refine j_iconst (pc := 677) g (3) dL_law_677 (by decide) ?_
  refine j_iadd (pc := 678) g dL_law_678 ?_
  refine j_sld (pc := 679) g sc dL_law_679 (i + 3) (nI_add i 3) (by omega) (by omega) ?_
  refine j_aload_n (pc := 680) g 0 dL_law_680 rfl rfl ?_
  refine j_iload (pc := 681) g dL_law_681 rfl ?_
  refine j_iconst (pc := 683) g (4) dL_law_683 (by decide) ?_
  refine j_iadd (pc := 684) g dL_law_684 ?_
  refine j_sld (pc := 685) g sc dL_law_685 (i + 4) (nI_add i 4) (by omega) (by omega) ?_
  refine j_aload_n (pc := 686) g 0 dL_law_686 rfl rfl ?_
  refine j_iload (pc := 687) g dL_law_687 rfl ?_
  refine j_iconst (pc := 689) g (5) dL_law_689 (by decide) ?_
  refine j_iadd (pc := 690) g dL_law_690 ?_
  refine j_sld (pc := 691) g sc dL_law_691 (i + 5) (nI_add i 5) (by omega) (by omega) ?_
  refine j_aload_n (pc := 692) g 0 dL_law_692 rfl rfl ?_
  refine j_iload (pc := 693) g dL_law_693 rfl ?_
  refine j_bipush (pc := 695) g (6) dL_law_695 (by decide) ?_
  refine j_iadd (pc := 697) g dL_law_697 ?_
  refine j_sld (pc := 698) g sc dL_law_698 (i + 6) (nI_add i 6) (by omega) (by omega) ?_
  refine j_callVG (pc := 699) (n := 6) g (hr1.2.1 _ _ (mM_m _ _ _)) rfl hr1.2.1 (m_duel (jl X) (jD X) m ad hI S nd hk.2.2.1.1 hk.2.2.1.2.1 (xs (i + 1)) (xs (i + 2)) (xs (i + 3)) (xs (i + 4)) (xs (i + 5)) (xs (i + 6))) dL_law_699 gL_law_X9_duel rfl rfl rfl rfl ⟨rfl, by decide, by decide, by decide +kernel⟩ ⟨Nat.le_of_ble_eq_true rfl, Nat.le_of_ble_eq_true rfl⟩ ⟨by show _ ≤ 601024; omega, by show _ ≤ 7293034; omega⟩ rfl (Nat.le_of_ble_eq_true rfl) (fun v M2 hp hn2 => ?_)
  obtain ⟨rfl, rfl⟩ := hp
  have hr2 := hr1.model (mSt S (tDuel S (xs (i + 1)) (xs (i + 2)) (xs (i + 3)) (xs (i + 4)) (xs (i + 5)) (xs (i + 6))) (fun S => nDuel S nd (xs (i + 1)) (xs (i + 2)) (xs (i + 3)) (xs (i + 4)) (xs (i + 5)) (xs (i + 6))))
  show J X 8 _ _ _ _ [.int (mAns (tDuel S (xs (i + 1)) (xs (i + 2)) (xs (i + 3)) (xs (i + 4)) (xs (i + 5)) (xs (i + 6))) (nI nd))] (699 + 3)
  refine istore_8_7 (pc := 702) g dL_law_702 ?_
  refine j_aload_n (pc := 704) g 2 dL_law_704 rfl rfl ?_
  refine j_callVG (pc := 705) (n := 0) g (hr2.2.1 _ _ (mM_m _ _ _)) rfl hr2.2.1 (m_thrown (jl X) (jD X) m ad hI (mSt S (tDuel S (xs (i + 1)) (xs (i + 2)) (xs (i + 3)) (xs (i + 4)) (xs (i + 5)) (xs (i + 6))) (fun S => nDuel S nd (xs (i + 1)) (xs (i + 2)) (xs (i + 3)) (xs (i + 4)) (xs (i + 5)) (xs (i + 6))))) dL_law_705 gL_law_X9_thrown rfl rfl rfl rfl ⟨rfl, by decide, by decide, by decide +kernel⟩ ⟨Nat.le_of_ble_eq_true rfl, Nat.le_of_ble_eq_true rfl⟩ ⟨by show _ ≤ 601024; omega, by show _ ≤ 7293034; omega⟩ rfl (Nat.le_of_ble_eq_true rfl) (fun v M3 hp hn3 => ?_)
  obtain ⟨rfl, rfl⟩ := hp
  have hr3 := hr2.model (mSt S (tDuel S (xs (i + 1)) (xs (i + 2)) (xs (i + 3)) (xs (i + 4)) (xs (i + 5)) (xs (i + 6))) (fun S => nDuel S nd (xs (i + 1)) (xs (i + 2)) (xs (i + 3)) (xs (i + 4)) (xs (i + 5)) (xs (i + 6))))
  have eT : (mSt S (tDuel S (xs (i + 1)) (xs (i + 2)) (xs (i + 3)) (xs (i + 4)) (xs (i + 5)) (xs (i + 6))) (fun S => nDuel S nd (xs (i + 1)) (xs (i + 2)) (xs (i + 3)) (xs (i + 4)) (xs (i + 5)) (xs (i + 6)))) 28 0 = (tDuel S (xs (i + 1)) (xs (i + 2)) (xs (i + 3)) (xs (i + 4)) (xs (i + 5)) (xs (i + 6))) := th_28 (fun S => rfl)
  show J X 8 _ _ _ _ [.int ((mSt S (tDuel S (xs (i + 1)) (xs (i + 2)) (xs (i + 3)) (xs (i + 4)) (xs (i + 5)) (xs (i + 6))) (fun S => nDuel S nd (xs (i + 1)) (xs (i + 2)) (xs (i + 3)) (xs (i + 4)) (xs (i + 5)) (xs (i + 6)))) 28 0)] (705 + 3)
  refine j_topi (tDuel S (xs (i + 1)) (xs (i + 2)) (xs (i + 3)) (xs (i + 4)) (xs (i + 5)) (xs (i + 6))) eT ?_
  refine j_iload (pc := 708) g dL_law_708 rfl ?_
  refine j_icmp_eq (pc := 710) g 715 dL_law_710 (by decide) (fun c710 => ?_) (fun c710 => absurd rfl c710)
  refine j_iload (pc := 715) g dL_law_715 rfl ?_
  refine j_if_ne (pc := 717) g 732 dL_law_717 (by decide) (fun c717 => ?_) (fun c717 => ?_)
  · refine j_goto (pc := 732) g 1544 dL_law_732 (by decide) ?_
    by_cases tz : (tDuel S (xs (i + 1)) (xs (i + 2)) (xs (i + 3)) (xs (i + 4)) (xs (i + 5)) (xs (i + 6))) = 0
    · exact j_loc2 (j_room _ _ (by omega) (by omega) (k _ _ (LI.mk hr3 (if_pos tz) ((h0 tz).2.st pr.rf (sf_nb (sf_nb (sf_nb (sf_nb (sf_nb (sf_nb (sf_nb (sf_nb (sf_nb (sf_nb sf28))))))))))) (ok_duel (hk.t sf28) tz))))
    · exact j_loc2 (j_room _ _ (by omega) (by omega) (k _ _ (LI.mk hr3 (if_neg tz) ((h1 tz).st pr.rf sf28) (hk.t sf28))))
  · have em : mAns (tDuel S (xs (i + 1)) (xs (i + 2)) (xs (i + 3)) (xs (i + 4)) (xs (i + 5)) (xs (i + 6))) (nI nd) = (nI nd) := by rw [mAns, if_pos c717]
    rw [em]
    refine j_aload_n (pc := 720) g 3 dL_law_720 rfl rfl ?_
    refine j_iconst (pc := 721) g (0) dL_law_721 (by decide) ?_
    refine j_lald (pc := 722) g dL_law_722 (hr3.2.2.2.1.1) (vp_in_nI (n := 0) (by omega) (by omega)) ?_
    show J X 8 _ _ _ _ (.long (f1 0) :: _) _
    refine j_iload (pc := 723) g dL_law_723 rfl ?_
    refine j_i2l (pc := 725) g dL_law_725 ?_
    refine j_lcmp (pc := 726) g dL_law_726 ?_
    refine j_if_eq (pc := 727) g 732 dL_law_727 (by decide) (fun c727 => ?_) (fun c727 => absurd (by rw [(h0 c717).1]; exact lgz _) c727)
    refine j_goto (pc := 732) g 1544 dL_law_732 (by decide) ?_
    by_cases tz : (tDuel S (xs (i + 1)) (xs (i + 2)) (xs (i + 3)) (xs (i + 4)) (xs (i + 5)) (xs (i + 6))) = 0
    · exact j_loc2 (j_room _ _ (by omega) (by omega) (k _ _ (LI.mk hr3 (if_pos tz) ((h0 tz).2.st pr.rf (sf_nb (sf_nb (sf_nb (sf_nb (sf_nb (sf_nb (sf_nb (sf_nb (sf_nb (sf_nb sf28))))))))))) (ok_duel (hk.t sf28) tz))))
    · exact j_loc2 (j_room _ _ (by omega) (by omega) (k _ _ (LI.mk hr3 (if_neg tz) ((h1 tz).st pr.rf sf28) (hk.t sf28))))

set_option maxHeartbeats 1000000 in
set_option maxRecDepth 100000 in
theorem lc_hand {X : JC} (hst : (jl X).stackTraces = false) (g : jG X cL_law RL wsL_law 8 room_1) (t0 : jE0 X) {b L : Nat} {xs : Nat → Int32} (sc : jS X b L xs) (hL : L ≤ 3584) {x m o od : Nat} {ad : Nat → Nat} (hI : mI m ad) {M : MH} {S : ST} (h : LI M x m o od ad S) {i : Nat} (hi : i + 7 ≤ L) {cells slots : Nat} (hcl : cells + 8 ≤ 601024) (hsl : slots + 28 ≤ 7293034) (k : ∀ M2 S2, LI M2 x m o od ad S2 → J X 8 (cells + 8) (slots + 28) M2 [some (.ref b), some (.ref x), some (.ref m), some (.ref o), some (.ref od), some (.int (nI i)), none, none] [] 1544) : J X 8 cells slots M [some (.ref b), some (.ref x), some (.ref m), some (.ref o), some (.ref od), some (.int (nI i)), none, none] [] 735 := by
  obtain ⟨Mx, al, d, ns, nd, f, fd, hr, hc, hk⟩ := h
  refine j_aload_n (pc := 735) g 1 dL_law_735 rfl rfl ?_
  refine j_aload_n (pc := 736) g 0 dL_law_736 rfl rfl ?_
  refine j_iload (pc := 737) g dL_law_737 rfl ?_
  refine j_iconst (pc := 739) g (1) dL_law_739 (by decide) ?_
  refine j_iadd (pc := 740) g dL_law_740 ?_
  refine j_sld (pc := 741) g sc dL_law_741 (i + 1) (nI_add i 1) (by omega) (by omega) ?_
  refine j_aload_n (pc := 742) g 0 dL_law_742 rfl rfl ?_
  refine j_iload (pc := 743) g dL_law_743 rfl ?_
  refine j_iconst (pc := 745) g (2) dL_law_745 (by decide) ?_
  refine j_iadd (pc := 746) g dL_law_746 ?_
  refine j_sld (pc := 747) g sc dL_law_747 (i + 2) (nI_add i 2) (by omega) (by omega) ?_
  refine j_aload_n (pc := 748) g 3 dL_law_748 rfl rfl ?_
  refine j_callSW (pc := 749) (n := 4) g t0 (w_hand (jl X) (jD X) hst M Mx x m o od ad al S d ns nd f fd hr hc hk (xs (i + 1)) (xs (i + 2))) dL_law_749 gL_law_L_hand rfl rfl rfl rfl ⟨by decide, by decide, by decide +kernel⟩ ⟨Nat.le_of_ble_eq_true rfl, Nat.le_of_ble_eq_true rfl⟩ ⟨by show _ ≤ 601024; omega, by show _ ≤ 7293034; omega⟩ rfl (Nat.le_of_ble_eq_true rfl) (fun v M1 hp => ?_)
  obtain ⟨rfl, Mx1, al1, f1, hr1, h0, h1⟩ := hp
  show J X 8 _ _ _ _ [.int (tHand S (xs (i + 1)) (xs (i + 2)))] (749 + 3)
  refine istore_8_6 (pc := 752) g dL_law_752 ?_
  refine j_aload_n (pc := 754) g 2 dL_law_754 rfl rfl ?_
  refine j_aload_n (pc := 755) g 0 dL_law_755 rfl rfl ?_
  refine j_iload (pc := 756) g dL_law_756 rfl ?_
  refine j_iconst (pc := 758) g (1) dL_law_758 (by decide) ?_
  refine j_iadd (pc := 759) g dL_law_759 ?_
  refine j_sld (pc := 760) g sc dL_law_760 (i + 1) (nI_add i 1) (by omega) (by omega) ?_
  refine j_aload_n (pc := 761) g 0 dL_law_761 rfl rfl ?_
  refine j_iload (pc := 762) g dL_law_762 rfl ?_
  refine j_iconst (pc := 764) g (2) dL_law_764 (by decide) ?_
  refine j_iadd (pc := 765) g dL_law_765 ?_
  refine j_sld (pc := 766) g sc dL_law_766 (i + 2) (nI_add i 2) (by omega) (by omega) ?_
  refine j_callVG (pc := 767) (n := 2) g (hr1.2.1 _ _ (mM_m _ _ _)) rfl hr1.2.1 (m_hand (jl X) (jD X) m ad hI S d hk.1.1 hk.1.2.1 nd hk.2.2.1.1 hk.2.2.1.2.1 (fun i hi => (hk.2.2.1.2.2 i hi).1) (xs (i + 1)) (xs (i + 2))) dL_law_767 gL_law_X9_hand rfl rfl rfl rfl ⟨rfl, by decide, by decide, by decide +kernel⟩ ⟨Nat.le_of_ble_eq_true rfl, Nat.le_of_ble_eq_true rfl⟩ ⟨by show _ ≤ 601024; omega, by show _ ≤ 7293034; omega⟩ rfl (Nat.le_of_ble_eq_true rfl) (fun v M2 hp hn2 => ?_)
  obtain ⟨rfl, rfl⟩ := hp
  have hr2 := hr1.model (mSt S (tHand S (xs (i + 1)) (xs (i + 2))) (fun S => nHand S (ix (xs (i + 1))) (ix (S 17 (ix (xs (i + 1))))) (ix (S 22 (ix (xs (i + 1))))) d (xs (i + 2))))
  show J X 8 _ _ _ _ [.int (mAns (tHand S (xs (i + 1)) (xs (i + 2))) (S 9 0 + 1))] (767 + 3)
  refine istore_8_7 (pc := 770) g dL_law_770 ?_
  refine j_aload_n (pc := 772) g 2 dL_law_772 rfl rfl ?_
  refine j_callVG (pc := 773) (n := 0) g (hr2.2.1 _ _ (mM_m _ _ _)) rfl hr2.2.1 (m_thrown (jl X) (jD X) m ad hI (mSt S (tHand S (xs (i + 1)) (xs (i + 2))) (fun S => nHand S (ix (xs (i + 1))) (ix (S 17 (ix (xs (i + 1))))) (ix (S 22 (ix (xs (i + 1))))) d (xs (i + 2))))) dL_law_773 gL_law_X9_thrown rfl rfl rfl rfl ⟨rfl, by decide, by decide, by decide +kernel⟩ ⟨Nat.le_of_ble_eq_true rfl, Nat.le_of_ble_eq_true rfl⟩ ⟨by show _ ≤ 601024; omega, by show _ ≤ 7293034; omega⟩ rfl (Nat.le_of_ble_eq_true rfl) (fun v M3 hp hn3 => ?_)
  obtain ⟨rfl, rfl⟩ := hp
  have hr3 := hr2.model (mSt S (tHand S (xs (i + 1)) (xs (i + 2))) (fun S => nHand S (ix (xs (i + 1))) (ix (S 17 (ix (xs (i + 1))))) (ix (S 22 (ix (xs (i + 1))))) d (xs (i + 2))))
  have eT : (mSt S (tHand S (xs (i + 1)) (xs (i + 2))) (fun S => nHand S (ix (xs (i + 1))) (ix (S 17 (ix (xs (i + 1))))) (ix (S 22 (ix (xs (i + 1))))) d (xs (i + 2)))) 28 0 = (tHand S (xs (i + 1)) (xs (i + 2))) := th_28 (fun S => rfl)
  show J X 8 _ _ _ _ [.int ((mSt S (tHand S (xs (i + 1)) (xs (i + 2))) (fun S => nHand S (ix (xs (i + 1))) (ix (S 17 (ix (xs (i + 1))))) (ix (S 22 (ix (xs (i + 1))))) d (xs (i + 2)))) 28 0)] (773 + 3)
  refine j_topi (tHand S (xs (i + 1)) (xs (i + 2))) eT ?_
  refine j_iload (pc := 776) g dL_law_776 rfl ?_
  refine j_icmp_eq (pc := 778) g 783 dL_law_778 (by decide) (fun c778 => ?_) (fun c778 => absurd rfl c778)
  refine j_iload (pc := 783) g dL_law_783 rfl ?_
  refine j_if_ne (pc := 785) g 800 dL_law_785 (by decide) (fun c785 => ?_) (fun c785 => ?_)
  · refine j_goto (pc := 800) g 1544 dL_law_800 (by decide) ?_
    by_cases tz : (tHand S (xs (i + 1)) (xs (i + 2))) = 0
    · exact j_loc2 (j_room _ _ (by omega) (by omega) (k _ _ (LI.mk hr3 (if_pos tz) ((h0 tz).2.st pr.rf (sf_nb (sf_nb (sf_nb (sf_nb (sf_nb ((sf_nb (sf_nb sf28)).cp (by decide)))))))) (ok_hand (hk.t sf28) tz))))
    · exact j_loc2 (j_room _ _ (by omega) (by omega) (k _ _ (LI.mk hr3 (if_neg tz) ((h1 tz).st pr.rf sf28) (hk.t sf28))))
  · have em : mAns (tHand S (xs (i + 1)) (xs (i + 2))) (S 9 0 + 1) = (S 9 0 + 1) := by rw [mAns, if_pos c785]
    rw [em]
    refine j_aload_n (pc := 788) g 3 dL_law_788 rfl rfl ?_
    refine j_iconst (pc := 789) g (0) dL_law_789 (by decide) ?_
    refine j_lald (pc := 790) g dL_law_790 (hr3.2.2.2.1.1) (vp_in_nI (n := 0) (by omega) (by omega)) ?_
    show J X 8 _ _ _ _ (.long (f1 0) :: _) _
    refine j_iload (pc := 791) g dL_law_791 rfl ?_
    refine j_i2l (pc := 793) g dL_law_793 ?_
    refine j_lcmp (pc := 794) g dL_law_794 ?_
    refine j_if_eq (pc := 795) g 800 dL_law_795 (by decide) (fun c795 => ?_) (fun c795 => absurd (by rw [(h0 c785).1]; exact lgz _) c795)
    refine j_goto (pc := 800) g 1544 dL_law_800 (by decide) ?_
    by_cases tz : (tHand S (xs (i + 1)) (xs (i + 2))) = 0
    · exact j_loc2 (j_room _ _ (by omega) (by omega) (k _ _ (LI.mk hr3 (if_pos tz) ((h0 tz).2.st pr.rf (sf_nb (sf_nb (sf_nb (sf_nb (sf_nb ((sf_nb (sf_nb sf28)).cp (by decide)))))))) (ok_hand (hk.t sf28) tz))))
    · exact j_loc2 (j_room _ _ (by omega) (by omega) (k _ _ (LI.mk hr3 (if_neg tz) ((h1 tz).st pr.rf sf28) (hk.t sf28))))

set_option maxHeartbeats 1000000 in
set_option maxRecDepth 100000 in
theorem lc_look {X : JC} (hst : (jl X).stackTraces = false) (g : jG X cL_law RL wsL_law 8 room_1) (t0 : jE0 X) {b L : Nat} {xs : Nat → Int32} (sc : jS X b L xs) (hL : L ≤ 3584) {x m o od : Nat} {ad : Nat → Nat} (hI : mI m ad) {M : MH} {S : ST} (h : LI M x m o od ad S) {i : Nat} (hi : i + 7 ≤ L) {cells slots : Nat} (hcl : cells + 8 ≤ 601024) (hsl : slots + 28 ≤ 7293034) (k : ∀ M2 S2, LI M2 x m o od ad S2 → J X 8 (cells + 8) (slots + 28) M2 [some (.ref b), some (.ref x), some (.ref m), some (.ref o), some (.ref od), some (.int (nI i)), none, none] [] 1544) : J X 8 cells slots M [some (.ref b), some (.ref x), some (.ref m), some (.ref o), some (.ref od), some (.int (nI i)), none, none] [] 803 := by
  obtain ⟨Mx, al, d, ns, nd, f, fd, hr, hc, hk⟩ := h
  refine j_aload_n (pc := 803) g 1 dL_law_803 rfl rfl ?_
  refine j_aload_n (pc := 804) g 0 dL_law_804 rfl rfl ?_
  refine j_iload (pc := 805) g dL_law_805 rfl ?_
  refine j_iconst (pc := 807) g (1) dL_law_807 (by decide) ?_
  refine j_iadd (pc := 808) g dL_law_808 ?_
  refine j_sld (pc := 809) g sc dL_law_809 (i + 1) (nI_add i 1) (by omega) (by omega) ?_
  refine j_aload_n (pc := 810) g 0 dL_law_810 rfl rfl ?_
  refine j_iload (pc := 811) g dL_law_811 rfl ?_
  refine j_iconst (pc := 813) g (2) dL_law_813 (by decide) ?_
  refine j_iadd (pc := 814) g dL_law_814 ?_
  refine j_sld (pc := 815) g sc dL_law_815 (i + 2) (nI_add i 2) (by omega) (by omega) ?_
  refine j_aload_n (pc := 816) g 0 dL_law_816 rfl rfl ?_
  refine j_iload (pc := 817) g dL_law_817 rfl ?_
  refine j_iconst (pc := 819) g (3) dL_law_819 (by decide) ?_
  refine j_iadd (pc := 820) g dL_law_820 ?_
  refine j_sld (pc := 821) g sc dL_law_821 (i + 3) (nI_add i 3) (by omega) (by omega) ?_
  have K1 : ∀ (bb : Int32) (hbb : bb = b01 (¬ xs (i + 3) = 0)), J X 8 cells slots (M) [some (.ref b), some (.ref x), some (.ref m), some (.ref o), some (.ref od), some (.int (nI i)), none, none] [.int bb, .int (xs (i + 2)), .int (xs (i + 1)), .ref x] 830 := by
    intro bb hbb
    refine j_aload_n (pc := 830) g 3 dL_law_830 rfl rfl ?_
    refine j_callSW (pc := 831) (n := 5) g t0 (w_look (jl X) (jD X) hst M Mx x m o od ad al S d ns nd f fd hr hc hk (xs (i + 1)) (xs (i + 2)) bb) dL_law_831 gL_law_L_look rfl rfl rfl rfl ⟨by decide, by decide, by decide +kernel⟩ ⟨Nat.le_of_ble_eq_true rfl, Nat.le_of_ble_eq_true rfl⟩ ⟨by show _ ≤ 601024; omega, by show _ ≤ 7293034; omega⟩ rfl (Nat.le_of_ble_eq_true rfl) (fun v M1 hp => ?_)
    obtain ⟨rfl, Mx1, al1, f1, hr1, h0, h1⟩ := hp
    show J X 8 _ _ _ _ [.int (tLook S (xs (i + 1)) (xs (i + 2)) bb)] (831 + 3)
    refine istore_8_6 (pc := 834) g dL_law_834 ?_
    refine j_aload_n (pc := 836) g 2 dL_law_836 rfl rfl ?_
    refine j_aload_n (pc := 837) g 0 dL_law_837 rfl rfl ?_
    refine j_iload (pc := 838) g dL_law_838 rfl ?_
    refine j_iconst (pc := 840) g (1) dL_law_840 (by decide) ?_
    refine j_iadd (pc := 841) g dL_law_841 ?_
    refine j_sld (pc := 842) g sc dL_law_842 (i + 1) (nI_add i 1) (by omega) (by omega) ?_
    refine j_aload_n (pc := 843) g 0 dL_law_843 rfl rfl ?_
    refine j_iload (pc := 844) g dL_law_844 rfl ?_
    refine j_iconst (pc := 846) g (2) dL_law_846 (by decide) ?_
    refine j_iadd (pc := 847) g dL_law_847 ?_
    refine j_sld (pc := 848) g sc dL_law_848 (i + 2) (nI_add i 2) (by omega) (by omega) ?_
    refine j_aload_n (pc := 849) g 0 dL_law_849 rfl rfl ?_
    refine j_iload (pc := 850) g dL_law_850 rfl ?_
    refine j_iconst (pc := 852) g (3) dL_law_852 (by decide) ?_
    refine j_iadd (pc := 853) g dL_law_853 ?_
    refine j_sld (pc := 854) g sc dL_law_854 (i + 3) (nI_add i 3) (by omega) (by omega) ?_
    have K2 : ∀ (b2 : Int32) (hb2 : b2 = b01 (¬ xs (i + 3) = 0)), J X 8 (cells + 1) (slots + 6) (M1) [some (.ref b), some (.ref x), some (.ref m), some (.ref o), some (.ref od), some (.int (nI i)), some (.int (tLook S (xs (i + 1)) (xs (i + 2)) bb)), none] [.int b2, .int (xs (i + 2)), .int (xs (i + 1)), .ref m] 863 := by
      intro b2 hb2
      obtain rfl : bb = b2 := hbb.trans hb2.symm
      refine j_callVG (pc := 863) (n := 3) g (hr1.2.1 _ _ (mM_m _ _ _)) rfl hr1.2.1 (m_look (jl X) (jD X) m ad hI S nd hk.2.2.1.1 hk.2.2.1.2.1 (fun i hi => (hk.2.2.1.2.2 i hi).1) hk.2.2.2.2.2.1 (xs (i + 1)) (xs (i + 2)) bb) dL_law_863 gL_law_X9_look rfl rfl rfl rfl ⟨rfl, by decide, by decide, by decide +kernel⟩ ⟨Nat.le_of_ble_eq_true rfl, Nat.le_of_ble_eq_true rfl⟩ ⟨by show _ ≤ 601024; omega, by show _ ≤ 7293034; omega⟩ rfl (Nat.le_of_ble_eq_true rfl) (fun v M2 hp hn2 => ?_)
      obtain ⟨rfl, rfl⟩ := hp
      have hr2 := hr1.model (mSt S (tLook S (xs (i + 1)) (xs (i + 2)) bb) (fun S => nLook S (xs (i + 1)) (xs (i + 2)) bb))
      show J X 8 _ _ _ _ [.int (mAns (tLook S (xs (i + 1)) (xs (i + 2)) bb) (S 25 (wI (ix (xs (i + 1))) (ix (xs (i + 2))) bb)))] (863 + 3)
      refine istore_8_7 (pc := 866) g dL_law_866 ?_
      refine j_aload_n (pc := 868) g 2 dL_law_868 rfl rfl ?_
      refine j_callVG (pc := 869) (n := 0) g (hr2.2.1 _ _ (mM_m _ _ _)) rfl hr2.2.1 (m_thrown (jl X) (jD X) m ad hI (mSt S (tLook S (xs (i + 1)) (xs (i + 2)) bb) (fun S => nLook S (xs (i + 1)) (xs (i + 2)) bb))) dL_law_869 gL_law_X9_thrown rfl rfl rfl rfl ⟨rfl, by decide, by decide, by decide +kernel⟩ ⟨Nat.le_of_ble_eq_true rfl, Nat.le_of_ble_eq_true rfl⟩ ⟨by show _ ≤ 601024; omega, by show _ ≤ 7293034; omega⟩ rfl (Nat.le_of_ble_eq_true rfl) (fun v M3 hp hn3 => ?_)
      obtain ⟨rfl, rfl⟩ := hp
      have hr3 := hr2.model (mSt S (tLook S (xs (i + 1)) (xs (i + 2)) bb) (fun S => nLook S (xs (i + 1)) (xs (i + 2)) bb))
      have eT : (mSt S (tLook S (xs (i + 1)) (xs (i + 2)) bb) (fun S => nLook S (xs (i + 1)) (xs (i + 2)) bb)) 28 0 = (tLook S (xs (i + 1)) (xs (i + 2)) bb) := th_28 (fun S => rfl)
      show J X 8 _ _ _ _ [.int ((mSt S (tLook S (xs (i + 1)) (xs (i + 2)) bb) (fun S => nLook S (xs (i + 1)) (xs (i + 2)) bb)) 28 0)] (869 + 3)
      refine j_topi (tLook S (xs (i + 1)) (xs (i + 2)) bb) eT ?_
      refine j_iload (pc := 872) g dL_law_872 rfl ?_
      refine j_icmp_eq (pc := 874) g 879 dL_law_874 (by decide) (fun c874 => ?_) (fun c874 => absurd rfl c874)
      refine j_iload (pc := 879) g dL_law_879 rfl ?_
      refine j_if_ne (pc := 881) g 903 dL_law_881 (by decide) (fun c881 => ?_) (fun c881 => ?_)
      · refine j_goto (pc := 903) g 1544 dL_law_903 (by decide) ?_
        by_cases tz : (tLook S (xs (i + 1)) (xs (i + 2)) bb) = 0
        · exact j_loc2 (j_room _ _ (by omega) (by omega) (k _ _ (LI.mk hr3 (if_pos tz) ((h0 tz).2.st pr.rf (sf_nb sf28)) (ok_look (hk.t sf28) tz))))
        · exact j_loc2 (j_room _ _ (by omega) (by omega) (k _ _ (LI.mk hr3 (if_neg tz) ((h1 tz).st pr.rf sf28) (hk.t sf28))))
      · have em : mAns (tLook S (xs (i + 1)) (xs (i + 2)) bb) (S 25 (wI (ix (xs (i + 1))) (ix (xs (i + 2))) bb)) = (S 25 (wI (ix (xs (i + 1))) (ix (xs (i + 2))) bb)) := by rw [mAns, if_pos c881]
        rw [em]
        refine j_aload_n (pc := 884) g 3 dL_law_884 rfl rfl ?_
        refine j_iconst (pc := 885) g (0) dL_law_885 (by decide) ?_
        refine j_lald (pc := 886) g dL_law_886 (hr3.2.2.2.1.1) (vp_in_nI (n := 0) (by omega) (by omega)) ?_
        show J X 8 _ _ _ _ (.long (f1 0) :: _) _
        refine j_iload (pc := 887) g dL_law_887 rfl ?_
        refine j_if_eq (pc := 889) g 896 dL_law_889 (by decide) (fun c889 => ?_) (fun c889 => ?_)
        · refine j_lconst (pc := 896) g 0 dL_law_896 (by decide) ?_
          refine j_lcmp (pc := 897) g dL_law_897 ?_
          refine j_if_eq (pc := 898) g 903 dL_law_898 (by decide) (fun c898 => ?_) (fun c898 => absurd (by rw [(h0 c881).1]; first | (rw [if_pos c889]; exact lgz _) | (rw [if_neg c889]; exact lgz _)) c898)
          refine j_goto (pc := 903) g 1544 dL_law_903 (by decide) ?_
          by_cases tz : (tLook S (xs (i + 1)) (xs (i + 2)) bb) = 0
          · exact j_loc2 (j_room _ _ (by omega) (by omega) (k _ _ (LI.mk hr3 (if_pos tz) ((h0 tz).2.st pr.rf (sf_nb sf28)) (ok_look (hk.t sf28) tz))))
          · exact j_loc2 (j_room _ _ (by omega) (by omega) (k _ _ (LI.mk hr3 (if_neg tz) ((h1 tz).st pr.rf sf28) (hk.t sf28))))
        · refine j_lconst (pc := 892) g 1 dL_law_892 (by decide) ?_
          refine j_goto (pc := 893) g 897 dL_law_893 (by decide) ?_
          refine j_lcmp (pc := 897) g dL_law_897 ?_
          refine j_if_eq (pc := 898) g 903 dL_law_898 (by decide) (fun c898 => ?_) (fun c898 => absurd (by rw [(h0 c881).1]; first | (rw [if_pos c889]; exact lgz _) | (rw [if_neg c889]; exact lgz _)) c898)
          refine j_goto (pc := 903) g 1544 dL_law_903 (by decide) ?_
          by_cases tz : (tLook S (xs (i + 1)) (xs (i + 2)) bb) = 0
          · exact j_loc2 (j_room _ _ (by omega) (by omega) (k _ _ (LI.mk hr3 (if_pos tz) ((h0 tz).2.st pr.rf (sf_nb sf28)) (ok_look (hk.t sf28) tz))))
          · exact j_loc2 (j_room _ _ (by omega) (by omega) (k _ _ (LI.mk hr3 (if_neg tz) ((h1 tz).st pr.rf sf28) (hk.t sf28))))
    refine j_if_eq (pc := 855) g 862 dL_law_855 (by decide) (fun c855 => ?_) (fun c855 => ?_)
    · refine j_iconst (pc := 862) g (0) dL_law_862 (by decide) ?_
      exact K2 _ (by grind [b01])
    · refine j_iconst (pc := 858) g (1) dL_law_858 (by decide) ?_
      refine j_goto (pc := 859) g 863 dL_law_859 (by decide) ?_
      exact K2 _ (by grind [b01])
  refine j_if_eq (pc := 822) g 829 dL_law_822 (by decide) (fun c822 => ?_) (fun c822 => ?_)
  · refine j_iconst (pc := 829) g (0) dL_law_829 (by decide) ?_
    exact K1 _ (by grind [b01])
  · refine j_iconst (pc := 825) g (1) dL_law_825 (by decide) ?_
    refine j_goto (pc := 826) g 830 dL_law_826 (by decide) ?_
    exact K1 _ (by grind [b01])
