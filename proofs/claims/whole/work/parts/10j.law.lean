theorem fstore_8_7 {X : JC} {cc : ByteArray} {own : String} {Ts : List Cond} {cells slots pc : Nat} {rm : Room} {M : MH} {st : List Value} {a0 a1 a2 a3 a4 a5 a6 a7 : Option Value} (g : jG X cc own Ts 8 rm) {x : UInt32} (hd : decode cc pc = .ok (.fstore 7, 2)) (k : J X 8 cells slots M [a0, a1, a2, a3, a4, a5, a6, some (.float x)] st (pc + 2)) : J X 8 cells slots M [a0, a1, a2, a3, a4, a5, a6, a7] (.float x :: st) pc := j_fstore g hd (Nat.le_of_ble_eq_true rfl) k



set_option maxHeartbeats 1000000 in
set_option maxRecDepth 100000 in
theorem lc_appeal {X : JC} (hst : (jl X).stackTraces = false) (g : jG X cL_law RL wsL_law 8 room_1) (t0 : jE0 X) {b L : Nat} {xs : Nat → Int32} (sc : jS X b L xs) (hL : L ≤ 3584) {x m o od : Nat} {ad : Nat → Nat} (hI : mI m ad) {M : MH} {S : ST} (h : LI M x m o od ad S) {i : Nat} (hi : i + 7 ≤ L) {cells slots : Nat} (hcl : cells + 8 ≤ 601024) (hsl : slots + 28 ≤ 7293034) (k : ∀ M2 S2, LI M2 x m o od ad S2 → J X 8 (cells + 8) (slots + 28) M2 [some (.ref b), some (.ref x), some (.ref m), some (.ref o), some (.ref od), some (.int (nI i)), none, none] [] 1544) : J X 8 cells slots M [some (.ref b), some (.ref x), some (.ref m), some (.ref o), some (.ref od), some (.int (nI i)), none, none] [] 906 := by
  obtain ⟨Mx, al, d, ns, nd, f, fd, hr, hc, hk⟩ := h
  refine j_aload_n (pc := 906) g 1 dL_law_906 rfl rfl ?_
  refine j_aload_n (pc := 907) g 0 dL_law_907 rfl rfl ?_
  refine j_iload (pc := 908) g dL_law_908 rfl ?_
  refine j_iconst (pc := 910) g (1) dL_law_910 (by decide) ?_
  refine j_iadd (pc := 911) g dL_law_911 ?_
  refine j_sld (pc := 912) g sc dL_law_912 (i + 1) (nI_add i 1) (by omega) (by omega) ?_
  refine j_aload_n (pc := 913) g 0 dL_law_913 rfl rfl ?_
  refine j_iload (pc := 914) g dL_law_914 rfl ?_
  refine j_iconst (pc := 916) g (2) dL_law_916 (by decide) ?_
  refine j_iadd (pc := 917) g dL_law_917 ?_
  refine j_sld (pc := 918) g sc dL_law_918 (i + 2) (nI_add i 2) (by omega) (by omega) ?_
  refine j_aload_n (pc := 919) g 3 dL_law_919 rfl rfl ?_
  refine j_callSW (pc := 920) (n := 4) g t0 (w_appeal (jl X) (jD X) hst M Mx x m o od ad al S d ns nd f fd hr hc hk (xs (i + 1)) (xs (i + 2))) dL_law_920 gL_law_L_appeal rfl rfl rfl rfl ⟨by decide, by decide, by decide +kernel⟩ ⟨Nat.le_of_ble_eq_true rfl, Nat.le_of_ble_eq_true rfl⟩ ⟨by show _ ≤ 601024; omega, by show _ ≤ 7293034; omega⟩ rfl (Nat.le_of_ble_eq_true rfl) (fun v M1 hp => ?_)
  obtain ⟨rfl, Mx1, al1, f1, hr1, h0, h1⟩ := hp
  show J X 8 _ _ _ _ [.int (tAppeal S (xs (i + 1)) (xs (i + 2)))] (920 + 3)
  refine istore_8_6 (pc := 923) g dL_law_923 ?_
  refine j_aload_n (pc := 925) g 2 dL_law_925 rfl rfl ?_
  refine j_aload_n (pc := 926) g 0 dL_law_926 rfl rfl ?_
  refine j_iload (pc := 927) g dL_law_927 rfl ?_
  refine j_iconst (pc := 929) g (1) dL_law_929 (by decide) ?_
  refine j_iadd (pc := 930) g dL_law_930 ?_
  refine j_sld (pc := 931) g sc dL_law_931 (i + 1) (nI_add i 1) (by omega) (by omega) ?_
  refine j_aload_n (pc := 932) g 0 dL_law_932 rfl rfl ?_
  refine j_iload (pc := 933) g dL_law_933 rfl ?_
  refine j_iconst (pc := 935) g (2) dL_law_935 (by decide) ?_
  refine j_iadd (pc := 936) g dL_law_936 ?_
  refine j_sld (pc := 937) g sc dL_law_937 (i + 2) (nI_add i 2) (by omega) (by omega) ?_
  refine j_callVG (pc := 938) (n := 2) g (hr1.2.1 _ _ (mM_m _ _ _)) rfl hr1.2.1 (m_appeal (jl X) (jD X) m ad hI S ns nd hk.2.2.1.1 hk.2.2.1.2.1 hk.2.2.1.2.2 hk.2.1.2 (xs (i + 1)) (xs (i + 2))) dL_law_938 gL_law_X9_appeal rfl rfl rfl rfl ⟨rfl, by decide, by decide, by decide +kernel⟩ ⟨Nat.le_of_ble_eq_true rfl, Nat.le_of_ble_eq_true rfl⟩ ⟨by show _ ≤ 601024; omega, by show _ ≤ 7293034; omega⟩ rfl (Nat.le_of_ble_eq_true rfl) (fun v M2 hp hn2 => ?_)
  obtain ⟨rfl, rfl⟩ := hp
  have hr2 := hr1.model (mSt S (tAppeal S (xs (i + 1)) (xs (i + 2))) (fun S => nAppeal S (xs (i + 1)) (xs (i + 2))))
  show J X 8 _ _ _ _ [.int (mAns (tAppeal S (xs (i + 1)) (xs (i + 2))) (wnS (nAppeal (su S 28 0 0) (xs (i + 1)) (xs (i + 2))) (ix (xs (i + 1)))))] (938 + 3)
  refine istore_8_7 (pc := 941) g dL_law_941 ?_
  refine j_aload_n (pc := 943) g 2 dL_law_943 rfl rfl ?_
  refine j_callVG (pc := 944) (n := 0) g (hr2.2.1 _ _ (mM_m _ _ _)) rfl hr2.2.1 (m_thrown (jl X) (jD X) m ad hI (mSt S (tAppeal S (xs (i + 1)) (xs (i + 2))) (fun S => nAppeal S (xs (i + 1)) (xs (i + 2))))) dL_law_944 gL_law_X9_thrown rfl rfl rfl rfl ⟨rfl, by decide, by decide, by decide +kernel⟩ ⟨Nat.le_of_ble_eq_true rfl, Nat.le_of_ble_eq_true rfl⟩ ⟨by show _ ≤ 601024; omega, by show _ ≤ 7293034; omega⟩ rfl (Nat.le_of_ble_eq_true rfl) (fun v M3 hp hn3 => ?_)
  obtain ⟨rfl, rfl⟩ := hp
  have hr3 := hr2.model (mSt S (tAppeal S (xs (i + 1)) (xs (i + 2))) (fun S => nAppeal S (xs (i + 1)) (xs (i + 2))))
  have eT : (mSt S (tAppeal S (xs (i + 1)) (xs (i + 2))) (fun S => nAppeal S (xs (i + 1)) (xs (i + 2)))) 28 0 = (tAppeal S (xs (i + 1)) (xs (i + 2))) := th_28 (fun S => rfl)
  show J X 8 _ _ _ _ [.int ((mSt S (tAppeal S (xs (i + 1)) (xs (i + 2))) (fun S => nAppeal S (xs (i + 1)) (xs (i + 2)))) 28 0)] (944 + 3)
  refine j_topi (tAppeal S (xs (i + 1)) (xs (i + 2))) eT ?_
  refine j_iload (pc := 947) g dL_law_947 rfl ?_
  refine j_icmp_eq (pc := 949) g 954 dL_law_949 (by decide) (fun c949 => ?_) (fun c949 => absurd rfl c949)
  refine j_iload (pc := 954) g dL_law_954 rfl ?_
  refine j_if_ne (pc := 956) g 971 dL_law_956 (by decide) (fun c956 => ?_) (fun c956 => ?_)
  · refine j_goto (pc := 971) g 1544 dL_law_971 (by decide) ?_
    by_cases tz : (tAppeal S (xs (i + 1)) (xs (i + 2))) = 0
    · exact j_loc2 (j_room _ _ (by omega) (by omega) (k _ _ (LI.mk hr3 (if_pos tz) ((h0 tz).2.st pr.rf (sf_nb sf28)) (ok_appeal (hk.t sf28) tz))))
    · exact j_loc2 (j_room _ _ (by omega) (by omega) (k _ _ (LI.mk hr3 (if_neg tz) ((h1 tz).st pr.rf sf28) (hk.t sf28))))
  · have em : mAns (tAppeal S (xs (i + 1)) (xs (i + 2))) (wnS (nAppeal (su S 28 0 0) (xs (i + 1)) (xs (i + 2))) (ix (xs (i + 1)))) = (wnS (nAppeal S (xs (i + 1)) (xs (i + 2))) (ix (xs (i + 1)))) := by rw [mAns, if_pos c956]; exact s_wnS (sf_nb sf28) _
    rw [em]
    refine j_aload_n (pc := 959) g 3 dL_law_959 rfl rfl ?_
    refine j_iconst (pc := 960) g (0) dL_law_960 (by decide) ?_
    refine j_lald (pc := 961) g dL_law_961 (hr3.2.2.2.1.1) (vp_in_nI (n := 0) (by omega) (by omega)) ?_
    show J X 8 _ _ _ _ (.long (f1 0) :: _) _
    refine j_iload (pc := 962) g dL_law_962 rfl ?_
    refine j_i2l (pc := 964) g dL_law_964 ?_
    refine j_lcmp (pc := 965) g dL_law_965 ?_
    refine j_if_eq (pc := 966) g 971 dL_law_966 (by decide) (fun c966 => ?_) (fun c966 => absurd (by rw [(h0 c956).1]; exact lgz _) c966)
    refine j_goto (pc := 971) g 1544 dL_law_971 (by decide) ?_
    by_cases tz : (tAppeal S (xs (i + 1)) (xs (i + 2))) = 0
    · exact j_loc2 (j_room _ _ (by omega) (by omega) (k _ _ (LI.mk hr3 (if_pos tz) ((h0 tz).2.st pr.rf (sf_nb sf28)) (ok_appeal (hk.t sf28) tz))))
    · exact j_loc2 (j_room _ _ (by omega) (by omega) (k _ _ (LI.mk hr3 (if_neg tz) ((h1 tz).st pr.rf sf28) (hk.t sf28))))

set_option maxHeartbeats 1000000 in
set_option maxRecDepth 100000 in
theorem lc_prompt {X : JC} (hst : (jl X).stackTraces = false) (g : jG X cL_law RL wsL_law 8 room_1) (t0 : jE0 X) {b L : Nat} {xs : Nat → Int32} (sc : jS X b L xs) (hL : L ≤ 3584) {x m o od : Nat} {ad : Nat → Nat} (hI : mI m ad) {M : MH} {S : ST} (h : LI M x m o od ad S) {i : Nat} (hi : i + 7 ≤ L) {cells slots : Nat} (hcl : cells + 8 ≤ 601024) (hsl : slots + 28 ≤ 7293034) (k : ∀ M2 S2, LI M2 x m o od ad S2 → J X 8 (cells + 8) (slots + 28) M2 [some (.ref b), some (.ref x), some (.ref m), some (.ref o), some (.ref od), some (.int (nI i)), none, none] [] 1544) : J X 8 cells slots M [some (.ref b), some (.ref x), some (.ref m), some (.ref o), some (.ref od), some (.int (nI i)), none, none] [] 974 := by
  obtain ⟨Mx, al, d, ns, nd, f, fd, hr, hc, hk⟩ := h
  refine j_aload_n (pc := 974) g 1 dL_law_974 rfl rfl ?_
  refine j_aload_n (pc := 975) g 0 dL_law_975 rfl rfl ?_
  refine j_iload (pc := 976) g dL_law_976 rfl ?_
  refine j_iconst (pc := 978) g (1) dL_law_978 (by decide) ?_
  refine j_iadd (pc := 979) g dL_law_979 ?_
  refine j_sld (pc := 980) g sc dL_law_980 (i + 1) (nI_add i 1) (by omega) (by omega) ?_
  refine j_aload_n (pc := 981) g 0 dL_law_981 rfl rfl ?_
  refine j_iload (pc := 982) g dL_law_982 rfl ?_
  refine j_iconst (pc := 984) g (2) dL_law_984 (by decide) ?_
  refine j_iadd (pc := 985) g dL_law_985 ?_
  refine j_sld (pc := 986) g sc dL_law_986 (i + 2) (nI_add i 2) (by omega) (by omega) ?_
  refine j_aload_n (pc := 987) g 3 dL_law_987 rfl rfl ?_
  refine j_callSW (pc := 988) (n := 4) g t0 (w_prompt (jl X) (jD X) hst M Mx x m o od ad al S d ns nd f fd hr hc hk (xs (i + 1)) (xs (i + 2))) dL_law_988 gL_law_L_prompt rfl rfl rfl rfl ⟨by decide, by decide, by decide +kernel⟩ ⟨Nat.le_of_ble_eq_true rfl, Nat.le_of_ble_eq_true rfl⟩ ⟨by show _ ≤ 601024; omega, by show _ ≤ 7293034; omega⟩ rfl (Nat.le_of_ble_eq_true rfl) (fun v M1 hp => ?_)
  obtain ⟨rfl, Mx1, al1, f1, hr1, h0, h1⟩ := hp
  show J X 8 _ _ _ _ [.int (tPrompt S (xs (i + 1)) (xs (i + 2)))] (988 + 3)
  refine istore_8_6 (pc := 991) g dL_law_991 ?_
  refine j_aload_n (pc := 993) g 2 dL_law_993 rfl rfl ?_
  refine j_aload_n (pc := 994) g 0 dL_law_994 rfl rfl ?_
  refine j_iload (pc := 995) g dL_law_995 rfl ?_
  refine j_iconst (pc := 997) g (1) dL_law_997 (by decide) ?_
  refine j_iadd (pc := 998) g dL_law_998 ?_
  refine j_sld (pc := 999) g sc dL_law_999 (i + 1) (nI_add i 1) (by omega) (by omega) ?_
  refine j_aload_n (pc := 1000) g 0 dL_law_1000 rfl rfl ?_
  refine j_iload (pc := 1001) g dL_law_1001 rfl ?_
  refine j_iconst (pc := 1003) g (2) dL_law_1003 (by decide) ?_
  refine j_iadd (pc := 1004) g dL_law_1004 ?_
  refine j_sld (pc := 1005) g sc dL_law_1005 (i + 2) (nI_add i 2) (by omega) (by omega) ?_
  refine j_callVG (pc := 1006) (n := 2) g (hr1.2.1 _ _ (mM_m _ _ _)) rfl hr1.2.1 (m_prompt (jl X) (jD X) m ad hI S nd hk.2.2.1.1 hk.2.2.1.2.1 (fun i hi => (hk.2.2.1.2.2 i hi).1) (xs (i + 1)) (xs (i + 2))) dL_law_1006 gL_law_X9_prompt rfl rfl rfl rfl ⟨rfl, by decide, by decide, by decide +kernel⟩ ⟨Nat.le_of_ble_eq_true rfl, Nat.le_of_ble_eq_true rfl⟩ ⟨by show _ ≤ 601024; omega, by show _ ≤ 7293034; omega⟩ rfl (Nat.le_of_ble_eq_true rfl) (fun v M2 hp hn2 => ?_)
  obtain ⟨rfl, rfl⟩ := hp
  have hr2 := hr1.model (mSt S (tPrompt S (xs (i + 1)) (xs (i + 2))) (fun S => S))
  show J X 8 _ _ _ _ [.int (mAns (tPrompt S (xs (i + 1)) (xs (i + 2))) (nI (promptI S (ix (xs (i + 1))) (ix (xs (i + 2))))))] (1006 + 3)
  refine istore_8_7 (pc := 1009) g dL_law_1009 ?_
  refine j_aload_n (pc := 1011) g 2 dL_law_1011 rfl rfl ?_
  refine j_callVG (pc := 1012) (n := 0) g (hr2.2.1 _ _ (mM_m _ _ _)) rfl hr2.2.1 (m_thrown (jl X) (jD X) m ad hI (mSt S (tPrompt S (xs (i + 1)) (xs (i + 2))) (fun S => S))) dL_law_1012 gL_law_X9_thrown rfl rfl rfl rfl ⟨rfl, by decide, by decide, by decide +kernel⟩ ⟨Nat.le_of_ble_eq_true rfl, Nat.le_of_ble_eq_true rfl⟩ ⟨by show _ ≤ 601024; omega, by show _ ≤ 7293034; omega⟩ rfl (Nat.le_of_ble_eq_true rfl) (fun v M3 hp hn3 => ?_)
  obtain ⟨rfl, rfl⟩ := hp
  have hr3 := hr2.model (mSt S (tPrompt S (xs (i + 1)) (xs (i + 2))) (fun S => S))
  have eT : (mSt S (tPrompt S (xs (i + 1)) (xs (i + 2))) (fun S => S)) 28 0 = (tPrompt S (xs (i + 1)) (xs (i + 2))) := th_28 (fun S => rfl)
  show J X 8 _ _ _ _ [.int ((mSt S (tPrompt S (xs (i + 1)) (xs (i + 2))) (fun S => S)) 28 0)] (1012 + 3)
  refine j_topi (tPrompt S (xs (i + 1)) (xs (i + 2))) eT ?_
  refine j_iload (pc := 1015) g dL_law_1015 rfl ?_
  refine j_icmp_eq (pc := 1017) g 1022 dL_law_1017 (by decide) (fun c1017 => ?_) (fun c1017 => absurd rfl c1017)
  refine j_iload (pc := 1022) g dL_law_1022 rfl ?_
  refine j_if_ne (pc := 1024) g 1039 dL_law_1024 (by decide) (fun c1024 => ?_) (fun c1024 => ?_)
  · refine j_goto (pc := 1039) g 1544 dL_law_1039 (by decide) ?_
    by_cases tz : (tPrompt S (xs (i + 1)) (xs (i + 2))) = 0
    · exact j_loc2 (j_room _ _ (by omega) (by omega) (k _ _ (LI.mk hr3 (if_pos tz) ((h0 tz).2.st pr.rf sf28) (hk.t sf28))))
    · exact j_loc2 (j_room _ _ (by omega) (by omega) (k _ _ (LI.mk hr3 (if_neg tz) ((h1 tz).st pr.rf sf28) (hk.t sf28))))
  · have em : mAns (tPrompt S (xs (i + 1)) (xs (i + 2))) (nI (promptI S (ix (xs (i + 1))) (ix (xs (i + 2))))) = (nI (promptI S (ix (xs (i + 1))) (ix (xs (i + 2))))) := by rw [mAns, if_pos c1024]
    rw [em]
    refine j_aload_n (pc := 1027) g 3 dL_law_1027 rfl rfl ?_
    refine j_iconst (pc := 1028) g (0) dL_law_1028 (by decide) ?_
    refine j_lald (pc := 1029) g dL_law_1029 (hr3.2.2.2.1.1) (vp_in_nI (n := 0) (by omega) (by omega)) ?_
    show J X 8 _ _ _ _ (.long (f1 0) :: _) _
    refine j_iload (pc := 1030) g dL_law_1030 rfl ?_
    refine j_i2l (pc := 1032) g dL_law_1032 ?_
    refine j_lcmp (pc := 1033) g dL_law_1033 ?_
    refine j_if_eq (pc := 1034) g 1039 dL_law_1034 (by decide) (fun c1034 => ?_) (fun c1034 => absurd (by rw [(h0 c1024).1]; exact lgz _) c1034)
    refine j_goto (pc := 1039) g 1544 dL_law_1039 (by decide) ?_
    by_cases tz : (tPrompt S (xs (i + 1)) (xs (i + 2))) = 0
    · exact j_loc2 (j_room _ _ (by omega) (by omega) (k _ _ (LI.mk hr3 (if_pos tz) ((h0 tz).2.st pr.rf sf28) (hk.t sf28))))
    · exact j_loc2 (j_room _ _ (by omega) (by omega) (k _ _ (LI.mk hr3 (if_neg tz) ((h1 tz).st pr.rf sf28) (hk.t sf28))))

set_option maxHeartbeats 1000000 in
set_option maxRecDepth 100000 in
theorem lc_mark {X : JC} (hst : (jl X).stackTraces = false) (g : jG X cL_law RL wsL_law 8 room_1) (t0 : jE0 X) {b L : Nat} {xs : Nat → Int32} (sc : jS X b L xs) (hL : L ≤ 3584) {x m o od : Nat} {ad : Nat → Nat} (hI : mI m ad) {M : MH} {S : ST} (h : LI M x m o od ad S) {i : Nat} (hi : i + 7 ≤ L) {cells slots : Nat} (hcl : cells + 8 ≤ 601024) (hsl : slots + 28 ≤ 7293034) (k : ∀ M2 S2, LI M2 x m o od ad S2 → J X 8 (cells + 8) (slots + 28) M2 [some (.ref b), some (.ref x), some (.ref m), some (.ref o), some (.ref od), some (.int (nI i)), none, none] [] 1544) : J X 8 cells slots M [some (.ref b), some (.ref x), some (.ref m), some (.ref o), some (.ref od), some (.int (nI i)), none, none] [] 1042 := by
  obtain ⟨Mx, al, d, ns, nd, f, fd, hr, hc, hk⟩ := h
  refine j_aload_n (pc := 1042) g 1 dL_law_1042 rfl rfl ?_
  refine j_aload_n (pc := 1043) g 0 dL_law_1043 rfl rfl ?_
  refine j_iload (pc := 1044) g dL_law_1044 rfl ?_
  refine j_iconst (pc := 1046) g (1) dL_law_1046 (by decide) ?_
  refine j_iadd (pc := 1047) g dL_law_1047 ?_
  refine j_sld (pc := 1048) g sc dL_law_1048 (i + 1) (nI_add i 1) (by omega) (by omega) ?_
  refine j_aload_n (pc := 1049) g 0 dL_law_1049 rfl rfl ?_
  refine j_iload (pc := 1050) g dL_law_1050 rfl ?_
  refine j_iconst (pc := 1052) g (2) dL_law_1052 (by decide) ?_
  refine j_iadd (pc := 1053) g dL_law_1053 ?_
  refine j_sld (pc := 1054) g sc dL_law_1054 (i + 2) (nI_add i 2) (by omega) (by omega) ?_
  refine j_aload (pc := 1055) g dL_law_1055 rfl ?_
  refine j_callSW (pc := 1057) (n := 4) g t0 (w_mark (jl X) (jD X) hst M Mx x m o od ad al S d ns nd f fd hr hc hk (xs (i + 1)) (xs (i + 2))) dL_law_1057 gL_law_L_mark rfl rfl rfl rfl ⟨by decide, by decide, by decide +kernel⟩ ⟨Nat.le_of_ble_eq_true rfl, Nat.le_of_ble_eq_true rfl⟩ ⟨by show _ ≤ 601024; omega, by show _ ≤ 7293034; omega⟩ rfl (Nat.le_of_ble_eq_true rfl) (fun v M1 hp => ?_)
  obtain ⟨rfl, Mx1, al1, fd1, hr1, h0, hc1⟩ := hp
  show J X 8 _ _ _ _ [.int (tMark S (xs (i + 1)) (xs (i + 2)))] (1057 + 3)
  refine istore_8_6 (pc := 1060) g dL_law_1060 ?_
  refine j_aload_n (pc := 1062) g 2 dL_law_1062 rfl rfl ?_
  refine j_aload_n (pc := 1063) g 0 dL_law_1063 rfl rfl ?_
  refine j_iload (pc := 1064) g dL_law_1064 rfl ?_
  refine j_iconst (pc := 1066) g (1) dL_law_1066 (by decide) ?_
  refine j_iadd (pc := 1067) g dL_law_1067 ?_
  refine j_sld (pc := 1068) g sc dL_law_1068 (i + 1) (nI_add i 1) (by omega) (by omega) ?_
  refine j_aload_n (pc := 1069) g 0 dL_law_1069 rfl rfl ?_
  refine j_iload (pc := 1070) g dL_law_1070 rfl ?_
  refine j_iconst (pc := 1072) g (2) dL_law_1072 (by decide) ?_
  refine j_iadd (pc := 1073) g dL_law_1073 ?_
  refine j_sld (pc := 1074) g sc dL_law_1074 (i + 2) (nI_add i 2) (by omega) (by omega) ?_
  refine j_callVG (pc := 1075) (n := 2) g (hr1.2.1 _ _ (mM_m _ _ _)) rfl hr1.2.1 (m_mark (jl X) (jD X) m ad hI S d ns hk.1.1 hk.1.2.1 hk.1.2.2 hk.2.1.1 hk.2.1.2 (xs (i + 1)) (xs (i + 2))) dL_law_1075 gL_law_X9_mark rfl rfl rfl rfl ⟨rfl, by decide, by decide, by decide +kernel⟩ ⟨Nat.le_of_ble_eq_true rfl, Nat.le_of_ble_eq_true rfl⟩ ⟨by show _ ≤ 601024; omega, by show _ ≤ 7293034; omega⟩ rfl (Nat.le_of_ble_eq_true rfl) (fun v M2 hp hn2 => ?_)
  obtain ⟨rfl, rfl⟩ := hp
  have hr2 := hr1.model (mSt S (tMark S (xs (i + 1)) (xs (i + 2))) (fun S => S))
  show J X 8 _ _ _ _ [.float (mAnsF (tMark S (xs (i + 1)) (xs (i + 2))) (markS (su S 28 0 0) 2 0 d (ix (xs (i + 1))) (ix (xs (i + 2))) (ix (S 4 (ix (xs (i + 1))))) 0))] (1075 + 3)
  refine fstore_8_7 (pc := 1078) g dL_law_1078 ?_
  refine j_aload_n (pc := 1080) g 2 dL_law_1080 rfl rfl ?_
  refine j_callVG (pc := 1081) (n := 0) g (hr2.2.1 _ _ (mM_m _ _ _)) rfl hr2.2.1 (m_thrown (jl X) (jD X) m ad hI (mSt S (tMark S (xs (i + 1)) (xs (i + 2))) (fun S => S))) dL_law_1081 gL_law_X9_thrown rfl rfl rfl rfl ⟨rfl, by decide, by decide, by decide +kernel⟩ ⟨Nat.le_of_ble_eq_true rfl, Nat.le_of_ble_eq_true rfl⟩ ⟨by show _ ≤ 601024; omega, by show _ ≤ 7293034; omega⟩ rfl (Nat.le_of_ble_eq_true rfl) (fun v M3 hp hn3 => ?_)
  obtain ⟨rfl, rfl⟩ := hp
  have hr3 := hr2.model (mSt S (tMark S (xs (i + 1)) (xs (i + 2))) (fun S => S))
  have eT : (mSt S (tMark S (xs (i + 1)) (xs (i + 2))) (fun S => S)) 28 0 = (tMark S (xs (i + 1)) (xs (i + 2))) := th_28 (fun S => rfl)
  show J X 8 _ _ _ _ [.int ((mSt S (tMark S (xs (i + 1)) (xs (i + 2))) (fun S => S)) 28 0)] (1081 + 3)
  refine j_topi (tMark S (xs (i + 1)) (xs (i + 2))) eT ?_
  refine j_iload (pc := 1084) g dL_law_1084 rfl ?_
  refine j_icmp_eq (pc := 1086) g 1091 dL_law_1086 (by decide) (fun c1086 => ?_) (fun c1086 => absurd rfl c1086)
  refine j_iload (pc := 1091) g dL_law_1091 rfl ?_
  refine j_if_ne (pc := 1093) g 1129 dL_law_1093 (by decide) (fun c1093 => ?_) (fun c1093 => ?_)
  · refine j_goto (pc := 1129) g 1544 dL_law_1129 (by decide) ?_
    by_cases tz : (tMark S (xs (i + 1)) (xs (i + 2))) = 0
    · exact j_loc2 (j_room _ _ (by omega) (by omega) (k _ _ (LI.mk hr3 (if_pos tz) (hc1.st pr.rf sf28) (hk.t sf28))))
    · exact j_loc2 (j_room _ _ (by omega) (by omega) (k _ _ (LI.mk hr3 (if_neg tz) (hc1.st pr.rf sf28) (hk.t sf28))))
  · have em : mAnsF (tMark S (xs (i + 1)) (xs (i + 2))) (markS (su S 28 0 0) 2 0 d (ix (xs (i + 1))) (ix (xs (i + 2))) (ix (S 4 (ix (xs (i + 1))))) 0) = (markS S 2 0 d (ix (xs (i + 1))) (ix (xs (i + 2))) (ix (S 4 (ix (xs (i + 1))))) 0) := by rw [mAnsF, if_pos c1093]; exact s_markS sf28 _ _ _ _ _ _ _ (by decide)
    rw [em]
    refine j_aload (pc := 1096) g dL_law_1096 rfl ?_
    refine j_iconst (pc := 1098) g (0) dL_law_1098 (by decide) ?_
    refine j_dald (pc := 1099) g dL_law_1099 (hr3.2.2.2.1.2) (vp_in_nI (n := 0) (by omega) (by omega)) ?_
    show J X 8 _ _ _ _ (.double (fd1 0) :: _) _
    refine j_fload (pc := 1100) g dL_law_1100 rfl ?_
    refine j_f2d (pc := 1102) g dL_law_1102 (f2d_n (fl_mark hk c1093) (by decide)) ?_
    refine j_dcmp (pc := 1103) g dL_law_1103 ?_
    refine j_if_eq (pc := 1104) g 1129 dL_law_1104 (by decide) (fun c1104 => ?_) (fun c1104 => absurd (by rw [h0 c1093]; exact dcmp_0 (fl_mark hk c1093) (by decide)) c1104)
    refine j_goto (pc := 1129) g 1544 dL_law_1129 (by decide) ?_
    by_cases tz : (tMark S (xs (i + 1)) (xs (i + 2))) = 0
    · exact j_loc2 (j_room _ _ (by omega) (by omega) (k _ _ (LI.mk hr3 (if_pos tz) (hc1.st pr.rf sf28) (hk.t sf28))))
    · exact j_loc2 (j_room _ _ (by omega) (by omega) (k _ _ (LI.mk hr3 (if_neg tz) (hc1.st pr.rf sf28) (hk.t sf28))))

set_option maxHeartbeats 1000000 in
set_option maxRecDepth 100000 in
theorem lc_part {X : JC} (hst : (jl X).stackTraces = false) (g : jG X cL_law RL wsL_law 8 room_1) (t0 : jE0 X) {b L : Nat} {xs : Nat → Int32} (sc : jS X b L xs) (hL : L ≤ 3584) {x m o od : Nat} {ad : Nat → Nat} (hI : mI m ad) {M : MH} {S : ST} (h : LI M x m o od ad S) {i : Nat} (hi : i + 7 ≤ L) {cells slots : Nat} (hcl : cells + 8 ≤ 601024) (hsl : slots + 28 ≤ 7293034) (k : ∀ M2 S2, LI M2 x m o od ad S2 → J X 8 (cells + 8) (slots + 28) M2 [some (.ref b), some (.ref x), some (.ref m), some (.ref o), some (.ref od), some (.int (nI i)), none, none] [] 1544) : J X 8 cells slots M [some (.ref b), some (.ref x), some (.ref m), some (.ref o), some (.ref od), some (.int (nI i)), none, none] [] 1132 := by
  obtain ⟨Mx, al, d, ns, nd, f, fd, hr, hc, hk⟩ := h
  refine j_aload_n (pc := 1132) g 1 dL_law_1132 rfl rfl ?_
  refine j_aload_n (pc := 1133) g 0 dL_law_1133 rfl rfl ?_
  refine j_iload (pc := 1134) g dL_law_1134 rfl ?_
  refine j_iconst (pc := 1136) g (1) dL_law_1136 (by decide) ?_
  refine j_iadd (pc := 1137) g dL_law_1137 ?_
  refine j_sld (pc := 1138) g sc dL_law_1138 (i + 1) (nI_add i 1) (by omega) (by omega) ?_
  refine j_aload_n (pc := 1139) g 0 dL_law_1139 rfl rfl ?_
  refine j_iload (pc := 1140) g dL_law_1140 rfl ?_
  refine j_iconst (pc := 1142) g (2) dL_law_1142 (by decide) ?_
  refine j_iadd (pc := 1143) g dL_law_1143 ?_
  refine j_sld (pc := 1144) g sc dL_law_1144 (i + 2) (nI_add i 2) (by omega) (by omega) ?_
  refine j_aload_n (pc := 1145) g 0 dL_law_1145 rfl rfl ?_
  refine j_iload (pc := 1146) g dL_law_1146 rfl ?_
  refine j_iconst (pc := 1148) g (3) dL_law_1148 (by decide) ?_
  refine j_iadd (pc := 1149) g dL_law_1149 ?_
  refine j_sld (pc := 1150) g sc dL_law_1150 (i + 3) (nI_add i 3) (by omega) (by omega) ?_
  refine j_aload (pc := 1151) g dL_law_1151 rfl ?_
  refine j_callSW (pc := 1153) (n := 5) g t0 (w_part (jl X) (jD X) hst M Mx x m o od ad al S d ns nd f fd hr hc hk (xs (i + 1)) (xs (i + 2)) (xs (i + 3))) dL_law_1153 gL_law_L_part rfl rfl rfl rfl ⟨by decide, by decide, by decide +kernel⟩ ⟨Nat.le_of_ble_eq_true rfl, Nat.le_of_ble_eq_true rfl⟩ ⟨by show _ ≤ 601024; omega, by show _ ≤ 7293034; omega⟩ rfl (Nat.le_of_ble_eq_true rfl) (fun v M1 hp => ?_)
  obtain ⟨rfl, Mx1, al1, fd1, hr1, h0, hc1⟩ := hp
  show J X 8 _ _ _ _ [.int (tPart S (xs (i + 1)) (xs (i + 2)) (xs (i + 3)))] (1153 + 3)
  refine istore_8_6 (pc := 1156) g dL_law_1156 ?_
  refine j_aload_n (pc := 1158) g 2 dL_law_1158 rfl rfl ?_
  refine j_aload_n (pc := 1159) g 0 dL_law_1159 rfl rfl ?_
  refine j_iload (pc := 1160) g dL_law_1160 rfl ?_
  refine j_iconst (pc := 1162) g (1) dL_law_1162 (by decide) ?_
  refine j_iadd (pc := 1163) g dL_law_1163 ?_
  refine j_sld (pc := 1164) g sc dL_law_1164 (i + 1) (nI_add i 1) (by omega) (by omega) ?_
  refine j_aload_n (pc := 1165) g 0 dL_law_1165 rfl rfl ?_
  refine j_iload (pc := 1166) g dL_law_1166 rfl ?_
  refine j_iconst (pc := 1168) g (2) dL_law_1168 (by decide) ?_
  refine j_iadd (pc := 1169) g dL_law_1169 ?_
  refine j_sld (pc := 1170) g sc dL_law_1170 (i + 2) (nI_add i 2) (by omega) (by omega) ?_
  refine j_aload_n (pc := 1171) g 0 dL_law_1171 rfl rfl ?_
  refine j_iload (pc := 1172) g dL_law_1172 rfl ?_
  refine j_iconst (pc := 1174) g (3) dL_law_1174 (by decide) ?_
  refine j_iadd (pc := 1175) g dL_law_1175 ?_
  refine j_sld (pc := 1176) g sc dL_law_1176 (i + 3) (nI_add i 3) (by omega) (by omega) ?_
  refine j_callVG (pc := 1177) (n := 3) g (hr1.2.1 _ _ (mM_m _ _ _)) rfl hr1.2.1 (m_part (jl X) (jD X) m ad hI S d ns hk.1.1 hk.1.2.1 hk.1.2.2 hk.2.1.1 hk.2.1.2 (xs (i + 1)) (xs (i + 2)) (xs (i + 3))) dL_law_1177 gL_law_X9_part rfl rfl rfl rfl ⟨rfl, by decide, by decide, by decide +kernel⟩ ⟨Nat.le_of_ble_eq_true rfl, Nat.le_of_ble_eq_true rfl⟩ ⟨by show _ ≤ 601024; omega, by show _ ≤ 7293034; omega⟩ rfl (Nat.le_of_ble_eq_true rfl) (fun v M2 hp hn2 => ?_)
  obtain ⟨rfl, rfl⟩ := hp
  have hr2 := hr1.model (mSt S (tPart S (xs (i + 1)) (xs (i + 2)) (xs (i + 3))) (fun S => S))
  show J X 8 _ _ _ _ [.float (mAnsF (tPart S (xs (i + 1)) (xs (i + 2)) (xs (i + 3))) (vPart S (xs (i + 1)) (xs (i + 2)) (xs (i + 3))))] (1177 + 3)
  refine fstore_8_7 (pc := 1180) g dL_law_1180 ?_
  refine j_aload_n (pc := 1182) g 2 dL_law_1182 rfl rfl ?_
  refine j_callVG (pc := 1183) (n := 0) g (hr2.2.1 _ _ (mM_m _ _ _)) rfl hr2.2.1 (m_thrown (jl X) (jD X) m ad hI (mSt S (tPart S (xs (i + 1)) (xs (i + 2)) (xs (i + 3))) (fun S => S))) dL_law_1183 gL_law_X9_thrown rfl rfl rfl rfl ⟨rfl, by decide, by decide, by decide +kernel⟩ ⟨Nat.le_of_ble_eq_true rfl, Nat.le_of_ble_eq_true rfl⟩ ⟨by show _ ≤ 601024; omega, by show _ ≤ 7293034; omega⟩ rfl (Nat.le_of_ble_eq_true rfl) (fun v M3 hp hn3 => ?_)
  obtain ⟨rfl, rfl⟩ := hp
  have hr3 := hr2.model (mSt S (tPart S (xs (i + 1)) (xs (i + 2)) (xs (i + 3))) (fun S => S))
  have eT : (mSt S (tPart S (xs (i + 1)) (xs (i + 2)) (xs (i + 3))) (fun S => S)) 28 0 = (tPart S (xs (i + 1)) (xs (i + 2)) (xs (i + 3))) := th_28 (fun S => rfl)
  show J X 8 _ _ _ _ [.int ((mSt S (tPart S (xs (i + 1)) (xs (i + 2)) (xs (i + 3))) (fun S => S)) 28 0)] (1183 + 3)
  refine j_topi (tPart S (xs (i + 1)) (xs (i + 2)) (xs (i + 3))) eT ?_
  refine j_iload (pc := 1186) g dL_law_1186 rfl ?_
  refine j_icmp_eq (pc := 1188) g 1193 dL_law_1188 (by decide) (fun c1188 => ?_) (fun c1188 => absurd rfl c1188)
  refine j_iload (pc := 1193) g dL_law_1193 rfl ?_
  refine j_if_ne (pc := 1195) g 1231 dL_law_1195 (by decide) (fun c1195 => ?_) (fun c1195 => ?_)
  · refine j_goto (pc := 1231) g 1544 dL_law_1231 (by decide) ?_
    by_cases tz : (tPart S (xs (i + 1)) (xs (i + 2)) (xs (i + 3))) = 0
    · exact j_loc2 (j_room _ _ (by omega) (by omega) (k _ _ (LI.mk hr3 (if_pos tz) (hc1.st pr.rf sf28) (hk.t sf28))))
    · exact j_loc2 (j_room _ _ (by omega) (by omega) (k _ _ (LI.mk hr3 (if_neg tz) (hc1.st pr.rf sf28) (hk.t sf28))))
  · have em : mAnsF (tPart S (xs (i + 1)) (xs (i + 2)) (xs (i + 3))) (vPart S (xs (i + 1)) (xs (i + 2)) (xs (i + 3))) = (vPart S (xs (i + 1)) (xs (i + 2)) (xs (i + 3))) := by rw [mAnsF, if_pos c1195]
    rw [em]
    refine j_aload (pc := 1198) g dL_law_1198 rfl ?_
    refine j_iconst (pc := 1200) g (0) dL_law_1200 (by decide) ?_
    refine j_dald (pc := 1201) g dL_law_1201 (hr3.2.2.2.1.2) (vp_in_nI (n := 0) (by omega) (by omega)) ?_
    show J X 8 _ _ _ _ (.double (fd1 0) :: _) _
    refine j_fload (pc := 1202) g dL_law_1202 rfl ?_
    refine j_f2d (pc := 1204) g dL_law_1204 (f2d_n (fl_part hk c1195) (by decide)) ?_
    refine j_dcmp (pc := 1205) g dL_law_1205 ?_
    refine j_if_eq (pc := 1206) g 1231 dL_law_1206 (by decide) (fun c1206 => ?_) (fun c1206 => absurd (by rw [h0 c1195]; exact dcmp_0 (fl_part hk c1195) (by decide)) c1206)
    refine j_goto (pc := 1231) g 1544 dL_law_1231 (by decide) ?_
    by_cases tz : (tPart S (xs (i + 1)) (xs (i + 2)) (xs (i + 3))) = 0
    · exact j_loc2 (j_room _ _ (by omega) (by omega) (k _ _ (LI.mk hr3 (if_pos tz) (hc1.st pr.rf sf28) (hk.t sf28))))
    · exact j_loc2 (j_room _ _ (by omega) (by omega) (k _ _ (LI.mk hr3 (if_neg tz) (hc1.st pr.rf sf28) (hk.t sf28))))
