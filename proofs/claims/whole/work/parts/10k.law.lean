



set_option maxHeartbeats 1000000 in
set_option maxRecDepth 100000 in
theorem lc_marked {X : JC} (hst : (jl X).stackTraces = false) (g : jG X cL_law RL wsL_law 8 room_1) (t0 : jE0 X) {b L : Nat} {xs : Nat → Int32} (sc : jS X b L xs) (hL : L ≤ 3584) {x m o od : Nat} {ad : Nat → Nat} (hI : mI m ad) {M : MH} {S : ST} (h : LI M x m o od ad S) {i : Nat} (hi : i + 7 ≤ L) {cells slots : Nat} (hcl : cells + 8 ≤ 601024) (hsl : slots + 28 ≤ 7293034) (k : ∀ M2 S2, LI M2 x m o od ad S2 → J X 8 (cells + 8) (slots + 28) M2 [some (.ref b), some (.ref x), some (.ref m), some (.ref o), some (.ref od), some (.int (nI i)), none, none] [] 1544) : J X 8 cells slots M [some (.ref b), some (.ref x), some (.ref m), some (.ref o), some (.ref od), some (.int (nI i)), none, none] [] 1234 := by
  obtain ⟨Mx, al, d, ns, nd, f, fd, hr, hc, hk⟩ := h
  refine j_aload_n (pc := 1234) g 1 dL_law_1234 rfl rfl ?_
  refine j_aload_n (pc := 1235) g 0 dL_law_1235 rfl rfl ?_
  refine j_iload (pc := 1236) g dL_law_1236 rfl ?_
  refine j_iconst (pc := 1238) g (1) dL_law_1238 (by decide) ?_
  refine j_iadd (pc := 1239) g dL_law_1239 ?_
  refine j_sld (pc := 1240) g sc dL_law_1240 (i + 1) (nI_add i 1) (by omega) (by omega) ?_
  refine j_aload_n (pc := 1241) g 0 dL_law_1241 rfl rfl ?_
  refine j_iload (pc := 1242) g dL_law_1242 rfl ?_
  refine j_iconst (pc := 1244) g (2) dL_law_1244 (by decide) ?_
  refine j_iadd (pc := 1245) g dL_law_1245 ?_
  refine j_sld (pc := 1246) g sc dL_law_1246 (i + 2) (nI_add i 2) (by omega) (by omega) ?_
  refine j_aload_n (pc := 1247) g 0 dL_law_1247 rfl rfl ?_
  refine j_iload (pc := 1248) g dL_law_1248 rfl ?_
  refine j_iconst (pc := 1250) g (3) dL_law_1250 (by decide) ?_
  refine j_iadd (pc := 1251) g dL_law_1251 ?_
  refine j_sld (pc := 1252) g sc dL_law_1252 (i + 3) (nI_add i 3) (by omega) (by omega) ?_
  have K1 : ∀ (bb : Int32) (hbb : bb = b01 (¬ xs (i + 3) = 0)), J X 8 cells slots (M) [some (.ref b), some (.ref x), some (.ref m), some (.ref o), some (.ref od), some (.int (nI i)), none, none] [.int bb, .int (xs (i + 2)), .int (xs (i + 1)), .ref x] 1261 := by
    intro bb hbb
    refine j_aload (pc := 1261) g dL_law_1261 rfl ?_
    refine j_callSW (pc := 1263) (n := 5) g t0 (w_marked (jl X) (jD X) hst M Mx x m o od ad al S d ns nd f fd hr hc hk (xs (i + 1)) (xs (i + 2)) bb) dL_law_1263 gL_law_L_marked rfl rfl rfl rfl ⟨by decide, by decide, by decide +kernel⟩ ⟨Nat.le_of_ble_eq_true rfl, Nat.le_of_ble_eq_true rfl⟩ ⟨by show _ ≤ 601024; omega, by show _ ≤ 7293034; omega⟩ rfl (Nat.le_of_ble_eq_true rfl) (fun v M1 hp => ?_)
    obtain ⟨rfl, Mx1, al1, fd1, hr1, h0, hc1⟩ := hp
    show J X 8 _ _ _ _ [.int (tMarked S (xs (i + 1)) (xs (i + 2)) bb)] (1263 + 3)
    refine istore_8_6 (pc := 1266) g dL_law_1266 ?_
    refine j_aload_n (pc := 1268) g 2 dL_law_1268 rfl rfl ?_
    refine j_aload_n (pc := 1269) g 0 dL_law_1269 rfl rfl ?_
    refine j_iload (pc := 1270) g dL_law_1270 rfl ?_
    refine j_iconst (pc := 1272) g (1) dL_law_1272 (by decide) ?_
    refine j_iadd (pc := 1273) g dL_law_1273 ?_
    refine j_sld (pc := 1274) g sc dL_law_1274 (i + 1) (nI_add i 1) (by omega) (by omega) ?_
    refine j_aload_n (pc := 1275) g 0 dL_law_1275 rfl rfl ?_
    refine j_iload (pc := 1276) g dL_law_1276 rfl ?_
    refine j_iconst (pc := 1278) g (2) dL_law_1278 (by decide) ?_
    refine j_iadd (pc := 1279) g dL_law_1279 ?_
    refine j_sld (pc := 1280) g sc dL_law_1280 (i + 2) (nI_add i 2) (by omega) (by omega) ?_
    refine j_aload_n (pc := 1281) g 0 dL_law_1281 rfl rfl ?_
    refine j_iload (pc := 1282) g dL_law_1282 rfl ?_
    refine j_iconst (pc := 1284) g (3) dL_law_1284 (by decide) ?_
    refine j_iadd (pc := 1285) g dL_law_1285 ?_
    refine j_sld (pc := 1286) g sc dL_law_1286 (i + 3) (nI_add i 3) (by omega) (by omega) ?_
    have K2 : ∀ (b2 : Int32) (hb2 : b2 = b01 (¬ xs (i + 3) = 0)), J X 8 (cells + 1) (slots + 6) (M1) [some (.ref b), some (.ref x), some (.ref m), some (.ref o), some (.ref od), some (.int (nI i)), some (.int (tMarked S (xs (i + 1)) (xs (i + 2)) bb)), none] [.int b2, .int (xs (i + 2)), .int (xs (i + 1)), .ref m] 1295 := by
      intro b2 hb2
      obtain rfl : bb = b2 := hbb.trans hb2.symm
      refine j_callVG (pc := 1295) (n := 3) g (hr1.2.1 _ _ (mM_m _ _ _)) rfl hr1.2.1 (m_marked (jl X) (jD X) m ad hI S ns nd hk.2.2.1.1 hk.2.2.1.2.1 hk.2.2.1.2.2 hk.2.1.2 (xs (i + 1)) (xs (i + 2)) bb) dL_law_1295 gL_law_X9_marked rfl rfl rfl rfl ⟨rfl, by decide, by decide, by decide +kernel⟩ ⟨Nat.le_of_ble_eq_true rfl, Nat.le_of_ble_eq_true rfl⟩ ⟨by show _ ≤ 601024; omega, by show _ ≤ 7293034; omega⟩ rfl (Nat.le_of_ble_eq_true rfl) (fun v M2 hp hn2 => ?_)
      obtain ⟨rfl, rfl⟩ := hp
      have hr2 := hr1.model (mSt S (tMarked S (xs (i + 1)) (xs (i + 2)) bb) (fun S => S))
      show J X 8 _ _ _ _ [.float (mAnsF (tMarked S (xs (i + 1)) (xs (i + 2)) bb) (allS (su S 28 0 0) (ix (xs (i + 1))) (wI (ix (xs (i + 1))) (ix (xs (i + 2))) bb)))] (1295 + 3)
      refine fstore_8_7 (pc := 1298) g dL_law_1298 ?_
      refine j_aload_n (pc := 1300) g 2 dL_law_1300 rfl rfl ?_
      refine j_callVG (pc := 1301) (n := 0) g (hr2.2.1 _ _ (mM_m _ _ _)) rfl hr2.2.1 (m_thrown (jl X) (jD X) m ad hI (mSt S (tMarked S (xs (i + 1)) (xs (i + 2)) bb) (fun S => S))) dL_law_1301 gL_law_X9_thrown rfl rfl rfl rfl ⟨rfl, by decide, by decide, by decide +kernel⟩ ⟨Nat.le_of_ble_eq_true rfl, Nat.le_of_ble_eq_true rfl⟩ ⟨by show _ ≤ 601024; omega, by show _ ≤ 7293034; omega⟩ rfl (Nat.le_of_ble_eq_true rfl) (fun v M3 hp hn3 => ?_)
      obtain ⟨rfl, rfl⟩ := hp
      have hr3 := hr2.model (mSt S (tMarked S (xs (i + 1)) (xs (i + 2)) bb) (fun S => S))
      have eT : (mSt S (tMarked S (xs (i + 1)) (xs (i + 2)) bb) (fun S => S)) 28 0 = (tMarked S (xs (i + 1)) (xs (i + 2)) bb) := th_28 (fun S => rfl)
      show J X 8 _ _ _ _ [.int ((mSt S (tMarked S (xs (i + 1)) (xs (i + 2)) bb) (fun S => S)) 28 0)] (1301 + 3)
      refine j_topi (tMarked S (xs (i + 1)) (xs (i + 2)) bb) eT ?_
      refine j_iload (pc := 1304) g dL_law_1304 rfl ?_
      refine j_icmp_eq (pc := 1306) g 1311 dL_law_1306 (by decide) (fun c1306 => ?_) (fun c1306 => absurd rfl c1306)
      refine j_iload (pc := 1311) g dL_law_1311 rfl ?_
      refine j_if_ne (pc := 1313) g 1349 dL_law_1313 (by decide) (fun c1313 => ?_) (fun c1313 => ?_)
      · refine j_goto (pc := 1349) g 1544 dL_law_1349 (by decide) ?_
        by_cases tz : (tMarked S (xs (i + 1)) (xs (i + 2)) bb) = 0
        · exact j_loc2 (j_room _ _ (by omega) (by omega) (k _ _ (LI.mk hr3 (if_pos tz) (hc1.st pr.rf sf28) (hk.t sf28))))
        · exact j_loc2 (j_room _ _ (by omega) (by omega) (k _ _ (LI.mk hr3 (if_neg tz) (hc1.st pr.rf sf28) (hk.t sf28))))
      · have em : mAnsF (tMarked S (xs (i + 1)) (xs (i + 2)) bb) (allS (su S 28 0 0) (ix (xs (i + 1))) (wI (ix (xs (i + 1))) (ix (xs (i + 2))) bb)) = (allS S (ix (xs (i + 1))) (wI (ix (xs (i + 1))) (ix (xs (i + 2))) bb)) := by rw [mAnsF, if_pos c1313]; exact s_allS sf28 _ _
        rw [em]
        refine j_aload (pc := 1316) g dL_law_1316 rfl ?_
        refine j_iconst (pc := 1318) g (0) dL_law_1318 (by decide) ?_
        refine j_dald (pc := 1319) g dL_law_1319 (hr3.2.2.2.1.2) (vp_in_nI (n := 0) (by omega) (by omega)) ?_
        show J X 8 _ _ _ _ (.double (fd1 0) :: _) _
        refine j_fload (pc := 1320) g dL_law_1320 rfl ?_
        refine j_f2d (pc := 1322) g dL_law_1322 (f2d_n (fl_marked hk c1313) (by decide)) ?_
        refine j_dcmp (pc := 1323) g dL_law_1323 ?_
        refine j_if_eq (pc := 1324) g 1349 dL_law_1324 (by decide) (fun c1324 => ?_) (fun c1324 => absurd (by rw [h0 c1313]; exact dcmp_0 (fl_marked hk c1313) (by decide)) c1324)
        refine j_goto (pc := 1349) g 1544 dL_law_1349 (by decide) ?_
        by_cases tz : (tMarked S (xs (i + 1)) (xs (i + 2)) bb) = 0
        · exact j_loc2 (j_room _ _ (by omega) (by omega) (k _ _ (LI.mk hr3 (if_pos tz) (hc1.st pr.rf sf28) (hk.t sf28))))
        · exact j_loc2 (j_room _ _ (by omega) (by omega) (k _ _ (LI.mk hr3 (if_neg tz) (hc1.st pr.rf sf28) (hk.t sf28))))
    refine j_if_eq (pc := 1287) g 1294 dL_law_1287 (by decide) (fun c1287 => ?_) (fun c1287 => ?_)
    · refine j_iconst (pc := 1294) g (0) dL_law_1294 (by decide) ?_
      exact K2 _ (by grind [b01])
    · refine j_iconst (pc := 1290) g (1) dL_law_1290 (by decide) ?_
      refine j_goto (pc := 1291) g 1295 dL_law_1291 (by decide) ?_
      exact K2 _ (by grind [b01])
  refine j_if_eq (pc := 1253) g 1260 dL_law_1253 (by decide) (fun c1253 => ?_) (fun c1253 => ?_)
  · refine j_iconst (pc := 1260) g (0) dL_law_1260 (by decide) ?_
    exact K1 _ (by grind [b01])
  · refine j_iconst (pc := 1256) g (1) dL_law_1256 (by decide) ?_
    refine j_goto (pc := 1257) g 1261 dL_law_1257 (by decide) ?_
    exact K1 _ (by grind [b01])

set_option maxHeartbeats 1000000 in
set_option maxRecDepth 100000 in
theorem lc_of {X : JC} (hst : (jl X).stackTraces = false) (g : jG X cL_law RL wsL_law 8 room_1) (t0 : jE0 X) {b L : Nat} {xs : Nat → Int32} (sc : jS X b L xs) (hL : L ≤ 3584) {x m o od : Nat} {ad : Nat → Nat} (hI : mI m ad) {M : MH} {S : ST} (h : LI M x m o od ad S) {i : Nat} (hi : i + 7 ≤ L) {cells slots : Nat} (hcl : cells + 8 ≤ 601024) (hsl : slots + 28 ≤ 7293034) (k : ∀ M2 S2, LI M2 x m o od ad S2 → J X 8 (cells + 8) (slots + 28) M2 [some (.ref b), some (.ref x), some (.ref m), some (.ref o), some (.ref od), some (.int (nI i)), none, none] [] 1544) : J X 8 cells slots M [some (.ref b), some (.ref x), some (.ref m), some (.ref o), some (.ref od), some (.int (nI i)), none, none] [] 1352 := by
  obtain ⟨Mx, al, d, ns, nd, f, fd, hr, hc, hk⟩ := h
  refine j_aload_n (pc := 1352) g 1 dL_law_1352 rfl rfl ?_
  refine j_aload_n (pc := 1353) g 0 dL_law_1353 rfl rfl ?_
  refine j_iload (pc := 1354) g dL_law_1354 rfl ?_
  refine j_iconst (pc := 1356) g (1) dL_law_1356 (by decide) ?_
  refine j_iadd (pc := 1357) g dL_law_1357 ?_
  refine j_sld (pc := 1358) g sc dL_law_1358 (i + 1) (nI_add i 1) (by omega) (by omega) ?_
  refine j_aload_n (pc := 1359) g 0 dL_law_1359 rfl rfl ?_
  refine j_iload (pc := 1360) g dL_law_1360 rfl ?_
  refine j_iconst (pc := 1362) g (2) dL_law_1362 (by decide) ?_
  refine j_iadd (pc := 1363) g dL_law_1363 ?_
  refine j_sld (pc := 1364) g sc dL_law_1364 (i + 2) (nI_add i 2) (by omega) (by omega) ?_
  refine j_aload_n (pc := 1365) g 3 dL_law_1365 rfl rfl ?_
  refine j_callSW (pc := 1366) (n := 4) g t0 (w_of (jl X) (jD X) hst M Mx x m o od ad al S d ns nd f fd hr hc hk (xs (i + 1)) (xs (i + 2))) dL_law_1366 gL_law_L_of rfl rfl rfl rfl ⟨by decide, by decide, by decide +kernel⟩ ⟨Nat.le_of_ble_eq_true rfl, Nat.le_of_ble_eq_true rfl⟩ ⟨by show _ ≤ 601024; omega, by show _ ≤ 7293034; omega⟩ rfl (Nat.le_of_ble_eq_true rfl) (fun v M1 hp => ?_)
  obtain ⟨rfl, Mx1, al1, f1, hr1, h0, h1⟩ := hp
  show J X 8 _ _ _ _ [.int (tOf S (xs (i + 1)) (xs (i + 2)))] (1366 + 3)
  refine istore_8_6 (pc := 1369) g dL_law_1369 ?_
  refine j_aload_n (pc := 1371) g 2 dL_law_1371 rfl rfl ?_
  refine j_aload_n (pc := 1372) g 0 dL_law_1372 rfl rfl ?_
  refine j_iload (pc := 1373) g dL_law_1373 rfl ?_
  refine j_iconst (pc := 1375) g (1) dL_law_1375 (by decide) ?_
  refine j_iadd (pc := 1376) g dL_law_1376 ?_
  refine j_sld (pc := 1377) g sc dL_law_1377 (i + 1) (nI_add i 1) (by omega) (by omega) ?_
  refine j_aload_n (pc := 1378) g 0 dL_law_1378 rfl rfl ?_
  refine j_iload (pc := 1379) g dL_law_1379 rfl ?_
  refine j_iconst (pc := 1381) g (2) dL_law_1381 (by decide) ?_
  refine j_iadd (pc := 1382) g dL_law_1382 ?_
  refine j_sld (pc := 1383) g sc dL_law_1383 (i + 2) (nI_add i 2) (by omega) (by omega) ?_
  refine j_callVG (pc := 1384) (n := 2) g (hr1.2.1 _ _ (mM_m _ _ _)) rfl hr1.2.1 (m_of (jl X) (jD X) m ad hI S ns nd hk.2.2.1.1 hk.2.2.1.2.1 hk.2.2.1.2.2 hk.2.1.2 (xs (i + 1)) (xs (i + 2))) dL_law_1384 gL_law_X9_of rfl rfl rfl rfl ⟨rfl, by decide, by decide, by decide +kernel⟩ ⟨Nat.le_of_ble_eq_true rfl, Nat.le_of_ble_eq_true rfl⟩ ⟨by show _ ≤ 601024; omega, by show _ ≤ 7293034; omega⟩ rfl (Nat.le_of_ble_eq_true rfl) (fun v M2 hp hn2 => ?_)
  obtain ⟨rfl, rfl⟩ := hp
  have hr2 := hr1.model (mSt S (tOf S (xs (i + 1)) (xs (i + 2))) (fun S => S))
  show J X 8 _ _ _ _ [.int (mAns (tOf S (xs (i + 1)) (xs (i + 2))) (vOf (su S 28 0 0) (ix (xs (i + 1))) (xs (i + 2))))] (1384 + 3)
  refine istore_8_7 (pc := 1387) g dL_law_1387 ?_
  refine j_aload_n (pc := 1389) g 2 dL_law_1389 rfl rfl ?_
  refine j_callVG (pc := 1390) (n := 0) g (hr2.2.1 _ _ (mM_m _ _ _)) rfl hr2.2.1 (m_thrown (jl X) (jD X) m ad hI (mSt S (tOf S (xs (i + 1)) (xs (i + 2))) (fun S => S))) dL_law_1390 gL_law_X9_thrown rfl rfl rfl rfl ⟨rfl, by decide, by decide, by decide +kernel⟩ ⟨Nat.le_of_ble_eq_true rfl, Nat.le_of_ble_eq_true rfl⟩ ⟨by show _ ≤ 601024; omega, by show _ ≤ 7293034; omega⟩ rfl (Nat.le_of_ble_eq_true rfl) (fun v M3 hp hn3 => ?_)
  obtain ⟨rfl, rfl⟩ := hp
  have hr3 := hr2.model (mSt S (tOf S (xs (i + 1)) (xs (i + 2))) (fun S => S))
  have eT : (mSt S (tOf S (xs (i + 1)) (xs (i + 2))) (fun S => S)) 28 0 = (tOf S (xs (i + 1)) (xs (i + 2))) := th_28 (fun S => rfl)
  show J X 8 _ _ _ _ [.int ((mSt S (tOf S (xs (i + 1)) (xs (i + 2))) (fun S => S)) 28 0)] (1390 + 3)
  refine j_topi (tOf S (xs (i + 1)) (xs (i + 2))) eT ?_
  refine j_iload (pc := 1393) g dL_law_1393 rfl ?_
  refine j_icmp_eq (pc := 1395) g 1400 dL_law_1395 (by decide) (fun c1395 => ?_) (fun c1395 => absurd rfl c1395)
  refine j_iload (pc := 1400) g dL_law_1400 rfl ?_
  refine j_if_ne (pc := 1402) g 1417 dL_law_1402 (by decide) (fun c1402 => ?_) (fun c1402 => ?_)
  · refine j_goto (pc := 1417) g 1544 dL_law_1417 (by decide) ?_
    by_cases tz : (tOf S (xs (i + 1)) (xs (i + 2))) = 0
    · exact j_loc2 (j_room _ _ (by omega) (by omega) (k _ _ (LI.mk hr3 (if_pos tz) ((h0 tz).2.st pr.rf sf28) (hk.t sf28))))
    · exact j_loc2 (j_room _ _ (by omega) (by omega) (k _ _ (LI.mk hr3 (if_neg tz) ((h1 tz).st pr.rf sf28) (hk.t sf28))))
  · have em : mAns (tOf S (xs (i + 1)) (xs (i + 2))) (vOf (su S 28 0 0) (ix (xs (i + 1))) (xs (i + 2))) = (vOf S (ix (xs (i + 1))) (xs (i + 2))) := by rw [mAns, if_pos c1402]; exact s_vOf sf28 _ _
    rw [em]
    refine j_aload_n (pc := 1405) g 3 dL_law_1405 rfl rfl ?_
    refine j_iconst (pc := 1406) g (0) dL_law_1406 (by decide) ?_
    refine j_lald (pc := 1407) g dL_law_1407 (hr3.2.2.2.1.1) (vp_in_nI (n := 0) (by omega) (by omega)) ?_
    show J X 8 _ _ _ _ (.long (f1 0) :: _) _
    refine j_iload (pc := 1408) g dL_law_1408 rfl ?_
    refine j_i2l (pc := 1410) g dL_law_1410 ?_
    refine j_lcmp (pc := 1411) g dL_law_1411 ?_
    refine j_if_eq (pc := 1412) g 1417 dL_law_1412 (by decide) (fun c1412 => ?_) (fun c1412 => absurd (by rw [(h0 c1402).1]; exact lgz _) c1412)
    refine j_goto (pc := 1417) g 1544 dL_law_1417 (by decide) ?_
    by_cases tz : (tOf S (xs (i + 1)) (xs (i + 2))) = 0
    · exact j_loc2 (j_room _ _ (by omega) (by omega) (k _ _ (LI.mk hr3 (if_pos tz) ((h0 tz).2.st pr.rf sf28) (hk.t sf28))))
    · exact j_loc2 (j_room _ _ (by omega) (by omega) (k _ _ (LI.mk hr3 (if_neg tz) ((h1 tz).st pr.rf sf28) (hk.t sf28))))

set_option maxHeartbeats 1000000 in
set_option maxRecDepth 100000 in
theorem lc_paper {X : JC} (hst : (jl X).stackTraces = false) (g : jG X cL_law RL wsL_law 8 room_1) (t0 : jE0 X) {b L : Nat} {xs : Nat → Int32} (sc : jS X b L xs) (hL : L ≤ 3584) {x m o od : Nat} {ad : Nat → Nat} (hI : mI m ad) {M : MH} {S : ST} (h : LI M x m o od ad S) {i : Nat} (hi : i + 7 ≤ L) {cells slots : Nat} (hcl : cells + 8 ≤ 601024) (hsl : slots + 28 ≤ 7293034) (k : ∀ M2 S2, LI M2 x m o od ad S2 → J X 8 (cells + 8) (slots + 28) M2 [some (.ref b), some (.ref x), some (.ref m), some (.ref o), some (.ref od), some (.int (nI i)), none, none] [] 1544) : J X 8 cells slots M [some (.ref b), some (.ref x), some (.ref m), some (.ref o), some (.ref od), some (.int (nI i)), none, none] [] 1420 := by
  obtain ⟨Mx, al, d, ns, nd, f, fd, hr, hc, hk⟩ := h
  refine j_aload_n (pc := 1420) g 1 dL_law_1420 rfl rfl ?_
  refine j_aload_n (pc := 1421) g 0 dL_law_1421 rfl rfl ?_
  refine j_iload (pc := 1422) g dL_law_1422 rfl ?_
  refine j_iconst (pc := 1424) g (1) dL_law_1424 (by decide) ?_
  refine j_iadd (pc := 1425) g dL_law_1425 ?_
  refine j_sld (pc := 1426) g sc dL_law_1426 (i + 1) (nI_add i 1) (by omega) (by omega) ?_
  refine j_aload_n (pc := 1427) g 0 dL_law_1427 rfl rfl ?_
  refine j_iload (pc := 1428) g dL_law_1428 rfl ?_
  refine j_iconst (pc := 1430) g (2) dL_law_1430 (by decide) ?_
  refine j_iadd (pc := 1431) g dL_law_1431 ?_
  refine j_sld (pc := 1432) g sc dL_law_1432 (i + 2) (nI_add i 2) (by omega) (by omega) ?_
  refine j_aload_n (pc := 1433) g 3 dL_law_1433 rfl rfl ?_
  refine j_callSW (pc := 1434) (n := 4) g t0 (w_paper (jl X) (jD X) hst M Mx x m o od ad al S d ns nd f fd hr hc hk (xs (i + 1)) (xs (i + 2))) dL_law_1434 gL_law_L_paper rfl rfl rfl rfl ⟨by decide, by decide, by decide +kernel⟩ ⟨Nat.le_of_ble_eq_true rfl, Nat.le_of_ble_eq_true rfl⟩ ⟨by show _ ≤ 601024; omega, by show _ ≤ 7293034; omega⟩ rfl (Nat.le_of_ble_eq_true rfl) (fun v M1 hp => ?_)
  obtain ⟨rfl, Mx1, al1, f1, hr1, h0, h1⟩ := hp
  show J X 8 _ _ _ _ [.int (tPaper (xs (i + 1)) (xs (i + 2)))] (1434 + 3)
  refine istore_8_6 (pc := 1437) g dL_law_1437 ?_
  refine j_aload_n (pc := 1439) g 2 dL_law_1439 rfl rfl ?_
  refine j_aload_n (pc := 1440) g 0 dL_law_1440 rfl rfl ?_
  refine j_iload (pc := 1441) g dL_law_1441 rfl ?_
  refine j_iconst (pc := 1443) g (1) dL_law_1443 (by decide) ?_
  refine j_iadd (pc := 1444) g dL_law_1444 ?_
  refine j_sld (pc := 1445) g sc dL_law_1445 (i + 1) (nI_add i 1) (by omega) (by omega) ?_
  refine j_aload_n (pc := 1446) g 0 dL_law_1446 rfl rfl ?_
  refine j_iload (pc := 1447) g dL_law_1447 rfl ?_
  refine j_iconst (pc := 1449) g (2) dL_law_1449 (by decide) ?_
  refine j_iadd (pc := 1450) g dL_law_1450 ?_
  refine j_sld (pc := 1451) g sc dL_law_1451 (i + 2) (nI_add i 2) (by omega) (by omega) ?_
  refine j_callVG (pc := 1452) (n := 2) g (hr1.2.1 _ _ (mM_m _ _ _)) rfl hr1.2.1 (m_paper (jl X) (jD X) m ad hI S  (xs (i + 1)) (xs (i + 2))) dL_law_1452 gL_law_X9_paper rfl rfl rfl rfl ⟨rfl, by decide, by decide, by decide +kernel⟩ ⟨Nat.le_of_ble_eq_true rfl, Nat.le_of_ble_eq_true rfl⟩ ⟨by show _ ≤ 601024; omega, by show _ ≤ 7293034; omega⟩ rfl (Nat.le_of_ble_eq_true rfl) (fun v M2 hp hn2 => ?_)
  obtain ⟨rfl, rfl⟩ := hp
  have hr2 := hr1.model (mSt S (tPaper (xs (i + 1)) (xs (i + 2))) (fun S => S))
  show J X 8 _ _ _ _ [.int (mAns (tPaper (xs (i + 1)) (xs (i + 2))) (vPaper S (xs (i + 1)) (xs (i + 2))))] (1452 + 3)
  refine istore_8_7 (pc := 1455) g dL_law_1455 ?_
  refine j_aload_n (pc := 1457) g 2 dL_law_1457 rfl rfl ?_
  refine j_callVG (pc := 1458) (n := 0) g (hr2.2.1 _ _ (mM_m _ _ _)) rfl hr2.2.1 (m_thrown (jl X) (jD X) m ad hI (mSt S (tPaper (xs (i + 1)) (xs (i + 2))) (fun S => S))) dL_law_1458 gL_law_X9_thrown rfl rfl rfl rfl ⟨rfl, by decide, by decide, by decide +kernel⟩ ⟨Nat.le_of_ble_eq_true rfl, Nat.le_of_ble_eq_true rfl⟩ ⟨by show _ ≤ 601024; omega, by show _ ≤ 7293034; omega⟩ rfl (Nat.le_of_ble_eq_true rfl) (fun v M3 hp hn3 => ?_)
  obtain ⟨rfl, rfl⟩ := hp
  have hr3 := hr2.model (mSt S (tPaper (xs (i + 1)) (xs (i + 2))) (fun S => S))
  have eT : (mSt S (tPaper (xs (i + 1)) (xs (i + 2))) (fun S => S)) 28 0 = (tPaper (xs (i + 1)) (xs (i + 2))) := th_28 (fun S => rfl)
  show J X 8 _ _ _ _ [.int ((mSt S (tPaper (xs (i + 1)) (xs (i + 2))) (fun S => S)) 28 0)] (1458 + 3)
  refine j_topi (tPaper (xs (i + 1)) (xs (i + 2))) eT ?_
  refine j_iload (pc := 1461) g dL_law_1461 rfl ?_
  refine j_icmp_eq (pc := 1463) g 1468 dL_law_1463 (by decide) (fun c1463 => ?_) (fun c1463 => absurd rfl c1463)
  refine j_iload (pc := 1468) g dL_law_1468 rfl ?_
  refine j_if_ne (pc := 1470) g 1485 dL_law_1470 (by decide) (fun c1470 => ?_) (fun c1470 => ?_)
  · refine j_goto (pc := 1485) g 1544 dL_law_1485 (by decide) ?_
    by_cases tz : (tPaper (xs (i + 1)) (xs (i + 2))) = 0
    · exact j_loc2 (j_room _ _ (by omega) (by omega) (k _ _ (LI.mk hr3 (if_pos tz) ((h0 tz).2.st pr.rf sf28) (hk.t sf28))))
    · exact j_loc2 (j_room _ _ (by omega) (by omega) (k _ _ (LI.mk hr3 (if_neg tz) ((h1 tz).st pr.rf sf28) (hk.t sf28))))
  · have em : mAns (tPaper (xs (i + 1)) (xs (i + 2))) (vPaper S (xs (i + 1)) (xs (i + 2))) = (vPaper S (xs (i + 1)) (xs (i + 2))) := by rw [mAns, if_pos c1470]
    rw [em]
    refine j_aload_n (pc := 1473) g 3 dL_law_1473 rfl rfl ?_
    refine j_iconst (pc := 1474) g (0) dL_law_1474 (by decide) ?_
    refine j_lald (pc := 1475) g dL_law_1475 (hr3.2.2.2.1.1) (vp_in_nI (n := 0) (by omega) (by omega)) ?_
    show J X 8 _ _ _ _ (.long (f1 0) :: _) _
    refine j_iload (pc := 1476) g dL_law_1476 rfl ?_
    refine j_i2l (pc := 1478) g dL_law_1478 ?_
    refine j_lcmp (pc := 1479) g dL_law_1479 ?_
    refine j_if_eq (pc := 1480) g 1485 dL_law_1480 (by decide) (fun c1480 => ?_) (fun c1480 => absurd (by rw [(h0 c1470).1]; exact lgz _) c1480)
    refine j_goto (pc := 1485) g 1544 dL_law_1485 (by decide) ?_
    by_cases tz : (tPaper (xs (i + 1)) (xs (i + 2))) = 0
    · exact j_loc2 (j_room _ _ (by omega) (by omega) (k _ _ (LI.mk hr3 (if_pos tz) ((h0 tz).2.st pr.rf sf28) (hk.t sf28))))
    · exact j_loc2 (j_room _ _ (by omega) (by omega) (k _ _ (LI.mk hr3 (if_neg tz) ((h1 tz).st pr.rf sf28) (hk.t sf28))))

set_option maxHeartbeats 1000000 in
set_option maxRecDepth 100000 in
theorem lc_won {X : JC} (hst : (jl X).stackTraces = false) (g : jG X cL_law RL wsL_law 8 room_1) (t0 : jE0 X) {b L : Nat} {xs : Nat → Int32} (sc : jS X b L xs) (hL : L ≤ 3584) {x m o od : Nat} {ad : Nat → Nat} (hI : mI m ad) {M : MH} {S : ST} (h : LI M x m o od ad S) {i : Nat} (hi : i + 7 ≤ L) {cells slots : Nat} (hcl : cells + 8 ≤ 601024) (hsl : slots + 28 ≤ 7293034) (k : ∀ M2 S2, LI M2 x m o od ad S2 → J X 8 (cells + 8) (slots + 28) M2 [some (.ref b), some (.ref x), some (.ref m), some (.ref o), some (.ref od), some (.int (nI i)), none, none] [] 1544) : J X 8 cells slots M [some (.ref b), some (.ref x), some (.ref m), some (.ref o), some (.ref od), some (.int (nI i)), none, none] [] 1488 := by
  obtain ⟨Mx, al, d, ns, nd, f, fd, hr, hc, hk⟩ := h
  refine j_aload_n (pc := 1488) g 1 dL_law_1488 rfl rfl ?_
  refine j_aload_n (pc := 1489) g 0 dL_law_1489 rfl rfl ?_
  refine j_iload (pc := 1490) g dL_law_1490 rfl ?_
  refine j_iconst (pc := 1492) g (1) dL_law_1492 (by decide) ?_
  refine j_iadd (pc := 1493) g dL_law_1493 ?_
  refine j_sld (pc := 1494) g sc dL_law_1494 (i + 1) (nI_add i 1) (by omega) (by omega) ?_
  refine j_aload_n (pc := 1495) g 3 dL_law_1495 rfl rfl ?_
  refine j_callSW (pc := 1496) (n := 3) g t0 (w_won (jl X) (jD X) hst M Mx x m o od ad al S d ns nd f fd hr hc hk (xs (i + 1))) dL_law_1496 gL_law_L_won rfl rfl rfl rfl ⟨by decide, by decide, by decide +kernel⟩ ⟨Nat.le_of_ble_eq_true rfl, Nat.le_of_ble_eq_true rfl⟩ ⟨by show _ ≤ 601024; omega, by show _ ≤ 7293034; omega⟩ rfl (Nat.le_of_ble_eq_true rfl) (fun v M1 hp => ?_)
  obtain ⟨rfl, Mx1, al1, f1, hr1, h0, h1⟩ := hp
  show J X 8 _ _ _ _ [.int (tWon (xs (i + 1)))] (1496 + 3)
  refine istore_8_6 (pc := 1499) g dL_law_1499 ?_
  refine j_aload_n (pc := 1501) g 2 dL_law_1501 rfl rfl ?_
  refine j_aload_n (pc := 1502) g 0 dL_law_1502 rfl rfl ?_
  refine j_iload (pc := 1503) g dL_law_1503 rfl ?_
  refine j_iconst (pc := 1505) g (1) dL_law_1505 (by decide) ?_
  refine j_iadd (pc := 1506) g dL_law_1506 ?_
  refine j_sld (pc := 1507) g sc dL_law_1507 (i + 1) (nI_add i 1) (by omega) (by omega) ?_
  refine j_callVG (pc := 1508) (n := 1) g (hr1.2.1 _ _ (mM_m _ _ _)) rfl hr1.2.1 (m_won (jl X) (jD X) m ad hI S ns nd hk.2.2.1.1 hk.2.2.1.2.1 hk.2.2.1.2.2 hk.2.1.2 (xs (i + 1))) dL_law_1508 gL_law_X9_won rfl rfl rfl rfl ⟨rfl, by decide, by decide, by decide +kernel⟩ ⟨Nat.le_of_ble_eq_true rfl, Nat.le_of_ble_eq_true rfl⟩ ⟨by show _ ≤ 601024; omega, by show _ ≤ 7293034; omega⟩ rfl (Nat.le_of_ble_eq_true rfl) (fun v M2 hp hn2 => ?_)
  obtain ⟨rfl, rfl⟩ := hp
  have hr2 := hr1.model (mSt S (tWon (xs (i + 1))) (fun S => S))
  show J X 8 _ _ _ _ [.int (mAns (tWon (xs (i + 1))) (cntW (su S 28 0 0) (xs (i + 1)) nd))] (1508 + 3)
  refine istore_8_7 (pc := 1511) g dL_law_1511 ?_
  refine j_aload_n (pc := 1513) g 2 dL_law_1513 rfl rfl ?_
  refine j_callVG (pc := 1514) (n := 0) g (hr2.2.1 _ _ (mM_m _ _ _)) rfl hr2.2.1 (m_thrown (jl X) (jD X) m ad hI (mSt S (tWon (xs (i + 1))) (fun S => S))) dL_law_1514 gL_law_X9_thrown rfl rfl rfl rfl ⟨rfl, by decide, by decide, by decide +kernel⟩ ⟨Nat.le_of_ble_eq_true rfl, Nat.le_of_ble_eq_true rfl⟩ ⟨by show _ ≤ 601024; omega, by show _ ≤ 7293034; omega⟩ rfl (Nat.le_of_ble_eq_true rfl) (fun v M3 hp hn3 => ?_)
  obtain ⟨rfl, rfl⟩ := hp
  have hr3 := hr2.model (mSt S (tWon (xs (i + 1))) (fun S => S))
  have eT : (mSt S (tWon (xs (i + 1))) (fun S => S)) 28 0 = (tWon (xs (i + 1))) := th_28 (fun S => rfl)
  show J X 8 _ _ _ _ [.int ((mSt S (tWon (xs (i + 1))) (fun S => S)) 28 0)] (1514 + 3)
  refine j_topi (tWon (xs (i + 1))) eT ?_
  refine j_iload (pc := 1517) g dL_law_1517 rfl ?_
  refine j_icmp_eq (pc := 1519) g 1524 dL_law_1519 (by decide) (fun c1519 => ?_) (fun c1519 => absurd rfl c1519)
  refine j_iload (pc := 1524) g dL_law_1524 rfl ?_
  refine j_if_ne (pc := 1526) g 1541 dL_law_1526 (by decide) (fun c1526 => ?_) (fun c1526 => ?_)
  · refine j_goto (pc := 1541) g 1544 dL_law_1541 (by decide) ?_
    by_cases tz : (tWon (xs (i + 1))) = 0
    · exact j_loc2 (j_room _ _ (by omega) (by omega) (k _ _ (LI.mk hr3 (if_pos tz) ((h0 tz).2.st pr.rf sf28) (hk.t sf28))))
    · exact j_loc2 (j_room _ _ (by omega) (by omega) (k _ _ (LI.mk hr3 (if_neg tz) ((h1 tz).st pr.rf sf28) (hk.t sf28))))
  · have em : mAns (tWon (xs (i + 1))) (cntW (su S 28 0 0) (xs (i + 1)) nd) = (cntW S (xs (i + 1)) nd) := by rw [mAns, if_pos c1526]; exact s_cntW sf28 _ _
    rw [em]
    refine j_aload_n (pc := 1529) g 3 dL_law_1529 rfl rfl ?_
    refine j_iconst (pc := 1530) g (0) dL_law_1530 (by decide) ?_
    refine j_lald (pc := 1531) g dL_law_1531 (hr3.2.2.2.1.1) (vp_in_nI (n := 0) (by omega) (by omega)) ?_
    show J X 8 _ _ _ _ (.long (f1 0) :: _) _
    refine j_iload (pc := 1532) g dL_law_1532 rfl ?_
    refine j_i2l (pc := 1534) g dL_law_1534 ?_
    refine j_lcmp (pc := 1535) g dL_law_1535 ?_
    refine j_if_eq (pc := 1536) g 1541 dL_law_1536 (by decide) (fun c1536 => ?_) (fun c1536 => absurd (by rw [(h0 c1526).1]; exact lgz _) c1536)
    refine j_goto (pc := 1541) g 1544 dL_law_1541 (by decide) ?_
    by_cases tz : (tWon (xs (i + 1))) = 0
    · exact j_loc2 (j_room _ _ (by omega) (by omega) (k _ _ (LI.mk hr3 (if_pos tz) ((h0 tz).2.st pr.rf sf28) (hk.t sf28))))
    · exact j_loc2 (j_room _ _ (by omega) (by omega) (k _ _ (LI.mk hr3 (if_neg tz) ((h1 tz).st pr.rf sf28) (hk.t sf28))))
