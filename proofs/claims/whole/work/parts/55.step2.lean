set_option maxHeartbeats 4000000 in
set_option maxRecDepth 100000 in
theorem lw_s_lost {p : Program} {l : Launch} {e : Env} {s : State} {m : MethodId} {below : List Frame} {meth : Method} {c : Code} {b L : Nat} {xs : Nat → Int32} {Z : dzG} (K : lw_K p s m c b L xs Z) {G : dzW} {ad : dzA} {aX aM aO k cells slots : Nat} {H : Heap} {locs : List Loc} {ls : Array Slot} {Q : State → Prop} (hk : k + 5 ≤ L) (hl : lv_has ls 7 [(4, .int (nI k)), (3, .ref aO), (2, .ref aM), (1, .ref aX), (0, .ref b)]) (hG : dz_w Z G ad H) (hS : va_S (dz_A Z) s.heap H locs) (hce : cells + 20 ≤ 601024) (hsl : slots + 700 ≤ 7293034) {Nx : dzW → dzA → Prop} (hXr : (∃ fs, G (1, 0) = some (.inr (9, fs))) ∧ ad (1, 0) = aX) (hMr : (∃ fs, G (39, 0) = some (.inr (10, fs))) ∧ ad (39, 0) = aM) (hst : lw_D l Z G ad aX aM yX8_lost wsX8_lost yX9_lost wsX9_lost Nx) (next : ∀ (G2 : dzW) (ad2 : dzA) (H2 : Heap) (locs2 : List Loc) (ls2 : Array Slot), Nx G2 ad2 → dz_w Z G2 ad2 H2 → va_S (dz_A Z) s.heap H2 locs2 → lv_has ls2 7 [(4, .int (nI k)), (3, .ref aO), (2, .ref aM), (1, .ref aX), (0, .ref b)] → W p l e room_1 s m #[Value.ref b] below meth c H2 locs2 (cells + 20) (slots + 700) Q (F0 m 1861 ls2 [])) : W p l e room_1 s m #[Value.ref b] below meth c H locs cells slots Q (F0 m 1364 ls []) := by
  obtain ⟨hx, hb, hml, hown, hts, hX, hbl, hB, hE, hL9⟩ := K
  obtain ⟨v, frC, loC, frM, loM, ⟨q1, q2, q3, q4⟩, hCc, hM⟩ := hst
  obtain ⟨⟨fsX, hXo⟩, hXa⟩ := hXr
  obtain ⟨⟨fs, hMo⟩, hMa⟩ := hMr
  refine lv_aload_n hx hb dL_law_1364 rfl (lv_at hl 3 rfl) ?_
  refine dz_kRi (va_runV (As := []) ⟨hx, hb, hml, hown, hts⟩ hCc (cwV 0 hts gL_law_X8_lost rfl rfl rfl (by decide +kernel) ⟨by show frC + 1 ≤ 12; omega, by show 8 + (1 + 11) + loC ≤ 454; omega⟩) (dz_P.preV hE hS hG hXo rfl hXa) rfl rfl hl.1 rfl (lv_room (Nat.le_of_ble_eq_true rfl)) dL_law_1365 ⟨by show cells + 0 ≤ 601024; omega, by show slots + 0 ≤ 7293034; omega⟩) ?_
  refine lv_aload_n hx hb dL_law_1368 rfl (lv_at hl 2 rfl) ?_
  refine dz_kMi (va_runV (As := []) ⟨hx, hb, hml, hown, hts⟩ hM (cwV 0 hts gL_law_X9_lost rfl rfl rfl (by decide +kernel) ⟨by show frM + 1 ≤ 12; omega, by show 8 + (4 + 11) + loM ≤ 454; omega⟩) (dz_P.preV hE hS hG hMo rfl hMa) rfl rfl hl.1 rfl (lv_room (Nat.le_of_ble_eq_true rfl)) dL_law_1369 ⟨by show cells + 0 ≤ 601024; omega, by show slots + 0 ≤ 7293034; omega⟩) hS (fun y G2 ad2 H locs hq hG hS => ?_)
  obtain ⟨hyv, hN⟩ := hq
  refine lv_icmp_eq (tgt := 1861) hx hb dL_law_1372 (by decide) (fun c_1372 => ?_) (fun c_1372 => absurd hyv.symm c_1372)
  refine W.widen (k := cells + 20) (n := slots + 700) (by omega) (by omega) ?_
  exact next G2 ad2 _ _ _ hN hG hS (lv_sub hl [0, 1, 2, 3, 4] rfl)

set_option maxHeartbeats 4000000 in
set_option maxRecDepth 100000 in
theorem lw_s_delay {p : Program} {l : Launch} {e : Env} {s : State} {m : MethodId} {below : List Frame} {meth : Method} {c : Code} {b L : Nat} {xs : Nat → Int32} {Z : dzG} (K : lw_K p s m c b L xs Z) {G : dzW} {ad : dzA} {aX aM aO k cells slots : Nat} {H : Heap} {locs : List Loc} {ls : Array Slot} {Q : State → Prop} (hk : k + 5 ≤ L) (hl : lv_has ls 7 [(4, .int (nI k)), (3, .ref aO), (2, .ref aM), (1, .ref aX), (0, .ref b)]) (hG : dz_w Z G ad H) (hS : va_S (dz_A Z) s.heap H locs) (hce : cells + 20 ≤ 601024) (hsl : slots + 700 ≤ 7293034) {Nx : dzW → dzA → Prop} (hst : lw_Ok l Z G ad aM aO yL_delay wsL_delay yX9_delay wsX9_delay [.ref aX, .int (xs (k + 1)), .int (xs (k + 2)), .int (xs (k + 3)), .ref aO] [.ref aM, .int (xs (k + 1)), .int (xs (k + 2)), .int (xs (k + 3))] rv_i (fun y => y.toInt64) Nx) (next : ∀ (G2 : dzW) (ad2 : dzA) (H2 : Heap) (locs2 : List Loc) (ls2 : Array Slot), Nx G2 ad2 → dz_w Z G2 ad2 H2 → va_S (dz_A Z) s.heap H2 locs2 → lv_has ls2 7 [(4, .int (nI k)), (3, .ref aO), (2, .ref aM), (1, .ref aX), (0, .ref b)] → W p l e room_1 s m #[Value.ref b] below meth c H2 locs2 (cells + 20) (slots + 700) Q (F0 m 1861 ls2 [])) : W p l e room_1 s m #[Value.ref b] below meth c H locs cells slots Q (F0 m 1377 ls []) := by
  obtain ⟨hx, hb, hml, hown, hts, hX, hbl, hB, hE, hL9⟩ := K
  have hbA : ¬ dz_A Z b := by show ¬ dzB Z ≤ b; omega
  obtain ⟨kx, frL, loL, mcL, msL, frM, loM, PL, PM, ⟨q01, q02, q03, q04, q05, q06⟩, hL, hLr, hM, hend⟩ := hst
  refine lv_aload_n hx hb dL_law_1377 rfl (lv_at hl 3 rfl) ?_
  refine lv_aload_n hx hb dL_law_1378 rfl (lv_at hl 4 rfl) ?_
  refine lv_iload hx hb dL_law_1379 (lv_at hl 0 rfl) ?_
  refine lv_iconst (v := 1) hx hb dL_law_1381 (by decide) ?_
  refine lv_iadd hx hb dL_law_1382 ?_
  refine lv_topi (fun q1 eq1 => ?_)
  obtain rfl : q1 = nI (k + 1) := (show q1 = nI k + nI 1 from eq1).trans (nI_add _ _)
  refine va_sld hx hb hX hbl hbA hS (vp_in_nI (by omega) (by omega)) dL_law_1383 ?_
  refine lv_topi (fun q2 eq2 => ?_)
  obtain rfl : q2 = xs (k + 1) := eq2.trans (by rw [nI_clamp (by omega)])
  refine lv_aload_n hx hb dL_law_1384 rfl (lv_at hl 4 rfl) ?_
  refine lv_iload hx hb dL_law_1385 (lv_at hl 0 rfl) ?_
  refine lv_iconst (v := 2) hx hb dL_law_1387 (by decide) ?_
  refine lv_iadd hx hb dL_law_1388 ?_
  refine lv_topi (fun q3 eq3 => ?_)
  obtain rfl : q3 = nI (k + 2) := (show q3 = nI k + nI 2 from eq3).trans (nI_add _ _)
  refine va_sld hx hb hX hbl hbA hS (vp_in_nI (by omega) (by omega)) dL_law_1389 ?_
  refine lv_topi (fun q4 eq4 => ?_)
  obtain rfl : q4 = xs (k + 2) := eq4.trans (by rw [nI_clamp (by omega)])
  refine lv_aload_n hx hb dL_law_1390 rfl (lv_at hl 4 rfl) ?_
  refine lv_iload hx hb dL_law_1391 (lv_at hl 0 rfl) ?_
  refine lv_iconst (v := 3) hx hb dL_law_1393 (by decide) ?_
  refine lv_iadd hx hb dL_law_1394 ?_
  refine lv_topi (fun q5 eq5 => ?_)
  obtain rfl : q5 = nI (k + 3) := (show q5 = nI k + nI 3 from eq5).trans (nI_add _ _)
  refine va_sld hx hb hX hbl hbA hS (vp_in_nI (by omega) (by omega)) dL_law_1395 ?_
  refine lv_topi (fun q6 eq6 => ?_)
  obtain rfl : q6 = xs (k + 3) := eq6.trans (by rw [nI_clamp (by omega)])
  refine lv_aload_n hx hb dL_law_1396 rfl (lv_at hl 1 rfl) ?_
  refine dz_kMi (vx_runSW (As := [_, _, _, _, _]) ⟨hx, hb, hml, hown, hts⟩ hL (vx_cwSW 5 hts gL_law_L_delay rfl rfl rfl (by decide +kernel) ⟨by show frL + 1 ≤ 12; omega, by show 8 + (6 + 11) + loL ≤ 454; omega⟩) (dz_P.pre hE hS hG) rfl rfl hl.1 rfl (lv_room (Nat.le_of_ble_eq_true rfl)) dL_law_1397 ⟨by show cells + mcL ≤ 601024; omega, by show slots + msL ≤ 7293034; omega⟩) hS (fun x G1 ad1 H locs hp hG hS => ?_)
  obtain ⟨hxk, hp⟩ := hp
  obtain ⟨⟨fs, hMo⟩, hMa⟩ := hLr G1 ad1 hp
  refine lv_istore (lv' := [(5, .int x), (4, .int (nI k)), (3, .ref aO), (2, .ref aM), (1, .ref aX), (0, .ref b)]) hx hb dL_law_1400 hl (by decide) rfl (fun ls hl => ?_)
  refine lv_aload_n hx hb dL_law_1402 rfl (lv_at hl 3 rfl) ?_
  refine lv_aload_n hx hb dL_law_1403 rfl (lv_at hl 5 rfl) ?_
  refine lv_iload hx hb dL_law_1404 (lv_at hl 1 rfl) ?_
  refine lv_iconst (v := 1) hx hb dL_law_1406 (by decide) ?_
  refine lv_iadd hx hb dL_law_1407 ?_
  refine lv_topi (fun q7 eq7 => ?_)
  obtain rfl : q7 = nI (k + 1) := (show q7 = nI k + nI 1 from eq7).trans (nI_add _ _)
  refine va_sld hx hb hX hbl hbA hS (vp_in_nI (by omega) (by omega)) dL_law_1408 ?_
  refine lv_topi (fun q8 eq8 => ?_)
  obtain rfl : q8 = xs (k + 1) := eq8.trans (by rw [nI_clamp (by omega)])
  refine lv_aload_n hx hb dL_law_1409 rfl (lv_at hl 5 rfl) ?_
  refine lv_iload hx hb dL_law_1410 (lv_at hl 1 rfl) ?_
  refine lv_iconst (v := 2) hx hb dL_law_1412 (by decide) ?_
  refine lv_iadd hx hb dL_law_1413 ?_
  refine lv_topi (fun q9 eq9 => ?_)
  obtain rfl : q9 = nI (k + 2) := (show q9 = nI k + nI 2 from eq9).trans (nI_add _ _)
  refine va_sld hx hb hX hbl hbA hS (vp_in_nI (by omega) (by omega)) dL_law_1414 ?_
  refine lv_topi (fun q10 eq10 => ?_)
  obtain rfl : q10 = xs (k + 2) := eq10.trans (by rw [nI_clamp (by omega)])
  refine lv_aload_n hx hb dL_law_1415 rfl (lv_at hl 5 rfl) ?_
  refine lv_iload hx hb dL_law_1416 (lv_at hl 1 rfl) ?_
  refine lv_iconst (v := 3) hx hb dL_law_1418 (by decide) ?_
  refine lv_iadd hx hb dL_law_1419 ?_
  refine lv_topi (fun q11 eq11 => ?_)
  obtain rfl : q11 = nI (k + 3) := (show q11 = nI k + nI 3 from eq11).trans (nI_add _ _)
  refine va_sld hx hb hX hbl hbA hS (vp_in_nI (by omega) (by omega)) dL_law_1420 ?_
  refine lv_topi (fun q12 eq12 => ?_)
  obtain rfl : q12 = xs (k + 3) := eq12.trans (by rw [nI_clamp (by omega)])
  refine dz_kMi (va_runV (As := [_, _, _]) ⟨hx, hb, hml, hown, hts⟩ (hM G1 ad1 hp) (cwV 3 hts gL_law_X9_delay rfl rfl rfl (by decide +kernel) ⟨by show frM + 1 ≤ 12; omega, by show 8 + (5 + 11) + loM ≤ 454; omega⟩) (dz_P.preV hE hS hG hMo rfl hMa) rfl rfl hl.1 rfl (lv_room (Nat.le_of_ble_eq_true rfl)) dL_law_1421 ⟨by show cells + mcL + 0 ≤ 601024; omega, by show slots + msL + 0 ≤ 7293034; omega⟩) hS (fun y G2 ad2 H locs hq hG hS => ?_)
  obtain ⟨⟨hMa2, nm2, ns2, nl2, nx2, nf2, my2, dy2, td2, ssf2, sst2, cfr2, grw2, bkk2, iop2, hMo2⟩, h50, hN⟩ := hend G1 ad1 y G2 ad2 hp hq
  refine lv_istore (lv' := [(6, .int y), (5, .int x), (4, .int (nI k)), (3, .ref aO), (2, .ref aM), (1, .ref aX), (0, .ref b)]) hx hb dL_law_1424 hl (by decide) rfl (fun ls hl => ?_)
  refine lv_aload_n hx hb dL_law_1426 rfl (lv_at hl 4 rfl) ?_
  refine dz_kRi (va_runV (As := []) ⟨hx, hb, hml, hown, hts⟩ (c_X9_thrown l Z G2 ad2 aM nm2 ns2 nl2 nx2 nf2 my2 kx dy2 td2 ssf2 sst2 cfr2 grw2 bkk2 iop2 hMa2 hMo2) (cwV 0 hts gL_law_X9_thrown rfl rfl rfl (by decide +kernel) ⟨Nat.le_of_ble_eq_true rfl, Nat.le_of_ble_eq_true rfl⟩) (dz_P.preV hE hS hG hMo2 rfl hMa2) rfl rfl hl.1 rfl (lv_room (Nat.le_of_ble_eq_true rfl)) dL_law_1427 ⟨by show cells + mcL + 0 + 0 ≤ 601024; omega, by show slots + msL + 0 + 0 ≤ 7293034; omega⟩) ?_
  refine lv_iload hx hb dL_law_1430 (lv_at hl 1 rfl) ?_
  refine lv_icmp_eq (tgt := 1437) hx hb dL_law_1432 (by decide) (fun c_1432 => ?_) (fun c_1432 => absurd hxk.symm c_1432)
  refine lv_iload hx hb dL_law_1437 (lv_at hl 1 rfl) ?_
  refine lv_if_ne (tgt := 1454) hx hb dL_law_1439 (by decide) (fun c_1439 => ?_) (fun c_1439 => ?_)
  · refine lv_goto (tgt := 1861) hx hb dL_law_1454 (by decide) ?_
    refine W.widen (k := cells + 20) (n := slots + 700) (by omega) (by omega) ?_
    exact next G2 ad2 _ _ _ hN hG hS (lv_sub hl [2, 3, 4, 5, 6] rfl)
  · obtain ⟨fo9, h5, ha5, hv5⟩ := h50 (hxk.symm.trans c_1439)
    refine lv_aload_n hx hb dL_law_1442 rfl (lv_at hl 3 rfl) ?_
    refine lv_iconst (v := 0) hx hb dL_law_1443 (by decide) ?_
    refine dz_lald hx hb hE hG ha5 h5 (by unfold vp_in; decide) dL_law_1444 ?_
    refine lv_iload hx hb dL_law_1445 (lv_at hl 0 rfl) ?_
    refine lv_i2l hx hb dL_law_1447 rfl ?_
    refine W.lcmp hx hb dL_law_1448 ?_
    refine lv_topi (fun q13 eq13 => ?_)
    obtain rfl : q13 = 0 := eq13.trans (lw_cmp hv5)
    refine lv_if_eq (tgt := 1454) hx hb dL_law_1449 (by decide) (fun c_1449 => ?_) (fun c_1449 => absurd rfl c_1449)
    refine lv_goto (tgt := 1861) hx hb dL_law_1454 (by decide) ?_
    refine W.widen (k := cells + 20) (n := slots + 700) (by omega) (by omega) ?_
    exact next G2 ad2 _ _ _ hN hG hS (lv_sub hl [2, 3, 4, 5, 6] rfl)

set_option maxHeartbeats 4000000 in
set_option maxRecDepth 100000 in
theorem lw_s_light {p : Program} {l : Launch} {e : Env} {s : State} {m : MethodId} {below : List Frame} {meth : Method} {c : Code} {b L : Nat} {xs : Nat → Int32} {Z : dzG} (K : lw_K p s m c b L xs Z) {G : dzW} {ad : dzA} {aX aM aO k cells slots : Nat} {H : Heap} {locs : List Loc} {ls : Array Slot} {Q : State → Prop} (hk : k + 5 ≤ L) (hl : lv_has ls 7 [(4, .int (nI k)), (3, .ref aO), (2, .ref aM), (1, .ref aX), (0, .ref b)]) (hG : dz_w Z G ad H) (hS : va_S (dz_A Z) s.heap H locs) (hce : cells + 20 ≤ 601024) (hsl : slots + 700 ≤ 7293034) {Nx : dzW → dzA → Prop} (hst : lw_Ok l Z G ad aM aO yL_light wsL_light yX9_light wsX9_light [.ref aX, .int (xs (k + 1)), .int (xs (k + 2)), .ref aO] [.ref aM, .int (xs (k + 1)), .int (xs (k + 2))] rv_i (fun y => y.toInt64) Nx) (next : ∀ (G2 : dzW) (ad2 : dzA) (H2 : Heap) (locs2 : List Loc) (ls2 : Array Slot), Nx G2 ad2 → dz_w Z G2 ad2 H2 → va_S (dz_A Z) s.heap H2 locs2 → lv_has ls2 7 [(4, .int (nI k)), (3, .ref aO), (2, .ref aM), (1, .ref aX), (0, .ref b)] → W p l e room_1 s m #[Value.ref b] below meth c H2 locs2 (cells + 20) (slots + 700) Q (F0 m 1861 ls2 [])) : W p l e room_1 s m #[Value.ref b] below meth c H locs cells slots Q (F0 m 1457 ls []) := by
  obtain ⟨hx, hb, hml, hown, hts, hX, hbl, hB, hE, hL9⟩ := K
  have hbA : ¬ dz_A Z b := by show ¬ dzB Z ≤ b; omega
  obtain ⟨kx, frL, loL, mcL, msL, frM, loM, PL, PM, ⟨q01, q02, q03, q04, q05, q06⟩, hL, hLr, hM, hend⟩ := hst
  refine lv_aload_n hx hb dL_law_1457 rfl (lv_at hl 3 rfl) ?_
  refine lv_aload_n hx hb dL_law_1458 rfl (lv_at hl 4 rfl) ?_
  refine lv_iload hx hb dL_law_1459 (lv_at hl 0 rfl) ?_
  refine lv_iconst (v := 1) hx hb dL_law_1461 (by decide) ?_
  refine lv_iadd hx hb dL_law_1462 ?_
  refine lv_topi (fun q1 eq1 => ?_)
  obtain rfl : q1 = nI (k + 1) := (show q1 = nI k + nI 1 from eq1).trans (nI_add _ _)
  refine va_sld hx hb hX hbl hbA hS (vp_in_nI (by omega) (by omega)) dL_law_1463 ?_
  refine lv_topi (fun q2 eq2 => ?_)
  obtain rfl : q2 = xs (k + 1) := eq2.trans (by rw [nI_clamp (by omega)])
  refine lv_aload_n hx hb dL_law_1464 rfl (lv_at hl 4 rfl) ?_
  refine lv_iload hx hb dL_law_1465 (lv_at hl 0 rfl) ?_
  refine lv_iconst (v := 2) hx hb dL_law_1467 (by decide) ?_
  refine lv_iadd hx hb dL_law_1468 ?_
  refine lv_topi (fun q3 eq3 => ?_)
  obtain rfl : q3 = nI (k + 2) := (show q3 = nI k + nI 2 from eq3).trans (nI_add _ _)
  refine va_sld hx hb hX hbl hbA hS (vp_in_nI (by omega) (by omega)) dL_law_1469 ?_
  refine lv_topi (fun q4 eq4 => ?_)
  obtain rfl : q4 = xs (k + 2) := eq4.trans (by rw [nI_clamp (by omega)])
  refine lv_aload_n hx hb dL_law_1470 rfl (lv_at hl 1 rfl) ?_
  refine dz_kMi (vx_runSW (As := [_, _, _, _]) ⟨hx, hb, hml, hown, hts⟩ hL (vx_cwSW 4 hts gL_law_L_light rfl rfl rfl (by decide +kernel) ⟨by show frL + 1 ≤ 12; omega, by show 8 + (5 + 11) + loL ≤ 454; omega⟩) (dz_P.pre hE hS hG) rfl rfl hl.1 rfl (lv_room (Nat.le_of_ble_eq_true rfl)) dL_law_1471 ⟨by show cells + mcL ≤ 601024; omega, by show slots + msL ≤ 7293034; omega⟩) hS (fun x G1 ad1 H locs hp hG hS => ?_)
  obtain ⟨hxk, hp⟩ := hp
  obtain ⟨⟨fs, hMo⟩, hMa⟩ := hLr G1 ad1 hp
  refine lv_istore (lv' := [(5, .int x), (4, .int (nI k)), (3, .ref aO), (2, .ref aM), (1, .ref aX), (0, .ref b)]) hx hb dL_law_1474 hl (by decide) rfl (fun ls hl => ?_)
  refine lv_aload_n hx hb dL_law_1476 rfl (lv_at hl 3 rfl) ?_
  refine lv_aload_n hx hb dL_law_1477 rfl (lv_at hl 5 rfl) ?_
  refine lv_iload hx hb dL_law_1478 (lv_at hl 1 rfl) ?_
  refine lv_iconst (v := 1) hx hb dL_law_1480 (by decide) ?_
  refine lv_iadd hx hb dL_law_1481 ?_
  refine lv_topi (fun q5 eq5 => ?_)
  obtain rfl : q5 = nI (k + 1) := (show q5 = nI k + nI 1 from eq5).trans (nI_add _ _)
  refine va_sld hx hb hX hbl hbA hS (vp_in_nI (by omega) (by omega)) dL_law_1482 ?_
  refine lv_topi (fun q6 eq6 => ?_)
  obtain rfl : q6 = xs (k + 1) := eq6.trans (by rw [nI_clamp (by omega)])
  refine lv_aload_n hx hb dL_law_1483 rfl (lv_at hl 5 rfl) ?_
  refine lv_iload hx hb dL_law_1484 (lv_at hl 1 rfl) ?_
  refine lv_iconst (v := 2) hx hb dL_law_1486 (by decide) ?_
  refine lv_iadd hx hb dL_law_1487 ?_
  refine lv_topi (fun q7 eq7 => ?_)
  obtain rfl : q7 = nI (k + 2) := (show q7 = nI k + nI 2 from eq7).trans (nI_add _ _)
  refine va_sld hx hb hX hbl hbA hS (vp_in_nI (by omega) (by omega)) dL_law_1488 ?_
  refine lv_topi (fun q8 eq8 => ?_)
  obtain rfl : q8 = xs (k + 2) := eq8.trans (by rw [nI_clamp (by omega)])
  refine dz_kMi (va_runV (As := [_, _]) ⟨hx, hb, hml, hown, hts⟩ (hM G1 ad1 hp) (cwV 2 hts gL_law_X9_light rfl rfl rfl (by decide +kernel) ⟨by show frM + 1 ≤ 12; omega, by show 8 + (4 + 11) + loM ≤ 454; omega⟩) (dz_P.preV hE hS hG hMo rfl hMa) rfl rfl hl.1 rfl (lv_room (Nat.le_of_ble_eq_true rfl)) dL_law_1489 ⟨by show cells + mcL + 0 ≤ 601024; omega, by show slots + msL + 0 ≤ 7293034; omega⟩) hS (fun y G2 ad2 H locs hq hG hS => ?_)
  obtain ⟨⟨hMa2, nm2, ns2, nl2, nx2, nf2, my2, dy2, td2, ssf2, sst2, cfr2, grw2, bkk2, iop2, hMo2⟩, h50, hN⟩ := hend G1 ad1 y G2 ad2 hp hq
  refine lv_istore (lv' := [(6, .int y), (5, .int x), (4, .int (nI k)), (3, .ref aO), (2, .ref aM), (1, .ref aX), (0, .ref b)]) hx hb dL_law_1492 hl (by decide) rfl (fun ls hl => ?_)
  refine lv_aload_n hx hb dL_law_1494 rfl (lv_at hl 4 rfl) ?_
  refine dz_kRi (va_runV (As := []) ⟨hx, hb, hml, hown, hts⟩ (c_X9_thrown l Z G2 ad2 aM nm2 ns2 nl2 nx2 nf2 my2 kx dy2 td2 ssf2 sst2 cfr2 grw2 bkk2 iop2 hMa2 hMo2) (cwV 0 hts gL_law_X9_thrown rfl rfl rfl (by decide +kernel) ⟨Nat.le_of_ble_eq_true rfl, Nat.le_of_ble_eq_true rfl⟩) (dz_P.preV hE hS hG hMo2 rfl hMa2) rfl rfl hl.1 rfl (lv_room (Nat.le_of_ble_eq_true rfl)) dL_law_1495 ⟨by show cells + mcL + 0 + 0 ≤ 601024; omega, by show slots + msL + 0 + 0 ≤ 7293034; omega⟩) ?_
  refine lv_iload hx hb dL_law_1498 (lv_at hl 1 rfl) ?_
  refine lv_icmp_eq (tgt := 1505) hx hb dL_law_1500 (by decide) (fun c_1500 => ?_) (fun c_1500 => absurd hxk.symm c_1500)
  refine lv_iload hx hb dL_law_1505 (lv_at hl 1 rfl) ?_
  refine lv_if_ne (tgt := 1522) hx hb dL_law_1507 (by decide) (fun c_1507 => ?_) (fun c_1507 => ?_)
  · refine lv_goto (tgt := 1861) hx hb dL_law_1522 (by decide) ?_
    refine W.widen (k := cells + 20) (n := slots + 700) (by omega) (by omega) ?_
    exact next G2 ad2 _ _ _ hN hG hS (lv_sub hl [2, 3, 4, 5, 6] rfl)
  · obtain ⟨fo9, h5, ha5, hv5⟩ := h50 (hxk.symm.trans c_1507)
    refine lv_aload_n hx hb dL_law_1510 rfl (lv_at hl 3 rfl) ?_
    refine lv_iconst (v := 0) hx hb dL_law_1511 (by decide) ?_
    refine dz_lald hx hb hE hG ha5 h5 (by unfold vp_in; decide) dL_law_1512 ?_
    refine lv_iload hx hb dL_law_1513 (lv_at hl 0 rfl) ?_
    refine lv_i2l hx hb dL_law_1515 rfl ?_
    refine W.lcmp hx hb dL_law_1516 ?_
    refine lv_topi (fun q9 eq9 => ?_)
    obtain rfl : q9 = 0 := eq9.trans (lw_cmp hv5)
    refine lv_if_eq (tgt := 1522) hx hb dL_law_1517 (by decide) (fun c_1517 => ?_) (fun c_1517 => absurd rfl c_1517)
    refine lv_goto (tgt := 1861) hx hb dL_law_1522 (by decide) ?_
    refine W.widen (k := cells + 20) (n := slots + 700) (by omega) (by omega) ?_
    exact next G2 ad2 _ _ _ hN hG hS (lv_sub hl [2, 3, 4, 5, 6] rfl)

set_option maxHeartbeats 4000000 in
set_option maxRecDepth 100000 in
theorem lw_s_frames {p : Program} {l : Launch} {e : Env} {s : State} {m : MethodId} {below : List Frame} {meth : Method} {c : Code} {b L : Nat} {xs : Nat → Int32} {Z : dzG} (K : lw_K p s m c b L xs Z) {G : dzW} {ad : dzA} {aX aM aO k cells slots : Nat} {H : Heap} {locs : List Loc} {ls : Array Slot} {Q : State → Prop} (hk : k + 5 ≤ L) (hl : lv_has ls 7 [(4, .int (nI k)), (3, .ref aO), (2, .ref aM), (1, .ref aX), (0, .ref b)]) (hG : dz_w Z G ad H) (hS : va_S (dz_A Z) s.heap H locs) (hce : cells + 20 ≤ 601024) (hsl : slots + 700 ≤ 7293034) {Nx : dzW → dzA → Prop} (hXr : (∃ fs, G (1, 0) = some (.inr (9, fs))) ∧ ad (1, 0) = aX) (hMr : (∃ fs, G (39, 0) = some (.inr (10, fs))) ∧ ad (39, 0) = aM) (hst : lw_D l Z G ad aX aM yX8_frames wsX8_frames yX9_frames wsX9_frames Nx) (next : ∀ (G2 : dzW) (ad2 : dzA) (H2 : Heap) (locs2 : List Loc) (ls2 : Array Slot), Nx G2 ad2 → dz_w Z G2 ad2 H2 → va_S (dz_A Z) s.heap H2 locs2 → lv_has ls2 7 [(4, .int (nI k)), (3, .ref aO), (2, .ref aM), (1, .ref aX), (0, .ref b)] → W p l e room_1 s m #[Value.ref b] below meth c H2 locs2 (cells + 20) (slots + 700) Q (F0 m 1861 ls2 [])) : W p l e room_1 s m #[Value.ref b] below meth c H locs cells slots Q (F0 m 1525 ls []) := by
  obtain ⟨hx, hb, hml, hown, hts, hX, hbl, hB, hE, hL9⟩ := K
  obtain ⟨v, frC, loC, frM, loM, ⟨q1, q2, q3, q4⟩, hCc, hM⟩ := hst
  obtain ⟨⟨fsX, hXo⟩, hXa⟩ := hXr
  obtain ⟨⟨fs, hMo⟩, hMa⟩ := hMr
  refine lv_aload_n hx hb dL_law_1525 rfl (lv_at hl 3 rfl) ?_
  refine dz_kRi (va_runV (As := []) ⟨hx, hb, hml, hown, hts⟩ hCc (cwV 0 hts gL_law_X8_frames rfl rfl rfl (by decide +kernel) ⟨by show frC + 1 ≤ 12; omega, by show 8 + (1 + 11) + loC ≤ 454; omega⟩) (dz_P.preV hE hS hG hXo rfl hXa) rfl rfl hl.1 rfl (lv_room (Nat.le_of_ble_eq_true rfl)) dL_law_1526 ⟨by show cells + 0 ≤ 601024; omega, by show slots + 0 ≤ 7293034; omega⟩) ?_
  refine lv_aload_n hx hb dL_law_1529 rfl (lv_at hl 2 rfl) ?_
  refine dz_kMi (va_runV (As := []) ⟨hx, hb, hml, hown, hts⟩ hM (cwV 0 hts gL_law_X9_frames rfl rfl rfl (by decide +kernel) ⟨by show frM + 1 ≤ 12; omega, by show 8 + (1 + 11) + loM ≤ 454; omega⟩) (dz_P.preV hE hS hG hMo rfl hMa) rfl rfl hl.1 rfl (lv_room (Nat.le_of_ble_eq_true rfl)) dL_law_1530 ⟨by show cells + 0 ≤ 601024; omega, by show slots + 0 ≤ 7293034; omega⟩) hS (fun y G2 ad2 H locs hq hG hS => ?_)
  obtain ⟨hyv, hN⟩ := hq
  refine lv_icmp_eq (tgt := 1861) hx hb dL_law_1533 (by decide) (fun c_1533 => ?_) (fun c_1533 => absurd hyv.symm c_1533)
  refine W.widen (k := cells + 20) (n := slots + 700) (by omega) (by omega) ?_
  exact next G2 ad2 _ _ _ hN hG hS (lv_sub hl [0, 1, 2, 3, 4] rfl)

set_option maxHeartbeats 4000000 in
set_option maxRecDepth 100000 in
theorem lw_s_seen {p : Program} {l : Launch} {e : Env} {s : State} {m : MethodId} {below : List Frame} {meth : Method} {c : Code} {b L : Nat} {xs : Nat → Int32} {Z : dzG} (K : lw_K p s m c b L xs Z) {G : dzW} {ad : dzA} {aX aM aO k cells slots : Nat} {H : Heap} {locs : List Loc} {ls : Array Slot} {Q : State → Prop} (hk : k + 5 ≤ L) (hl : lv_has ls 7 [(4, .int (nI k)), (3, .ref aO), (2, .ref aM), (1, .ref aX), (0, .ref b)]) (hG : dz_w Z G ad H) (hS : va_S (dz_A Z) s.heap H locs) (hce : cells + 20 ≤ 601024) (hsl : slots + 700 ≤ 7293034) {Nx : dzW → dzA → Prop} (hst : lw_Ok l Z G ad aM aO yL_seen wsL_seen yX9_seen wsX9_seen [.ref aX, .int (xs (k + 1)), .int (xs (k + 2)), .int (xs (k + 3)), .ref aO] [.ref aM, .int (xs (k + 1)), .int (xs (k + 2)), .int (xs (k + 3))] rv_i (fun y => y.toInt64) Nx) (next : ∀ (G2 : dzW) (ad2 : dzA) (H2 : Heap) (locs2 : List Loc) (ls2 : Array Slot), Nx G2 ad2 → dz_w Z G2 ad2 H2 → va_S (dz_A Z) s.heap H2 locs2 → lv_has ls2 7 [(4, .int (nI k)), (3, .ref aO), (2, .ref aM), (1, .ref aX), (0, .ref b)] → W p l e room_1 s m #[Value.ref b] below meth c H2 locs2 (cells + 20) (slots + 700) Q (F0 m 1861 ls2 [])) : W p l e room_1 s m #[Value.ref b] below meth c H locs cells slots Q (F0 m 1538 ls []) := by
  obtain ⟨hx, hb, hml, hown, hts, hX, hbl, hB, hE, hL9⟩ := K
  have hbA : ¬ dz_A Z b := by show ¬ dzB Z ≤ b; omega
  obtain ⟨kx, frL, loL, mcL, msL, frM, loM, PL, PM, ⟨q01, q02, q03, q04, q05, q06⟩, hL, hLr, hM, hend⟩ := hst
  refine lv_aload_n hx hb dL_law_1538 rfl (lv_at hl 3 rfl) ?_
  refine lv_aload_n hx hb dL_law_1539 rfl (lv_at hl 4 rfl) ?_
  refine lv_iload hx hb dL_law_1540 (lv_at hl 0 rfl) ?_
  refine lv_iconst (v := 1) hx hb dL_law_1542 (by decide) ?_
  refine lv_iadd hx hb dL_law_1543 ?_
  refine lv_topi (fun q1 eq1 => ?_)
  obtain rfl : q1 = nI (k + 1) := (show q1 = nI k + nI 1 from eq1).trans (nI_add _ _)
  refine va_sld hx hb hX hbl hbA hS (vp_in_nI (by omega) (by omega)) dL_law_1544 ?_
  refine lv_topi (fun q2 eq2 => ?_)
  obtain rfl : q2 = xs (k + 1) := eq2.trans (by rw [nI_clamp (by omega)])
  refine lv_aload_n hx hb dL_law_1545 rfl (lv_at hl 4 rfl) ?_
  refine lv_iload hx hb dL_law_1546 (lv_at hl 0 rfl) ?_
  refine lv_iconst (v := 2) hx hb dL_law_1548 (by decide) ?_
  refine lv_iadd hx hb dL_law_1549 ?_
  refine lv_topi (fun q3 eq3 => ?_)
  obtain rfl : q3 = nI (k + 2) := (show q3 = nI k + nI 2 from eq3).trans (nI_add _ _)
  refine va_sld hx hb hX hbl hbA hS (vp_in_nI (by omega) (by omega)) dL_law_1550 ?_
  refine lv_topi (fun q4 eq4 => ?_)
  obtain rfl : q4 = xs (k + 2) := eq4.trans (by rw [nI_clamp (by omega)])
  refine lv_aload_n hx hb dL_law_1551 rfl (lv_at hl 4 rfl) ?_
  refine lv_iload hx hb dL_law_1552 (lv_at hl 0 rfl) ?_
  refine lv_iconst (v := 3) hx hb dL_law_1554 (by decide) ?_
  refine lv_iadd hx hb dL_law_1555 ?_
  refine lv_topi (fun q5 eq5 => ?_)
  obtain rfl : q5 = nI (k + 3) := (show q5 = nI k + nI 3 from eq5).trans (nI_add _ _)
  refine va_sld hx hb hX hbl hbA hS (vp_in_nI (by omega) (by omega)) dL_law_1556 ?_
  refine lv_topi (fun q6 eq6 => ?_)
  obtain rfl : q6 = xs (k + 3) := eq6.trans (by rw [nI_clamp (by omega)])
  refine lv_aload_n hx hb dL_law_1557 rfl (lv_at hl 1 rfl) ?_
  refine dz_kMi (vx_runSW (As := [_, _, _, _, _]) ⟨hx, hb, hml, hown, hts⟩ hL (vx_cwSW 5 hts gL_law_L_seen rfl rfl rfl (by decide +kernel) ⟨by show frL + 1 ≤ 12; omega, by show 8 + (6 + 11) + loL ≤ 454; omega⟩) (dz_P.pre hE hS hG) rfl rfl hl.1 rfl (lv_room (Nat.le_of_ble_eq_true rfl)) dL_law_1558 ⟨by show cells + mcL ≤ 601024; omega, by show slots + msL ≤ 7293034; omega⟩) hS (fun x G1 ad1 H locs hp hG hS => ?_)
  obtain ⟨hxk, hp⟩ := hp
  obtain ⟨⟨fs, hMo⟩, hMa⟩ := hLr G1 ad1 hp
  refine lv_istore (lv' := [(5, .int x), (4, .int (nI k)), (3, .ref aO), (2, .ref aM), (1, .ref aX), (0, .ref b)]) hx hb dL_law_1561 hl (by decide) rfl (fun ls hl => ?_)
  refine lv_aload_n hx hb dL_law_1563 rfl (lv_at hl 3 rfl) ?_
  refine lv_aload_n hx hb dL_law_1564 rfl (lv_at hl 5 rfl) ?_
  refine lv_iload hx hb dL_law_1565 (lv_at hl 1 rfl) ?_
  refine lv_iconst (v := 1) hx hb dL_law_1567 (by decide) ?_
  refine lv_iadd hx hb dL_law_1568 ?_
  refine lv_topi (fun q7 eq7 => ?_)
  obtain rfl : q7 = nI (k + 1) := (show q7 = nI k + nI 1 from eq7).trans (nI_add _ _)
  refine va_sld hx hb hX hbl hbA hS (vp_in_nI (by omega) (by omega)) dL_law_1569 ?_
  refine lv_topi (fun q8 eq8 => ?_)
  obtain rfl : q8 = xs (k + 1) := eq8.trans (by rw [nI_clamp (by omega)])
  refine lv_aload_n hx hb dL_law_1570 rfl (lv_at hl 5 rfl) ?_
  refine lv_iload hx hb dL_law_1571 (lv_at hl 1 rfl) ?_
  refine lv_iconst (v := 2) hx hb dL_law_1573 (by decide) ?_
  refine lv_iadd hx hb dL_law_1574 ?_
  refine lv_topi (fun q9 eq9 => ?_)
  obtain rfl : q9 = nI (k + 2) := (show q9 = nI k + nI 2 from eq9).trans (nI_add _ _)
  refine va_sld hx hb hX hbl hbA hS (vp_in_nI (by omega) (by omega)) dL_law_1575 ?_
  refine lv_topi (fun q10 eq10 => ?_)
  obtain rfl : q10 = xs (k + 2) := eq10.trans (by rw [nI_clamp (by omega)])
  refine lv_aload_n hx hb dL_law_1576 rfl (lv_at hl 5 rfl) ?_
  refine lv_iload hx hb dL_law_1577 (lv_at hl 1 rfl) ?_
  refine lv_iconst (v := 3) hx hb dL_law_1579 (by decide) ?_
  refine lv_iadd hx hb dL_law_1580 ?_
  refine lv_topi (fun q11 eq11 => ?_)
  obtain rfl : q11 = nI (k + 3) := (show q11 = nI k + nI 3 from eq11).trans (nI_add _ _)
  refine va_sld hx hb hX hbl hbA hS (vp_in_nI (by omega) (by omega)) dL_law_1581 ?_
  refine lv_topi (fun q12 eq12 => ?_)
  obtain rfl : q12 = xs (k + 3) := eq12.trans (by rw [nI_clamp (by omega)])
  refine dz_kMi (va_runV (As := [_, _, _]) ⟨hx, hb, hml, hown, hts⟩ (hM G1 ad1 hp) (cwV 3 hts gL_law_X9_seen rfl rfl rfl (by decide +kernel) ⟨by show frM + 1 ≤ 12; omega, by show 8 + (5 + 11) + loM ≤ 454; omega⟩) (dz_P.preV hE hS hG hMo rfl hMa) rfl rfl hl.1 rfl (lv_room (Nat.le_of_ble_eq_true rfl)) dL_law_1582 ⟨by show cells + mcL + 0 ≤ 601024; omega, by show slots + msL + 0 ≤ 7293034; omega⟩) hS (fun y G2 ad2 H locs hq hG hS => ?_)
  obtain ⟨⟨hMa2, nm2, ns2, nl2, nx2, nf2, my2, dy2, td2, ssf2, sst2, cfr2, grw2, bkk2, iop2, hMo2⟩, h50, hN⟩ := hend G1 ad1 y G2 ad2 hp hq
  refine lv_istore (lv' := [(6, .int y), (5, .int x), (4, .int (nI k)), (3, .ref aO), (2, .ref aM), (1, .ref aX), (0, .ref b)]) hx hb dL_law_1585 hl (by decide) rfl (fun ls hl => ?_)
  refine lv_aload_n hx hb dL_law_1587 rfl (lv_at hl 4 rfl) ?_
  refine dz_kRi (va_runV (As := []) ⟨hx, hb, hml, hown, hts⟩ (c_X9_thrown l Z G2 ad2 aM nm2 ns2 nl2 nx2 nf2 my2 kx dy2 td2 ssf2 sst2 cfr2 grw2 bkk2 iop2 hMa2 hMo2) (cwV 0 hts gL_law_X9_thrown rfl rfl rfl (by decide +kernel) ⟨Nat.le_of_ble_eq_true rfl, Nat.le_of_ble_eq_true rfl⟩) (dz_P.preV hE hS hG hMo2 rfl hMa2) rfl rfl hl.1 rfl (lv_room (Nat.le_of_ble_eq_true rfl)) dL_law_1588 ⟨by show cells + mcL + 0 + 0 ≤ 601024; omega, by show slots + msL + 0 + 0 ≤ 7293034; omega⟩) ?_
  refine lv_iload hx hb dL_law_1591 (lv_at hl 1 rfl) ?_
  refine lv_icmp_eq (tgt := 1598) hx hb dL_law_1593 (by decide) (fun c_1593 => ?_) (fun c_1593 => absurd hxk.symm c_1593)
  refine lv_iload hx hb dL_law_1598 (lv_at hl 1 rfl) ?_
  refine lv_if_ne (tgt := 1615) hx hb dL_law_1600 (by decide) (fun c_1600 => ?_) (fun c_1600 => ?_)
  · refine lv_goto (tgt := 1861) hx hb dL_law_1615 (by decide) ?_
    refine W.widen (k := cells + 20) (n := slots + 700) (by omega) (by omega) ?_
    exact next G2 ad2 _ _ _ hN hG hS (lv_sub hl [2, 3, 4, 5, 6] rfl)
  · obtain ⟨fo9, h5, ha5, hv5⟩ := h50 (hxk.symm.trans c_1600)
    refine lv_aload_n hx hb dL_law_1603 rfl (lv_at hl 3 rfl) ?_
    refine lv_iconst (v := 0) hx hb dL_law_1604 (by decide) ?_
    refine dz_lald hx hb hE hG ha5 h5 (by unfold vp_in; decide) dL_law_1605 ?_
    refine lv_iload hx hb dL_law_1606 (lv_at hl 0 rfl) ?_
    refine lv_i2l hx hb dL_law_1608 rfl ?_
    refine W.lcmp hx hb dL_law_1609 ?_
    refine lv_topi (fun q13 eq13 => ?_)
    obtain rfl : q13 = 0 := eq13.trans (lw_cmp hv5)
    refine lv_if_eq (tgt := 1615) hx hb dL_law_1610 (by decide) (fun c_1610 => ?_) (fun c_1610 => absurd rfl c_1610)
    refine lv_goto (tgt := 1861) hx hb dL_law_1615 (by decide) ?_
    refine W.widen (k := cells + 20) (n := slots + 700) (by omega) (by omega) ?_
    exact next G2 ad2 _ _ _ hN hG hS (lv_sub hl [2, 3, 4, 5, 6] rfl)

set_option maxHeartbeats 4000000 in
set_option maxRecDepth 100000 in
theorem lw_s_measured {p : Program} {l : Launch} {e : Env} {s : State} {m : MethodId} {below : List Frame} {meth : Method} {c : Code} {b L : Nat} {xs : Nat → Int32} {Z : dzG} (K : lw_K p s m c b L xs Z) {G : dzW} {ad : dzA} {aX aM aO k cells slots : Nat} {H : Heap} {locs : List Loc} {ls : Array Slot} {Q : State → Prop} (hk : k + 5 ≤ L) (hl : lv_has ls 7 [(4, .int (nI k)), (3, .ref aO), (2, .ref aM), (1, .ref aX), (0, .ref b)]) (hG : dz_w Z G ad H) (hS : va_S (dz_A Z) s.heap H locs) (hce : cells + 20 ≤ 601024) (hsl : slots + 700 ≤ 7293034) {Nx : dzW → dzA → Prop} (hst : lw_Ok l Z G ad aM aO yL_measured wsL_measured yX9_measured wsX9_measured [.ref aX, .int (xs (k + 1)), .int (xs (k + 2)), .int (xs (k + 3)), .ref aO] [.ref aM, .int (xs (k + 1)), .int (xs (k + 2)), .int (xs (k + 3))] rv_i (fun y => y.toInt64) Nx) (next : ∀ (G2 : dzW) (ad2 : dzA) (H2 : Heap) (locs2 : List Loc) (ls2 : Array Slot), Nx G2 ad2 → dz_w Z G2 ad2 H2 → va_S (dz_A Z) s.heap H2 locs2 → lv_has ls2 7 [(4, .int (nI k)), (3, .ref aO), (2, .ref aM), (1, .ref aX), (0, .ref b)] → W p l e room_1 s m #[Value.ref b] below meth c H2 locs2 (cells + 20) (slots + 700) Q (F0 m 1861 ls2 [])) : W p l e room_1 s m #[Value.ref b] below meth c H locs cells slots Q (F0 m 1618 ls []) := by
  obtain ⟨hx, hb, hml, hown, hts, hX, hbl, hB, hE, hL9⟩ := K
  have hbA : ¬ dz_A Z b := by show ¬ dzB Z ≤ b; omega
  obtain ⟨kx, frL, loL, mcL, msL, frM, loM, PL, PM, ⟨q01, q02, q03, q04, q05, q06⟩, hL, hLr, hM, hend⟩ := hst
  refine lv_aload_n hx hb dL_law_1618 rfl (lv_at hl 3 rfl) ?_
  refine lv_aload_n hx hb dL_law_1619 rfl (lv_at hl 4 rfl) ?_
  refine lv_iload hx hb dL_law_1620 (lv_at hl 0 rfl) ?_
  refine lv_iconst (v := 1) hx hb dL_law_1622 (by decide) ?_
  refine lv_iadd hx hb dL_law_1623 ?_
  refine lv_topi (fun q1 eq1 => ?_)
  obtain rfl : q1 = nI (k + 1) := (show q1 = nI k + nI 1 from eq1).trans (nI_add _ _)
  refine va_sld hx hb hX hbl hbA hS (vp_in_nI (by omega) (by omega)) dL_law_1624 ?_
  refine lv_topi (fun q2 eq2 => ?_)
  obtain rfl : q2 = xs (k + 1) := eq2.trans (by rw [nI_clamp (by omega)])
  refine lv_aload_n hx hb dL_law_1625 rfl (lv_at hl 4 rfl) ?_
  refine lv_iload hx hb dL_law_1626 (lv_at hl 0 rfl) ?_
  refine lv_iconst (v := 2) hx hb dL_law_1628 (by decide) ?_
  refine lv_iadd hx hb dL_law_1629 ?_
  refine lv_topi (fun q3 eq3 => ?_)
  obtain rfl : q3 = nI (k + 2) := (show q3 = nI k + nI 2 from eq3).trans (nI_add _ _)
  refine va_sld hx hb hX hbl hbA hS (vp_in_nI (by omega) (by omega)) dL_law_1630 ?_
  refine lv_topi (fun q4 eq4 => ?_)
  obtain rfl : q4 = xs (k + 2) := eq4.trans (by rw [nI_clamp (by omega)])
  refine lv_aload_n hx hb dL_law_1631 rfl (lv_at hl 4 rfl) ?_
  refine lv_iload hx hb dL_law_1632 (lv_at hl 0 rfl) ?_
  refine lv_iconst (v := 3) hx hb dL_law_1634 (by decide) ?_
  refine lv_iadd hx hb dL_law_1635 ?_
  refine lv_topi (fun q5 eq5 => ?_)
  obtain rfl : q5 = nI (k + 3) := (show q5 = nI k + nI 3 from eq5).trans (nI_add _ _)
  refine va_sld hx hb hX hbl hbA hS (vp_in_nI (by omega) (by omega)) dL_law_1636 ?_
  refine lv_topi (fun q6 eq6 => ?_)
  obtain rfl : q6 = xs (k + 3) := eq6.trans (by rw [nI_clamp (by omega)])
  refine lv_aload_n hx hb dL_law_1637 rfl (lv_at hl 1 rfl) ?_
  refine dz_kMi (vx_runSW (As := [_, _, _, _, _]) ⟨hx, hb, hml, hown, hts⟩ hL (vx_cwSW 5 hts gL_law_L_measured rfl rfl rfl (by decide +kernel) ⟨by show frL + 1 ≤ 12; omega, by show 8 + (6 + 11) + loL ≤ 454; omega⟩) (dz_P.pre hE hS hG) rfl rfl hl.1 rfl (lv_room (Nat.le_of_ble_eq_true rfl)) dL_law_1638 ⟨by show cells + mcL ≤ 601024; omega, by show slots + msL ≤ 7293034; omega⟩) hS (fun x G1 ad1 H locs hp hG hS => ?_)
  obtain ⟨hxk, hp⟩ := hp
  obtain ⟨⟨fs, hMo⟩, hMa⟩ := hLr G1 ad1 hp
  refine lv_istore (lv' := [(5, .int x), (4, .int (nI k)), (3, .ref aO), (2, .ref aM), (1, .ref aX), (0, .ref b)]) hx hb dL_law_1641 hl (by decide) rfl (fun ls hl => ?_)
  refine lv_aload_n hx hb dL_law_1643 rfl (lv_at hl 3 rfl) ?_
  refine lv_aload_n hx hb dL_law_1644 rfl (lv_at hl 5 rfl) ?_
  refine lv_iload hx hb dL_law_1645 (lv_at hl 1 rfl) ?_
  refine lv_iconst (v := 1) hx hb dL_law_1647 (by decide) ?_
  refine lv_iadd hx hb dL_law_1648 ?_
  refine lv_topi (fun q7 eq7 => ?_)
  obtain rfl : q7 = nI (k + 1) := (show q7 = nI k + nI 1 from eq7).trans (nI_add _ _)
  refine va_sld hx hb hX hbl hbA hS (vp_in_nI (by omega) (by omega)) dL_law_1649 ?_
  refine lv_topi (fun q8 eq8 => ?_)
  obtain rfl : q8 = xs (k + 1) := eq8.trans (by rw [nI_clamp (by omega)])
  refine lv_aload_n hx hb dL_law_1650 rfl (lv_at hl 5 rfl) ?_
  refine lv_iload hx hb dL_law_1651 (lv_at hl 1 rfl) ?_
  refine lv_iconst (v := 2) hx hb dL_law_1653 (by decide) ?_
  refine lv_iadd hx hb dL_law_1654 ?_
  refine lv_topi (fun q9 eq9 => ?_)
  obtain rfl : q9 = nI (k + 2) := (show q9 = nI k + nI 2 from eq9).trans (nI_add _ _)
  refine va_sld hx hb hX hbl hbA hS (vp_in_nI (by omega) (by omega)) dL_law_1655 ?_
  refine lv_topi (fun q10 eq10 => ?_)
  obtain rfl : q10 = xs (k + 2) := eq10.trans (by rw [nI_clamp (by omega)])
  refine lv_aload_n hx hb dL_law_1656 rfl (lv_at hl 5 rfl) ?_
  refine lv_iload hx hb dL_law_1657 (lv_at hl 1 rfl) ?_
  refine lv_iconst (v := 3) hx hb dL_law_1659 (by decide) ?_
  refine lv_iadd hx hb dL_law_1660 ?_
  refine lv_topi (fun q11 eq11 => ?_)
  obtain rfl : q11 = nI (k + 3) := (show q11 = nI k + nI 3 from eq11).trans (nI_add _ _)
  refine va_sld hx hb hX hbl hbA hS (vp_in_nI (by omega) (by omega)) dL_law_1661 ?_
  refine lv_topi (fun q12 eq12 => ?_)
  obtain rfl : q12 = xs (k + 3) := eq12.trans (by rw [nI_clamp (by omega)])
  refine dz_kMi (va_runV (As := [_, _, _]) ⟨hx, hb, hml, hown, hts⟩ (hM G1 ad1 hp) (cwV 3 hts gL_law_X9_measured rfl rfl rfl (by decide +kernel) ⟨by show frM + 1 ≤ 12; omega, by show 8 + (5 + 11) + loM ≤ 454; omega⟩) (dz_P.preV hE hS hG hMo rfl hMa) rfl rfl hl.1 rfl (lv_room (Nat.le_of_ble_eq_true rfl)) dL_law_1662 ⟨by show cells + mcL + 0 ≤ 601024; omega, by show slots + msL + 0 ≤ 7293034; omega⟩) hS (fun y G2 ad2 H locs hq hG hS => ?_)
  obtain ⟨⟨hMa2, nm2, ns2, nl2, nx2, nf2, my2, dy2, td2, ssf2, sst2, cfr2, grw2, bkk2, iop2, hMo2⟩, h50, hN⟩ := hend G1 ad1 y G2 ad2 hp hq
  refine lv_istore (lv' := [(6, .int y), (5, .int x), (4, .int (nI k)), (3, .ref aO), (2, .ref aM), (1, .ref aX), (0, .ref b)]) hx hb dL_law_1665 hl (by decide) rfl (fun ls hl => ?_)
  refine lv_aload_n hx hb dL_law_1667 rfl (lv_at hl 4 rfl) ?_
  refine dz_kRi (va_runV (As := []) ⟨hx, hb, hml, hown, hts⟩ (c_X9_thrown l Z G2 ad2 aM nm2 ns2 nl2 nx2 nf2 my2 kx dy2 td2 ssf2 sst2 cfr2 grw2 bkk2 iop2 hMa2 hMo2) (cwV 0 hts gL_law_X9_thrown rfl rfl rfl (by decide +kernel) ⟨Nat.le_of_ble_eq_true rfl, Nat.le_of_ble_eq_true rfl⟩) (dz_P.preV hE hS hG hMo2 rfl hMa2) rfl rfl hl.1 rfl (lv_room (Nat.le_of_ble_eq_true rfl)) dL_law_1668 ⟨by show cells + mcL + 0 + 0 ≤ 601024; omega, by show slots + msL + 0 + 0 ≤ 7293034; omega⟩) ?_
  refine lv_iload hx hb dL_law_1671 (lv_at hl 1 rfl) ?_
  refine lv_icmp_eq (tgt := 1678) hx hb dL_law_1673 (by decide) (fun c_1673 => ?_) (fun c_1673 => absurd hxk.symm c_1673)
  refine lv_iload hx hb dL_law_1678 (lv_at hl 1 rfl) ?_
  refine lv_if_ne (tgt := 1695) hx hb dL_law_1680 (by decide) (fun c_1680 => ?_) (fun c_1680 => ?_)
  · refine lv_goto (tgt := 1861) hx hb dL_law_1695 (by decide) ?_
    refine W.widen (k := cells + 20) (n := slots + 700) (by omega) (by omega) ?_
    exact next G2 ad2 _ _ _ hN hG hS (lv_sub hl [2, 3, 4, 5, 6] rfl)
  · obtain ⟨fo9, h5, ha5, hv5⟩ := h50 (hxk.symm.trans c_1680)
    refine lv_aload_n hx hb dL_law_1683 rfl (lv_at hl 3 rfl) ?_
    refine lv_iconst (v := 0) hx hb dL_law_1684 (by decide) ?_
    refine dz_lald hx hb hE hG ha5 h5 (by unfold vp_in; decide) dL_law_1685 ?_
    refine lv_iload hx hb dL_law_1686 (lv_at hl 0 rfl) ?_
    refine lv_i2l hx hb dL_law_1688 rfl ?_
    refine W.lcmp hx hb dL_law_1689 ?_
    refine lv_topi (fun q13 eq13 => ?_)
    obtain rfl : q13 = 0 := eq13.trans (lw_cmp hv5)
    refine lv_if_eq (tgt := 1695) hx hb dL_law_1690 (by decide) (fun c_1690 => ?_) (fun c_1690 => absurd rfl c_1690)
    refine lv_goto (tgt := 1861) hx hb dL_law_1695 (by decide) ?_
    refine W.widen (k := cells + 20) (n := slots + 700) (by omega) (by omega) ?_
    exact next G2 ad2 _ _ _ hN hG hS (lv_sub hl [2, 3, 4, 5, 6] rfl)

set_option maxHeartbeats 4000000 in
set_option maxRecDepth 100000 in
theorem lw_s_booked {p : Program} {l : Launch} {e : Env} {s : State} {m : MethodId} {below : List Frame} {meth : Method} {c : Code} {b L : Nat} {xs : Nat → Int32} {Z : dzG} (K : lw_K p s m c b L xs Z) {G : dzW} {ad : dzA} {aX aM aO k cells slots : Nat} {H : Heap} {locs : List Loc} {ls : Array Slot} {Q : State → Prop} (hk : k + 5 ≤ L) (hl : lv_has ls 7 [(4, .int (nI k)), (3, .ref aO), (2, .ref aM), (1, .ref aX), (0, .ref b)]) (hG : dz_w Z G ad H) (hS : va_S (dz_A Z) s.heap H locs) (hce : cells + 20 ≤ 601024) (hsl : slots + 700 ≤ 7293034) {Nx : dzW → dzA → Prop} (hst : lw_Ok l Z G ad aM aO yL_booked wsL_booked yX9_booked wsX9_booked [.ref aX, .int (xs (k + 1)), .ref aO] [.ref aM, .int (xs (k + 1))] rv_i (fun y => y.toInt64) Nx) (next : ∀ (G2 : dzW) (ad2 : dzA) (H2 : Heap) (locs2 : List Loc) (ls2 : Array Slot), Nx G2 ad2 → dz_w Z G2 ad2 H2 → va_S (dz_A Z) s.heap H2 locs2 → lv_has ls2 7 [(4, .int (nI k)), (3, .ref aO), (2, .ref aM), (1, .ref aX), (0, .ref b)] → W p l e room_1 s m #[Value.ref b] below meth c H2 locs2 (cells + 20) (slots + 700) Q (F0 m 1861 ls2 [])) : W p l e room_1 s m #[Value.ref b] below meth c H locs cells slots Q (F0 m 1698 ls []) := by
  obtain ⟨hx, hb, hml, hown, hts, hX, hbl, hB, hE, hL9⟩ := K
  have hbA : ¬ dz_A Z b := by show ¬ dzB Z ≤ b; omega
  obtain ⟨kx, frL, loL, mcL, msL, frM, loM, PL, PM, ⟨q01, q02, q03, q04, q05, q06⟩, hL, hLr, hM, hend⟩ := hst
  refine lv_aload_n hx hb dL_law_1698 rfl (lv_at hl 3 rfl) ?_
  refine lv_aload_n hx hb dL_law_1699 rfl (lv_at hl 4 rfl) ?_
  refine lv_iload hx hb dL_law_1700 (lv_at hl 0 rfl) ?_
  refine lv_iconst (v := 1) hx hb dL_law_1702 (by decide) ?_
  refine lv_iadd hx hb dL_law_1703 ?_
  refine lv_topi (fun q1 eq1 => ?_)
  obtain rfl : q1 = nI (k + 1) := (show q1 = nI k + nI 1 from eq1).trans (nI_add _ _)
  refine va_sld hx hb hX hbl hbA hS (vp_in_nI (by omega) (by omega)) dL_law_1704 ?_
  refine lv_topi (fun q2 eq2 => ?_)
  obtain rfl : q2 = xs (k + 1) := eq2.trans (by rw [nI_clamp (by omega)])
  refine lv_aload_n hx hb dL_law_1705 rfl (lv_at hl 1 rfl) ?_
  refine dz_kMi (vx_runSW (As := [_, _, _]) ⟨hx, hb, hml, hown, hts⟩ hL (vx_cwSW 3 hts gL_law_L_booked rfl rfl rfl (by decide +kernel) ⟨by show frL + 1 ≤ 12; omega, by show 8 + (4 + 11) + loL ≤ 454; omega⟩) (dz_P.pre hE hS hG) rfl rfl hl.1 rfl (lv_room (Nat.le_of_ble_eq_true rfl)) dL_law_1706 ⟨by show cells + mcL ≤ 601024; omega, by show slots + msL ≤ 7293034; omega⟩) hS (fun x G1 ad1 H locs hp hG hS => ?_)
  obtain ⟨hxk, hp⟩ := hp
  obtain ⟨⟨fs, hMo⟩, hMa⟩ := hLr G1 ad1 hp
  refine lv_istore (lv' := [(5, .int x), (4, .int (nI k)), (3, .ref aO), (2, .ref aM), (1, .ref aX), (0, .ref b)]) hx hb dL_law_1709 hl (by decide) rfl (fun ls hl => ?_)
  refine lv_aload_n hx hb dL_law_1711 rfl (lv_at hl 3 rfl) ?_
  refine lv_aload_n hx hb dL_law_1712 rfl (lv_at hl 5 rfl) ?_
  refine lv_iload hx hb dL_law_1713 (lv_at hl 1 rfl) ?_
  refine lv_iconst (v := 1) hx hb dL_law_1715 (by decide) ?_
  refine lv_iadd hx hb dL_law_1716 ?_
  refine lv_topi (fun q3 eq3 => ?_)
  obtain rfl : q3 = nI (k + 1) := (show q3 = nI k + nI 1 from eq3).trans (nI_add _ _)
  refine va_sld hx hb hX hbl hbA hS (vp_in_nI (by omega) (by omega)) dL_law_1717 ?_
  refine lv_topi (fun q4 eq4 => ?_)
  obtain rfl : q4 = xs (k + 1) := eq4.trans (by rw [nI_clamp (by omega)])
  refine dz_kMi (va_runV (As := [_]) ⟨hx, hb, hml, hown, hts⟩ (hM G1 ad1 hp) (cwV 1 hts gL_law_X9_booked rfl rfl rfl (by decide +kernel) ⟨by show frM + 1 ≤ 12; omega, by show 8 + (2 + 11) + loM ≤ 454; omega⟩) (dz_P.preV hE hS hG hMo rfl hMa) rfl rfl hl.1 rfl (lv_room (Nat.le_of_ble_eq_true rfl)) dL_law_1718 ⟨by show cells + mcL + 0 ≤ 601024; omega, by show slots + msL + 0 ≤ 7293034; omega⟩) hS (fun y G2 ad2 H locs hq hG hS => ?_)
  obtain ⟨⟨hMa2, nm2, ns2, nl2, nx2, nf2, my2, dy2, td2, ssf2, sst2, cfr2, grw2, bkk2, iop2, hMo2⟩, h50, hN⟩ := hend G1 ad1 y G2 ad2 hp hq
  refine lv_istore (lv' := [(6, .int y), (5, .int x), (4, .int (nI k)), (3, .ref aO), (2, .ref aM), (1, .ref aX), (0, .ref b)]) hx hb dL_law_1721 hl (by decide) rfl (fun ls hl => ?_)
  refine lv_aload_n hx hb dL_law_1723 rfl (lv_at hl 4 rfl) ?_
  refine dz_kRi (va_runV (As := []) ⟨hx, hb, hml, hown, hts⟩ (c_X9_thrown l Z G2 ad2 aM nm2 ns2 nl2 nx2 nf2 my2 kx dy2 td2 ssf2 sst2 cfr2 grw2 bkk2 iop2 hMa2 hMo2) (cwV 0 hts gL_law_X9_thrown rfl rfl rfl (by decide +kernel) ⟨Nat.le_of_ble_eq_true rfl, Nat.le_of_ble_eq_true rfl⟩) (dz_P.preV hE hS hG hMo2 rfl hMa2) rfl rfl hl.1 rfl (lv_room (Nat.le_of_ble_eq_true rfl)) dL_law_1724 ⟨by show cells + mcL + 0 + 0 ≤ 601024; omega, by show slots + msL + 0 + 0 ≤ 7293034; omega⟩) ?_
  refine lv_iload hx hb dL_law_1727 (lv_at hl 1 rfl) ?_
  refine lv_icmp_eq (tgt := 1734) hx hb dL_law_1729 (by decide) (fun c_1729 => ?_) (fun c_1729 => absurd hxk.symm c_1729)
  refine lv_iload hx hb dL_law_1734 (lv_at hl 1 rfl) ?_
  refine lv_if_ne (tgt := 1751) hx hb dL_law_1736 (by decide) (fun c_1736 => ?_) (fun c_1736 => ?_)
  · refine lv_goto (tgt := 1861) hx hb dL_law_1751 (by decide) ?_
    refine W.widen (k := cells + 20) (n := slots + 700) (by omega) (by omega) ?_
    exact next G2 ad2 _ _ _ hN hG hS (lv_sub hl [2, 3, 4, 5, 6] rfl)
  · obtain ⟨fo9, h5, ha5, hv5⟩ := h50 (hxk.symm.trans c_1736)
    refine lv_aload_n hx hb dL_law_1739 rfl (lv_at hl 3 rfl) ?_
    refine lv_iconst (v := 0) hx hb dL_law_1740 (by decide) ?_
    refine dz_lald hx hb hE hG ha5 h5 (by unfold vp_in; decide) dL_law_1741 ?_
    refine lv_iload hx hb dL_law_1742 (lv_at hl 0 rfl) ?_
    refine lv_i2l hx hb dL_law_1744 rfl ?_
    refine W.lcmp hx hb dL_law_1745 ?_
    refine lv_topi (fun q5 eq5 => ?_)
    obtain rfl : q5 = 0 := eq5.trans (lw_cmp hv5)
    refine lv_if_eq (tgt := 1751) hx hb dL_law_1746 (by decide) (fun c_1746 => ?_) (fun c_1746 => absurd rfl c_1746)
    refine lv_goto (tgt := 1861) hx hb dL_law_1751 (by decide) ?_
    refine W.widen (k := cells + 20) (n := slots + 700) (by omega) (by omega) ?_
    exact next G2 ad2 _ _ _ hN hG hS (lv_sub hl [2, 3, 4, 5, 6] rfl)

set_option maxHeartbeats 4000000 in
set_option maxRecDepth 100000 in
theorem lw_s_isFresh {p : Program} {l : Launch} {e : Env} {s : State} {m : MethodId} {below : List Frame} {meth : Method} {c : Code} {b L : Nat} {xs : Nat → Int32} {Z : dzG} (K : lw_K p s m c b L xs Z) {G : dzW} {ad : dzA} {aX aM aO k cells slots : Nat} {H : Heap} {locs : List Loc} {ls : Array Slot} {Q : State → Prop} (hk : k + 5 ≤ L) (hl : lv_has ls 7 [(4, .int (nI k)), (3, .ref aO), (2, .ref aM), (1, .ref aX), (0, .ref b)]) (hG : dz_w Z G ad H) (hS : va_S (dz_A Z) s.heap H locs) (hce : cells + 20 ≤ 601024) (hsl : slots + 700 ≤ 7293034) {Nx : dzW → dzA → Prop} (hst : lw_Ok l Z G ad aM aO yL_isFresh wsL_isFresh yX9_isFresh wsX9_isFresh [.ref aX, .int (xs (k + 1)), .ref aO] [.ref aM, .int (xs (k + 1))] rv_i (fun y => if y = 0 then 0 else 1) Nx) (next : ∀ (G2 : dzW) (ad2 : dzA) (H2 : Heap) (locs2 : List Loc) (ls2 : Array Slot), Nx G2 ad2 → dz_w Z G2 ad2 H2 → va_S (dz_A Z) s.heap H2 locs2 → lv_has ls2 7 [(4, .int (nI k)), (3, .ref aO), (2, .ref aM), (1, .ref aX), (0, .ref b)] → W p l e room_1 s m #[Value.ref b] below meth c H2 locs2 (cells + 20) (slots + 700) Q (F0 m 1861 ls2 [])) : W p l e room_1 s m #[Value.ref b] below meth c H locs cells slots Q (F0 m 1754 ls []) := by
  obtain ⟨hx, hb, hml, hown, hts, hX, hbl, hB, hE, hL9⟩ := K
  have hbA : ¬ dz_A Z b := by show ¬ dzB Z ≤ b; omega
  obtain ⟨kx, frL, loL, mcL, msL, frM, loM, PL, PM, ⟨q01, q02, q03, q04, q05, q06⟩, hL, hLr, hM, hend⟩ := hst
  refine lv_aload_n hx hb dL_law_1754 rfl (lv_at hl 3 rfl) ?_
  refine lv_aload_n hx hb dL_law_1755 rfl (lv_at hl 4 rfl) ?_
  refine lv_iload hx hb dL_law_1756 (lv_at hl 0 rfl) ?_
  refine lv_iconst (v := 1) hx hb dL_law_1758 (by decide) ?_
  refine lv_iadd hx hb dL_law_1759 ?_
  refine lv_topi (fun q1 eq1 => ?_)
  obtain rfl : q1 = nI (k + 1) := (show q1 = nI k + nI 1 from eq1).trans (nI_add _ _)
  refine va_sld hx hb hX hbl hbA hS (vp_in_nI (by omega) (by omega)) dL_law_1760 ?_
  refine lv_topi (fun q2 eq2 => ?_)
  obtain rfl : q2 = xs (k + 1) := eq2.trans (by rw [nI_clamp (by omega)])
  refine lv_aload_n hx hb dL_law_1761 rfl (lv_at hl 1 rfl) ?_
  refine dz_kMi (vx_runSW (As := [_, _, _]) ⟨hx, hb, hml, hown, hts⟩ hL (vx_cwSW 3 hts gL_law_L_isFresh rfl rfl rfl (by decide +kernel) ⟨by show frL + 1 ≤ 12; omega, by show 8 + (4 + 11) + loL ≤ 454; omega⟩) (dz_P.pre hE hS hG) rfl rfl hl.1 rfl (lv_room (Nat.le_of_ble_eq_true rfl)) dL_law_1762 ⟨by show cells + mcL ≤ 601024; omega, by show slots + msL ≤ 7293034; omega⟩) hS (fun x G1 ad1 H locs hp hG hS => ?_)
  obtain ⟨hxk, hp⟩ := hp
  obtain ⟨⟨fs, hMo⟩, hMa⟩ := hLr G1 ad1 hp
  refine lv_istore (lv' := [(5, .int x), (4, .int (nI k)), (3, .ref aO), (2, .ref aM), (1, .ref aX), (0, .ref b)]) hx hb dL_law_1765 hl (by decide) rfl (fun ls hl => ?_)
  refine lv_aload_n hx hb dL_law_1767 rfl (lv_at hl 3 rfl) ?_
  refine lv_aload_n hx hb dL_law_1768 rfl (lv_at hl 5 rfl) ?_
  refine lv_iload hx hb dL_law_1769 (lv_at hl 1 rfl) ?_
  refine lv_iconst (v := 1) hx hb dL_law_1771 (by decide) ?_
  refine lv_iadd hx hb dL_law_1772 ?_
  refine lv_topi (fun q3 eq3 => ?_)
  obtain rfl : q3 = nI (k + 1) := (show q3 = nI k + nI 1 from eq3).trans (nI_add _ _)
  refine va_sld hx hb hX hbl hbA hS (vp_in_nI (by omega) (by omega)) dL_law_1773 ?_
  refine lv_topi (fun q4 eq4 => ?_)
  obtain rfl : q4 = xs (k + 1) := eq4.trans (by rw [nI_clamp (by omega)])
  refine dz_kMi (va_runV (As := [_]) ⟨hx, hb, hml, hown, hts⟩ (hM G1 ad1 hp) (cwV 1 hts gL_law_X9_isFresh rfl rfl rfl (by decide +kernel) ⟨by show frM + 1 ≤ 12; omega, by show 8 + (3 + 11) + loM ≤ 454; omega⟩) (dz_P.preV hE hS hG hMo rfl hMa) rfl rfl hl.1 rfl (lv_room (Nat.le_of_ble_eq_true rfl)) dL_law_1774 ⟨by show cells + mcL + 0 ≤ 601024; omega, by show slots + msL + 0 ≤ 7293034; omega⟩) hS (fun y G2 ad2 H locs hq hG hS => ?_)
  obtain ⟨⟨hMa2, nm2, ns2, nl2, nx2, nf2, my2, dy2, td2, ssf2, sst2, cfr2, grw2, bkk2, iop2, hMo2⟩, h50, hN⟩ := hend G1 ad1 y G2 ad2 hp hq
  refine lv_istore (lv' := [(6, .int y), (5, .int x), (4, .int (nI k)), (3, .ref aO), (2, .ref aM), (1, .ref aX), (0, .ref b)]) hx hb dL_law_1777 hl (by decide) rfl (fun ls hl => ?_)
  refine lv_aload_n hx hb dL_law_1779 rfl (lv_at hl 4 rfl) ?_
  refine dz_kRi (va_runV (As := []) ⟨hx, hb, hml, hown, hts⟩ (c_X9_thrown l Z G2 ad2 aM nm2 ns2 nl2 nx2 nf2 my2 kx dy2 td2 ssf2 sst2 cfr2 grw2 bkk2 iop2 hMa2 hMo2) (cwV 0 hts gL_law_X9_thrown rfl rfl rfl (by decide +kernel) ⟨Nat.le_of_ble_eq_true rfl, Nat.le_of_ble_eq_true rfl⟩) (dz_P.preV hE hS hG hMo2 rfl hMa2) rfl rfl hl.1 rfl (lv_room (Nat.le_of_ble_eq_true rfl)) dL_law_1780 ⟨by show cells + mcL + 0 + 0 ≤ 601024; omega, by show slots + msL + 0 + 0 ≤ 7293034; omega⟩) ?_
  refine lv_iload hx hb dL_law_1783 (lv_at hl 1 rfl) ?_
  refine lv_icmp_eq (tgt := 1790) hx hb dL_law_1785 (by decide) (fun c_1785 => ?_) (fun c_1785 => absurd hxk.symm c_1785)
  refine lv_iload hx hb dL_law_1790 (lv_at hl 1 rfl) ?_
  refine lv_if_ne (tgt := 1814) hx hb dL_law_1792 (by decide) (fun c_1792 => ?_) (fun c_1792 => ?_)
  · refine lv_goto (tgt := 1861) hx hb dL_law_1814 (by decide) ?_
    refine W.widen (k := cells + 20) (n := slots + 700) (by omega) (by omega) ?_
    exact next G2 ad2 _ _ _ hN hG hS (lv_sub hl [2, 3, 4, 5, 6] rfl)
  · obtain ⟨fo9, h5, ha5, hv5⟩ := h50 (hxk.symm.trans c_1792)
    refine lv_aload_n hx hb dL_law_1795 rfl (lv_at hl 3 rfl) ?_
    refine lv_iconst (v := 0) hx hb dL_law_1796 (by decide) ?_
    refine dz_lald hx hb hE hG ha5 h5 (by unfold vp_in; decide) dL_law_1797 ?_
    refine lv_iload hx hb dL_law_1798 (lv_at hl 0 rfl) ?_
    refine lv_if_eq (tgt := 1807) hx hb dL_law_1800 (by decide) (fun c_1800 => ?_) (fun c_1800 => ?_)
    · refine lv_lconst (v := 0) hx hb dL_law_1807 (by decide) ?_
      refine W.lcmp hx hb dL_law_1808 ?_
      refine lv_topi (fun q5 eq5 => ?_)
      obtain rfl : q5 = 0 := eq5.trans (lw_cmp (hv5.trans (if_pos c_1800)))
      refine lv_if_eq (tgt := 1814) hx hb dL_law_1809 (by decide) (fun c_1809 => ?_) (fun c_1809 => absurd rfl c_1809)
      refine lv_goto (tgt := 1861) hx hb dL_law_1814 (by decide) ?_
      refine W.widen (k := cells + 20) (n := slots + 700) (by omega) (by omega) ?_
      exact next G2 ad2 _ _ _ hN hG hS (lv_sub hl [2, 3, 4, 5, 6] rfl)
    · refine lv_lconst (v := 1) hx hb dL_law_1803 (by decide) ?_
      refine lv_goto (tgt := 1808) hx hb dL_law_1804 (by decide) ?_
      refine W.lcmp hx hb dL_law_1808 ?_
      refine lv_topi (fun q5 eq5 => ?_)
      obtain rfl : q5 = 0 := eq5.trans (lw_cmp (hv5.trans (if_neg c_1800)))
      refine lv_if_eq (tgt := 1814) hx hb dL_law_1809 (by decide) (fun c_1809 => ?_) (fun c_1809 => absurd rfl c_1809)
      refine lv_goto (tgt := 1861) hx hb dL_law_1814 (by decide) ?_
      refine W.widen (k := cells + 20) (n := slots + 700) (by omega) (by omega) ?_
      exact next G2 ad2 _ _ _ hN hG hS (lv_sub hl [2, 3, 4, 5, 6] rfl)

set_option maxHeartbeats 4000000 in
set_option maxRecDepth 100000 in
theorem lw_s_dispute {p : Program} {l : Launch} {e : Env} {s : State} {m : MethodId} {below : List Frame} {meth : Method} {c : Code} {b L : Nat} {xs : Nat → Int32} {Z : dzG} (K : lw_K p s m c b L xs Z) {G : dzW} {ad : dzA} {aX aM aO k cells slots : Nat} {H : Heap} {locs : List Loc} {ls : Array Slot} {Q : State → Prop} (hk : k + 5 ≤ L) (hl : lv_has ls 7 [(4, .int (nI k)), (3, .ref aO), (2, .ref aM), (1, .ref aX), (0, .ref b)]) (hG : dz_w Z G ad H) (hS : va_S (dz_A Z) s.heap H locs) (hce : cells + 20 ≤ 601024) (hsl : slots + 700 ≤ 7293034) {Nx : dzW → dzA → Prop} (hst : lw_Ok l Z G ad aM aO yL_dispute wsL_dispute yX9_dispute wsX9_dispute [.ref aX, .ref aO] [.ref aM] rv_i (fun y => y.toInt64) Nx) (next : ∀ (G2 : dzW) (ad2 : dzA) (H2 : Heap) (locs2 : List Loc) (ls2 : Array Slot), Nx G2 ad2 → dz_w Z G2 ad2 H2 → va_S (dz_A Z) s.heap H2 locs2 → lv_has ls2 7 [(4, .int (nI k)), (3, .ref aO), (2, .ref aM), (1, .ref aX), (0, .ref b)] → W p l e room_1 s m #[Value.ref b] below meth c H2 locs2 (cells + 20) (slots + 700) Q (F0 m 1861 ls2 [])) : W p l e room_1 s m #[Value.ref b] below meth c H locs cells slots Q (F0 m 1817 ls []) := by
  obtain ⟨hx, hb, hml, hown, hts, hX, hbl, hB, hE, hL9⟩ := K
  have hbA : ¬ dz_A Z b := by show ¬ dzB Z ≤ b; omega
  obtain ⟨kx, frL, loL, mcL, msL, frM, loM, PL, PM, ⟨q01, q02, q03, q04, q05, q06⟩, hL, hLr, hM, hend⟩ := hst
  refine lv_aload_n hx hb dL_law_1817 rfl (lv_at hl 3 rfl) ?_
  refine lv_aload_n hx hb dL_law_1818 rfl (lv_at hl 1 rfl) ?_
  refine dz_kMi (vx_runSW (As := [_, _]) ⟨hx, hb, hml, hown, hts⟩ hL (vx_cwSW 2 hts gL_law_L_dispute rfl rfl rfl (by decide +kernel) ⟨by show frL + 1 ≤ 12; omega, by show 8 + (3 + 11) + loL ≤ 454; omega⟩) (dz_P.pre hE hS hG) rfl rfl hl.1 rfl (lv_room (Nat.le_of_ble_eq_true rfl)) dL_law_1819 ⟨by show cells + mcL ≤ 601024; omega, by show slots + msL ≤ 7293034; omega⟩) hS (fun x G1 ad1 H locs hp hG hS => ?_)
  obtain ⟨hxk, hp⟩ := hp
  obtain ⟨⟨fs, hMo⟩, hMa⟩ := hLr G1 ad1 hp
  refine lv_istore (lv' := [(5, .int x), (4, .int (nI k)), (3, .ref aO), (2, .ref aM), (1, .ref aX), (0, .ref b)]) hx hb dL_law_1822 hl (by decide) rfl (fun ls hl => ?_)
  refine lv_aload_n hx hb dL_law_1824 rfl (lv_at hl 3 rfl) ?_
  refine dz_kMi (va_runV (As := []) ⟨hx, hb, hml, hown, hts⟩ (hM G1 ad1 hp) (cwV 0 hts gL_law_X9_dispute rfl rfl rfl (by decide +kernel) ⟨by show frM + 1 ≤ 12; omega, by show 8 + (1 + 11) + loM ≤ 454; omega⟩) (dz_P.preV hE hS hG hMo rfl hMa) rfl rfl hl.1 rfl (lv_room (Nat.le_of_ble_eq_true rfl)) dL_law_1825 ⟨by show cells + mcL + 0 ≤ 601024; omega, by show slots + msL + 0 ≤ 7293034; omega⟩) hS (fun y G2 ad2 H locs hq hG hS => ?_)
  obtain ⟨⟨hMa2, nm2, ns2, nl2, nx2, nf2, my2, dy2, td2, ssf2, sst2, cfr2, grw2, bkk2, iop2, hMo2⟩, h50, hN⟩ := hend G1 ad1 y G2 ad2 hp hq
  refine lv_istore (lv' := [(6, .int y), (5, .int x), (4, .int (nI k)), (3, .ref aO), (2, .ref aM), (1, .ref aX), (0, .ref b)]) hx hb dL_law_1828 hl (by decide) rfl (fun ls hl => ?_)
  refine lv_aload_n hx hb dL_law_1830 rfl (lv_at hl 4 rfl) ?_
  refine dz_kRi (va_runV (As := []) ⟨hx, hb, hml, hown, hts⟩ (c_X9_thrown l Z G2 ad2 aM nm2 ns2 nl2 nx2 nf2 my2 kx dy2 td2 ssf2 sst2 cfr2 grw2 bkk2 iop2 hMa2 hMo2) (cwV 0 hts gL_law_X9_thrown rfl rfl rfl (by decide +kernel) ⟨Nat.le_of_ble_eq_true rfl, Nat.le_of_ble_eq_true rfl⟩) (dz_P.preV hE hS hG hMo2 rfl hMa2) rfl rfl hl.1 rfl (lv_room (Nat.le_of_ble_eq_true rfl)) dL_law_1831 ⟨by show cells + mcL + 0 + 0 ≤ 601024; omega, by show slots + msL + 0 + 0 ≤ 7293034; omega⟩) ?_
  refine lv_iload hx hb dL_law_1834 (lv_at hl 1 rfl) ?_
  refine lv_icmp_eq (tgt := 1841) hx hb dL_law_1836 (by decide) (fun c_1836 => ?_) (fun c_1836 => absurd hxk.symm c_1836)
  refine lv_iload hx hb dL_law_1841 (lv_at hl 1 rfl) ?_
  refine lv_if_ne (tgt := 1858) hx hb dL_law_1843 (by decide) (fun c_1843 => ?_) (fun c_1843 => ?_)
  · refine lv_goto (tgt := 1861) hx hb dL_law_1858 (by decide) ?_
    refine W.widen (k := cells + 20) (n := slots + 700) (by omega) (by omega) ?_
    exact next G2 ad2 _ _ _ hN hG hS (lv_sub hl [2, 3, 4, 5, 6] rfl)
  · obtain ⟨fo9, h5, ha5, hv5⟩ := h50 (hxk.symm.trans c_1843)
    refine lv_aload_n hx hb dL_law_1846 rfl (lv_at hl 3 rfl) ?_
    refine lv_iconst (v := 0) hx hb dL_law_1847 (by decide) ?_
    refine dz_lald hx hb hE hG ha5 h5 (by unfold vp_in; decide) dL_law_1848 ?_
    refine lv_iload hx hb dL_law_1849 (lv_at hl 0 rfl) ?_
    refine lv_i2l hx hb dL_law_1851 rfl ?_
    refine W.lcmp hx hb dL_law_1852 ?_
    refine lv_topi (fun q1 eq1 => ?_)
    obtain rfl : q1 = 0 := eq1.trans (lw_cmp hv5)
    refine lv_if_eq (tgt := 1858) hx hb dL_law_1853 (by decide) (fun c_1853 => ?_) (fun c_1853 => absurd rfl c_1853)
    refine lv_goto (tgt := 1861) hx hb dL_law_1858 (by decide) ?_
    refine W.widen (k := cells + 20) (n := slots + 700) (by omega) (by omega) ?_
    exact next G2 ad2 _ _ _ hN hG hS (lv_sub hl [2, 3, 4, 5, 6] rfl)
