set_option maxHeartbeats 4000000 in
set_option maxRecDepth 100000 in
theorem c_D_season_bad (l : Launch) (hst : l.stackTraces = false) (Z : dzG) (G : dzW) (ad : dzA) (aX nl nx : Nat) (dy ssf sst cfr grw : Int32) (v1 v2 : Int32) (ha : ad (1, 0) = aX) (hco : G (1, 0) = some (eO 9 [.ref (ad (2, 0)), .ref (ad (9, 0)), .int (nI nl), .int (nI nx), .ref (ad (19, 0)), .ref (ad (26, 0)), .int dy, .int ssf, .int sst, .int cfr, .int grw])) (hbad : ¬ ((((0 : Int32) ≤ v1 ∧ v1 ≤ 99)) ∧ (v1 ≤ v2 ∧ v2 ≤ 99))) : vx_Met l yX8_season wsX8_season (dz_rm 6 82 1 6) (dz_P Z G ad [.ref aX, .int v1, .int v2]) (fun _ _ _ _ => False) (dz_XC Z G ad (fun E => E = "java/lang/IllegalArgumentException")) 1 6 (dz_A Z) := by
  refine vx_ofW (cc := cX8_season) (maxL := 3) (ret := none) (by decide) rfl ?_
  intro p e s m args below meth c s₁ B hml hxt hv
  obtain ⟨rfl, hG, hE⟩ := hv
  have hx := B.exec
  have hb := B.bytes
  have hrt := B.returns
  have hts := atoms_spec (ws := wsX8_season) B.pre
  have hown : s.vm.findClass RX8 = some m.cls := findClass_of_methodNamed B.named
  have hlocks := B.notSynchronized
  have hS : va_S (dz_A Z) s.heap s.heap [] := va_S.rf
  have hl := lv_entry ([.ref aX, .int v1, .int v2]) (n := 3) (Nat.le_of_ble_eq_true rfl)
  rw [lg_entry_eq]
  generalize (lg_sl ([.ref aX, .int v1, .int v2]) ++ List.replicate (3 - (lg_sl ([.ref aX, .int v1, .int v2])).length) Slot.unset).toArray = ls at hl ⊢
  have hl : lv_has ls 3 [(0, .ref aX), (1, .int v1), (2, .int v2)] := hl
  refine lv_iload_n hx hb dX8_season_0 rfl (lv_at hl 1 rfl) ?_
  refine lv_iconst (v := 0) hx hb dX8_season_1 (by decide) ?_
  refine lv_bipush (v := 99) hx hb dX8_season_2 (by decide) ?_
  refine dz_kRi (va_runS (As := [_, _, _]) ⟨hx, hb, hml, hown, hts⟩ (c_X8_isWithin l Z _ _ _ _ _ ) (va_cwS 3 hts gX8_season_X8_isWithin rfl rfl rfl (by decide +kernel) ⟨Nat.le_of_ble_eq_true rfl, Nat.le_of_ble_eq_true rfl⟩) (dz_P.pre hE hS hG) rfl rfl hl.1 rfl (lv_room (Nat.le_of_ble_eq_true rfl)) dX8_season_4 ⟨Nat.le_of_ble_eq_true rfl, Nat.le_of_ble_eq_true rfl⟩) ?_
  refine lv_if_eq (tgt := 20) hx hb dX8_season_7 (by decide) (fun c_7 => ?_) (fun c_7 => ?_)
  · obtain ⟨sa9, hstr9⟩ := hE.2.2.2.2.2.2.2.2.1 (178, "no such season") (by decide +kernel)
    refine vx_throwS (own := RX8) (cls := "java/lang/IllegalArgumentException") (text := "no such season") (names := ["java/lang/RuntimeException", "java/lang/Exception"]) (ik := 67) (is := 178) (ic := 71) (sa := sa9) (A := dz_A Z) hx hb hst hown (by decide +kernel) (by decide +kernel) (hts _ (List.mem_of_getElem? (i := 1) rfl)) (hts _ (List.mem_of_getElem? (i := 2) rfl)) hstr9 (vx_hat (B := [.castable "java/lang/IllegalArgumentException" "java/lang/IllegalArgumentException", .declares (Bundle.initS "java/lang/RuntimeException"), .declares (Bundle.initS "java/lang/Exception"), .declares (Bundle.initS Bundle.tN)]) (fun w h => hts w (List.mem_cons_of_mem _ (List.mem_append_right _ h))) (by decide +kernel) (vx_c (va_Nw.use rfl (hE.2.2.2.2.2.2.1 ("java/lang/IllegalArgumentException", "java/lang/IllegalArgumentException") (by decide +kernel))) (vx_c (va_Nw.use rfl (hE.2.2.2.2.2.2.2.2.2.2.2.2 _ (List.mem_cons_self))) (vx_c (va_Nw.use rfl (hE.2.2.2.2.2.2.2.2.2.2.2.2 _ (List.mem_cons_of_mem _ List.mem_cons_self))) (vx_c (va_Nw.use rfl (hE.2.2.2.2.2.2.2.2.2.2.2.2 _ (List.mem_cons_of_mem _ (List.mem_cons_of_mem _ List.mem_cons_self)))) vx_n))))) (by decide +kernel) hE.2.2.2.2.1.1 hE.2.2.2.2.1.2 hS (hl.1.trans hml.symm) dX8_season_20 dX8_season_23 dX8_season_24 dX8_season_26 dX8_season_29 (fun x h => (hxt x h).elim) (Nat.le_of_ble_eq_true rfl) (Nat.le_of_ble_eq_true rfl) (Nat.le_of_ble_eq_true rfl) (Nat.le_of_ble_eq_true rfl) hlocks (fun t _ h1 h2 => dz_xc hG hS h1 h2) (fun z h => hS.2.2 z h) (Nat.le_of_ble_eq_true rfl) (Nat.le_of_ble_eq_true rfl)
  · refine lv_iload_n hx hb dX8_season_10 rfl (lv_at hl 2 rfl) ?_
    refine lv_iload_n hx hb dX8_season_11 rfl (lv_at hl 1 rfl) ?_
    refine lv_bipush (v := 99) hx hb dX8_season_12 (by decide) ?_
    refine dz_kRi (va_runS (As := [_, _, _]) ⟨hx, hb, hml, hown, hts⟩ (c_X8_isWithin l Z _ _ _ _ _ ) (va_cwS 3 hts gX8_season_X8_isWithin rfl rfl rfl (by decide +kernel) ⟨Nat.le_of_ble_eq_true rfl, Nat.le_of_ble_eq_true rfl⟩) (dz_P.pre hE hS hG) rfl rfl hl.1 rfl (lv_room (Nat.le_of_ble_eq_true rfl)) dX8_season_14 ⟨Nat.le_of_ble_eq_true rfl, Nat.le_of_ble_eq_true rfl⟩) ?_
    refine lv_if_ne (tgt := 30) hx hb dX8_season_17 (by decide) (fun c_17 => ?_) (fun c_17 => ?_)
    · exact absurd ⟨dz_by c_7, dz_by c_17⟩ hbad
    · obtain ⟨sa9, hstr9⟩ := hE.2.2.2.2.2.2.2.2.1 (178, "no such season") (by decide +kernel)
      refine vx_throwS (own := RX8) (cls := "java/lang/IllegalArgumentException") (text := "no such season") (names := ["java/lang/RuntimeException", "java/lang/Exception"]) (ik := 67) (is := 178) (ic := 71) (sa := sa9) (A := dz_A Z) hx hb hst hown (by decide +kernel) (by decide +kernel) (hts _ (List.mem_of_getElem? (i := 1) rfl)) (hts _ (List.mem_of_getElem? (i := 2) rfl)) hstr9 (vx_hat (B := [.castable "java/lang/IllegalArgumentException" "java/lang/IllegalArgumentException", .declares (Bundle.initS "java/lang/RuntimeException"), .declares (Bundle.initS "java/lang/Exception"), .declares (Bundle.initS Bundle.tN)]) (fun w h => hts w (List.mem_cons_of_mem _ (List.mem_append_right _ h))) (by decide +kernel) (vx_c (va_Nw.use rfl (hE.2.2.2.2.2.2.1 ("java/lang/IllegalArgumentException", "java/lang/IllegalArgumentException") (by decide +kernel))) (vx_c (va_Nw.use rfl (hE.2.2.2.2.2.2.2.2.2.2.2.2 _ (List.mem_cons_self))) (vx_c (va_Nw.use rfl (hE.2.2.2.2.2.2.2.2.2.2.2.2 _ (List.mem_cons_of_mem _ List.mem_cons_self))) (vx_c (va_Nw.use rfl (hE.2.2.2.2.2.2.2.2.2.2.2.2 _ (List.mem_cons_of_mem _ (List.mem_cons_of_mem _ List.mem_cons_self)))) vx_n))))) (by decide +kernel) hE.2.2.2.2.1.1 hE.2.2.2.2.1.2 hS (hl.1.trans hml.symm) dX8_season_20 dX8_season_23 dX8_season_24 dX8_season_26 dX8_season_29 (fun x h => (hxt x h).elim) (Nat.le_of_ble_eq_true rfl) (Nat.le_of_ble_eq_true rfl) (Nat.le_of_ble_eq_true rfl) (Nat.le_of_ble_eq_true rfl) hlocks (fun t _ h1 h2 => dz_xc hG hS h1 h2) (fun z h => hS.2.2 z h) (Nat.le_of_ble_eq_true rfl) (Nat.le_of_ble_eq_true rfl)

set_option maxHeartbeats 4000000 in
set_option maxRecDepth 100000 in
theorem c_D_season_ok (l : Launch) (Z : dzG) (G : dzW) (ad : dzA) (aX nl nx : Nat) (dy ssf sst cfr grw : Int32) (v1 v2 : Int32) (ha : ad (1, 0) = aX) (hco : G (1, 0) = some (eO 9 [.ref (ad (2, 0)), .ref (ad (9, 0)), .int (nI nl), .int (nI nx), .ref (ad (19, 0)), .ref (ad (26, 0)), .int dy, .int ssf, .int sst, .int cfr, .int grw])) (hg : ((((0 : Int32) ≤ v1 ∧ v1 ≤ 99)) ∧ (v1 ≤ v2 ∧ v2 ≤ 99))) : dzWr l yX8_season wsX8_season 1 22 0 0 Z G ad [.ref aX, .int v1, .int v2] rv_v (fun (x : Unit) G1 ad1 => (∀ r9 : dzR, r9 ≠ (1, 0) → G1 r9 = G r9 ∧ ad1 r9 = ad r9) ∧ ad = ad1 ∧ G1 (1, 0) = some (eO 9 [.ref (ad (2, 0)), .ref (ad (9, 0)), .int (nI nl), .int (nI nx), .ref (ad (19, 0)), .ref (ad (26, 0)), .int dy, .int v1, .int v2, .int cfr, .int grw])) := by
  refine Met.ofW (cc := cX8_season) (maxL := 3) (ret := none) (by decide) rfl ?_
  intro p e s m args below meth c s₁ B hml hv
  obtain ⟨rfl, hG, hE⟩ := hv
  have hx := B.exec
  have hb := B.bytes
  have hrt := B.returns
  have hts := atoms_spec (ws := wsX8_season) B.pre
  have hown : s.vm.findClass RX8 = some m.cls := findClass_of_methodNamed B.named
  have hlocks := B.notSynchronized
  have hS : va_S (dz_A Z) s.heap s.heap [] := va_S.rf
  have hl := lv_entry ([.ref aX, .int v1, .int v2]) (n := 3) (Nat.le_of_ble_eq_true rfl)
  rw [lg_entry_eq]
  generalize (lg_sl ([.ref aX, .int v1, .int v2]) ++ List.replicate (3 - (lg_sl ([.ref aX, .int v1, .int v2])).length) Slot.unset).toArray = ls at hl ⊢
  have hl : lv_has ls 3 [(0, .ref aX), (1, .int v1), (2, .int v2)] := hl
  refine lv_iload_n hx hb dX8_season_0 rfl (lv_at hl 1 rfl) ?_
  refine lv_iconst (v := 0) hx hb dX8_season_1 (by decide) ?_
  refine lv_bipush (v := 99) hx hb dX8_season_2 (by decide) ?_
  refine dz_kRi (va_runS (As := [_, _, _]) ⟨hx, hb, hml, hown, hts⟩ (c_X8_isWithin l Z _ _ _ _ _ ) (va_cwS 3 hts gX8_season_X8_isWithin rfl rfl rfl (by decide +kernel) ⟨Nat.le_of_ble_eq_true rfl, Nat.le_of_ble_eq_true rfl⟩) (dz_P.pre hE hS hG) rfl rfl hl.1 rfl (lv_room (Nat.le_of_ble_eq_true rfl)) dX8_season_4 ⟨Nat.le_of_ble_eq_true rfl, Nat.le_of_ble_eq_true rfl⟩) ?_
  refine lv_topi (fun v_1 ev_1 => ?_)
  obtain rfl : v_1 = 1 := ev_1.trans (dz_b1 hg.1)
  refine lv_if_eq (tgt := 20) hx hb dX8_season_7 (by decide) (fun c_7 => absurd c_7 (by decide)) (fun c_7 => ?_)
  refine lv_iload_n hx hb dX8_season_10 rfl (lv_at hl 2 rfl) ?_
  refine lv_iload_n hx hb dX8_season_11 rfl (lv_at hl 1 rfl) ?_
  refine lv_bipush (v := 99) hx hb dX8_season_12 (by decide) ?_
  refine dz_kRi (va_runS (As := [_, _, _]) ⟨hx, hb, hml, hown, hts⟩ (c_X8_isWithin l Z _ _ _ _ _ ) (va_cwS 3 hts gX8_season_X8_isWithin rfl rfl rfl (by decide +kernel) ⟨Nat.le_of_ble_eq_true rfl, Nat.le_of_ble_eq_true rfl⟩) (dz_P.pre hE hS hG) rfl rfl hl.1 rfl (lv_room (Nat.le_of_ble_eq_true rfl)) dX8_season_14 ⟨Nat.le_of_ble_eq_true rfl, Nat.le_of_ble_eq_true rfl⟩) ?_
  refine lv_topi (fun v_2 ev_2 => ?_)
  obtain rfl : v_2 = 1 := ev_2.trans (dz_b1 hg.2)
  refine lv_if_ne (tgt := 30) hx hb dX8_season_17 (by decide) (fun c_17 => ?_) (fun c_17 => absurd c_17 (by decide))
  refine lv_aload_n hx hb dX8_season_30 rfl (lv_at hl 0 rfl) ?_
  refine lv_iload_n hx hb dX8_season_31 rfl (lv_at hl 1 rfl) ?_
  refine dz_put hx hb hts (fun _ h => List.mem_cons_of_mem _ (List.mem_append_left _ (List.mem_append_right _ h))) tyX8 tyX8_ok nmX8 hown hE hG ha hS hco rfl 7 (by decide) (hts _ (List.mem_of_getElem? (i := 3) rfl)) (fun _ h9 => h9) rfl (ty := .int) (by decide +kernel) rfl rfl (fs' := [.ref (ad (2, 0)), .ref (ad (9, 0)), .int (nI nl), .int (nI nx), .ref (ad (19, 0)), .ref (ad (26, 0)), .int dy, .int v1, .int sst, .int cfr, .int grw]) rfl (Nat.le_of_ble_eq_true rfl) dX8_season_32 (fun H locs hG hS => ?_)
  obtain ⟨G_1, hG, w_1, o_1⟩ := dz_nm hG
  refine lv_aload_n hx hb dX8_season_35 rfl (lv_at hl 0 rfl) ?_
  refine lv_iload_n hx hb dX8_season_36 rfl (lv_at hl 2 rfl) ?_
  refine dz_put hx hb hts (fun _ h => List.mem_cons_of_mem _ (List.mem_append_left _ (List.mem_append_right _ h))) tyX8 tyX8_ok nmX8 hown hE hG ha hS w_1 rfl 8 (by decide) (hts _ (List.mem_of_getElem? (i := 4) rfl)) (fun _ h9 => h9) rfl (ty := .int) (by decide +kernel) rfl rfl (fs' := [.ref (ad (2, 0)), .ref (ad (9, 0)), .int (nI nl), .int (nI nx), .ref (ad (19, 0)), .ref (ad (26, 0)), .int dy, .int v1, .int v2, .int cfr, .int grw]) rfl (Nat.le_of_ble_eq_true rfl) dX8_season_37 (fun H locs hG hS => ?_)
  obtain ⟨G_2, hG, w_2, o_2⟩ := dz_nm hG
  refine W.widen (k := 0) (n := 0) (by first | omega | decide) (by first | omega | decide) ?_
  refine W.vret hx hb hrt (fun t ht hW => dz_endM (f := rv_v) () hE hS hG ?_ ht hW) (fun q h => hS.2.2 q h) dX8_season_40
  refine ⟨fun r9 n_0 => (dz_tr (o_2 r9 n_0) (o_1 r9 n_0)), rfl, ?_⟩
  exact w_2

set_option maxHeartbeats 4000000 in
set_option maxRecDepth 100000 in
theorem c_D_cloud_bad (l : Launch) (hst : l.stackTraces = false) (Z : dzG) (G : dzW) (ad : dzA) (aX nl nx : Nat) (dy ssf sst cfr grw : Int32) (v1 : Int32) (ha : ad (1, 0) = aX) (hco : G (1, 0) = some (eO 9 [.ref (ad (2, 0)), .ref (ad (9, 0)), .int (nI nl), .int (nI nx), .ref (ad (19, 0)), .ref (ad (26, 0)), .int dy, .int ssf, .int sst, .int cfr, .int grw])) (hbad : ¬ ((0 : Int32) ≤ v1 ∧ v1 ≤ 50)) : vx_Met l yX8_cloud wsX8_cloud (dz_rm 6 82 1 6) (dz_P Z G ad [.ref aX, .int v1]) (fun _ _ _ _ => False) (dz_XC Z G ad (fun E => E = "java/lang/IllegalArgumentException")) 1 6 (dz_A Z) := by
  refine vx_ofW (cc := cX8_cloud) (maxL := 2) (ret := (some .int)) (by decide) rfl ?_
  intro p e s m args below meth c s₁ B hml hxt hv
  obtain ⟨rfl, hG, hE⟩ := hv
  have hx := B.exec
  have hb := B.bytes
  have hrt := B.returns
  have hts := atoms_spec (ws := wsX8_cloud) B.pre
  have hown : s.vm.findClass RX8 = some m.cls := findClass_of_methodNamed B.named
  have hlocks := B.notSynchronized
  have hS : va_S (dz_A Z) s.heap s.heap [] := va_S.rf
  have hl := lv_entry ([.ref aX, .int v1]) (n := 2) (Nat.le_of_ble_eq_true rfl)
  rw [lg_entry_eq]
  generalize (lg_sl ([.ref aX, .int v1]) ++ List.replicate (2 - (lg_sl ([.ref aX, .int v1])).length) Slot.unset).toArray = ls at hl ⊢
  have hl : lv_has ls 2 [(0, .ref aX), (1, .int v1)] := hl
  refine lv_iload_n hx hb dX8_cloud_0 rfl (lv_at hl 1 rfl) ?_
  refine lv_iconst (v := 0) hx hb dX8_cloud_1 (by decide) ?_
  refine lv_bipush (v := 50) hx hb dX8_cloud_2 (by decide) ?_
  refine dz_kRi (va_runS (As := [_, _, _]) ⟨hx, hb, hml, hown, hts⟩ (c_X8_isWithin l Z _ _ _ _ _ ) (va_cwS 3 hts gX8_cloud_X8_isWithin rfl rfl rfl (by decide +kernel) ⟨Nat.le_of_ble_eq_true rfl, Nat.le_of_ble_eq_true rfl⟩) (dz_P.pre hE hS hG) rfl rfl hl.1 rfl (lv_room (Nat.le_of_ble_eq_true rfl)) dX8_cloud_4 ⟨Nat.le_of_ble_eq_true rfl, Nat.le_of_ble_eq_true rfl⟩) ?_
  refine lv_topi (fun v_1 ev_1 => ?_)
  obtain rfl : v_1 = 0 := ev_1.trans (dz_b0 hbad)
  refine lv_if_ne (tgt := 20) hx hb dX8_cloud_7 (by decide) (fun c_7 => absurd (by decide) c_7) (fun c_7 => ?_)
  obtain ⟨sa9, hstr9⟩ := hE.2.2.2.2.2.2.2.2.1 (180, "no such number of days") (by decide +kernel)
  refine vx_throwS (own := RX8) (cls := "java/lang/IllegalArgumentException") (text := "no such number of days") (names := ["java/lang/RuntimeException", "java/lang/Exception"]) (ik := 67) (is := 180) (ic := 71) (sa := sa9) (A := dz_A Z) hx hb hst hown (by decide +kernel) (by decide +kernel) (hts _ (List.mem_of_getElem? (i := 1) rfl)) (hts _ (List.mem_of_getElem? (i := 2) rfl)) hstr9 (vx_hat (B := [.castable "java/lang/IllegalArgumentException" "java/lang/IllegalArgumentException", .declares (Bundle.initS "java/lang/RuntimeException"), .declares (Bundle.initS "java/lang/Exception"), .declares (Bundle.initS Bundle.tN)]) (fun w h => hts w (List.mem_cons_of_mem _ (List.mem_append_right _ h))) (by decide +kernel) (vx_c (va_Nw.use rfl (hE.2.2.2.2.2.2.1 ("java/lang/IllegalArgumentException", "java/lang/IllegalArgumentException") (by decide +kernel))) (vx_c (va_Nw.use rfl (hE.2.2.2.2.2.2.2.2.2.2.2.2 _ (List.mem_cons_self))) (vx_c (va_Nw.use rfl (hE.2.2.2.2.2.2.2.2.2.2.2.2 _ (List.mem_cons_of_mem _ List.mem_cons_self))) (vx_c (va_Nw.use rfl (hE.2.2.2.2.2.2.2.2.2.2.2.2 _ (List.mem_cons_of_mem _ (List.mem_cons_of_mem _ List.mem_cons_self)))) vx_n))))) (by decide +kernel) hE.2.2.2.2.1.1 hE.2.2.2.2.1.2 hS (hl.1.trans hml.symm) dX8_cloud_10 dX8_cloud_13 dX8_cloud_14 dX8_cloud_16 dX8_cloud_19 (fun x h => (hxt x h).elim) (Nat.le_of_ble_eq_true rfl) (Nat.le_of_ble_eq_true rfl) (Nat.le_of_ble_eq_true rfl) (Nat.le_of_ble_eq_true rfl) hlocks (fun t _ h1 h2 => dz_xc hG hS h1 h2) (fun z h => hS.2.2 z h) (Nat.le_of_ble_eq_true rfl) (Nat.le_of_ble_eq_true rfl)

set_option maxHeartbeats 4000000 in
set_option maxRecDepth 100000 in
theorem c_D_cloud_ok (l : Launch) (Z : dzG) (G : dzW) (ad : dzA) (aX nl nx : Nat) (dy ssf sst cfr grw : Int32) (v1 : Int32) (ha : ad (1, 0) = aX) (hco : G (1, 0) = some (eO 9 [.ref (ad (2, 0)), .ref (ad (9, 0)), .int (nI nl), .int (nI nx), .ref (ad (19, 0)), .ref (ad (26, 0)), .int dy, .int ssf, .int sst, .int cfr, .int grw])) (hg : ((0 : Int32) ≤ v1 ∧ v1 ≤ 50)) : dzWr l yX8_cloud wsX8_cloud 1 22 0 0 Z G ad [.ref aX, .int v1] rv_i (fun (x : Int32) G1 ad1 => (∀ r9 : dzR, r9 ≠ (1, 0) → G1 r9 = G r9 ∧ ad1 r9 = ad r9) ∧ ad = ad1 ∧ x = dy + v1 ∧ G1 (1, 0) = some (eO 9 [.ref (ad (2, 0)), .ref (ad (9, 0)), .int (nI nl), .int (nI nx), .ref (ad (19, 0)), .ref (ad (26, 0)), .int dy, .int ssf, .int sst, .int (dy + v1), .int grw])) := by
  refine Met.ofW (cc := cX8_cloud) (maxL := 2) (ret := (some .int)) (by decide) rfl ?_
  intro p e s m args below meth c s₁ B hml hv
  obtain ⟨rfl, hG, hE⟩ := hv
  have hx := B.exec
  have hb := B.bytes
  have hrt := B.returns
  have hts := atoms_spec (ws := wsX8_cloud) B.pre
  have hown : s.vm.findClass RX8 = some m.cls := findClass_of_methodNamed B.named
  have hlocks := B.notSynchronized
  have hS : va_S (dz_A Z) s.heap s.heap [] := va_S.rf
  have hl := lv_entry ([.ref aX, .int v1]) (n := 2) (Nat.le_of_ble_eq_true rfl)
  rw [lg_entry_eq]
  generalize (lg_sl ([.ref aX, .int v1]) ++ List.replicate (2 - (lg_sl ([.ref aX, .int v1])).length) Slot.unset).toArray = ls at hl ⊢
  have hl : lv_has ls 2 [(0, .ref aX), (1, .int v1)] := hl
  refine lv_iload_n hx hb dX8_cloud_0 rfl (lv_at hl 1 rfl) ?_
  refine lv_iconst (v := 0) hx hb dX8_cloud_1 (by decide) ?_
  refine lv_bipush (v := 50) hx hb dX8_cloud_2 (by decide) ?_
  refine dz_kRi (va_runS (As := [_, _, _]) ⟨hx, hb, hml, hown, hts⟩ (c_X8_isWithin l Z _ _ _ _ _ ) (va_cwS 3 hts gX8_cloud_X8_isWithin rfl rfl rfl (by decide +kernel) ⟨Nat.le_of_ble_eq_true rfl, Nat.le_of_ble_eq_true rfl⟩) (dz_P.pre hE hS hG) rfl rfl hl.1 rfl (lv_room (Nat.le_of_ble_eq_true rfl)) dX8_cloud_4 ⟨Nat.le_of_ble_eq_true rfl, Nat.le_of_ble_eq_true rfl⟩) ?_
  refine lv_topi (fun v_1 ev_1 => ?_)
  obtain rfl : v_1 = 1 := ev_1.trans (dz_b1 hg)
  refine lv_if_ne (tgt := 20) hx hb dX8_cloud_7 (by decide) (fun c_7 => ?_) (fun c_7 => absurd c_7 (by decide))
  refine lv_aload_n hx hb dX8_cloud_20 rfl (lv_at hl 0 rfl) ?_
  refine lv_aload_n hx hb dX8_cloud_21 rfl (lv_at hl 0 rfl) ?_
  refine dz_get hx hb hts (fun _ h => List.mem_cons_of_mem _ (List.mem_append_left _ (List.mem_append_right _ h))) hown hE hG ha hco rfl 6 (by decide) (hts _ (List.mem_of_getElem? (i := 3) rfl)) (fun _ h9 => h9) rfl dX8_cloud_22 ?_
  refine lv_iload_n hx hb dX8_cloud_25 rfl (lv_at hl 1 rfl) ?_
  refine lv_iadd hx hb dX8_cloud_26 ?_
  refine lv_topi (fun v_2 ev_2 => ?_)
  obtain rfl : v_2 = dy + v1 := ev_2
  refine dz_put hx hb hts (fun _ h => List.mem_cons_of_mem _ (List.mem_append_left _ (List.mem_append_right _ h))) tyX8 tyX8_ok nmX8 hown hE hG ha hS hco rfl 9 (by decide) (hts _ (List.mem_of_getElem? (i := 4) rfl)) (fun _ h9 => h9) rfl (ty := .int) (by decide +kernel) rfl rfl (fs' := [.ref (ad (2, 0)), .ref (ad (9, 0)), .int (nI nl), .int (nI nx), .ref (ad (19, 0)), .ref (ad (26, 0)), .int dy, .int ssf, .int sst, .int (dy + v1), .int grw]) rfl (Nat.le_of_ble_eq_true rfl) dX8_cloud_27 (fun H locs hG hS => ?_)
  obtain ⟨G_1, hG, w_1, o_1⟩ := dz_nm hG
  refine lv_aload_n hx hb dX8_cloud_30 rfl (lv_at hl 0 rfl) ?_
  refine dz_get hx hb hts (fun _ h => List.mem_cons_of_mem _ (List.mem_append_left _ (List.mem_append_right _ h))) hown hE hG ha w_1 rfl 9 (by decide) (hts _ (List.mem_of_getElem? (i := 4) rfl)) (fun _ h9 => h9) rfl dX8_cloud_31 ?_
  refine W.widen (k := 0) (n := 0) (by first | omega | decide) (by first | omega | decide) ?_
  refine W.iret hx hb hrt (fun t ht hW => dz_endM (f := rv_i) _ hE hS hG ?_ ht hW) (fun q h => hS.2.2 q h) dX8_cloud_34
  refine ⟨fun r9 n_0 => (o_1 r9 n_0), rfl, ?_⟩
  exact ⟨rfl, w_1⟩

set_option maxHeartbeats 4000000 in
set_option maxRecDepth 100000 in
theorem c_D_pass_bad (l : Launch) (hst : l.stackTraces = false) (Z : dzG) (G : dzW) (ad : dzA) (aX nl nx : Nat) (dy ssf sst cfr grw : Int32) (v1 : Int32) (ha : ad (1, 0) = aX) (hco : G (1, 0) = some (eO 9 [.ref (ad (2, 0)), .ref (ad (9, 0)), .int (nI nl), .int (nI nx), .ref (ad (19, 0)), .ref (ad (26, 0)), .int dy, .int ssf, .int sst, .int cfr, .int grw])) (hbad : ¬ ((1 : Int32) ≤ v1 ∧ v1 ≤ 100)) : vx_Met l yX8_pass wsX8_pass (dz_rm 6 82 1 6) (dz_P Z G ad [.ref aX, .int v1]) (fun _ _ _ _ => False) (dz_XC Z G ad (fun E => E = "java/lang/IllegalArgumentException")) 1 6 (dz_A Z) := by
  refine vx_ofW (cc := cX8_pass) (maxL := 2) (ret := (some .int)) (by decide) rfl ?_
  intro p e s m args below meth c s₁ B hml hxt hv
  obtain ⟨rfl, hG, hE⟩ := hv
  have hx := B.exec
  have hb := B.bytes
  have hrt := B.returns
  have hts := atoms_spec (ws := wsX8_pass) B.pre
  have hown : s.vm.findClass RX8 = some m.cls := findClass_of_methodNamed B.named
  have hlocks := B.notSynchronized
  have hS : va_S (dz_A Z) s.heap s.heap [] := va_S.rf
  have hl := lv_entry ([.ref aX, .int v1]) (n := 2) (Nat.le_of_ble_eq_true rfl)
  rw [lg_entry_eq]
  generalize (lg_sl ([.ref aX, .int v1]) ++ List.replicate (2 - (lg_sl ([.ref aX, .int v1])).length) Slot.unset).toArray = ls at hl ⊢
  have hl : lv_has ls 2 [(0, .ref aX), (1, .int v1)] := hl
  refine lv_iload_n hx hb dX8_pass_0 rfl (lv_at hl 1 rfl) ?_
  refine lv_iconst (v := 1) hx hb dX8_pass_1 (by decide) ?_
  refine lv_bipush (v := 100) hx hb dX8_pass_2 (by decide) ?_
  refine dz_kRi (va_runS (As := [_, _, _]) ⟨hx, hb, hml, hown, hts⟩ (c_X8_isWithin l Z _ _ _ _ _ ) (va_cwS 3 hts gX8_pass_X8_isWithin rfl rfl rfl (by decide +kernel) ⟨Nat.le_of_ble_eq_true rfl, Nat.le_of_ble_eq_true rfl⟩) (dz_P.pre hE hS hG) rfl rfl hl.1 rfl (lv_room (Nat.le_of_ble_eq_true rfl)) dX8_pass_4 ⟨Nat.le_of_ble_eq_true rfl, Nat.le_of_ble_eq_true rfl⟩) ?_
  refine lv_topi (fun v_1 ev_1 => ?_)
  obtain rfl : v_1 = 0 := ev_1.trans (dz_b0 hbad)
  refine lv_if_ne (tgt := 20) hx hb dX8_pass_7 (by decide) (fun c_7 => absurd (by decide) c_7) (fun c_7 => ?_)
  obtain ⟨sa9, hstr9⟩ := hE.2.2.2.2.2.2.2.2.1 (180, "no such number of days") (by decide +kernel)
  refine vx_throwS (own := RX8) (cls := "java/lang/IllegalArgumentException") (text := "no such number of days") (names := ["java/lang/RuntimeException", "java/lang/Exception"]) (ik := 67) (is := 180) (ic := 71) (sa := sa9) (A := dz_A Z) hx hb hst hown (by decide +kernel) (by decide +kernel) (hts _ (List.mem_of_getElem? (i := 1) rfl)) (hts _ (List.mem_of_getElem? (i := 2) rfl)) hstr9 (vx_hat (B := [.castable "java/lang/IllegalArgumentException" "java/lang/IllegalArgumentException", .declares (Bundle.initS "java/lang/RuntimeException"), .declares (Bundle.initS "java/lang/Exception"), .declares (Bundle.initS Bundle.tN)]) (fun w h => hts w (List.mem_cons_of_mem _ (List.mem_append_left _ (List.mem_append_right _ h)))) (by decide +kernel) (vx_c (va_Nw.use rfl (hE.2.2.2.2.2.2.1 ("java/lang/IllegalArgumentException", "java/lang/IllegalArgumentException") (by decide +kernel))) (vx_c (va_Nw.use rfl (hE.2.2.2.2.2.2.2.2.2.2.2.2 _ (List.mem_cons_self))) (vx_c (va_Nw.use rfl (hE.2.2.2.2.2.2.2.2.2.2.2.2 _ (List.mem_cons_of_mem _ List.mem_cons_self))) (vx_c (va_Nw.use rfl (hE.2.2.2.2.2.2.2.2.2.2.2.2 _ (List.mem_cons_of_mem _ (List.mem_cons_of_mem _ List.mem_cons_self)))) vx_n))))) (by decide +kernel) hE.2.2.2.2.1.1 hE.2.2.2.2.1.2 hS (hl.1.trans hml.symm) dX8_pass_10 dX8_pass_13 dX8_pass_14 dX8_pass_16 dX8_pass_19 (fun x h => (hxt x h).elim) (Nat.le_of_ble_eq_true rfl) (Nat.le_of_ble_eq_true rfl) (Nat.le_of_ble_eq_true rfl) (Nat.le_of_ble_eq_true rfl) hlocks (fun t _ h1 h2 => dz_xc hG hS h1 h2) (fun z h => hS.2.2 z h) (Nat.le_of_ble_eq_true rfl) (Nat.le_of_ble_eq_true rfl)

set_option maxHeartbeats 4000000 in
set_option maxRecDepth 100000 in
theorem c_D_pass_late (l : Launch) (hst : l.stackTraces = false) (Z : dzG) (G : dzW) (ad : dzA) (aX nl nx : Nat) (dy ssf sst cfr grw : Int32) (v1 : Int32) (ha : ad (1, 0) = aX) (hco : G (1, 0) = some (eO 9 [.ref (ad (2, 0)), .ref (ad (9, 0)), .int (nI nl), .int (nI nx), .ref (ad (19, 0)), .ref (ad (26, 0)), .int dy, .int ssf, .int sst, .int cfr, .int grw])) (hg : ((1 : Int32) ≤ v1 ∧ v1 ≤ 100)) (hd : 2000 < dy + v1) : vx_Met l yX8_pass wsX8_pass (dz_rm 6 82 1 6) (dz_P Z G ad [.ref aX, .int v1]) (fun _ _ _ _ => False) (dz_XC Z G ad (fun E => E = "java/lang/IllegalStateException")) 1 6 (dz_A Z) := by
  refine vx_ofW (cc := cX8_pass) (maxL := 2) (ret := (some .int)) (by decide) rfl ?_
  intro p e s m args below meth c s₁ B hml hxt hv
  obtain ⟨rfl, hG, hE⟩ := hv
  have hx := B.exec
  have hb := B.bytes
  have hrt := B.returns
  have hts := atoms_spec (ws := wsX8_pass) B.pre
  have hown : s.vm.findClass RX8 = some m.cls := findClass_of_methodNamed B.named
  have hlocks := B.notSynchronized
  have hS : va_S (dz_A Z) s.heap s.heap [] := va_S.rf
  have hl := lv_entry ([.ref aX, .int v1]) (n := 2) (Nat.le_of_ble_eq_true rfl)
  rw [lg_entry_eq]
  generalize (lg_sl ([.ref aX, .int v1]) ++ List.replicate (2 - (lg_sl ([.ref aX, .int v1])).length) Slot.unset).toArray = ls at hl ⊢
  have hl : lv_has ls 2 [(0, .ref aX), (1, .int v1)] := hl
  refine lv_iload_n hx hb dX8_pass_0 rfl (lv_at hl 1 rfl) ?_
  refine lv_iconst (v := 1) hx hb dX8_pass_1 (by decide) ?_
  refine lv_bipush (v := 100) hx hb dX8_pass_2 (by decide) ?_
  refine dz_kRi (va_runS (As := [_, _, _]) ⟨hx, hb, hml, hown, hts⟩ (c_X8_isWithin l Z _ _ _ _ _ ) (va_cwS 3 hts gX8_pass_X8_isWithin rfl rfl rfl (by decide +kernel) ⟨Nat.le_of_ble_eq_true rfl, Nat.le_of_ble_eq_true rfl⟩) (dz_P.pre hE hS hG) rfl rfl hl.1 rfl (lv_room (Nat.le_of_ble_eq_true rfl)) dX8_pass_4 ⟨Nat.le_of_ble_eq_true rfl, Nat.le_of_ble_eq_true rfl⟩) ?_
  refine lv_topi (fun v_1 ev_1 => ?_)
  obtain rfl : v_1 = 1 := ev_1.trans (dz_b1 hg)
  refine lv_if_ne (tgt := 20) hx hb dX8_pass_7 (by decide) (fun c_7 => ?_) (fun c_7 => absurd c_7 (by decide))
  refine lv_aload_n hx hb dX8_pass_20 rfl (lv_at hl 0 rfl) ?_
  refine dz_get hx hb hts (fun _ h => List.mem_cons_of_mem _ (List.mem_append_left _ (List.mem_append_left _ (List.mem_append_right _ h)))) hown hE hG ha hco rfl 6 (by decide) (hts _ (List.mem_of_getElem? (i := 5) rfl)) (fun _ h9 => h9) rfl dX8_pass_21 ?_
  refine lv_iload_n hx hb dX8_pass_24 rfl (lv_at hl 1 rfl) ?_
  refine lv_iadd hx hb dX8_pass_25 ?_
  refine lv_sipush (v := 2000) hx hb dX8_pass_26 (by decide) ?_
  refine lv_icmp_le (tgt := 42) hx hb dX8_pass_29 (by decide) (fun c_29 => absurd c_29 (Int32.not_le.mpr hd)) (fun c_29 => ?_)
  obtain ⟨sa9, hstr9⟩ := hE.2.2.2.2.2.2.2.2.1 (205, "days end at 2000") (by decide +kernel)
  refine vx_throwS (own := RX8) (cls := "java/lang/IllegalStateException") (text := "days end at 2000") (names := ["java/lang/RuntimeException", "java/lang/Exception"]) (ik := 78) (is := 205) (ic := 82) (sa := sa9) (A := dz_A Z) hx hb hst hown (by decide +kernel) (by decide +kernel) (hts _ (List.mem_of_getElem? (i := 3) rfl)) (hts _ (List.mem_of_getElem? (i := 4) rfl)) hstr9 (vx_hat (B := [.castable "java/lang/IllegalStateException" "java/lang/IllegalStateException", .declares (Bundle.initS "java/lang/RuntimeException"), .declares (Bundle.initS "java/lang/Exception"), .declares (Bundle.initS Bundle.tN)]) (fun w h => hts w (List.mem_cons_of_mem _ (List.mem_append_right _ h))) (by decide +kernel) (vx_c (va_Nw.use rfl (hE.2.2.2.2.2.2.1 ("java/lang/IllegalStateException", "java/lang/IllegalStateException") (by decide +kernel))) (vx_c (va_Nw.use rfl (hE.2.2.2.2.2.2.2.2.2.2.2.2 _ (List.mem_cons_self))) (vx_c (va_Nw.use rfl (hE.2.2.2.2.2.2.2.2.2.2.2.2 _ (List.mem_cons_of_mem _ List.mem_cons_self))) (vx_c (va_Nw.use rfl (hE.2.2.2.2.2.2.2.2.2.2.2.2 _ (List.mem_cons_of_mem _ (List.mem_cons_of_mem _ List.mem_cons_self)))) vx_n))))) (by decide +kernel) hE.2.2.2.2.1.1 hE.2.2.2.2.1.2 hS (hl.1.trans hml.symm) dX8_pass_32 dX8_pass_35 dX8_pass_36 dX8_pass_38 dX8_pass_41 (fun x h => (hxt x h).elim) (Nat.le_of_ble_eq_true rfl) (Nat.le_of_ble_eq_true rfl) (Nat.le_of_ble_eq_true rfl) (Nat.le_of_ble_eq_true rfl) hlocks (fun t _ h1 h2 => dz_xc hG hS h1 h2) (fun z h => hS.2.2 z h) (Nat.le_of_ble_eq_true rfl) (Nat.le_of_ble_eq_true rfl)

set_option maxHeartbeats 4000000 in
set_option maxRecDepth 100000 in
theorem c_D_pass_ok (l : Launch) (Z : dzG) (G : dzW) (ad : dzA) (aX nl nx : Nat) (dy ssf sst cfr grw : Int32) (v1 : Int32) (ha : ad (1, 0) = aX) (hco : G (1, 0) = some (eO 9 [.ref (ad (2, 0)), .ref (ad (9, 0)), .int (nI nl), .int (nI nx), .ref (ad (19, 0)), .ref (ad (26, 0)), .int dy, .int ssf, .int sst, .int cfr, .int grw])) (hg : ((1 : Int32) ≤ v1 ∧ v1 ≤ 100)) (hd : ¬ 2000 < dy + v1) : dzWr l yX8_pass wsX8_pass 1 22 0 0 Z G ad [.ref aX, .int v1] rv_i (fun (x : Int32) G1 ad1 => (∀ r9 : dzR, r9 ≠ (1, 0) → G1 r9 = G r9 ∧ ad1 r9 = ad r9) ∧ ad = ad1 ∧ x = dy + v1 ∧ G1 (1, 0) = some (eO 9 [.ref (ad (2, 0)), .ref (ad (9, 0)), .int (nI nl), .int (nI nx), .ref (ad (19, 0)), .ref (ad (26, 0)), .int (dy + v1), .int ssf, .int sst, .int cfr, .int grw])) := by
  refine Met.ofW (cc := cX8_pass) (maxL := 2) (ret := (some .int)) (by decide) rfl ?_
  intro p e s m args below meth c s₁ B hml hv
  obtain ⟨rfl, hG, hE⟩ := hv
  have hx := B.exec
  have hb := B.bytes
  have hrt := B.returns
  have hts := atoms_spec (ws := wsX8_pass) B.pre
  have hown : s.vm.findClass RX8 = some m.cls := findClass_of_methodNamed B.named
  have hlocks := B.notSynchronized
  have hS : va_S (dz_A Z) s.heap s.heap [] := va_S.rf
  have hl := lv_entry ([.ref aX, .int v1]) (n := 2) (Nat.le_of_ble_eq_true rfl)
  rw [lg_entry_eq]
  generalize (lg_sl ([.ref aX, .int v1]) ++ List.replicate (2 - (lg_sl ([.ref aX, .int v1])).length) Slot.unset).toArray = ls at hl ⊢
  have hl : lv_has ls 2 [(0, .ref aX), (1, .int v1)] := hl
  refine lv_iload_n hx hb dX8_pass_0 rfl (lv_at hl 1 rfl) ?_
  refine lv_iconst (v := 1) hx hb dX8_pass_1 (by decide) ?_
  refine lv_bipush (v := 100) hx hb dX8_pass_2 (by decide) ?_
  refine dz_kRi (va_runS (As := [_, _, _]) ⟨hx, hb, hml, hown, hts⟩ (c_X8_isWithin l Z _ _ _ _ _ ) (va_cwS 3 hts gX8_pass_X8_isWithin rfl rfl rfl (by decide +kernel) ⟨Nat.le_of_ble_eq_true rfl, Nat.le_of_ble_eq_true rfl⟩) (dz_P.pre hE hS hG) rfl rfl hl.1 rfl (lv_room (Nat.le_of_ble_eq_true rfl)) dX8_pass_4 ⟨Nat.le_of_ble_eq_true rfl, Nat.le_of_ble_eq_true rfl⟩) ?_
  refine lv_topi (fun v_1 ev_1 => ?_)
  obtain rfl : v_1 = 1 := ev_1.trans (dz_b1 hg)
  refine lv_if_ne (tgt := 20) hx hb dX8_pass_7 (by decide) (fun c_7 => ?_) (fun c_7 => absurd c_7 (by decide))
  refine lv_aload_n hx hb dX8_pass_20 rfl (lv_at hl 0 rfl) ?_
  refine dz_get hx hb hts (fun _ h => List.mem_cons_of_mem _ (List.mem_append_left _ (List.mem_append_left _ (List.mem_append_right _ h)))) hown hE hG ha hco rfl 6 (by decide) (hts _ (List.mem_of_getElem? (i := 5) rfl)) (fun _ h9 => h9) rfl dX8_pass_21 ?_
  refine lv_iload_n hx hb dX8_pass_24 rfl (lv_at hl 1 rfl) ?_
  refine lv_iadd hx hb dX8_pass_25 ?_
  refine lv_sipush (v := 2000) hx hb dX8_pass_26 (by decide) ?_
  refine lv_icmp_le (tgt := 42) hx hb dX8_pass_29 (by decide) (fun c_29 => ?_) (fun c_29 => absurd (Int32.not_lt.mp hd) c_29)
  refine lv_aload_n hx hb dX8_pass_42 rfl (lv_at hl 0 rfl) ?_
  refine lv_dup hx hb dX8_pass_43 rfl ?_
  refine dz_get hx hb hts (fun _ h => List.mem_cons_of_mem _ (List.mem_append_left _ (List.mem_append_left _ (List.mem_append_right _ h)))) hown hE hG ha hco rfl 6 (by decide) (hts _ (List.mem_of_getElem? (i := 5) rfl)) (fun _ h9 => h9) rfl dX8_pass_44 ?_
  refine lv_iload_n hx hb dX8_pass_47 rfl (lv_at hl 1 rfl) ?_
  refine lv_iadd hx hb dX8_pass_48 ?_
  refine lv_topi (fun v_2 ev_2 => ?_)
  obtain rfl : v_2 = dy + v1 := ev_2
  refine dz_put hx hb hts (fun _ h => List.mem_cons_of_mem _ (List.mem_append_left _ (List.mem_append_left _ (List.mem_append_right _ h)))) tyX8 tyX8_ok nmX8 hown hE hG ha hS hco rfl 6 (by decide) (hts _ (List.mem_of_getElem? (i := 5) rfl)) (fun _ h9 => h9) rfl (ty := .int) (by decide +kernel) rfl rfl (fs' := [.ref (ad (2, 0)), .ref (ad (9, 0)), .int (nI nl), .int (nI nx), .ref (ad (19, 0)), .ref (ad (26, 0)), .int (dy + v1), .int ssf, .int sst, .int cfr, .int grw]) rfl (Nat.le_of_ble_eq_true rfl) dX8_pass_49 (fun H locs hG hS => ?_)
  obtain ⟨G_1, hG, w_1, o_1⟩ := dz_nm hG
  refine lv_aload_n hx hb dX8_pass_52 rfl (lv_at hl 0 rfl) ?_
  refine dz_get hx hb hts (fun _ h => List.mem_cons_of_mem _ (List.mem_append_left _ (List.mem_append_left _ (List.mem_append_right _ h)))) hown hE hG ha w_1 rfl 6 (by decide) (hts _ (List.mem_of_getElem? (i := 5) rfl)) (fun _ h9 => h9) rfl dX8_pass_53 ?_
  refine W.widen (k := 0) (n := 0) (by first | omega | decide) (by first | omega | decide) ?_
  refine W.iret hx hb hrt (fun t ht hW => dz_endM (f := rv_i) _ hE hS hG ?_ ht hW) (fun q h => hS.2.2 q h) dX8_pass_56
  refine ⟨fun r9 n_0 => (o_1 r9 n_0), rfl, ?_⟩
  exact ⟨rfl, w_1⟩

set_option maxHeartbeats 4000000 in
set_option maxRecDepth 100000 in
theorem c_D_world_bad (l : Launch) (hst : l.stackTraces = false) (Z : dzG) (G : dzW) (ad : dzA) (aX nl nx : Nat) (dy ssf sst cfr grw : Int32) (v1 : Int32) (ha : ad (1, 0) = aX) (hco : G (1, 0) = some (eO 9 [.ref (ad (2, 0)), .ref (ad (9, 0)), .int (nI nl), .int (nI nx), .ref (ad (19, 0)), .ref (ad (26, 0)), .int dy, .int ssf, .int sst, .int cfr, .int grw])) (hbad : ¬ ((40 : Int32) ≤ v1 ∧ v1 ≤ 100)) : vx_Met l yX8_world wsX8_world (dz_rm 6 82 1 6) (dz_P Z G ad [.ref aX, .int v1]) (fun _ _ _ _ => False) (dz_XC Z G ad (fun E => E = "java/lang/IllegalArgumentException")) 1 6 (dz_A Z) := by
  refine vx_ofW (cc := cX8_world) (maxL := 3) (ret := (some .int)) (by decide) rfl ?_
  intro p e s m args below meth c s₁ B hml hxt hv
  obtain ⟨rfl, hG, hE⟩ := hv
  have hx := B.exec
  have hb := B.bytes
  have hrt := B.returns
  have hts := atoms_spec (ws := wsX8_world) B.pre
  have hown : s.vm.findClass RX8 = some m.cls := findClass_of_methodNamed B.named
  have hlocks := B.notSynchronized
  have hS : va_S (dz_A Z) s.heap s.heap [] := va_S.rf
  have hl := lv_entry ([.ref aX, .int v1]) (n := 3) (Nat.le_of_ble_eq_true rfl)
  rw [lg_entry_eq]
  generalize (lg_sl ([.ref aX, .int v1]) ++ List.replicate (3 - (lg_sl ([.ref aX, .int v1])).length) Slot.unset).toArray = ls at hl ⊢
  have hl : lv_has ls 3 [(0, .ref aX), (1, .int v1)] := hl
  refine lv_iload_n hx hb dX8_world_0 rfl (lv_at hl 1 rfl) ?_
  refine lv_bipush (v := 40) hx hb dX8_world_1 (by decide) ?_
  refine lv_bipush (v := 100) hx hb dX8_world_3 (by decide) ?_
  refine dz_kRi (va_runS (As := [_, _, _]) ⟨hx, hb, hml, hown, hts⟩ (c_X8_isWithin l Z _ _ _ _ _ ) (va_cwS 3 hts gX8_world_X8_isWithin rfl rfl rfl (by decide +kernel) ⟨Nat.le_of_ble_eq_true rfl, Nat.le_of_ble_eq_true rfl⟩) (dz_P.pre hE hS hG) rfl rfl hl.1 rfl (lv_room (Nat.le_of_ble_eq_true rfl)) dX8_world_5 ⟨Nat.le_of_ble_eq_true rfl, Nat.le_of_ble_eq_true rfl⟩) ?_
  refine lv_topi (fun v_1 ev_1 => ?_)
  obtain rfl : v_1 = 0 := ev_1.trans (dz_b0 hbad)
  refine lv_if_ne (tgt := 21) hx hb dX8_world_8 (by decide) (fun c_8 => absurd (by decide) c_8) (fun c_8 => ?_)
  obtain ⟨sa9, hstr9⟩ := hE.2.2.2.2.2.2.2.2.1 (182, "no such growth") (by decide +kernel)
  refine vx_throwS (own := RX8) (cls := "java/lang/IllegalArgumentException") (text := "no such growth") (names := ["java/lang/RuntimeException", "java/lang/Exception"]) (ik := 67) (is := 182) (ic := 71) (sa := sa9) (A := dz_A Z) hx hb hst hown (by decide +kernel) (by decide +kernel) (hts _ (List.mem_of_getElem? (i := 1) rfl)) (hts _ (List.mem_of_getElem? (i := 2) rfl)) hstr9 (vx_hat (B := [.castable "java/lang/IllegalArgumentException" "java/lang/IllegalArgumentException", .declares (Bundle.initS "java/lang/RuntimeException"), .declares (Bundle.initS "java/lang/Exception"), .declares (Bundle.initS Bundle.tN)]) (fun w h => hts w (List.mem_cons_of_mem _ (List.mem_append_left _ (List.mem_append_right _ h)))) (by decide +kernel) (vx_c (va_Nw.use rfl (hE.2.2.2.2.2.2.1 ("java/lang/IllegalArgumentException", "java/lang/IllegalArgumentException") (by decide +kernel))) (vx_c (va_Nw.use rfl (hE.2.2.2.2.2.2.2.2.2.2.2.2 _ (List.mem_cons_self))) (vx_c (va_Nw.use rfl (hE.2.2.2.2.2.2.2.2.2.2.2.2 _ (List.mem_cons_of_mem _ List.mem_cons_self))) (vx_c (va_Nw.use rfl (hE.2.2.2.2.2.2.2.2.2.2.2.2 _ (List.mem_cons_of_mem _ (List.mem_cons_of_mem _ List.mem_cons_self)))) vx_n))))) (by decide +kernel) hE.2.2.2.2.1.1 hE.2.2.2.2.1.2 hS (hl.1.trans hml.symm) dX8_world_11 dX8_world_14 dX8_world_15 dX8_world_17 dX8_world_20 (fun x h => (hxt x h).elim) (Nat.le_of_ble_eq_true rfl) (Nat.le_of_ble_eq_true rfl) (Nat.le_of_ble_eq_true rfl) (Nat.le_of_ble_eq_true rfl) hlocks (fun t _ h1 h2 => dz_xc hG hS h1 h2) (fun z h => hS.2.2 z h) (Nat.le_of_ble_eq_true rfl) (Nat.le_of_ble_eq_true rfl)

set_option maxHeartbeats 4000000 in
set_option maxRecDepth 100000 in
theorem c_D_world_fr (l : Launch) (hst : l.stackTraces = false) (Z : dzG) (G : dzW) (ad : dzA) (aX nl nx : Nat) (dy ssf sst cfr grw : Int32) (nf : Nat) (fdy : Nat → Int32) (lg : Nat → Nat → Int32) (v1 : Int32) (ha : ad (1, 0) = aX) (hco : G (1, 0) = some (eO 9 [.ref (ad (2, 0)), .ref (ad (9, 0)), .int (nI nl), .int (nI nx), .ref (ad (19, 0)), .ref (ad (26, 0)), .int dy, .int ssf, .int sst, .int cfr, .int grw])) (hF : dz_Fr Z G ad nf fdy lg) (hnf : nf ≤ 60) (hg : ((40 : Int32) ≤ v1 ∧ v1 ≤ 100)) (hf : 0 < nf) : vx_Met l yX8_world wsX8_world (dz_rm 6 82 1 6) (dz_P Z G ad [.ref aX, .int v1]) (fun _ _ _ _ => False) (dz_XC Z G ad (fun E => E = "java/lang/IllegalStateException")) 1 6 (dz_A Z) := by
  refine vx_ofW (cc := cX8_world) (maxL := 3) (ret := (some .int)) (by decide) rfl ?_
  intro p e s m args below meth c s₁ B hml hxt hv
  obtain ⟨rfl, hG, hE⟩ := hv
  have hx := B.exec
  have hb := B.bytes
  have hrt := B.returns
  have hts := atoms_spec (ws := wsX8_world) B.pre
  have hown : s.vm.findClass RX8 = some m.cls := findClass_of_methodNamed B.named
  have hlocks := B.notSynchronized
  have hS : va_S (dz_A Z) s.heap s.heap [] := va_S.rf
  have hl := lv_entry ([.ref aX, .int v1]) (n := 3) (Nat.le_of_ble_eq_true rfl)
  rw [lg_entry_eq]
  generalize (lg_sl ([.ref aX, .int v1]) ++ List.replicate (3 - (lg_sl ([.ref aX, .int v1])).length) Slot.unset).toArray = ls at hl ⊢
  have hl : lv_has ls 3 [(0, .ref aX), (1, .int v1)] := hl
  refine lv_iload_n hx hb dX8_world_0 rfl (lv_at hl 1 rfl) ?_
  refine lv_bipush (v := 40) hx hb dX8_world_1 (by decide) ?_
  refine lv_bipush (v := 100) hx hb dX8_world_3 (by decide) ?_
  refine dz_kRi (va_runS (As := [_, _, _]) ⟨hx, hb, hml, hown, hts⟩ (c_X8_isWithin l Z _ _ _ _ _ ) (va_cwS 3 hts gX8_world_X8_isWithin rfl rfl rfl (by decide +kernel) ⟨Nat.le_of_ble_eq_true rfl, Nat.le_of_ble_eq_true rfl⟩) (dz_P.pre hE hS hG) rfl rfl hl.1 rfl (lv_room (Nat.le_of_ble_eq_true rfl)) dX8_world_5 ⟨Nat.le_of_ble_eq_true rfl, Nat.le_of_ble_eq_true rfl⟩) ?_
  refine lv_topi (fun v_1 ev_1 => ?_)
  obtain rfl : v_1 = 1 := ev_1.trans (dz_b1 hg)
  refine lv_if_ne (tgt := 21) hx hb dX8_world_8 (by decide) (fun c_8 => ?_) (fun c_8 => absurd c_8 (by decide))
  refine lv_aload_n hx hb dX8_world_21 rfl (lv_at hl 0 rfl) ?_
  refine dz_get hx hb hts (fun _ h => List.mem_cons_of_mem _ (List.mem_append_left _ (List.mem_append_left _ (List.mem_append_left _ (List.mem_append_left _ (List.mem_append_right _ h)))))) hown hE hG ha hco rfl 4 (by decide) (hts _ (List.mem_of_getElem? (i := 5) rfl)) (fun _ h9 => h9) rfl dX8_world_22 ?_
  refine dz_kRi (va_runV (As := []) ⟨hx, hb, hml, hown, hts⟩ (c_X0_count l Z _ _ _ _ _ _ rfl hF hnf) (cwV 0 hts gX8_world_X0_count rfl rfl rfl (by decide +kernel) ⟨Nat.le_of_ble_eq_true rfl, Nat.le_of_ble_eq_true rfl⟩) (dz_P.preV hE hS hG hF.1 rfl rfl) rfl rfl hl.1 rfl (lv_room (Nat.le_of_ble_eq_true rfl)) dX8_world_25 ⟨Nat.le_of_ble_eq_true rfl, Nat.le_of_ble_eq_true rfl⟩) ?_
  refine lv_topi (fun v_2 ev_2 => ?_)
  obtain rfl : v_2 = nI nf := ev_2
  refine lv_if_le (tgt := 41) hx hb dX8_world_28 (by decide) (fun c_28 => absurd c_28 (nI_nle hf (by omega))) (fun c_28 => ?_)
  obtain ⟨sa9, hstr9⟩ := hE.2.2.2.2.2.2.2.2.1 (187, "there are frames") (by decide +kernel)
  refine vx_throwS (own := RX8) (cls := "java/lang/IllegalStateException") (text := "there are frames") (names := ["java/lang/RuntimeException", "java/lang/Exception"]) (ik := 78) (is := 187) (ic := 82) (sa := sa9) (A := dz_A Z) hx hb hst hown (by decide +kernel) (by decide +kernel) (hts _ (List.mem_of_getElem? (i := 3) rfl)) (hts _ (List.mem_of_getElem? (i := 4) rfl)) hstr9 (vx_hat (B := [.castable "java/lang/IllegalStateException" "java/lang/IllegalStateException", .declares (Bundle.initS "java/lang/RuntimeException"), .declares (Bundle.initS "java/lang/Exception"), .declares (Bundle.initS Bundle.tN)]) (fun w h => hts w (List.mem_cons_of_mem _ (List.mem_append_right _ h))) (by decide +kernel) (vx_c (va_Nw.use rfl (hE.2.2.2.2.2.2.1 ("java/lang/IllegalStateException", "java/lang/IllegalStateException") (by decide +kernel))) (vx_c (va_Nw.use rfl (hE.2.2.2.2.2.2.2.2.2.2.2.2 _ (List.mem_cons_self))) (vx_c (va_Nw.use rfl (hE.2.2.2.2.2.2.2.2.2.2.2.2 _ (List.mem_cons_of_mem _ List.mem_cons_self))) (vx_c (va_Nw.use rfl (hE.2.2.2.2.2.2.2.2.2.2.2.2 _ (List.mem_cons_of_mem _ (List.mem_cons_of_mem _ List.mem_cons_self)))) vx_n))))) (by decide +kernel) hE.2.2.2.2.1.1 hE.2.2.2.2.1.2 hS (hl.1.trans hml.symm) dX8_world_31 dX8_world_34 dX8_world_35 dX8_world_37 dX8_world_40 (fun x h => (hxt x h).elim) (Nat.le_of_ble_eq_true rfl) (Nat.le_of_ble_eq_true rfl) (Nat.le_of_ble_eq_true rfl) (Nat.le_of_ble_eq_true rfl) hlocks (fun t _ h1 h2 => dz_xc hG hS h1 h2) (fun z h => hS.2.2 z h) (Nat.le_of_ble_eq_true rfl) (Nat.le_of_ble_eq_true rfl)

set_option maxHeartbeats 4000000 in
set_option maxRecDepth 100000 in
theorem c_D_world_ok (l : Launch) (Z : dzG) (G : dzW) (ad : dzA) (aX nl nx : Nat) (dy ssf sst cfr grw : Int32) (nf : Nat) (fdy : Nat → Int32) (lg : Nat → Nat → Int32) (v1 : Int32) (ha : ad (1, 0) = aX) (hco : G (1, 0) = some (eO 9 [.ref (ad (2, 0)), .ref (ad (9, 0)), .int (nI nl), .int (nI nx), .ref (ad (19, 0)), .ref (ad (26, 0)), .int dy, .int ssf, .int sst, .int cfr, .int grw])) (hF : dz_Fr Z G ad nf fdy lg) (hnf : nf ≤ 60) (hg : ((40 : Int32) ≤ v1 ∧ v1 ≤ 100)) (hf : nf = 0) : dzWr l yX8_world wsX8_world 2 40 0 0 Z G ad [.ref aX, .int v1] rv_i (fun (x : Int32) G1 ad1 => (∀ r9 : dzR, r9 ≠ (1, 0) → G1 r9 = G r9 ∧ ad1 r9 = ad r9) ∧ ad = ad1 ∧ x = grw ∧ G1 (1, 0) = some (eO 9 [.ref (ad (2, 0)), .ref (ad (9, 0)), .int (nI nl), .int (nI nx), .ref (ad (19, 0)), .ref (ad (26, 0)), .int dy, .int ssf, .int sst, .int cfr, .int v1])) := by
  refine Met.ofW (cc := cX8_world) (maxL := 3) (ret := (some .int)) (by decide) rfl ?_
  intro p e s m args below meth c s₁ B hml hv
  obtain ⟨rfl, hG, hE⟩ := hv
  have hx := B.exec
  have hb := B.bytes
  have hrt := B.returns
  have hts := atoms_spec (ws := wsX8_world) B.pre
  have hown : s.vm.findClass RX8 = some m.cls := findClass_of_methodNamed B.named
  have hlocks := B.notSynchronized
  have hS : va_S (dz_A Z) s.heap s.heap [] := va_S.rf
  have hl := lv_entry ([.ref aX, .int v1]) (n := 3) (Nat.le_of_ble_eq_true rfl)
  rw [lg_entry_eq]
  generalize (lg_sl ([.ref aX, .int v1]) ++ List.replicate (3 - (lg_sl ([.ref aX, .int v1])).length) Slot.unset).toArray = ls at hl ⊢
  have hl : lv_has ls 3 [(0, .ref aX), (1, .int v1)] := hl
  refine lv_iload_n hx hb dX8_world_0 rfl (lv_at hl 1 rfl) ?_
  refine lv_bipush (v := 40) hx hb dX8_world_1 (by decide) ?_
  refine lv_bipush (v := 100) hx hb dX8_world_3 (by decide) ?_
  refine dz_kRi (va_runS (As := [_, _, _]) ⟨hx, hb, hml, hown, hts⟩ (c_X8_isWithin l Z _ _ _ _ _ ) (va_cwS 3 hts gX8_world_X8_isWithin rfl rfl rfl (by decide +kernel) ⟨Nat.le_of_ble_eq_true rfl, Nat.le_of_ble_eq_true rfl⟩) (dz_P.pre hE hS hG) rfl rfl hl.1 rfl (lv_room (Nat.le_of_ble_eq_true rfl)) dX8_world_5 ⟨Nat.le_of_ble_eq_true rfl, Nat.le_of_ble_eq_true rfl⟩) ?_
  refine lv_topi (fun v_1 ev_1 => ?_)
  obtain rfl : v_1 = 1 := ev_1.trans (dz_b1 hg)
  refine lv_if_ne (tgt := 21) hx hb dX8_world_8 (by decide) (fun c_8 => ?_) (fun c_8 => absurd c_8 (by decide))
  refine lv_aload_n hx hb dX8_world_21 rfl (lv_at hl 0 rfl) ?_
  refine dz_get hx hb hts (fun _ h => List.mem_cons_of_mem _ (List.mem_append_left _ (List.mem_append_left _ (List.mem_append_left _ (List.mem_append_left _ (List.mem_append_right _ h)))))) hown hE hG ha hco rfl 4 (by decide) (hts _ (List.mem_of_getElem? (i := 5) rfl)) (fun _ h9 => h9) rfl dX8_world_22 ?_
  refine dz_kRi (va_runV (As := []) ⟨hx, hb, hml, hown, hts⟩ (c_X0_count l Z _ _ _ _ _ _ rfl hF hnf) (cwV 0 hts gX8_world_X0_count rfl rfl rfl (by decide +kernel) ⟨Nat.le_of_ble_eq_true rfl, Nat.le_of_ble_eq_true rfl⟩) (dz_P.preV hE hS hG hF.1 rfl rfl) rfl rfl hl.1 rfl (lv_room (Nat.le_of_ble_eq_true rfl)) dX8_world_25 ⟨Nat.le_of_ble_eq_true rfl, Nat.le_of_ble_eq_true rfl⟩) ?_
  refine lv_topi (fun v_2 ev_2 => ?_)
  obtain rfl : v_2 = nI nf := ev_2
  refine lv_if_le (tgt := 41) hx hb dX8_world_28 (by decide) (fun c_28 => ?_) (fun c_28 => absurd (by rw [hf]; decide) c_28)
  refine lv_aload_n hx hb dX8_world_41 rfl (lv_at hl 0 rfl) ?_
  refine dz_get hx hb hts (fun _ h => List.mem_cons_of_mem _ (List.mem_append_left _ (List.mem_append_left _ (List.mem_append_left _ (List.mem_append_left _ (List.mem_append_right _ h)))))) hown hE hG ha hco rfl 10 (by decide) (hts _ (List.mem_of_getElem? (i := 6) rfl)) (fun _ h9 => h9) rfl dX8_world_42 ?_
  refine lv_istore_n (lv' := [(2, .int grw), (0, .ref aX), (1, .int v1)]) hx hb dX8_world_45 rfl hl (by decide) rfl (fun ls hl => ?_)
  refine lv_aload_n hx hb dX8_world_46 rfl (lv_at hl 1 rfl) ?_
  refine lv_iload_n hx hb dX8_world_47 rfl (lv_at hl 2 rfl) ?_
  refine dz_put hx hb hts (fun _ h => List.mem_cons_of_mem _ (List.mem_append_left _ (List.mem_append_left _ (List.mem_append_left _ (List.mem_append_left _ (List.mem_append_right _ h)))))) tyX8 tyX8_ok nmX8 hown hE hG ha hS hco rfl 10 (by decide) (hts _ (List.mem_of_getElem? (i := 6) rfl)) (fun _ h9 => h9) rfl (ty := .int) (by decide +kernel) rfl rfl (fs' := [.ref (ad (2, 0)), .ref (ad (9, 0)), .int (nI nl), .int (nI nx), .ref (ad (19, 0)), .ref (ad (26, 0)), .int dy, .int ssf, .int sst, .int cfr, .int v1]) rfl (Nat.le_of_ble_eq_true rfl) dX8_world_48 (fun H locs hG hS => ?_)
  obtain ⟨G_1, hG, w_1, o_1⟩ := dz_nm hG
  refine lv_iload_n hx hb dX8_world_51 rfl (lv_at hl 0 rfl) ?_
  refine W.widen (k := 0) (n := 0) (by first | omega | decide) (by first | omega | decide) ?_
  refine W.iret hx hb hrt (fun t ht hW => dz_endM (f := rv_i) _ hE hS hG ?_ ht hW) (fun q h => hS.2.2 q h) dX8_world_52
  refine ⟨fun r9 n_0 => (o_1 r9 n_0), rfl, ?_⟩
  exact ⟨rfl, w_1⟩
