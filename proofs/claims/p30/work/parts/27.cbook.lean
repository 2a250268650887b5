set_option maxHeartbeats 4000000 in
set_option maxRecDepth 100000 in
theorem c_D_meas_ok (l : Launch) (Z : dzG) (G : dzW) (ad : dzA) (aX nl nx : Nat) (dy ssf sst cfr grw : Int32) (ns sc rk ot j jo : Nat) (cnt : Nat → Nat) (col row fl : Nat → Int32) (pl : Nat → Nat → Int32) (nf : Nat) (fdy : Nat → Int32) (lg : Nat → Nat → Int32) (S : Nat → Int64) (Q : Nat → Int32) (fc fr : Nat → Int32) (ha : ad (1, 0) = aX) (hco : G (1, 0) = some (eO 9 [.ref (ad (2, 0)), .ref (ad (9, 0)), .int (nI nl), .int (nI nx), .ref (ad (19, 0)), .ref (ad (26, 0)), .int dy, .int ssf, .int sst, .int cfr, .int grw])) (hls : dz_L Z G ad (9, 0) (10, 0) ns (fun i => ad (11, i))) (hsc : sc < ns) (hns : ns ≤ 5) (hso : G (11, sc) = some (eO 7 [.int (col sc), .int (row sc), .int (fl sc), .ref (ad (12, sc)), .int (nI (cnt sc)), .ref (ad (13, sc)), .ref (ad (15, sc))])) (hpl : G (12, sc) = some (eI Z 441 (pl sc))) (hro : G (2, 0) = some (eO 6 [.ref (ad (3, 0)), .ref (ad (5, 0)), .ref (ad (6, 0)), .ref (ad (7, 0))])) (hc : G (5, 0) = some (eI Z 484 fc)) (hr : G (6, 0) = some (eI Z 484 fr)) (hF : dz_Fr Z G ad nf fdy lg) (hnf : nf ≤ 60) (h22 : G (22, 0) = some (eJ Z 151 S)) (h23 : G (23, 0) = some (eI Z 151 Q)) (hrk : rk < cnt sc) (hcn : cnt sc ≤ 441) (hij : pl sc rk = nI j) (hjj : j + 22 < 484) (hot : ot < cnt sc) (hio : pl sc ot = nI jo) (hjo : jo + 22 < 484) (h6r : rk < 6) (h6o : ot < 6) (hne : ¬ rk = ot) : dzWr l yX8_measured wsX8_measured 5 121 0 0 Z G ad [.ref aX, .int (nI sc), .int (nI rk), .int (nI ot)] rv_i (fun (x : Int32) G1 ad1 => (∀ r9 : dzR, r9 ≠ (22, 0) → r9 ≠ (23, 0) → G1 r9 = G r9 ∧ ad1 r9 = ad r9) ∧ ad = ad1 ∧ ∃ (S0 : Nat → Int64) (S1 : Nat → Int64) (Q1 : Nat → Int32), (∀ j, j < 151 → S0 j = 0) ∧ G1 (22, 0) = some (eJ Z 151 S1) ∧ G1 (23, 0) = some (eI Z 151 Q1) ∧ x = m_best (m_mi fdy (fun i => lg i (6 * sc + rk)) (fun j => lg j (6 * sc + ot)) nf (m_abs (m_times (m_turn fc fr j))) (m_abs (m_times (m_turn fc fr jo))) (S0, fun _ => 0) nf).1 (m_mi fdy (fun i => lg i (6 * sc + rk)) (fun j => lg j (6 * sc + ot)) nf (m_abs (m_times (m_turn fc fr j))) (m_abs (m_times (m_turn fc fr jo))) (S0, fun _ => 0) nf).2 151) := by
  refine Met.ofW (cc := cX8_measured) (maxL := 4) (ret := (some .int)) (by decide) rfl ?_
  intro p e s m args below meth c s₁ B hml hv
  obtain ⟨rfl, hG, hE⟩ := hv
  have hx := B.exec
  have hb := B.bytes
  have hrt := B.returns
  have hts := atoms_spec (ws := wsX8_measured) B.pre
  have hown : s.vm.findClass RX8 = some m.cls := findClass_of_methodNamed B.named
  have hlocks := B.notSynchronized
  have hS : va_S (dz_A Z) s.heap s.heap [] := va_S.rf
  have hl := lv_entry ([.ref aX, .int (nI sc), .int (nI rk), .int (nI ot)]) (n := 4) (Nat.le_of_ble_eq_true rfl)
  rw [lg_entry_eq]
  generalize (lg_sl ([.ref aX, .int (nI sc), .int (nI rk), .int (nI ot)]) ++ List.replicate (4 - (lg_sl ([.ref aX, .int (nI sc), .int (nI rk), .int (nI ot)])).length) Slot.unset).toArray = ls at hl ⊢
  have hl : lv_has ls 4 [(0, .ref aX), (1, .int (nI sc)), (2, .int (nI rk)), (3, .int (nI ot))] := hl
  refine lv_aload_n hx hb dX8_measured_0 rfl (lv_at hl 0 rfl) ?_
  refine lv_iload_n hx hb dX8_measured_1 rfl (lv_at hl 1 rfl) ?_
  refine dz_kRr (va_runV (As := [_]) ⟨hx, hb, hml, hown, hts⟩ (c_sourceIn l Z _ _ _ _ _ _ _ _ _ _ _ _ _ _ _ _ ha hco hls hsc hns hso) (cwV 1 hts gX8_measured_X8_sourceAt rfl rfl rfl (by decide +kernel) ⟨Nat.le_of_ble_eq_true rfl, Nat.le_of_ble_eq_true rfl⟩) (dz_P.preV hE hS hG hco rfl ha) rfl rfl hl.1 rfl (lv_room (Nat.le_of_ble_eq_true rfl)) dX8_measured_2 ⟨Nat.le_of_ble_eq_true rfl, Nat.le_of_ble_eq_true rfl⟩) ?_
  refine lv_iload_n hx hb dX8_measured_5 rfl (lv_at hl 2 rfl) ?_
  refine lv_iload_n hx hb dX8_measured_6 rfl (lv_at hl 3 rfl) ?_
  refine dz_kRi (va_runS (As := [_, _, _]) ⟨hx, hb, hml, hown, hts⟩ (c_areY l Z _ _ _ _ _ _ _ _ _ hso) (va_cwS 3 hts gX8_measured_X8_areImages rfl rfl rfl (by decide +kernel) ⟨Nat.le_of_ble_eq_true rfl, Nat.le_of_ble_eq_true rfl⟩) (dz_P.pre hE hS hG) rfl rfl hl.1 rfl (lv_room (Nat.le_of_ble_eq_true rfl)) dX8_measured_7 ⟨Nat.le_of_ble_eq_true rfl, Nat.le_of_ble_eq_true rfl⟩) ?_
  refine lv_topi (fun v_1 ev_1 => ?_)
  obtain rfl : v_1 = 1 := ev_1.trans (dz_b1 ⟨⟨nI_pos' (by omega), nI_lt hrk (by omega)⟩, ⟨nI_pos' (by omega), nI_lt hot (by omega)⟩⟩)
  refine lv_if_ne (tgt := 23) hx hb dX8_measured_10 (by decide) (fun c_10 => ?_) (fun c_10 => absurd c_10 (by decide))
  refine lv_iload_n hx hb dX8_measured_23 rfl (lv_at hl 2 rfl) ?_
  refine lv_iload_n hx hb dX8_measured_24 rfl (lv_at hl 3 rfl) ?_
  refine lv_icmp_eq (tgt := 40) hx hb dX8_measured_25 (by decide) (fun c_25 => absurd c_25 (fun z => hne ((nI_e (by omega) (by omega)).mp z))) (fun c_25 => ?_)
  refine lv_iload_n hx hb dX8_measured_28 rfl (lv_at hl 2 rfl) ?_
  refine lv_bipush (v := 6) hx hb dX8_measured_29 (by decide) ?_
  refine lv_icmp_ge (tgt := 40) hx hb dX8_measured_31 (by decide) (fun c_31 => absurd c_31 (fun z => absurd ((nI_leI (a := 6) (by omega) (by omega)).mp z) (by omega))) (fun c_31 => ?_)
  refine lv_iload_n hx hb dX8_measured_34 rfl (lv_at hl 3 rfl) ?_
  refine lv_bipush (v := 6) hx hb dX8_measured_35 (by decide) ?_
  refine lv_icmp_lt (tgt := 51) hx hb dX8_measured_37 (by decide) (fun c_37 => ?_) (fun c_37 => absurd (nI_lt h6o (by decide)) c_37)
  refine lv_aload_n hx hb dX8_measured_51 rfl (lv_at hl 0 rfl) ?_
  refine lv_iload_n hx hb dX8_measured_52 rfl (lv_at hl 1 rfl) ?_
  refine lv_iload_n hx hb dX8_measured_53 rfl (lv_at hl 2 rfl) ?_
  refine lv_iload_n hx hb dX8_measured_54 rfl (lv_at hl 3 rfl) ?_
  refine dz_kMi (va_runV (As := [_, _, _]) ⟨hx, hb, hml, hown, hts⟩ (c_mdIn l Z _ _ _ _ _ _ _ _ _ _ _ _ _ _ j jo _ _ _ _ _ _ _ _ _ _ _ _  ha hco hls hsc hns hso hpl hro hc hr hF hnf h22 h23 hrk hcn hij hjj hot hio hjo h6r h6o) (cwV 3 hts gX8_measured_X8_measuredDays rfl rfl rfl (by decide +kernel) ⟨Nat.le_of_ble_eq_true rfl, Nat.le_of_ble_eq_true rfl⟩) (dz_P.preV hE hS hG hco rfl ha) rfl rfl hl.1 rfl (lv_room (Nat.le_of_ble_eq_true rfl)) dX8_measured_55 ⟨Nat.le_of_ble_eq_true rfl, Nat.le_of_ble_eq_true rfl⟩) hS (fun x_55_1 G_55_1 ad_55_1 H locs hp_55_1 hG hS => ?_)
  obtain ⟨fr_55_1, rfl, g_55_1⟩ := hp_55_1
  refine W.widen (k := 0) (n := 0) (by first | omega | decide) (by first | omega | decide) ?_
  refine W.iret hx hb hrt (fun t ht hW => dz_endM (f := rv_i) _ hE hS hG ?_ ht hW) (fun q h => hS.2.2 q h) dX8_measured_58
  refine ⟨fun r9 n_0 n_1 => (fr_55_1 r9 n_0 n_1), rfl, ?_⟩
  exact g_55_1

set_option maxHeartbeats 4000000 in
set_option maxRecDepth 100000 in
theorem c_D_vote_ok (l : Launch) (Z : dzG) (G : dzW) (ad : dzA) (aX nl nx : Nat) (dy ssf sst cfr grw : Int32) (bkk iop : Int32) (k : Nat) (mi : Nat → Int32) (v2 : Int32) (ha : ad (1, 0) = aX) (hco : G (1, 0) = some (eO 9 [.ref (ad (2, 0)), .ref (ad (9, 0)), .int (nI nl), .int (nI nx), .ref (ad (19, 0)), .ref (ad (26, 0)), .int dy, .int ssf, .int sst, .int cfr, .int grw])) (hbo : G (26, 0) = some (eO 2 [.ref (ad (27, 0)), .ref (ad (28, 0)), .int bkk, .ref (ad (29, 0)), .int iop])) (hmi : G (29, 0) = some (eZ Z 5 mi)) (hk : k < 5) (hbv : m_bl v2) : dzWr l yX8_vote wsX8_vote 2 45 0 0 Z G ad [.ref aX, .int (nI k), .int v2] rv_i (fun (x : Int32) G1 ad1 => (∀ r9 : dzR, r9 ≠ (26, 0) → r9 ≠ (29, 0) → G1 r9 = G r9 ∧ ad1 r9 = ad r9) ∧ ad = ad1 ∧ x = m_op iop (m_vt (upd mi k v2) 5) ∧ G1 (26, 0) = some (eO 2 [.ref (ad (27, 0)), .ref (ad (28, 0)), .int bkk, .ref (ad (29, 0)), .int (m_op iop (m_vt (upd mi k v2) 5))]) ∧ G1 (29, 0) = some (eZ Z 5 (upd mi k v2))) := by
  refine Met.ofW (cc := cX8_vote) (maxL := 3) (ret := (some .boolean)) (by decide) rfl ?_
  intro p e s m args below meth c s₁ B hml hv
  obtain ⟨rfl, hG, hE⟩ := hv
  have hx := B.exec
  have hb := B.bytes
  have hrt := B.returns
  have hts := atoms_spec (ws := wsX8_vote) B.pre
  have hown : s.vm.findClass RX8 = some m.cls := findClass_of_methodNamed B.named
  have hlocks := B.notSynchronized
  have hS : va_S (dz_A Z) s.heap s.heap [] := va_S.rf
  have hl := lv_entry ([.ref aX, .int (nI k), .int v2]) (n := 3) (Nat.le_of_ble_eq_true rfl)
  rw [lg_entry_eq]
  generalize (lg_sl ([.ref aX, .int (nI k), .int v2]) ++ List.replicate (3 - (lg_sl ([.ref aX, .int (nI k), .int v2])).length) Slot.unset).toArray = ls at hl ⊢
  have hl : lv_has ls 3 [(0, .ref aX), (1, .int (nI k)), (2, .int v2)] := hl
  refine lv_aload_n hx hb dX8_vote_0 rfl (lv_at hl 0 rfl) ?_
  refine dz_get hx hb hts (fun _ h => List.mem_cons_of_mem _ (List.mem_append_left _ (List.mem_append_left _ (List.mem_append_right _ h)))) hown hE hG ha hco rfl 5 (by decide) (hts _ (List.mem_of_getElem? (i := 3) rfl)) (fun _ h9 => h9) rfl dX8_vote_1 ?_
  refine lv_iload_n hx hb dX8_vote_4 rfl (lv_at hl 1 rfl) ?_
  refine dz_kRi (va_runV (As := [_]) ⟨hx, hb, hml, hown, hts⟩ (c_X1_hasMind l Z _ _ _ _ _ _ _ rfl hbo hmi) (cwV 1 hts gX8_vote_X1_hasMind rfl rfl rfl (by decide +kernel) ⟨Nat.le_of_ble_eq_true rfl, Nat.le_of_ble_eq_true rfl⟩) (dz_P.preV hE hS hG hbo rfl rfl) rfl rfl hl.1 rfl (lv_room (Nat.le_of_ble_eq_true rfl)) dX8_vote_5 ⟨Nat.le_of_ble_eq_true rfl, Nat.le_of_ble_eq_true rfl⟩) ?_
  refine lv_topi (fun v_1 ev_1 => ?_)
  obtain rfl : v_1 = 1 := ev_1.trans (dz_b1 ⟨nI_pos' (by omega), nI_lt hk (by decide)⟩)
  refine lv_if_ne (tgt := 21) hx hb dX8_vote_8 (by decide) (fun c_8 => ?_) (fun c_8 => absurd c_8 (by decide))
  refine lv_aload_n hx hb dX8_vote_21 rfl (lv_at hl 0 rfl) ?_
  refine dz_get hx hb hts (fun _ h => List.mem_cons_of_mem _ (List.mem_append_left _ (List.mem_append_left _ (List.mem_append_right _ h)))) hown hE hG ha hco rfl 5 (by decide) (hts _ (List.mem_of_getElem? (i := 3) rfl)) (fun _ h9 => h9) rfl dX8_vote_22 ?_
  refine lv_iload_n hx hb dX8_vote_25 rfl (lv_at hl 1 rfl) ?_
  refine lv_iload_n hx hb dX8_vote_26 rfl (lv_at hl 2 rfl) ?_
  refine dz_kMv (va_runV (As := [_, _]) ⟨hx, hb, hml, hown, hts⟩ (c_X1_setMind l Z _ _ _ _ _ _ _ _ rfl hbo hmi hk hbv) (cwV 2 hts gX8_vote_X1_setMind rfl rfl rfl (by decide +kernel) ⟨Nat.le_of_ble_eq_true rfl, Nat.le_of_ble_eq_true rfl⟩) (dz_P.preV hE hS hG hbo rfl rfl) rfl rfl hl.1 rfl (lv_room (Nat.le_of_ble_eq_true rfl)) dX8_vote_27 ⟨Nat.le_of_ble_eq_true rfl, Nat.le_of_ble_eq_true rfl⟩) hS (fun G_27_1 ad_27_1 H locs hp_27_1 hG hS => ?_)
  obtain ⟨fr_27_1, rfl, o_27_1, v_27_1⟩ := hp_27_1
  refine lv_aload_n hx hb dX8_vote_30 rfl (lv_at hl 0 rfl) ?_
  refine dz_get hx hb hts (fun _ h => List.mem_cons_of_mem _ (List.mem_append_left _ (List.mem_append_left _ (List.mem_append_right _ h)))) hown hE hG ((fr_27_1 _ (dz_n rfl) (dz_n rfl)).2.trans ha) ((fr_27_1 _ (dz_n rfl) (dz_n rfl)).1.trans hco) rfl 5 (by decide) (hts _ (List.mem_of_getElem? (i := 3) rfl)) (fun _ h9 => h9) rfl dX8_vote_31 ?_
  refine dz_kRi (va_runV (As := []) ⟨hx, hb, hml, hown, hts⟩ (c_X1_areOpen l Z _ _ _ _ _ rfl o_27_1 (m_op_bl _ _)) (cwV 0 hts gX8_vote_X1_areOpen rfl rfl rfl (by decide +kernel) ⟨Nat.le_of_ble_eq_true rfl, Nat.le_of_ble_eq_true rfl⟩) (dz_P.preV hE hS hG o_27_1 rfl rfl) rfl rfl hl.1 rfl (lv_room (Nat.le_of_ble_eq_true rfl)) dX8_vote_34 ⟨Nat.le_of_ble_eq_true rfl, Nat.le_of_ble_eq_true rfl⟩) ?_
  refine lv_topi (fun v_2 ev_2 => ?_)
  obtain rfl : v_2 = (m_op iop (m_vt (upd mi k v2) 5)) := ev_2
  refine W.widen (k := 0) (n := 0) (by first | omega | decide) (by first | omega | decide) ?_
  refine W.zret hx hb hrt (m_op_bl _ _) (fun t ht hW => dz_endM (f := rv_i) _ hE hS hG ?_ ht hW) (fun q h => hS.2.2 q h) dX8_vote_37
  refine ⟨fun r9 n_0 n_1 => (fr_27_1 r9 n_0 n_1), rfl, ?_⟩
  exact ⟨rfl, o_27_1, v_27_1⟩

set_option maxHeartbeats 4000000 in
set_option maxRecDepth 100000 in
theorem c_D_book_h1 (l : Launch) (hst : l.stackTraces = false) (Z : dzG) (G : dzW) (ad : dzA) (aX nl nx : Nat) (dy ssf sst cfr grw : Int32) (bkk iop : Int32) (ns : Nat) (v1 v2 v3 v4 : Int32) (ha : ad (1, 0) = aX) (hco : G (1, 0) = some (eO 9 [.ref (ad (2, 0)), .ref (ad (9, 0)), .int (nI nl), .int (nI nx), .ref (ad (19, 0)), .ref (ad (26, 0)), .int dy, .int ssf, .int sst, .int cfr, .int grw])) (hls : dz_L Z G ad (9, 0) (10, 0) ns (fun i => ad (11, i))) (hbo : G (26, 0) = some (eO 2 [.ref (ad (27, 0)), .ref (ad (28, 0)), .int bkk, .ref (ad (29, 0)), .int iop])) (hbad : ¬ ((0 : Int32) ≤ v1 ∧ v1 < 2)) (hv : v2 < 0 ∨ nI ns ≤ v2) : vx_Met l yX8_book wsX8_book (dz_rm 6 82 1 6) (dz_P Z G ad [.ref aX, .int v1, .int v2, .int v3, .int v4]) (fun _ _ _ _ => False) (dz_XC Z G ad (fun E => E = "java/lang/IndexOutOfBoundsException")) 1 6 (dz_A Z) := by
  refine vx_ofW (cc := cX8_book) (maxL := 9) (ret := (some .int)) (by decide) rfl ?_
  intro p e s m args below meth c s₁ B hml hxt hv
  obtain ⟨rfl, hG, hE⟩ := hv
  have hx := B.exec
  have hb := B.bytes
  have hrt := B.returns
  have hts := atoms_spec (ws := wsX8_book) B.pre
  have hown : s.vm.findClass RX8 = some m.cls := findClass_of_methodNamed B.named
  have hlocks := B.notSynchronized
  have hS : va_S (dz_A Z) s.heap s.heap [] := va_S.rf
  have hl := lv_entry ([.ref aX, .int v1, .int v2, .int v3, .int v4]) (n := 9) (Nat.le_of_ble_eq_true rfl)
  rw [lg_entry_eq]
  generalize (lg_sl ([.ref aX, .int v1, .int v2, .int v3, .int v4]) ++ List.replicate (9 - (lg_sl ([.ref aX, .int v1, .int v2, .int v3, .int v4])).length) Slot.unset).toArray = ls at hl ⊢
  have hl : lv_has ls 9 [(0, .ref aX), (1, .int v1), (2, .int v2), (3, .int v3), (4, .int v4)] := hl
  refine lv_aload_n hx hb dX8_book_0 rfl (lv_at hl 0 rfl) ?_
  refine lv_iload_n hx hb dX8_book_1 rfl (lv_at hl 2 rfl) ?_
  refine dz_kRn (va_runV (As := [_]) ⟨hx, hb, hml, hown, hts⟩ (c_sourceOut l Z _ _ _ _ _ _ _ _ _ _ _ _ ha hco hls hv) (cwV 1 hts gX8_book_X8_sourceAt rfl rfl rfl (by decide +kernel) ⟨Nat.le_of_ble_eq_true rfl, Nat.le_of_ble_eq_true rfl⟩) (dz_P.preV hE hS hG hco rfl ha) rfl rfl hl.1 rfl (lv_room (Nat.le_of_ble_eq_true rfl)) dX8_book_2 ⟨Nat.le_of_ble_eq_true rfl, Nat.le_of_ble_eq_true rfl⟩) ?_
  refine lv_astoreN (lv' := [(5, .null), (0, .ref aX), (1, .int v1), (2, .int v2), (3, .int v3), (4, .int v4)]) hx hb dX8_book_5 hl (by decide) rfl (fun ls hl => ?_)
  refine lv_aload_n hx hb dX8_book_7 rfl (lv_at hl 1 rfl) ?_
  refine dz_get hx hb hts (fun _ h => List.mem_cons_of_mem _ (List.mem_append_left _ (List.mem_append_left _ (List.mem_append_left _ (List.mem_append_left _ (List.mem_append_left _ (List.mem_append_left _ (List.mem_append_left _ (List.mem_append_left _ (List.mem_append_right _ h)))))))))) hown hE hG ha hco rfl 5 (by decide) (hts _ (List.mem_of_getElem? (i := 5) rfl)) (fun _ h9 => h9) rfl dX8_book_8 ?_
  refine lv_iload_n hx hb dX8_book_11 rfl (lv_at hl 2 rfl) ?_
  refine dz_kRi (va_runV (As := [_]) ⟨hx, hb, hml, hown, hts⟩ (c_X1_hasHouse l Z _ _ _ _ _ _ rfl hbo) (cwV 1 hts gX8_book_X1_hasHouse rfl rfl rfl (by decide +kernel) ⟨Nat.le_of_ble_eq_true rfl, Nat.le_of_ble_eq_true rfl⟩) (dz_P.preV hE hS hG hbo rfl rfl) rfl rfl hl.1 rfl (lv_room (Nat.le_of_ble_eq_true rfl)) dX8_book_12 ⟨Nat.le_of_ble_eq_true rfl, Nat.le_of_ble_eq_true rfl⟩) ?_
  refine lv_topi (fun v_1 ev_1 => ?_)
  obtain rfl : v_1 = 0 := ev_1.trans (dz_b0 hbad)
  refine lv_if_eq (tgt := 29) hx hb dX8_book_15 (by decide) (fun c_15 => ?_) (fun c_15 => absurd (by decide) c_15)
  obtain ⟨sa9, hstr9⟩ := hE.2.2.2.2.2.2.2.2.1 (214, "no such house, source or image") (by decide +kernel)
  refine vx_throwS (own := RX8) (cls := "java/lang/IndexOutOfBoundsException") (text := "no such house, source or image") (names := ["java/lang/RuntimeException", "java/lang/Exception"]) (ik := 99) (is := 214) (ic := 103) (sa := sa9) (A := dz_A Z) hx hb hst hown (by decide +kernel) (by decide +kernel) (hts _ (List.mem_of_getElem? (i := 1) rfl)) (hts _ (List.mem_of_getElem? (i := 2) rfl)) hstr9 (vx_hat (B := [.castable "java/lang/IndexOutOfBoundsException" "java/lang/IndexOutOfBoundsException", .declares (Bundle.initS "java/lang/RuntimeException"), .declares (Bundle.initS "java/lang/Exception"), .declares (Bundle.initS Bundle.tN)]) (fun w h => hts w (List.mem_cons_of_mem _ (List.mem_append_left _ (List.mem_append_right _ h)))) (by decide +kernel) (vx_c (va_Nw.use rfl (hE.2.2.2.2.2.2.1 ("java/lang/IndexOutOfBoundsException", "java/lang/IndexOutOfBoundsException") (by decide +kernel))) (vx_c (va_Nw.use rfl (hE.2.2.2.2.2.2.2.2.2.2.2.2 _ (List.mem_cons_self))) (vx_c (va_Nw.use rfl (hE.2.2.2.2.2.2.2.2.2.2.2.2 _ (List.mem_cons_of_mem _ List.mem_cons_self))) (vx_c (va_Nw.use rfl (hE.2.2.2.2.2.2.2.2.2.2.2.2 _ (List.mem_cons_of_mem _ (List.mem_cons_of_mem _ List.mem_cons_self)))) vx_n))))) (by decide +kernel) hE.2.2.2.2.1.1 hE.2.2.2.2.1.2 hS (hl.1.trans hml.symm) dX8_book_29 dX8_book_32 dX8_book_33 dX8_book_35 dX8_book_38 (fun x h => (hxt x h).elim) (Nat.le_of_ble_eq_true rfl) (Nat.le_of_ble_eq_true rfl) (Nat.le_of_ble_eq_true rfl) (Nat.le_of_ble_eq_true rfl) hlocks (fun t _ h1 h2 => dz_xc hG hS h1 h2) (fun z h => hS.2.2 z h) (Nat.le_of_ble_eq_true rfl) (Nat.le_of_ble_eq_true rfl)

set_option maxHeartbeats 4000000 in
set_option maxRecDepth 100000 in
theorem c_D_book_h2 (l : Launch) (hst : l.stackTraces = false) (Z : dzG) (G : dzW) (ad : dzA) (aX nl nx : Nat) (dy ssf sst cfr grw : Int32) (ns sc : Nat) (cnt : Nat → Nat) (col row fl : Nat → Int32) (bkk iop : Int32) (v1 v3 v4 : Int32) (ha : ad (1, 0) = aX) (hco : G (1, 0) = some (eO 9 [.ref (ad (2, 0)), .ref (ad (9, 0)), .int (nI nl), .int (nI nx), .ref (ad (19, 0)), .ref (ad (26, 0)), .int dy, .int ssf, .int sst, .int cfr, .int grw])) (hls : dz_L Z G ad (9, 0) (10, 0) ns (fun i => ad (11, i))) (hsc : sc < ns) (hns : ns ≤ 5) (hso : G (11, sc) = some (eO 7 [.int (col sc), .int (row sc), .int (fl sc), .ref (ad (12, sc)), .int (nI (cnt sc)), .ref (ad (13, sc)), .ref (ad (15, sc))])) (hbo : G (26, 0) = some (eO 2 [.ref (ad (27, 0)), .ref (ad (28, 0)), .int bkk, .ref (ad (29, 0)), .int iop])) (hbad : ¬ ((0 : Int32) ≤ v1 ∧ v1 < 2)) : vx_Met l yX8_book wsX8_book (dz_rm 6 85 1 6) (dz_P Z G ad [.ref aX, .int v1, .int (nI sc), .int v3, .int v4]) (fun _ _ _ _ => False) (dz_XC Z G ad (fun E => E = "java/lang/IndexOutOfBoundsException")) 1 6 (dz_A Z) := by
  refine vx_ofW (cc := cX8_book) (maxL := 9) (ret := (some .int)) (by decide) rfl ?_
  intro p e s m args below meth c s₁ B hml hxt hv
  obtain ⟨rfl, hG, hE⟩ := hv
  have hx := B.exec
  have hb := B.bytes
  have hrt := B.returns
  have hts := atoms_spec (ws := wsX8_book) B.pre
  have hown : s.vm.findClass RX8 = some m.cls := findClass_of_methodNamed B.named
  have hlocks := B.notSynchronized
  have hS : va_S (dz_A Z) s.heap s.heap [] := va_S.rf
  have hl := lv_entry ([.ref aX, .int v1, .int (nI sc), .int v3, .int v4]) (n := 9) (Nat.le_of_ble_eq_true rfl)
  rw [lg_entry_eq]
  generalize (lg_sl ([.ref aX, .int v1, .int (nI sc), .int v3, .int v4]) ++ List.replicate (9 - (lg_sl ([.ref aX, .int v1, .int (nI sc), .int v3, .int v4])).length) Slot.unset).toArray = ls at hl ⊢
  have hl : lv_has ls 9 [(0, .ref aX), (1, .int v1), (2, .int (nI sc)), (3, .int v3), (4, .int v4)] := hl
  refine lv_aload_n hx hb dX8_book_0 rfl (lv_at hl 0 rfl) ?_
  refine lv_iload_n hx hb dX8_book_1 rfl (lv_at hl 2 rfl) ?_
  refine dz_kRr (va_runV (As := [_]) ⟨hx, hb, hml, hown, hts⟩ (c_sourceIn l Z _ _ _ _ _ _ _ _ _ _ _ _ _ _ _ _ ha hco hls hsc hns hso) (cwV 1 hts gX8_book_X8_sourceAt rfl rfl rfl (by decide +kernel) ⟨Nat.le_of_ble_eq_true rfl, Nat.le_of_ble_eq_true rfl⟩) (dz_P.preV hE hS hG hco rfl ha) rfl rfl hl.1 rfl (lv_room (Nat.le_of_ble_eq_true rfl)) dX8_book_2 ⟨Nat.le_of_ble_eq_true rfl, Nat.le_of_ble_eq_true rfl⟩) ?_
  refine lv_astore (lv' := [(5, .ref (ad (11, sc))), (0, .ref aX), (1, .int v1), (2, .int (nI sc)), (3, .int v3), (4, .int v4)]) hx hb dX8_book_5 hl (by decide) rfl (fun ls hl => ?_)
  refine lv_aload_n hx hb dX8_book_7 rfl (lv_at hl 1 rfl) ?_
  refine dz_get hx hb hts (fun _ h => List.mem_cons_of_mem _ (List.mem_append_left _ (List.mem_append_left _ (List.mem_append_left _ (List.mem_append_left _ (List.mem_append_left _ (List.mem_append_left _ (List.mem_append_left _ (List.mem_append_left _ (List.mem_append_right _ h)))))))))) hown hE hG ha hco rfl 5 (by decide) (hts _ (List.mem_of_getElem? (i := 5) rfl)) (fun _ h9 => h9) rfl dX8_book_8 ?_
  refine lv_iload_n hx hb dX8_book_11 rfl (lv_at hl 2 rfl) ?_
  refine dz_kRi (va_runV (As := [_]) ⟨hx, hb, hml, hown, hts⟩ (c_X1_hasHouse l Z _ _ _ _ _ _ rfl hbo) (cwV 1 hts gX8_book_X1_hasHouse rfl rfl rfl (by decide +kernel) ⟨Nat.le_of_ble_eq_true rfl, Nat.le_of_ble_eq_true rfl⟩) (dz_P.preV hE hS hG hbo rfl rfl) rfl rfl hl.1 rfl (lv_room (Nat.le_of_ble_eq_true rfl)) dX8_book_12 ⟨Nat.le_of_ble_eq_true rfl, Nat.le_of_ble_eq_true rfl⟩) ?_
  refine lv_topi (fun v_1 ev_1 => ?_)
  obtain rfl : v_1 = 0 := ev_1.trans (dz_b0 hbad)
  refine lv_if_eq (tgt := 29) hx hb dX8_book_15 (by decide) (fun c_15 => ?_) (fun c_15 => absurd (by decide) c_15)
  obtain ⟨sa9, hstr9⟩ := hE.2.2.2.2.2.2.2.2.1 (214, "no such house, source or image") (by decide +kernel)
  refine vx_throwS (own := RX8) (cls := "java/lang/IndexOutOfBoundsException") (text := "no such house, source or image") (names := ["java/lang/RuntimeException", "java/lang/Exception"]) (ik := 99) (is := 214) (ic := 103) (sa := sa9) (A := dz_A Z) hx hb hst hown (by decide +kernel) (by decide +kernel) (hts _ (List.mem_of_getElem? (i := 1) rfl)) (hts _ (List.mem_of_getElem? (i := 2) rfl)) hstr9 (vx_hat (B := [.castable "java/lang/IndexOutOfBoundsException" "java/lang/IndexOutOfBoundsException", .declares (Bundle.initS "java/lang/RuntimeException"), .declares (Bundle.initS "java/lang/Exception"), .declares (Bundle.initS Bundle.tN)]) (fun w h => hts w (List.mem_cons_of_mem _ (List.mem_append_left _ (List.mem_append_right _ h)))) (by decide +kernel) (vx_c (va_Nw.use rfl (hE.2.2.2.2.2.2.1 ("java/lang/IndexOutOfBoundsException", "java/lang/IndexOutOfBoundsException") (by decide +kernel))) (vx_c (va_Nw.use rfl (hE.2.2.2.2.2.2.2.2.2.2.2.2 _ (List.mem_cons_self))) (vx_c (va_Nw.use rfl (hE.2.2.2.2.2.2.2.2.2.2.2.2 _ (List.mem_cons_of_mem _ List.mem_cons_self))) (vx_c (va_Nw.use rfl (hE.2.2.2.2.2.2.2.2.2.2.2.2 _ (List.mem_cons_of_mem _ (List.mem_cons_of_mem _ List.mem_cons_self)))) vx_n))))) (by decide +kernel) hE.2.2.2.2.1.1 hE.2.2.2.2.1.2 hS (hl.1.trans hml.symm) dX8_book_29 dX8_book_32 dX8_book_33 dX8_book_35 dX8_book_38 (fun x h => (hxt x h).elim) (Nat.le_of_ble_eq_true rfl) (Nat.le_of_ble_eq_true rfl) (Nat.le_of_ble_eq_true rfl) (Nat.le_of_ble_eq_true rfl) hlocks (fun t _ h1 h2 => dz_xc hG hS h1 h2) (fun z h => hS.2.2 z h) (Nat.le_of_ble_eq_true rfl) (Nat.le_of_ble_eq_true rfl)

set_option maxHeartbeats 4000000 in
set_option maxRecDepth 100000 in
theorem c_D_book_s (l : Launch) (hst : l.stackTraces = false) (Z : dzG) (G : dzW) (ad : dzA) (aX nl nx : Nat) (dy ssf sst cfr grw : Int32) (bkk iop : Int32) (ns : Nat) (k : Nat) (v2 v3 v4 : Int32) (ha : ad (1, 0) = aX) (hco : G (1, 0) = some (eO 9 [.ref (ad (2, 0)), .ref (ad (9, 0)), .int (nI nl), .int (nI nx), .ref (ad (19, 0)), .ref (ad (26, 0)), .int dy, .int ssf, .int sst, .int cfr, .int grw])) (hls : dz_L Z G ad (9, 0) (10, 0) ns (fun i => ad (11, i))) (hbo : G (26, 0) = some (eO 2 [.ref (ad (27, 0)), .ref (ad (28, 0)), .int bkk, .ref (ad (29, 0)), .int iop])) (hk : k < 2) (hv : v2 < 0 ∨ nI ns ≤ v2) : vx_Met l yX8_book wsX8_book (dz_rm 6 82 1 6) (dz_P Z G ad [.ref aX, .int (nI k), .int v2, .int v3, .int v4]) (fun _ _ _ _ => False) (dz_XC Z G ad (fun E => E = "java/lang/IndexOutOfBoundsException")) 1 6 (dz_A Z) := by
  refine vx_ofW (cc := cX8_book) (maxL := 9) (ret := (some .int)) (by decide) rfl ?_
  intro p e s m args below meth c s₁ B hml hxt hv
  obtain ⟨rfl, hG, hE⟩ := hv
  have hx := B.exec
  have hb := B.bytes
  have hrt := B.returns
  have hts := atoms_spec (ws := wsX8_book) B.pre
  have hown : s.vm.findClass RX8 = some m.cls := findClass_of_methodNamed B.named
  have hlocks := B.notSynchronized
  have hS : va_S (dz_A Z) s.heap s.heap [] := va_S.rf
  have hl := lv_entry ([.ref aX, .int (nI k), .int v2, .int v3, .int v4]) (n := 9) (Nat.le_of_ble_eq_true rfl)
  rw [lg_entry_eq]
  generalize (lg_sl ([.ref aX, .int (nI k), .int v2, .int v3, .int v4]) ++ List.replicate (9 - (lg_sl ([.ref aX, .int (nI k), .int v2, .int v3, .int v4])).length) Slot.unset).toArray = ls at hl ⊢
  have hl : lv_has ls 9 [(0, .ref aX), (1, .int (nI k)), (2, .int v2), (3, .int v3), (4, .int v4)] := hl
  refine lv_aload_n hx hb dX8_book_0 rfl (lv_at hl 0 rfl) ?_
  refine lv_iload_n hx hb dX8_book_1 rfl (lv_at hl 2 rfl) ?_
  refine dz_kRn (va_runV (As := [_]) ⟨hx, hb, hml, hown, hts⟩ (c_sourceOut l Z _ _ _ _ _ _ _ _ _ _ _ _ ha hco hls hv) (cwV 1 hts gX8_book_X8_sourceAt rfl rfl rfl (by decide +kernel) ⟨Nat.le_of_ble_eq_true rfl, Nat.le_of_ble_eq_true rfl⟩) (dz_P.preV hE hS hG hco rfl ha) rfl rfl hl.1 rfl (lv_room (Nat.le_of_ble_eq_true rfl)) dX8_book_2 ⟨Nat.le_of_ble_eq_true rfl, Nat.le_of_ble_eq_true rfl⟩) ?_
  refine lv_astoreN (lv' := [(5, .null), (0, .ref aX), (1, .int (nI k)), (2, .int v2), (3, .int v3), (4, .int v4)]) hx hb dX8_book_5 hl (by decide) rfl (fun ls hl => ?_)
  refine lv_aload_n hx hb dX8_book_7 rfl (lv_at hl 1 rfl) ?_
  refine dz_get hx hb hts (fun _ h => List.mem_cons_of_mem _ (List.mem_append_left _ (List.mem_append_left _ (List.mem_append_left _ (List.mem_append_left _ (List.mem_append_left _ (List.mem_append_left _ (List.mem_append_left _ (List.mem_append_left _ (List.mem_append_right _ h)))))))))) hown hE hG ha hco rfl 5 (by decide) (hts _ (List.mem_of_getElem? (i := 5) rfl)) (fun _ h9 => h9) rfl dX8_book_8 ?_
  refine lv_iload_n hx hb dX8_book_11 rfl (lv_at hl 2 rfl) ?_
  refine dz_kRi (va_runV (As := [_]) ⟨hx, hb, hml, hown, hts⟩ (c_X1_hasHouse l Z _ _ _ _ _ _ rfl hbo) (cwV 1 hts gX8_book_X1_hasHouse rfl rfl rfl (by decide +kernel) ⟨Nat.le_of_ble_eq_true rfl, Nat.le_of_ble_eq_true rfl⟩) (dz_P.preV hE hS hG hbo rfl rfl) rfl rfl hl.1 rfl (lv_room (Nat.le_of_ble_eq_true rfl)) dX8_book_12 ⟨Nat.le_of_ble_eq_true rfl, Nat.le_of_ble_eq_true rfl⟩) ?_
  refine lv_topi (fun v_1 ev_1 => ?_)
  obtain rfl : v_1 = 1 := ev_1.trans (dz_b1 ⟨nI_pos' (by omega), nI_lt hk (by decide)⟩)
  refine lv_if_eq (tgt := 29) hx hb dX8_book_15 (by decide) (fun c_15 => absurd c_15 (by decide)) (fun c_15 => ?_)
  refine lv_aloadN hx hb dX8_book_18 (lv_at hl 0 rfl) ?_
  refine lv_iload_n hx hb dX8_book_20 rfl (lv_at hl 4 rfl) ?_
  refine lv_iload hx hb dX8_book_21 (lv_at hl 5 rfl) ?_
  refine dz_kRi (va_runS (As := [_, _, _]) ⟨hx, hb, hml, hown, hts⟩ (c_areN l Z _ _ _ _ ) (va_cwS 3 hts gX8_book_X8_areImages rfl rfl rfl (by decide +kernel) ⟨Nat.le_of_ble_eq_true rfl, Nat.le_of_ble_eq_true rfl⟩) (dz_P.pre hE hS hG) rfl rfl hl.1 rfl (lv_room (Nat.le_of_ble_eq_true rfl)) dX8_book_23 ⟨Nat.le_of_ble_eq_true rfl, Nat.le_of_ble_eq_true rfl⟩) ?_
  refine lv_topi (fun v_2 ev_2 => ?_)
  obtain rfl : v_2 = 0 := ev_2
  refine lv_if_ne (tgt := 39) hx hb dX8_book_26 (by decide) (fun c_26 => absurd (by decide) c_26) (fun c_26 => ?_)
  obtain ⟨sa9, hstr9⟩ := hE.2.2.2.2.2.2.2.2.1 (214, "no such house, source or image") (by decide +kernel)
  refine vx_throwS (own := RX8) (cls := "java/lang/IndexOutOfBoundsException") (text := "no such house, source or image") (names := ["java/lang/RuntimeException", "java/lang/Exception"]) (ik := 99) (is := 214) (ic := 103) (sa := sa9) (A := dz_A Z) hx hb hst hown (by decide +kernel) (by decide +kernel) (hts _ (List.mem_of_getElem? (i := 1) rfl)) (hts _ (List.mem_of_getElem? (i := 2) rfl)) hstr9 (vx_hat (B := [.castable "java/lang/IndexOutOfBoundsException" "java/lang/IndexOutOfBoundsException", .declares (Bundle.initS "java/lang/RuntimeException"), .declares (Bundle.initS "java/lang/Exception"), .declares (Bundle.initS Bundle.tN)]) (fun w h => hts w (List.mem_cons_of_mem _ (List.mem_append_left _ (List.mem_append_right _ h)))) (by decide +kernel) (vx_c (va_Nw.use rfl (hE.2.2.2.2.2.2.1 ("java/lang/IndexOutOfBoundsException", "java/lang/IndexOutOfBoundsException") (by decide +kernel))) (vx_c (va_Nw.use rfl (hE.2.2.2.2.2.2.2.2.2.2.2.2 _ (List.mem_cons_self))) (vx_c (va_Nw.use rfl (hE.2.2.2.2.2.2.2.2.2.2.2.2 _ (List.mem_cons_of_mem _ List.mem_cons_self))) (vx_c (va_Nw.use rfl (hE.2.2.2.2.2.2.2.2.2.2.2.2 _ (List.mem_cons_of_mem _ (List.mem_cons_of_mem _ List.mem_cons_self)))) vx_n))))) (by decide +kernel) hE.2.2.2.2.1.1 hE.2.2.2.2.1.2 hS (hl.1.trans hml.symm) dX8_book_29 dX8_book_32 dX8_book_33 dX8_book_35 dX8_book_38 (fun x h => (hxt x h).elim) (Nat.le_of_ble_eq_true rfl) (Nat.le_of_ble_eq_true rfl) (Nat.le_of_ble_eq_true rfl) (Nat.le_of_ble_eq_true rfl) hlocks (fun t _ h1 h2 => dz_xc hG hS h1 h2) (fun z h => hS.2.2 z h) (Nat.le_of_ble_eq_true rfl) (Nat.le_of_ble_eq_true rfl)

set_option maxHeartbeats 4000000 in
set_option maxRecDepth 100000 in
theorem c_D_book_out1 (l : Launch) (hst : l.stackTraces = false) (Z : dzG) (G : dzW) (ad : dzA) (aX nl nx : Nat) (dy ssf sst cfr grw : Int32) (ns sc : Nat) (cnt : Nat → Nat) (col row fl : Nat → Int32) (bkk iop : Int32) (k : Nat) (v3 v4 : Int32) (ha : ad (1, 0) = aX) (hco : G (1, 0) = some (eO 9 [.ref (ad (2, 0)), .ref (ad (9, 0)), .int (nI nl), .int (nI nx), .ref (ad (19, 0)), .ref (ad (26, 0)), .int dy, .int ssf, .int sst, .int cfr, .int grw])) (hls : dz_L Z G ad (9, 0) (10, 0) ns (fun i => ad (11, i))) (hsc : sc < ns) (hns : ns ≤ 5) (hso : G (11, sc) = some (eO 7 [.int (col sc), .int (row sc), .int (fl sc), .ref (ad (12, sc)), .int (nI (cnt sc)), .ref (ad (13, sc)), .ref (ad (15, sc))])) (hbo : G (26, 0) = some (eO 2 [.ref (ad (27, 0)), .ref (ad (28, 0)), .int bkk, .ref (ad (29, 0)), .int iop])) (hk : k < 2) (hro : v3 < 0 ∨ nI (cnt sc) ≤ v3) : vx_Met l yX8_book wsX8_book (dz_rm 6 85 1 6) (dz_P Z G ad [.ref aX, .int (nI k), .int (nI sc), .int v3, .int v4]) (fun _ _ _ _ => False) (dz_XC Z G ad (fun E => E = "java/lang/IndexOutOfBoundsException")) 1 6 (dz_A Z) := by
  refine vx_ofW (cc := cX8_book) (maxL := 9) (ret := (some .int)) (by decide) rfl ?_
  intro p e s m args below meth c s₁ B hml hxt hv
  obtain ⟨rfl, hG, hE⟩ := hv
  have hx := B.exec
  have hb := B.bytes
  have hrt := B.returns
  have hts := atoms_spec (ws := wsX8_book) B.pre
  have hown : s.vm.findClass RX8 = some m.cls := findClass_of_methodNamed B.named
  have hlocks := B.notSynchronized
  have hS : va_S (dz_A Z) s.heap s.heap [] := va_S.rf
  have hl := lv_entry ([.ref aX, .int (nI k), .int (nI sc), .int v3, .int v4]) (n := 9) (Nat.le_of_ble_eq_true rfl)
  rw [lg_entry_eq]
  generalize (lg_sl ([.ref aX, .int (nI k), .int (nI sc), .int v3, .int v4]) ++ List.replicate (9 - (lg_sl ([.ref aX, .int (nI k), .int (nI sc), .int v3, .int v4])).length) Slot.unset).toArray = ls at hl ⊢
  have hl : lv_has ls 9 [(0, .ref aX), (1, .int (nI k)), (2, .int (nI sc)), (3, .int v3), (4, .int v4)] := hl
  refine lv_aload_n hx hb dX8_book_0 rfl (lv_at hl 0 rfl) ?_
  refine lv_iload_n hx hb dX8_book_1 rfl (lv_at hl 2 rfl) ?_
  refine dz_kRr (va_runV (As := [_]) ⟨hx, hb, hml, hown, hts⟩ (c_sourceIn l Z _ _ _ _ _ _ _ _ _ _ _ _ _ _ _ _ ha hco hls hsc hns hso) (cwV 1 hts gX8_book_X8_sourceAt rfl rfl rfl (by decide +kernel) ⟨Nat.le_of_ble_eq_true rfl, Nat.le_of_ble_eq_true rfl⟩) (dz_P.preV hE hS hG hco rfl ha) rfl rfl hl.1 rfl (lv_room (Nat.le_of_ble_eq_true rfl)) dX8_book_2 ⟨Nat.le_of_ble_eq_true rfl, Nat.le_of_ble_eq_true rfl⟩) ?_
  refine lv_astore (lv' := [(5, .ref (ad (11, sc))), (0, .ref aX), (1, .int (nI k)), (2, .int (nI sc)), (3, .int v3), (4, .int v4)]) hx hb dX8_book_5 hl (by decide) rfl (fun ls hl => ?_)
  refine lv_aload_n hx hb dX8_book_7 rfl (lv_at hl 1 rfl) ?_
  refine dz_get hx hb hts (fun _ h => List.mem_cons_of_mem _ (List.mem_append_left _ (List.mem_append_left _ (List.mem_append_left _ (List.mem_append_left _ (List.mem_append_left _ (List.mem_append_left _ (List.mem_append_left _ (List.mem_append_left _ (List.mem_append_right _ h)))))))))) hown hE hG ha hco rfl 5 (by decide) (hts _ (List.mem_of_getElem? (i := 5) rfl)) (fun _ h9 => h9) rfl dX8_book_8 ?_
  refine lv_iload_n hx hb dX8_book_11 rfl (lv_at hl 2 rfl) ?_
  refine dz_kRi (va_runV (As := [_]) ⟨hx, hb, hml, hown, hts⟩ (c_X1_hasHouse l Z _ _ _ _ _ _ rfl hbo) (cwV 1 hts gX8_book_X1_hasHouse rfl rfl rfl (by decide +kernel) ⟨Nat.le_of_ble_eq_true rfl, Nat.le_of_ble_eq_true rfl⟩) (dz_P.preV hE hS hG hbo rfl rfl) rfl rfl hl.1 rfl (lv_room (Nat.le_of_ble_eq_true rfl)) dX8_book_12 ⟨Nat.le_of_ble_eq_true rfl, Nat.le_of_ble_eq_true rfl⟩) ?_
  refine lv_topi (fun v_1 ev_1 => ?_)
  obtain rfl : v_1 = 1 := ev_1.trans (dz_b1 ⟨nI_pos' (by omega), nI_lt hk (by decide)⟩)
  refine lv_if_eq (tgt := 29) hx hb dX8_book_15 (by decide) (fun c_15 => absurd c_15 (by decide)) (fun c_15 => ?_)
  refine lv_aload hx hb dX8_book_18 (lv_at hl 0 rfl) ?_
  refine lv_iload_n hx hb dX8_book_20 rfl (lv_at hl 4 rfl) ?_
  refine lv_iload hx hb dX8_book_21 (lv_at hl 5 rfl) ?_
  refine dz_kRi (va_runS (As := [_, _, _]) ⟨hx, hb, hml, hown, hts⟩ (c_areY l Z _ _ _ _ _ _ _ _ _ hso) (va_cwS 3 hts gX8_book_X8_areImages rfl rfl rfl (by decide +kernel) ⟨Nat.le_of_ble_eq_true rfl, Nat.le_of_ble_eq_true rfl⟩) (dz_P.pre hE hS hG) rfl rfl hl.1 rfl (lv_room (Nat.le_of_ble_eq_true rfl)) dX8_book_23 ⟨Nat.le_of_ble_eq_true rfl, Nat.le_of_ble_eq_true rfl⟩) ?_
  refine lv_topi (fun v_2 ev_2 => ?_)
  obtain rfl : v_2 = 0 := ev_2.trans (dz_b0 (fun z => hro.elim (fun q => Int32.not_lt.mpr z.1.1 q) (fun q => Int32.not_le.mpr z.1.2 q)))
  refine lv_if_ne (tgt := 39) hx hb dX8_book_26 (by decide) (fun c_26 => absurd (by decide) c_26) (fun c_26 => ?_)
  obtain ⟨sa9, hstr9⟩ := hE.2.2.2.2.2.2.2.2.1 (214, "no such house, source or image") (by decide +kernel)
  refine vx_throwS (own := RX8) (cls := "java/lang/IndexOutOfBoundsException") (text := "no such house, source or image") (names := ["java/lang/RuntimeException", "java/lang/Exception"]) (ik := 99) (is := 214) (ic := 103) (sa := sa9) (A := dz_A Z) hx hb hst hown (by decide +kernel) (by decide +kernel) (hts _ (List.mem_of_getElem? (i := 1) rfl)) (hts _ (List.mem_of_getElem? (i := 2) rfl)) hstr9 (vx_hat (B := [.castable "java/lang/IndexOutOfBoundsException" "java/lang/IndexOutOfBoundsException", .declares (Bundle.initS "java/lang/RuntimeException"), .declares (Bundle.initS "java/lang/Exception"), .declares (Bundle.initS Bundle.tN)]) (fun w h => hts w (List.mem_cons_of_mem _ (List.mem_append_left _ (List.mem_append_right _ h)))) (by decide +kernel) (vx_c (va_Nw.use rfl (hE.2.2.2.2.2.2.1 ("java/lang/IndexOutOfBoundsException", "java/lang/IndexOutOfBoundsException") (by decide +kernel))) (vx_c (va_Nw.use rfl (hE.2.2.2.2.2.2.2.2.2.2.2.2 _ (List.mem_cons_self))) (vx_c (va_Nw.use rfl (hE.2.2.2.2.2.2.2.2.2.2.2.2 _ (List.mem_cons_of_mem _ List.mem_cons_self))) (vx_c (va_Nw.use rfl (hE.2.2.2.2.2.2.2.2.2.2.2.2 _ (List.mem_cons_of_mem _ (List.mem_cons_of_mem _ List.mem_cons_self)))) vx_n))))) (by decide +kernel) hE.2.2.2.2.1.1 hE.2.2.2.2.1.2 hS (hl.1.trans hml.symm) dX8_book_29 dX8_book_32 dX8_book_33 dX8_book_35 dX8_book_38 (fun x h => (hxt x h).elim) (Nat.le_of_ble_eq_true rfl) (Nat.le_of_ble_eq_true rfl) (Nat.le_of_ble_eq_true rfl) (Nat.le_of_ble_eq_true rfl) hlocks (fun t _ h1 h2 => dz_xc hG hS h1 h2) (fun z h => hS.2.2 z h) (Nat.le_of_ble_eq_true rfl) (Nat.le_of_ble_eq_true rfl)

set_option maxHeartbeats 4000000 in
set_option maxRecDepth 100000 in
theorem c_D_book_out2 (l : Launch) (hst : l.stackTraces = false) (Z : dzG) (G : dzW) (ad : dzA) (aX nl nx : Nat) (dy ssf sst cfr grw : Int32) (ns sc : Nat) (cnt : Nat → Nat) (col row fl : Nat → Int32) (bkk iop : Int32) (k rk : Nat) (v4 : Int32) (ha : ad (1, 0) = aX) (hco : G (1, 0) = some (eO 9 [.ref (ad (2, 0)), .ref (ad (9, 0)), .int (nI nl), .int (nI nx), .ref (ad (19, 0)), .ref (ad (26, 0)), .int dy, .int ssf, .int sst, .int cfr, .int grw])) (hls : dz_L Z G ad (9, 0) (10, 0) ns (fun i => ad (11, i))) (hsc : sc < ns) (hns : ns ≤ 5) (hso : G (11, sc) = some (eO 7 [.int (col sc), .int (row sc), .int (fl sc), .ref (ad (12, sc)), .int (nI (cnt sc)), .ref (ad (13, sc)), .ref (ad (15, sc))])) (hbo : G (26, 0) = some (eO 2 [.ref (ad (27, 0)), .ref (ad (28, 0)), .int bkk, .ref (ad (29, 0)), .int iop])) (hk : k < 2) (hro : v4 < 0 ∨ nI (cnt sc) ≤ v4) : vx_Met l yX8_book wsX8_book (dz_rm 6 85 1 6) (dz_P Z G ad [.ref aX, .int (nI k), .int (nI sc), .int (nI rk), .int v4]) (fun _ _ _ _ => False) (dz_XC Z G ad (fun E => E = "java/lang/IndexOutOfBoundsException")) 1 6 (dz_A Z) := by
  refine vx_ofW (cc := cX8_book) (maxL := 9) (ret := (some .int)) (by decide) rfl ?_
  intro p e s m args below meth c s₁ B hml hxt hv
  obtain ⟨rfl, hG, hE⟩ := hv
  have hx := B.exec
  have hb := B.bytes
  have hrt := B.returns
  have hts := atoms_spec (ws := wsX8_book) B.pre
  have hown : s.vm.findClass RX8 = some m.cls := findClass_of_methodNamed B.named
  have hlocks := B.notSynchronized
  have hS : va_S (dz_A Z) s.heap s.heap [] := va_S.rf
  have hl := lv_entry ([.ref aX, .int (nI k), .int (nI sc), .int (nI rk), .int v4]) (n := 9) (Nat.le_of_ble_eq_true rfl)
  rw [lg_entry_eq]
  generalize (lg_sl ([.ref aX, .int (nI k), .int (nI sc), .int (nI rk), .int v4]) ++ List.replicate (9 - (lg_sl ([.ref aX, .int (nI k), .int (nI sc), .int (nI rk), .int v4])).length) Slot.unset).toArray = ls at hl ⊢
  have hl : lv_has ls 9 [(0, .ref aX), (1, .int (nI k)), (2, .int (nI sc)), (3, .int (nI rk)), (4, .int v4)] := hl
  refine lv_aload_n hx hb dX8_book_0 rfl (lv_at hl 0 rfl) ?_
  refine lv_iload_n hx hb dX8_book_1 rfl (lv_at hl 2 rfl) ?_
  refine dz_kRr (va_runV (As := [_]) ⟨hx, hb, hml, hown, hts⟩ (c_sourceIn l Z _ _ _ _ _ _ _ _ _ _ _ _ _ _ _ _ ha hco hls hsc hns hso) (cwV 1 hts gX8_book_X8_sourceAt rfl rfl rfl (by decide +kernel) ⟨Nat.le_of_ble_eq_true rfl, Nat.le_of_ble_eq_true rfl⟩) (dz_P.preV hE hS hG hco rfl ha) rfl rfl hl.1 rfl (lv_room (Nat.le_of_ble_eq_true rfl)) dX8_book_2 ⟨Nat.le_of_ble_eq_true rfl, Nat.le_of_ble_eq_true rfl⟩) ?_
  refine lv_astore (lv' := [(5, .ref (ad (11, sc))), (0, .ref aX), (1, .int (nI k)), (2, .int (nI sc)), (3, .int (nI rk)), (4, .int v4)]) hx hb dX8_book_5 hl (by decide) rfl (fun ls hl => ?_)
  refine lv_aload_n hx hb dX8_book_7 rfl (lv_at hl 1 rfl) ?_
  refine dz_get hx hb hts (fun _ h => List.mem_cons_of_mem _ (List.mem_append_left _ (List.mem_append_left _ (List.mem_append_left _ (List.mem_append_left _ (List.mem_append_left _ (List.mem_append_left _ (List.mem_append_left _ (List.mem_append_left _ (List.mem_append_right _ h)))))))))) hown hE hG ha hco rfl 5 (by decide) (hts _ (List.mem_of_getElem? (i := 5) rfl)) (fun _ h9 => h9) rfl dX8_book_8 ?_
  refine lv_iload_n hx hb dX8_book_11 rfl (lv_at hl 2 rfl) ?_
  refine dz_kRi (va_runV (As := [_]) ⟨hx, hb, hml, hown, hts⟩ (c_X1_hasHouse l Z _ _ _ _ _ _ rfl hbo) (cwV 1 hts gX8_book_X1_hasHouse rfl rfl rfl (by decide +kernel) ⟨Nat.le_of_ble_eq_true rfl, Nat.le_of_ble_eq_true rfl⟩) (dz_P.preV hE hS hG hbo rfl rfl) rfl rfl hl.1 rfl (lv_room (Nat.le_of_ble_eq_true rfl)) dX8_book_12 ⟨Nat.le_of_ble_eq_true rfl, Nat.le_of_ble_eq_true rfl⟩) ?_
  refine lv_topi (fun v_1 ev_1 => ?_)
  obtain rfl : v_1 = 1 := ev_1.trans (dz_b1 ⟨nI_pos' (by omega), nI_lt hk (by decide)⟩)
  refine lv_if_eq (tgt := 29) hx hb dX8_book_15 (by decide) (fun c_15 => absurd c_15 (by decide)) (fun c_15 => ?_)
  refine lv_aload hx hb dX8_book_18 (lv_at hl 0 rfl) ?_
  refine lv_iload_n hx hb dX8_book_20 rfl (lv_at hl 4 rfl) ?_
  refine lv_iload hx hb dX8_book_21 (lv_at hl 5 rfl) ?_
  refine dz_kRi (va_runS (As := [_, _, _]) ⟨hx, hb, hml, hown, hts⟩ (c_areY l Z _ _ _ _ _ _ _ _ _ hso) (va_cwS 3 hts gX8_book_X8_areImages rfl rfl rfl (by decide +kernel) ⟨Nat.le_of_ble_eq_true rfl, Nat.le_of_ble_eq_true rfl⟩) (dz_P.pre hE hS hG) rfl rfl hl.1 rfl (lv_room (Nat.le_of_ble_eq_true rfl)) dX8_book_23 ⟨Nat.le_of_ble_eq_true rfl, Nat.le_of_ble_eq_true rfl⟩) ?_
  refine lv_topi (fun v_2 ev_2 => ?_)
  obtain rfl : v_2 = 0 := ev_2.trans (dz_b0 (fun z => hro.elim (fun q => Int32.not_lt.mpr z.2.1 q) (fun q => Int32.not_le.mpr z.2.2 q)))
  refine lv_if_ne (tgt := 39) hx hb dX8_book_26 (by decide) (fun c_26 => absurd (by decide) c_26) (fun c_26 => ?_)
  obtain ⟨sa9, hstr9⟩ := hE.2.2.2.2.2.2.2.2.1 (214, "no such house, source or image") (by decide +kernel)
  refine vx_throwS (own := RX8) (cls := "java/lang/IndexOutOfBoundsException") (text := "no such house, source or image") (names := ["java/lang/RuntimeException", "java/lang/Exception"]) (ik := 99) (is := 214) (ic := 103) (sa := sa9) (A := dz_A Z) hx hb hst hown (by decide +kernel) (by decide +kernel) (hts _ (List.mem_of_getElem? (i := 1) rfl)) (hts _ (List.mem_of_getElem? (i := 2) rfl)) hstr9 (vx_hat (B := [.castable "java/lang/IndexOutOfBoundsException" "java/lang/IndexOutOfBoundsException", .declares (Bundle.initS "java/lang/RuntimeException"), .declares (Bundle.initS "java/lang/Exception"), .declares (Bundle.initS Bundle.tN)]) (fun w h => hts w (List.mem_cons_of_mem _ (List.mem_append_left _ (List.mem_append_right _ h)))) (by decide +kernel) (vx_c (va_Nw.use rfl (hE.2.2.2.2.2.2.1 ("java/lang/IndexOutOfBoundsException", "java/lang/IndexOutOfBoundsException") (by decide +kernel))) (vx_c (va_Nw.use rfl (hE.2.2.2.2.2.2.2.2.2.2.2.2 _ (List.mem_cons_self))) (vx_c (va_Nw.use rfl (hE.2.2.2.2.2.2.2.2.2.2.2.2 _ (List.mem_cons_of_mem _ List.mem_cons_self))) (vx_c (va_Nw.use rfl (hE.2.2.2.2.2.2.2.2.2.2.2.2 _ (List.mem_cons_of_mem _ (List.mem_cons_of_mem _ List.mem_cons_self)))) vx_n))))) (by decide +kernel) hE.2.2.2.2.1.1 hE.2.2.2.2.1.2 hS (hl.1.trans hml.symm) dX8_book_29 dX8_book_32 dX8_book_33 dX8_book_35 dX8_book_38 (fun x h => (hxt x h).elim) (Nat.le_of_ble_eq_true rfl) (Nat.le_of_ble_eq_true rfl) (Nat.le_of_ble_eq_true rfl) (Nat.le_of_ble_eq_true rfl) hlocks (fun t _ h1 h2 => dz_xc hG hS h1 h2) (fun z h => hS.2.2 z h) (Nat.le_of_ble_eq_true rfl) (Nat.le_of_ble_eq_true rfl)

set_option maxHeartbeats 4000000 in
set_option maxRecDepth 100000 in
theorem c_D_book_same (l : Launch) (hst : l.stackTraces = false) (Z : dzG) (G : dzW) (ad : dzA) (aX nl nx : Nat) (dy ssf sst cfr grw : Int32) (ns sc : Nat) (cnt : Nat → Nat) (col row fl : Nat → Int32) (bkk iop : Int32) (k rk : Nat) (ha : ad (1, 0) = aX) (hco : G (1, 0) = some (eO 9 [.ref (ad (2, 0)), .ref (ad (9, 0)), .int (nI nl), .int (nI nx), .ref (ad (19, 0)), .ref (ad (26, 0)), .int dy, .int ssf, .int sst, .int cfr, .int grw])) (hls : dz_L Z G ad (9, 0) (10, 0) ns (fun i => ad (11, i))) (hsc : sc < ns) (hns : ns ≤ 5) (hso : G (11, sc) = some (eO 7 [.int (col sc), .int (row sc), .int (fl sc), .ref (ad (12, sc)), .int (nI (cnt sc)), .ref (ad (13, sc)), .ref (ad (15, sc))])) (hbo : G (26, 0) = some (eO 2 [.ref (ad (27, 0)), .ref (ad (28, 0)), .int bkk, .ref (ad (29, 0)), .int iop])) (hk : k < 2) (hrk : rk < cnt sc) (hcn : cnt sc ≤ 441) : vx_Met l yX8_book wsX8_book (dz_rm 6 85 1 6) (dz_P Z G ad [.ref aX, .int (nI k), .int (nI sc), .int (nI rk), .int (nI rk)]) (fun _ _ _ _ => False) (dz_XC Z G ad (fun E => E = "java/lang/IllegalArgumentException")) 1 6 (dz_A Z) := by
  refine vx_ofW (cc := cX8_book) (maxL := 9) (ret := (some .int)) (by decide) rfl ?_
  intro p e s m args below meth c s₁ B hml hxt hv
  obtain ⟨rfl, hG, hE⟩ := hv
  have hx := B.exec
  have hb := B.bytes
  have hrt := B.returns
  have hts := atoms_spec (ws := wsX8_book) B.pre
  have hown : s.vm.findClass RX8 = some m.cls := findClass_of_methodNamed B.named
  have hlocks := B.notSynchronized
  have hS : va_S (dz_A Z) s.heap s.heap [] := va_S.rf
  have hl := lv_entry ([.ref aX, .int (nI k), .int (nI sc), .int (nI rk), .int (nI rk)]) (n := 9) (Nat.le_of_ble_eq_true rfl)
  rw [lg_entry_eq]
  generalize (lg_sl ([.ref aX, .int (nI k), .int (nI sc), .int (nI rk), .int (nI rk)]) ++ List.replicate (9 - (lg_sl ([.ref aX, .int (nI k), .int (nI sc), .int (nI rk), .int (nI rk)])).length) Slot.unset).toArray = ls at hl ⊢
  have hl : lv_has ls 9 [(0, .ref aX), (1, .int (nI k)), (2, .int (nI sc)), (3, .int (nI rk)), (4, .int (nI rk))] := hl
  refine lv_aload_n hx hb dX8_book_0 rfl (lv_at hl 0 rfl) ?_
  refine lv_iload_n hx hb dX8_book_1 rfl (lv_at hl 2 rfl) ?_
  refine dz_kRr (va_runV (As := [_]) ⟨hx, hb, hml, hown, hts⟩ (c_sourceIn l Z _ _ _ _ _ _ _ _ _ _ _ _ _ _ _ _ ha hco hls hsc hns hso) (cwV 1 hts gX8_book_X8_sourceAt rfl rfl rfl (by decide +kernel) ⟨Nat.le_of_ble_eq_true rfl, Nat.le_of_ble_eq_true rfl⟩) (dz_P.preV hE hS hG hco rfl ha) rfl rfl hl.1 rfl (lv_room (Nat.le_of_ble_eq_true rfl)) dX8_book_2 ⟨Nat.le_of_ble_eq_true rfl, Nat.le_of_ble_eq_true rfl⟩) ?_
  refine lv_astore (lv' := [(5, .ref (ad (11, sc))), (0, .ref aX), (1, .int (nI k)), (2, .int (nI sc)), (3, .int (nI rk)), (4, .int (nI rk))]) hx hb dX8_book_5 hl (by decide) rfl (fun ls hl => ?_)
  refine lv_aload_n hx hb dX8_book_7 rfl (lv_at hl 1 rfl) ?_
  refine dz_get hx hb hts (fun _ h => List.mem_cons_of_mem _ (List.mem_append_left _ (List.mem_append_left _ (List.mem_append_left _ (List.mem_append_left _ (List.mem_append_left _ (List.mem_append_left _ (List.mem_append_left _ (List.mem_append_left _ (List.mem_append_right _ h)))))))))) hown hE hG ha hco rfl 5 (by decide) (hts _ (List.mem_of_getElem? (i := 5) rfl)) (fun _ h9 => h9) rfl dX8_book_8 ?_
  refine lv_iload_n hx hb dX8_book_11 rfl (lv_at hl 2 rfl) ?_
  refine dz_kRi (va_runV (As := [_]) ⟨hx, hb, hml, hown, hts⟩ (c_X1_hasHouse l Z _ _ _ _ _ _ rfl hbo) (cwV 1 hts gX8_book_X1_hasHouse rfl rfl rfl (by decide +kernel) ⟨Nat.le_of_ble_eq_true rfl, Nat.le_of_ble_eq_true rfl⟩) (dz_P.preV hE hS hG hbo rfl rfl) rfl rfl hl.1 rfl (lv_room (Nat.le_of_ble_eq_true rfl)) dX8_book_12 ⟨Nat.le_of_ble_eq_true rfl, Nat.le_of_ble_eq_true rfl⟩) ?_
  refine lv_topi (fun v_1 ev_1 => ?_)
  obtain rfl : v_1 = 1 := ev_1.trans (dz_b1 ⟨nI_pos' (by omega), nI_lt hk (by decide)⟩)
  refine lv_if_eq (tgt := 29) hx hb dX8_book_15 (by decide) (fun c_15 => absurd c_15 (by decide)) (fun c_15 => ?_)
  refine lv_aload hx hb dX8_book_18 (lv_at hl 0 rfl) ?_
  refine lv_iload_n hx hb dX8_book_20 rfl (lv_at hl 4 rfl) ?_
  refine lv_iload hx hb dX8_book_21 (lv_at hl 5 rfl) ?_
  refine dz_kRi (va_runS (As := [_, _, _]) ⟨hx, hb, hml, hown, hts⟩ (c_areY l Z _ _ _ _ _ _ _ _ _ hso) (va_cwS 3 hts gX8_book_X8_areImages rfl rfl rfl (by decide +kernel) ⟨Nat.le_of_ble_eq_true rfl, Nat.le_of_ble_eq_true rfl⟩) (dz_P.pre hE hS hG) rfl rfl hl.1 rfl (lv_room (Nat.le_of_ble_eq_true rfl)) dX8_book_23 ⟨Nat.le_of_ble_eq_true rfl, Nat.le_of_ble_eq_true rfl⟩) ?_
  refine lv_topi (fun v_2 ev_2 => ?_)
  obtain rfl : v_2 = 1 := ev_2.trans (dz_b1 ⟨⟨nI_pos' (by omega), nI_lt hrk (by omega)⟩, ⟨nI_pos' (by omega), nI_lt hrk (by omega)⟩⟩)
  refine lv_if_ne (tgt := 39) hx hb dX8_book_26 (by decide) (fun c_26 => ?_) (fun c_26 => absurd c_26 (by decide))
  refine lv_iload_n hx hb dX8_book_39 rfl (lv_at hl 4 rfl) ?_
  refine lv_iload hx hb dX8_book_40 (lv_at hl 5 rfl) ?_
  refine lv_icmp_ne (tgt := 55) hx hb dX8_book_42 (by decide) (fun c_42 => absurd rfl c_42) (fun c_42 => ?_)
  obtain ⟨sa9, hstr9⟩ := hE.2.2.2.2.2.2.2.2.1 (216, "both images are the same") (by decide +kernel)
  refine vx_throwS (own := RX8) (cls := "java/lang/IllegalArgumentException") (text := "both images are the same") (names := ["java/lang/RuntimeException", "java/lang/Exception"]) (ik := 67) (is := 216) (ic := 71) (sa := sa9) (A := dz_A Z) hx hb hst hown (by decide +kernel) (by decide +kernel) (hts _ (List.mem_of_getElem? (i := 3) rfl)) (hts _ (List.mem_of_getElem? (i := 4) rfl)) hstr9 (vx_hat (B := [.castable "java/lang/IllegalArgumentException" "java/lang/IllegalArgumentException", .declares (Bundle.initS "java/lang/RuntimeException"), .declares (Bundle.initS "java/lang/Exception"), .declares (Bundle.initS Bundle.tN)]) (fun w h => hts w (List.mem_cons_of_mem _ (List.mem_append_right _ h))) (by decide +kernel) (vx_c (va_Nw.use rfl (hE.2.2.2.2.2.2.1 ("java/lang/IllegalArgumentException", "java/lang/IllegalArgumentException") (by decide +kernel))) (vx_c (va_Nw.use rfl (hE.2.2.2.2.2.2.2.2.2.2.2.2 _ (List.mem_cons_self))) (vx_c (va_Nw.use rfl (hE.2.2.2.2.2.2.2.2.2.2.2.2 _ (List.mem_cons_of_mem _ List.mem_cons_self))) (vx_c (va_Nw.use rfl (hE.2.2.2.2.2.2.2.2.2.2.2.2 _ (List.mem_cons_of_mem _ (List.mem_cons_of_mem _ List.mem_cons_self)))) vx_n))))) (by decide +kernel) hE.2.2.2.2.1.1 hE.2.2.2.2.1.2 hS (hl.1.trans hml.symm) dX8_book_45 dX8_book_48 dX8_book_49 dX8_book_51 dX8_book_54 (fun x h => (hxt x h).elim) (Nat.le_of_ble_eq_true rfl) (Nat.le_of_ble_eq_true rfl) (Nat.le_of_ble_eq_true rfl) (Nat.le_of_ble_eq_true rfl) hlocks (fun t _ h1 h2 => dz_xc hG hS h1 h2) (fun z h => hS.2.2 z h) (Nat.le_of_ble_eq_true rfl) (Nat.le_of_ble_eq_true rfl)
