set_option maxHeartbeats 4000000 in
set_option maxRecDepth 100000 in
theorem c_D_book_in (l : Launch) (Z : dzG) (G : dzW) (ad : dzA) (aX nl nx : Nat) (dy ssf sst cfr grw : Int32) (ns sc rk ot j jo : Nat) (cnt : Nat → Nat) (col row fl : Nat → Int32) (pl : Nat → Nat → Int32) (nf : Nat) (fdy : Nat → Int32) (lg : Nat → Nat → Int32) (S : Nat → Int64) (Q : Nat → Int32) (fc fr fw : Nat → Int32) (nm : Nat) (sh co ro st : Nat → Int32) (bkk iop : Int32) (k : Nat) (gr ma : Nat → Int32) (ha : ad (1, 0) = aX) (hco : G (1, 0) = some (eO 9 [.ref (ad (2, 0)), .ref (ad (9, 0)), .int (nI nl), .int (nI nx), .ref (ad (19, 0)), .ref (ad (26, 0)), .int dy, .int ssf, .int sst, .int cfr, .int grw])) (hls : dz_L Z G ad (9, 0) (10, 0) ns (fun i => ad (11, i))) (hsc : sc < ns) (hns : ns ≤ 5) (hso : G (11, sc) = some (eO 7 [.int (col sc), .int (row sc), .int (fl sc), .ref (ad (12, sc)), .int (nI (cnt sc)), .ref (ad (13, sc)), .ref (ad (15, sc))])) (hpl : G (12, sc) = some (eI Z 441 (pl sc))) (hro : G (2, 0) = some (eO 6 [.ref (ad (3, 0)), .ref (ad (5, 0)), .ref (ad (6, 0)), .ref (ad (7, 0))])) (hc : G (5, 0) = some (eI Z 484 fc)) (hr : G (6, 0) = some (eI Z 484 fr)) (hw : G (7, 0) = some (eI Z 484 fw)) (hF : dz_Fr Z G ad nf fdy lg) (hnf : nf ≤ 60) (h22 : G (22, 0) = some (eJ Z 151 S)) (h23 : G (23, 0) = some (eI Z 151 Q)) (hrk : rk < cnt sc) (hcn : cnt sc ≤ 441) (hij : pl sc rk = nI j) (hjj : j + 22 < 484) (hot : ot < cnt sc) (hio : pl sc ot = nI jo) (hjo : jo + 22 < 484) (hne : ¬ rk = ot) (hR : dz_Rm Z G ad nm sh co ro st) (hN : nm ≤ 6) (hbo : G (26, 0) = some (eO 2 [.ref (ad (27, 0)), .ref (ad (28, 0)), .int bkk, .ref (ad (29, 0)), .int iop])) (hgr : G (27, 0) = some (eI Z 2 gr)) (hma : G (28, 0) = some (eI Z 2 ma)) (hk : k < 2) (h6r : rk < 6) (h6o : ot < 6) : dzWr l yX8_book wsX8_book 5 121 0 0 Z G ad [.ref aX, .int (nI k), .int (nI sc), .int (nI rk), .int (nI ot)] rv_i (fun (x : Int32) G1 ad1 => (∀ r9 : dzR, r9 ≠ (22, 0) → r9 ≠ (23, 0) → r9 ≠ (26, 0) → r9 ≠ (27, 0) → r9 ≠ (28, 0) → G1 r9 = G r9 ∧ ad1 r9 = ad r9) ∧ ad = ad1 ∧ ∃ (S0 : Nat → Int64) (S1 : Nat → Int64) (Q1 : Nat → Int32), (∀ j, j < 151 → S0 j = 0) ∧ G1 (22, 0) = some (eJ Z 151 S1) ∧ G1 (23, 0) = some (eI Z 151 Q1) ∧ x = bkk + 1 ∧ G1 (26, 0) = some (eO 2 [.ref (ad (27, 0)), .ref (ad (28, 0)), .int (bkk + 1), .ref (ad (29, 0)), .int iop]) ∧ G1 (27, 0) = some (eI Z 2 (upd gr k (if (m_best (m_mi fdy (fun i => lg i (6 * sc + rk)) (fun j => lg j (6 * sc + ot)) nf (m_abs (m_times (m_turn fc fr j))) (m_abs (m_times (m_turn fc fr jo))) (S0, fun _ => 0) nf).1 (m_mi fdy (fun i => lg i (6 * sc + rk)) (fun j => lg j (6 * sc + ot)) nf (m_abs (m_times (m_turn fc fr j))) (m_abs (m_times (m_turn fc fr jo))) (S0, fun _ => 0) nf).2 151) ≤ 0 ∨ (fw jo - fw j) ≤ 0 then -1 else (fw jo - fw j) * 20 / (m_best (m_mi fdy (fun i => lg i (6 * sc + rk)) (fun j => lg j (6 * sc + ot)) nf (m_abs (m_times (m_turn fc fr j))) (m_abs (m_times (m_turn fc fr jo))) (S0, fun _ => 0) nf).1 (m_mi fdy (fun i => lg i (6 * sc + rk)) (fun j => lg j (6 * sc + ot)) nf (m_abs (m_times (m_turn fc fr j))) (m_abs (m_times (m_turn fc fr jo))) (S0, fun _ => 0) nf).2 151)))) ∧ G1 (28, 0) = some (eI Z 2 (upd ma k (nI nm)))) := by
  refine Met.ofW (cc := cX8_book) (maxL := 9) (ret := (some .int)) (by decide) rfl ?_
  intro p e s m args below meth c s₁ B hml hv
  obtain ⟨rfl, hG, hE⟩ := hv
  have hx := B.exec
  have hb := B.bytes
  have hrt := B.returns
  have hts := atoms_spec (ws := wsX8_book) B.pre
  have hown : s.vm.findClass RX8 = some m.cls := findClass_of_methodNamed B.named
  have hlocks := B.notSynchronized
  have hS : va_S (dz_A Z) s.heap s.heap [] := va_S.rf
  have hl := lv_entry ([.ref aX, .int (nI k), .int (nI sc), .int (nI rk), .int (nI ot)]) (n := 9) (Nat.le_of_ble_eq_true rfl)
  rw [lg_entry_eq]
  generalize (lg_sl ([.ref aX, .int (nI k), .int (nI sc), .int (nI rk), .int (nI ot)]) ++ List.replicate (9 - (lg_sl ([.ref aX, .int (nI k), .int (nI sc), .int (nI rk), .int (nI ot)])).length) Slot.unset).toArray = ls at hl ⊢
  have hl : lv_has ls 9 [(0, .ref aX), (1, .int (nI k)), (2, .int (nI sc)), (3, .int (nI rk)), (4, .int (nI ot))] := hl
  refine lv_aload_n hx hb dX8_book_0 rfl (lv_at hl 0 rfl) ?_
  refine lv_iload_n hx hb dX8_book_1 rfl (lv_at hl 2 rfl) ?_
  refine dz_kRr (va_runV (As := [_]) ⟨hx, hb, hml, hown, hts⟩ (c_sourceIn l Z _ _ _ _ _ _ _ _ _ _ _ _ _ _ _ _ ha hco hls hsc hns hso) (cwV 1 hts gX8_book_X8_sourceAt rfl rfl rfl (by decide +kernel) ⟨Nat.le_of_ble_eq_true rfl, Nat.le_of_ble_eq_true rfl⟩) (dz_P.preV hE hS hG hco rfl ha) rfl rfl hl.1 rfl (lv_room (Nat.le_of_ble_eq_true rfl)) dX8_book_2 ⟨Nat.le_of_ble_eq_true rfl, Nat.le_of_ble_eq_true rfl⟩) ?_
  refine lv_astore (lv' := [(5, .ref (ad (11, sc))), (0, .ref aX), (1, .int (nI k)), (2, .int (nI sc)), (3, .int (nI rk)), (4, .int (nI ot))]) hx hb dX8_book_5 hl (by decide) rfl (fun ls hl => ?_)
  refine lv_aload_n hx hb dX8_book_7 rfl (lv_at hl 1 rfl) ?_
  refine dz_get hx hb hts (fun _ h => List.mem_cons_of_mem _ (List.mem_append_left _ (List.mem_append_left _ (List.mem_append_left _ (List.mem_append_left _ (List.mem_append_left _ (List.mem_append_left _ (List.mem_append_left _ (List.mem_append_left _ (List.mem_append_right _ h)))))))))) hown hE hG ha hco rfl 5 (by decide) (hts _ (List.mem_of_getElem? (i := 5) rfl)) (fun _ h9 => h9) rfl dX8_book_8 ?_
  refine lv_iload_n hx hb dX8_book_11 rfl (lv_at hl 2 rfl) ?_
  refine dz_kRi (va_runV (As := [_]) ⟨hx, hb, hml, hown, hts⟩ (c_X1_hasHouse l Z _ _ _ _ _ _ rfl hbo) (cwV 1 hts gX8_book_X1_hasHouse rfl rfl rfl (by decide +kernel) ⟨Nat.le_of_ble_eq_true rfl, Nat.le_of_ble_eq_true rfl⟩) (dz_P.preV hE hS hG hbo rfl rfl) rfl rfl hl.1 rfl (lv_room (Nat.le_of_ble_eq_true rfl)) dX8_book_12 ⟨Nat.le_of_ble_eq_true rfl, Nat.le_of_ble_eq_true rfl⟩) ?_
  refine lv_topi (fun v_1 ev_1 => ?_)
  obtain rfl : v_1 = 1 := ev_1.trans (dz_b1 ⟨nI_pos' (by omega), nI_lt hk (by decide)⟩)
  refine lv_if_eq (tgt := 29) hx hb dX8_book_15 (by decide) (fun c_15 => absurd c_15 (by decide)) (fun c_15 => ?_)
  refine lv_aload hx hb dX8_book_18 (lv_at hl 0 rfl) ?_
  refine lv_iload_n hx hb dX8_book_20 rfl (lv_at hl 4 rfl) ?_
  refine lv_iload hx hb dX8_book_21 (lv_at hl 5 rfl) ?_
  refine dz_kRi (va_runS (As := [_, _, _]) ⟨hx, hb, hml, hown, hts⟩ (c_areY l Z _ _ _ _ _ _ _ _ _ hso) (va_cwS 3 hts gX8_book_X8_areImages rfl rfl rfl (by decide +kernel) ⟨Nat.le_of_ble_eq_true rfl, Nat.le_of_ble_eq_true rfl⟩) (dz_P.pre hE hS hG) rfl rfl hl.1 rfl (lv_room (Nat.le_of_ble_eq_true rfl)) dX8_book_23 ⟨Nat.le_of_ble_eq_true rfl, Nat.le_of_ble_eq_true rfl⟩) ?_
  refine lv_topi (fun v_2 ev_2 => ?_)
  obtain rfl : v_2 = 1 := ev_2.trans (dz_b1 ⟨⟨nI_pos' (by omega), nI_lt hrk (by omega)⟩, ⟨nI_pos' (by omega), nI_lt hot (by omega)⟩⟩)
  refine lv_if_ne (tgt := 39) hx hb dX8_book_26 (by decide) (fun c_26 => ?_) (fun c_26 => absurd c_26 (by decide))
  refine lv_iload_n hx hb dX8_book_39 rfl (lv_at hl 4 rfl) ?_
  refine lv_iload hx hb dX8_book_40 (lv_at hl 5 rfl) ?_
  refine lv_icmp_ne (tgt := 55) hx hb dX8_book_42 (by decide) (fun c_42 => ?_) (fun c_42 => absurd c_42 (fun z => hne ((nI_e (by omega) (by omega)).mp z)))
  refine lv_aload_n hx hb dX8_book_55 rfl (lv_at hl 1 rfl) ?_
  refine lv_iload_n hx hb dX8_book_56 rfl (lv_at hl 3 rfl) ?_
  refine lv_iload_n hx hb dX8_book_57 rfl (lv_at hl 4 rfl) ?_
  refine lv_iload hx hb dX8_book_58 (lv_at hl 5 rfl) ?_
  refine dz_kMi (va_runV (As := [_, _, _]) ⟨hx, hb, hml, hown, hts⟩ (c_mdIn l Z _ _ _ _ _ _ _ _ _ _ _ _ _ _ j jo _ _ _ _ _ _ _ _ _ _ _ _  ha hco hls hsc hns hso hpl hR.1 hc hr hF hnf h22 h23 hrk hcn hij hjj hot hio hjo h6r h6o) (cwV 3 hts gX8_book_X8_measuredDays rfl rfl rfl (by decide +kernel) ⟨Nat.le_of_ble_eq_true rfl, Nat.le_of_ble_eq_true rfl⟩) (dz_P.preV hE hS hG hco rfl ha) rfl rfl hl.1 rfl (lv_room (Nat.le_of_ble_eq_true rfl)) dX8_book_60 ⟨Nat.le_of_ble_eq_true rfl, Nat.le_of_ble_eq_true rfl⟩) hS (fun x_60_1 G_60_1 ad_60_1 H locs hp_60_1 hG hS => ?_)
  obtain ⟨fr_60_1, rfl, g_60_1⟩ := hp_60_1
  obtain ⟨S0, S1, Q1, hS0, g22, g23, xe⟩ := g_60_1
  obtain rfl : x_60_1 = (m_best (m_mi fdy (fun i => lg i (6 * sc + rk)) (fun j => lg j (6 * sc + ot)) nf (m_abs (m_times (m_turn fc fr j))) (m_abs (m_times (m_turn fc fr jo))) (S0, fun _ => 0) nf).1 (m_mi fdy (fun i => lg i (6 * sc + rk)) (fun j => lg j (6 * sc + ot)) nf (m_abs (m_times (m_turn fc fr j))) (m_abs (m_times (m_turn fc fr jo))) (S0, fun _ => 0) nf).2 151) := xe
  refine lv_istore (lv' := [(6, .int (m_best (m_mi fdy (fun i => lg i (6 * sc + rk)) (fun j => lg j (6 * sc + ot)) nf (m_abs (m_times (m_turn fc fr j))) (m_abs (m_times (m_turn fc fr jo))) (S0, fun _ => 0) nf).1 (m_mi fdy (fun i => lg i (6 * sc + rk)) (fun j => lg j (6 * sc + ot)) nf (m_abs (m_times (m_turn fc fr j))) (m_abs (m_times (m_turn fc fr jo))) (S0, fun _ => 0) nf).2 151)), (5, .ref (ad (11, sc))), (0, .ref aX), (1, .int (nI k)), (2, .int (nI sc)), (3, .int (nI rk)), (4, .int (nI ot))]) hx hb dX8_book_63 hl (by decide) rfl (fun ls hl => ?_)
  refine lv_aload_n hx hb dX8_book_65 rfl (lv_at hl 2 rfl) ?_
  refine lv_aload hx hb dX8_book_66 (lv_at hl 1 rfl) ?_
  refine lv_iload hx hb dX8_book_68 (lv_at hl 6 rfl) ?_
  refine dz_kRi (va_runV (As := [_, _]) ⟨hx, hb, hml, hown, hts⟩ (c_X8_wayOf l Z _ _ _ _ _ _ _ _ _ _ _ _ jo _ _ _ _ _ _ _  ((fr_60_1 _ (dz_n rfl) (dz_n rfl)).2.trans ha) ((fr_60_1 _ (dz_n rfl) (dz_n rfl)).1.trans hco) ((fr_60_1 _ (dz_n rfl) (dz_n rfl)).1.trans hso) ((fr_60_1 _ (dz_n rfl) (dz_n rfl)).1.trans hpl) ((fr_60_1 _ (dz_n rfl) (dz_n rfl)).1.trans hR.1) ((fr_60_1 _ (dz_n rfl) (dz_n rfl)).1.trans hc) ((fr_60_1 _ (dz_n rfl) (dz_n rfl)).1.trans hw) hot hcn hio hjo) (cwV 2 hts gX8_book_X8_wayOf rfl rfl rfl (by decide +kernel) ⟨Nat.le_of_ble_eq_true rfl, Nat.le_of_ble_eq_true rfl⟩) (dz_P.preV hE hS hG ((fr_60_1 _ (dz_n rfl) (dz_n rfl)).1.trans hco) rfl ((fr_60_1 _ (dz_n rfl) (dz_n rfl)).2.trans ha)) rfl rfl hl.1 rfl (lv_room (Nat.le_of_ble_eq_true rfl)) dX8_book_70 ⟨Nat.le_of_ble_eq_true rfl, Nat.le_of_ble_eq_true rfl⟩) ?_
  refine lv_topi (fun v_3 ev_3 => ?_)
  obtain rfl : v_3 = fw jo := ev_3
  refine lv_aload_n hx hb dX8_book_73 rfl (lv_at hl 2 rfl) ?_
  refine lv_aload hx hb dX8_book_74 (lv_at hl 1 rfl) ?_
  refine lv_iload_n hx hb dX8_book_76 rfl (lv_at hl 5 rfl) ?_
  refine dz_kRi (va_runV (As := [_, _]) ⟨hx, hb, hml, hown, hts⟩ (c_X8_wayOf l Z _ _ _ _ _ _ _ _ _ _ _ _ j _ _ _ _ _ _ _  ((fr_60_1 _ (dz_n rfl) (dz_n rfl)).2.trans ha) ((fr_60_1 _ (dz_n rfl) (dz_n rfl)).1.trans hco) ((fr_60_1 _ (dz_n rfl) (dz_n rfl)).1.trans hso) ((fr_60_1 _ (dz_n rfl) (dz_n rfl)).1.trans hpl) ((fr_60_1 _ (dz_n rfl) (dz_n rfl)).1.trans hR.1) ((fr_60_1 _ (dz_n rfl) (dz_n rfl)).1.trans hc) ((fr_60_1 _ (dz_n rfl) (dz_n rfl)).1.trans hw) hrk hcn hij hjj) (cwV 2 hts gX8_book_X8_wayOf rfl rfl rfl (by decide +kernel) ⟨Nat.le_of_ble_eq_true rfl, Nat.le_of_ble_eq_true rfl⟩) (dz_P.preV hE hS hG ((fr_60_1 _ (dz_n rfl) (dz_n rfl)).1.trans hco) rfl ((fr_60_1 _ (dz_n rfl) (dz_n rfl)).2.trans ha)) rfl rfl hl.1 rfl (lv_room (Nat.le_of_ble_eq_true rfl)) dX8_book_77 ⟨Nat.le_of_ble_eq_true rfl, Nat.le_of_ble_eq_true rfl⟩) ?_
  refine lv_topi (fun v_4 ev_4 => ?_)
  obtain rfl : v_4 = fw j := ev_4
  refine lv_isub hx hb dX8_book_80 ?_
  refine lv_topi (fun v_5 ev_5 => ?_)
  obtain rfl : v_5 = (fw jo - fw j) := ev_5
  refine lv_istore (lv' := [(7, .int (fw jo - fw j)), (6, .int (m_best (m_mi fdy (fun i => lg i (6 * sc + rk)) (fun j => lg j (6 * sc + ot)) nf (m_abs (m_times (m_turn fc fr j))) (m_abs (m_times (m_turn fc fr jo))) (S0, fun _ => 0) nf).1 (m_mi fdy (fun i => lg i (6 * sc + rk)) (fun j => lg j (6 * sc + ot)) nf (m_abs (m_times (m_turn fc fr j))) (m_abs (m_times (m_turn fc fr jo))) (S0, fun _ => 0) nf).2 151)), (5, .ref (ad (11, sc))), (0, .ref aX), (1, .int (nI k)), (2, .int (nI sc)), (3, .int (nI rk)), (4, .int (nI ot))]) hx hb dX8_book_81 hl (by decide) rfl (fun ls hl => ?_)
  refine lv_iload hx hb dX8_book_83 (lv_at hl 1 rfl) ?_
  refine lv_if_le (tgt := 93) hx hb dX8_book_85 (by decide) (fun c_85 => ?_) (fun c_85 => ?_)
  · refine lv_iconst (v := (-1)) hx hb dX8_book_93 (by decide) ?_
    refine lv_goto (tgt := 105) hx hb dX8_book_94 (by decide) ?_
    refine lv_topi (fun v_6 ev_6 => ?_)
    obtain rfl : v_6 = (if (m_best (m_mi fdy (fun i => lg i (6 * sc + rk)) (fun j => lg j (6 * sc + ot)) nf (m_abs (m_times (m_turn fc fr j))) (m_abs (m_times (m_turn fc fr jo))) (S0, fun _ => 0) nf).1 (m_mi fdy (fun i => lg i (6 * sc + rk)) (fun j => lg j (6 * sc + ot)) nf (m_abs (m_times (m_turn fc fr j))) (m_abs (m_times (m_turn fc fr jo))) (S0, fun _ => 0) nf).2 151) ≤ 0 ∨ (fw jo - fw j) ≤ 0 then -1 else (fw jo - fw j) * 20 / (m_best (m_mi fdy (fun i => lg i (6 * sc + rk)) (fun j => lg j (6 * sc + ot)) nf (m_abs (m_times (m_turn fc fr j))) (m_abs (m_times (m_turn fc fr jo))) (S0, fun _ => 0) nf).1 (m_mi fdy (fun i => lg i (6 * sc + rk)) (fun j => lg j (6 * sc + ot)) nf (m_abs (m_times (m_turn fc fr j))) (m_abs (m_times (m_turn fc fr jo))) (S0, fun _ => 0) nf).2 151)) := ev_6.trans (by first | exact (if_pos (Or.inl c_85)).symm | exact (if_pos (Or.inr (Int32.not_lt.mp (fun z => c_90 z)))).symm | exact (if_neg (fun z => z.elim c_85 (Int32.not_le.mpr c_90))).symm)
    refine lv_istore (lv' := [(8, .int (if (m_best (m_mi fdy (fun i => lg i (6 * sc + rk)) (fun j => lg j (6 * sc + ot)) nf (m_abs (m_times (m_turn fc fr j))) (m_abs (m_times (m_turn fc fr jo))) (S0, fun _ => 0) nf).1 (m_mi fdy (fun i => lg i (6 * sc + rk)) (fun j => lg j (6 * sc + ot)) nf (m_abs (m_times (m_turn fc fr j))) (m_abs (m_times (m_turn fc fr jo))) (S0, fun _ => 0) nf).2 151) ≤ 0 ∨ (fw jo - fw j) ≤ 0 then -1 else (fw jo - fw j) * 20 / (m_best (m_mi fdy (fun i => lg i (6 * sc + rk)) (fun j => lg j (6 * sc + ot)) nf (m_abs (m_times (m_turn fc fr j))) (m_abs (m_times (m_turn fc fr jo))) (S0, fun _ => 0) nf).1 (m_mi fdy (fun i => lg i (6 * sc + rk)) (fun j => lg j (6 * sc + ot)) nf (m_abs (m_times (m_turn fc fr j))) (m_abs (m_times (m_turn fc fr jo))) (S0, fun _ => 0) nf).2 151))), (7, .int (fw jo - fw j)), (6, .int (m_best (m_mi fdy (fun i => lg i (6 * sc + rk)) (fun j => lg j (6 * sc + ot)) nf (m_abs (m_times (m_turn fc fr j))) (m_abs (m_times (m_turn fc fr jo))) (S0, fun _ => 0) nf).1 (m_mi fdy (fun i => lg i (6 * sc + rk)) (fun j => lg j (6 * sc + ot)) nf (m_abs (m_times (m_turn fc fr j))) (m_abs (m_times (m_turn fc fr jo))) (S0, fun _ => 0) nf).2 151)), (5, .ref (ad (11, sc))), (0, .ref aX), (1, .int (nI k)), (2, .int (nI sc)), (3, .int (nI rk)), (4, .int (nI ot))]) hx hb dX8_book_105 hl (by decide) rfl (fun ls hl => ?_)
    refine lv_aload_n hx hb dX8_book_107 rfl (lv_at hl 4 rfl) ?_
    refine dz_get hx hb hts (fun _ h => List.mem_cons_of_mem _ (List.mem_append_left _ (List.mem_append_left _ (List.mem_append_left _ (List.mem_append_left _ (List.mem_append_left _ (List.mem_append_left _ (List.mem_append_left _ (List.mem_append_left _ (List.mem_append_right _ h)))))))))) hown hE hG ((fr_60_1 _ (dz_n rfl) (dz_n rfl)).2.trans ha) ((fr_60_1 _ (dz_n rfl) (dz_n rfl)).1.trans hco) rfl 5 (by decide) (hts _ (List.mem_of_getElem? (i := 5) rfl)) (fun _ h9 => h9) rfl dX8_book_108 ?_
    refine lv_iload_n hx hb dX8_book_111 rfl (lv_at hl 5 rfl) ?_
    refine lv_iload hx hb dX8_book_112 (lv_at hl 0 rfl) ?_
    refine lv_aload_n hx hb dX8_book_114 rfl (lv_at hl 4 rfl) ?_
    refine dz_get hx hb hts (fun _ h => List.mem_cons_of_mem _ (List.mem_append_left _ (List.mem_append_left _ (List.mem_append_left _ (List.mem_append_left _ (List.mem_append_left _ (List.mem_append_left _ (List.mem_append_left _ (List.mem_append_left _ (List.mem_append_right _ h)))))))))) hown hE hG ((fr_60_1 _ (dz_n rfl) (dz_n rfl)).2.trans ha) ((fr_60_1 _ (dz_n rfl) (dz_n rfl)).1.trans hco) rfl 0 (by decide) (hts _ (List.mem_of_getElem? (i := 6) rfl)) (fun _ h9 => h9) rfl dX8_book_115 ?_
    refine dz_kRi (va_runV (As := []) ⟨hx, hb, hml, hown, hts⟩ (c_X5_count l Z _ _ _ _ _ _ _ _ ((fr_60_1 _ (dz_n rfl) (dz_n rfl)).2.trans rfl) (dz_Rm.frame hR (fun r h => fr_60_1 r (by rintro rfl; simp at h) (by rintro rfl; simp at h)) (fun _ _ => rfl)) hN) (cwV 0 hts gX8_book_X5_count rfl rfl rfl (by decide +kernel) ⟨Nat.le_of_ble_eq_true rfl, Nat.le_of_ble_eq_true rfl⟩) (dz_P.preV hE hS hG ((fr_60_1 _ (dz_n rfl) (dz_n rfl)).1.trans hR.1) rfl ((fr_60_1 _ (dz_n rfl) (dz_n rfl)).2.trans rfl)) rfl rfl hl.1 rfl (lv_room (Nat.le_of_ble_eq_true rfl)) dX8_book_118 ⟨Nat.le_of_ble_eq_true rfl, Nat.le_of_ble_eq_true rfl⟩) ?_
    refine lv_topi (fun v_7 ev_7 => ?_)
    obtain rfl : v_7 = nI nm := ev_7
    refine dz_kMi (va_runV (As := [_, _, _]) ⟨hx, hb, hml, hown, hts⟩ (c_X1_add l Z _ _ _ _ _ _ _ _ _ _ ((fr_60_1 _ (dz_n rfl) (dz_n rfl)).2.trans rfl) ((fr_60_1 _ (dz_n rfl) (dz_n rfl)).1.trans hbo) ((fr_60_1 _ (dz_n rfl) (dz_n rfl)).1.trans hgr) ((fr_60_1 _ (dz_n rfl) (dz_n rfl)).1.trans hma) hk) (cwV 3 hts gX8_book_X1_add rfl rfl rfl (by decide +kernel) ⟨Nat.le_of_ble_eq_true rfl, Nat.le_of_ble_eq_true rfl⟩) (dz_P.preV hE hS hG ((fr_60_1 _ (dz_n rfl) (dz_n rfl)).1.trans hbo) rfl ((fr_60_1 _ (dz_n rfl) (dz_n rfl)).2.trans rfl)) rfl rfl hl.1 rfl (lv_room (Nat.le_of_ble_eq_true rfl)) dX8_book_121 ⟨Nat.le_of_ble_eq_true rfl, Nat.le_of_ble_eq_true rfl⟩) hS (fun x_121_2 G_121_2 ad_121_2 H locs hp_121_2 hG hS => ?_)
    obtain ⟨fr_121_2, rfl, xx, o_121_2, g_121_2, m_121_2⟩ := hp_121_2
    refine W.widen (k := 0) (n := 0) (by first | omega | decide) (by first | omega | decide) ?_
    refine W.iret hx hb hrt (fun t ht hW => dz_endM (f := rv_i) _ hE hS hG ?_ ht hW) (fun q h => hS.2.2 q h) dX8_book_124
    refine ⟨fun r9 n_0 n_1 n_2 n_3 n_4 => (dz_tr (fr_121_2 r9 n_2 n_3 n_4) (fr_60_1 r9 n_0 n_1)), rfl, ?_⟩
    exact ⟨S0, S1, Q1, hS0, ((fr_121_2 _ (dz_n rfl) (dz_n rfl) (dz_n rfl)).1.trans g22), ((fr_121_2 _ (dz_n rfl) (dz_n rfl) (dz_n rfl)).1.trans g23), xx, o_121_2, g_121_2, m_121_2⟩
  · refine lv_iload hx hb dX8_book_88 (lv_at hl 0 rfl) ?_
    refine lv_if_gt (tgt := 97) hx hb dX8_book_90 (by decide) (fun c_90 => ?_) (fun c_90 => ?_)
    · refine lv_iload hx hb dX8_book_97 (lv_at hl 0 rfl) ?_
      refine lv_bipush (v := 20) hx hb dX8_book_99 (by decide) ?_
      refine lv_imul hx hb dX8_book_101 ?_
      refine lv_iload hx hb dX8_book_102 (lv_at hl 1 rfl) ?_
      refine lv_idiv hx hb dX8_book_104 (fun z => c_85 (by rw [z]; decide)) ?_
      refine lv_topi (fun v_8 ev_8 => ?_)
      obtain rfl : v_8 = (if (m_best (m_mi fdy (fun i => lg i (6 * sc + rk)) (fun j => lg j (6 * sc + ot)) nf (m_abs (m_times (m_turn fc fr j))) (m_abs (m_times (m_turn fc fr jo))) (S0, fun _ => 0) nf).1 (m_mi fdy (fun i => lg i (6 * sc + rk)) (fun j => lg j (6 * sc + ot)) nf (m_abs (m_times (m_turn fc fr j))) (m_abs (m_times (m_turn fc fr jo))) (S0, fun _ => 0) nf).2 151) ≤ 0 ∨ (fw jo - fw j) ≤ 0 then -1 else (fw jo - fw j) * 20 / (m_best (m_mi fdy (fun i => lg i (6 * sc + rk)) (fun j => lg j (6 * sc + ot)) nf (m_abs (m_times (m_turn fc fr j))) (m_abs (m_times (m_turn fc fr jo))) (S0, fun _ => 0) nf).1 (m_mi fdy (fun i => lg i (6 * sc + rk)) (fun j => lg j (6 * sc + ot)) nf (m_abs (m_times (m_turn fc fr j))) (m_abs (m_times (m_turn fc fr jo))) (S0, fun _ => 0) nf).2 151)) := ev_8.trans (by first | exact (if_pos (Or.inl c_85)).symm | exact (if_pos (Or.inr (Int32.not_lt.mp (fun z => c_90 z)))).symm | exact (if_neg (fun z => z.elim c_85 (Int32.not_le.mpr c_90))).symm)
      refine lv_istore (lv' := [(8, .int (if (m_best (m_mi fdy (fun i => lg i (6 * sc + rk)) (fun j => lg j (6 * sc + ot)) nf (m_abs (m_times (m_turn fc fr j))) (m_abs (m_times (m_turn fc fr jo))) (S0, fun _ => 0) nf).1 (m_mi fdy (fun i => lg i (6 * sc + rk)) (fun j => lg j (6 * sc + ot)) nf (m_abs (m_times (m_turn fc fr j))) (m_abs (m_times (m_turn fc fr jo))) (S0, fun _ => 0) nf).2 151) ≤ 0 ∨ (fw jo - fw j) ≤ 0 then -1 else (fw jo - fw j) * 20 / (m_best (m_mi fdy (fun i => lg i (6 * sc + rk)) (fun j => lg j (6 * sc + ot)) nf (m_abs (m_times (m_turn fc fr j))) (m_abs (m_times (m_turn fc fr jo))) (S0, fun _ => 0) nf).1 (m_mi fdy (fun i => lg i (6 * sc + rk)) (fun j => lg j (6 * sc + ot)) nf (m_abs (m_times (m_turn fc fr j))) (m_abs (m_times (m_turn fc fr jo))) (S0, fun _ => 0) nf).2 151))), (7, .int (fw jo - fw j)), (6, .int (m_best (m_mi fdy (fun i => lg i (6 * sc + rk)) (fun j => lg j (6 * sc + ot)) nf (m_abs (m_times (m_turn fc fr j))) (m_abs (m_times (m_turn fc fr jo))) (S0, fun _ => 0) nf).1 (m_mi fdy (fun i => lg i (6 * sc + rk)) (fun j => lg j (6 * sc + ot)) nf (m_abs (m_times (m_turn fc fr j))) (m_abs (m_times (m_turn fc fr jo))) (S0, fun _ => 0) nf).2 151)), (5, .ref (ad (11, sc))), (0, .ref aX), (1, .int (nI k)), (2, .int (nI sc)), (3, .int (nI rk)), (4, .int (nI ot))]) hx hb dX8_book_105 hl (by decide) rfl (fun ls hl => ?_)
      refine lv_aload_n hx hb dX8_book_107 rfl (lv_at hl 4 rfl) ?_
      refine dz_get hx hb hts (fun _ h => List.mem_cons_of_mem _ (List.mem_append_left _ (List.mem_append_left _ (List.mem_append_left _ (List.mem_append_left _ (List.mem_append_left _ (List.mem_append_left _ (List.mem_append_left _ (List.mem_append_left _ (List.mem_append_right _ h)))))))))) hown hE hG ((fr_60_1 _ (dz_n rfl) (dz_n rfl)).2.trans ha) ((fr_60_1 _ (dz_n rfl) (dz_n rfl)).1.trans hco) rfl 5 (by decide) (hts _ (List.mem_of_getElem? (i := 5) rfl)) (fun _ h9 => h9) rfl dX8_book_108 ?_
      refine lv_iload_n hx hb dX8_book_111 rfl (lv_at hl 5 rfl) ?_
      refine lv_iload hx hb dX8_book_112 (lv_at hl 0 rfl) ?_
      refine lv_aload_n hx hb dX8_book_114 rfl (lv_at hl 4 rfl) ?_
      refine dz_get hx hb hts (fun _ h => List.mem_cons_of_mem _ (List.mem_append_left _ (List.mem_append_left _ (List.mem_append_left _ (List.mem_append_left _ (List.mem_append_left _ (List.mem_append_left _ (List.mem_append_left _ (List.mem_append_left _ (List.mem_append_right _ h)))))))))) hown hE hG ((fr_60_1 _ (dz_n rfl) (dz_n rfl)).2.trans ha) ((fr_60_1 _ (dz_n rfl) (dz_n rfl)).1.trans hco) rfl 0 (by decide) (hts _ (List.mem_of_getElem? (i := 6) rfl)) (fun _ h9 => h9) rfl dX8_book_115 ?_
      refine dz_kRi (va_runV (As := []) ⟨hx, hb, hml, hown, hts⟩ (c_X5_count l Z _ _ _ _ _ _ _ _ ((fr_60_1 _ (dz_n rfl) (dz_n rfl)).2.trans rfl) (dz_Rm.frame hR (fun r h => fr_60_1 r (by rintro rfl; simp at h) (by rintro rfl; simp at h)) (fun _ _ => rfl)) hN) (cwV 0 hts gX8_book_X5_count rfl rfl rfl (by decide +kernel) ⟨Nat.le_of_ble_eq_true rfl, Nat.le_of_ble_eq_true rfl⟩) (dz_P.preV hE hS hG ((fr_60_1 _ (dz_n rfl) (dz_n rfl)).1.trans hR.1) rfl ((fr_60_1 _ (dz_n rfl) (dz_n rfl)).2.trans rfl)) rfl rfl hl.1 rfl (lv_room (Nat.le_of_ble_eq_true rfl)) dX8_book_118 ⟨Nat.le_of_ble_eq_true rfl, Nat.le_of_ble_eq_true rfl⟩) ?_
      refine lv_topi (fun v_9 ev_9 => ?_)
      obtain rfl : v_9 = nI nm := ev_9
      refine dz_kMi (va_runV (As := [_, _, _]) ⟨hx, hb, hml, hown, hts⟩ (c_X1_add l Z _ _ _ _ _ _ _ _ _ _ ((fr_60_1 _ (dz_n rfl) (dz_n rfl)).2.trans rfl) ((fr_60_1 _ (dz_n rfl) (dz_n rfl)).1.trans hbo) ((fr_60_1 _ (dz_n rfl) (dz_n rfl)).1.trans hgr) ((fr_60_1 _ (dz_n rfl) (dz_n rfl)).1.trans hma) hk) (cwV 3 hts gX8_book_X1_add rfl rfl rfl (by decide +kernel) ⟨Nat.le_of_ble_eq_true rfl, Nat.le_of_ble_eq_true rfl⟩) (dz_P.preV hE hS hG ((fr_60_1 _ (dz_n rfl) (dz_n rfl)).1.trans hbo) rfl ((fr_60_1 _ (dz_n rfl) (dz_n rfl)).2.trans rfl)) rfl rfl hl.1 rfl (lv_room (Nat.le_of_ble_eq_true rfl)) dX8_book_121 ⟨Nat.le_of_ble_eq_true rfl, Nat.le_of_ble_eq_true rfl⟩) hS (fun x_121_3 G_121_3 ad_121_3 H locs hp_121_3 hG hS => ?_)
      obtain ⟨fr_121_3, rfl, xx, o_121_3, g_121_3, m_121_3⟩ := hp_121_3
      refine W.widen (k := 0) (n := 0) (by first | omega | decide) (by first | omega | decide) ?_
      refine W.iret hx hb hrt (fun t ht hW => dz_endM (f := rv_i) _ hE hS hG ?_ ht hW) (fun q h => hS.2.2 q h) dX8_book_124
      refine ⟨fun r9 n_0 n_1 n_2 n_3 n_4 => (dz_tr (fr_121_3 r9 n_2 n_3 n_4) (fr_60_1 r9 n_0 n_1)), rfl, ?_⟩
      exact ⟨S0, S1, Q1, hS0, ((fr_121_3 _ (dz_n rfl) (dz_n rfl) (dz_n rfl)).1.trans g22), ((fr_121_3 _ (dz_n rfl) (dz_n rfl) (dz_n rfl)).1.trans g23), xx, o_121_3, g_121_3, m_121_3⟩
    · refine lv_iconst (v := (-1)) hx hb dX8_book_93 (by decide) ?_
      refine lv_goto (tgt := 105) hx hb dX8_book_94 (by decide) ?_
      refine lv_topi (fun v_10 ev_10 => ?_)
      obtain rfl : v_10 = (if (m_best (m_mi fdy (fun i => lg i (6 * sc + rk)) (fun j => lg j (6 * sc + ot)) nf (m_abs (m_times (m_turn fc fr j))) (m_abs (m_times (m_turn fc fr jo))) (S0, fun _ => 0) nf).1 (m_mi fdy (fun i => lg i (6 * sc + rk)) (fun j => lg j (6 * sc + ot)) nf (m_abs (m_times (m_turn fc fr j))) (m_abs (m_times (m_turn fc fr jo))) (S0, fun _ => 0) nf).2 151) ≤ 0 ∨ (fw jo - fw j) ≤ 0 then -1 else (fw jo - fw j) * 20 / (m_best (m_mi fdy (fun i => lg i (6 * sc + rk)) (fun j => lg j (6 * sc + ot)) nf (m_abs (m_times (m_turn fc fr j))) (m_abs (m_times (m_turn fc fr jo))) (S0, fun _ => 0) nf).1 (m_mi fdy (fun i => lg i (6 * sc + rk)) (fun j => lg j (6 * sc + ot)) nf (m_abs (m_times (m_turn fc fr j))) (m_abs (m_times (m_turn fc fr jo))) (S0, fun _ => 0) nf).2 151)) := ev_10.trans (by first | exact (if_pos (Or.inl c_85)).symm | exact (if_pos (Or.inr (Int32.not_lt.mp (fun z => c_90 z)))).symm | exact (if_neg (fun z => z.elim c_85 (Int32.not_le.mpr c_90))).symm)
      refine lv_istore (lv' := [(8, .int (if (m_best (m_mi fdy (fun i => lg i (6 * sc + rk)) (fun j => lg j (6 * sc + ot)) nf (m_abs (m_times (m_turn fc fr j))) (m_abs (m_times (m_turn fc fr jo))) (S0, fun _ => 0) nf).1 (m_mi fdy (fun i => lg i (6 * sc + rk)) (fun j => lg j (6 * sc + ot)) nf (m_abs (m_times (m_turn fc fr j))) (m_abs (m_times (m_turn fc fr jo))) (S0, fun _ => 0) nf).2 151) ≤ 0 ∨ (fw jo - fw j) ≤ 0 then -1 else (fw jo - fw j) * 20 / (m_best (m_mi fdy (fun i => lg i (6 * sc + rk)) (fun j => lg j (6 * sc + ot)) nf (m_abs (m_times (m_turn fc fr j))) (m_abs (m_times (m_turn fc fr jo))) (S0, fun _ => 0) nf).1 (m_mi fdy (fun i => lg i (6 * sc + rk)) (fun j => lg j (6 * sc + ot)) nf (m_abs (m_times (m_turn fc fr j))) (m_abs (m_times (m_turn fc fr jo))) (S0, fun _ => 0) nf).2 151))), (7, .int (fw jo - fw j)), (6, .int (m_best (m_mi fdy (fun i => lg i (6 * sc + rk)) (fun j => lg j (6 * sc + ot)) nf (m_abs (m_times (m_turn fc fr j))) (m_abs (m_times (m_turn fc fr jo))) (S0, fun _ => 0) nf).1 (m_mi fdy (fun i => lg i (6 * sc + rk)) (fun j => lg j (6 * sc + ot)) nf (m_abs (m_times (m_turn fc fr j))) (m_abs (m_times (m_turn fc fr jo))) (S0, fun _ => 0) nf).2 151)), (5, .ref (ad (11, sc))), (0, .ref aX), (1, .int (nI k)), (2, .int (nI sc)), (3, .int (nI rk)), (4, .int (nI ot))]) hx hb dX8_book_105 hl (by decide) rfl (fun ls hl => ?_)
      refine lv_aload_n hx hb dX8_book_107 rfl (lv_at hl 4 rfl) ?_
      refine dz_get hx hb hts (fun _ h => List.mem_cons_of_mem _ (List.mem_append_left _ (List.mem_append_left _ (List.mem_append_left _ (List.mem_append_left _ (List.mem_append_left _ (List.mem_append_left _ (List.mem_append_left _ (List.mem_append_left _ (List.mem_append_right _ h)))))))))) hown hE hG ((fr_60_1 _ (dz_n rfl) (dz_n rfl)).2.trans ha) ((fr_60_1 _ (dz_n rfl) (dz_n rfl)).1.trans hco) rfl 5 (by decide) (hts _ (List.mem_of_getElem? (i := 5) rfl)) (fun _ h9 => h9) rfl dX8_book_108 ?_
      refine lv_iload_n hx hb dX8_book_111 rfl (lv_at hl 5 rfl) ?_
      refine lv_iload hx hb dX8_book_112 (lv_at hl 0 rfl) ?_
      refine lv_aload_n hx hb dX8_book_114 rfl (lv_at hl 4 rfl) ?_
      refine dz_get hx hb hts (fun _ h => List.mem_cons_of_mem _ (List.mem_append_left _ (List.mem_append_left _ (List.mem_append_left _ (List.mem_append_left _ (List.mem_append_left _ (List.mem_append_left _ (List.mem_append_left _ (List.mem_append_left _ (List.mem_append_right _ h)))))))))) hown hE hG ((fr_60_1 _ (dz_n rfl) (dz_n rfl)).2.trans ha) ((fr_60_1 _ (dz_n rfl) (dz_n rfl)).1.trans hco) rfl 0 (by decide) (hts _ (List.mem_of_getElem? (i := 6) rfl)) (fun _ h9 => h9) rfl dX8_book_115 ?_
      refine dz_kRi (va_runV (As := []) ⟨hx, hb, hml, hown, hts⟩ (c_X5_count l Z _ _ _ _ _ _ _ _ ((fr_60_1 _ (dz_n rfl) (dz_n rfl)).2.trans rfl) (dz_Rm.frame hR (fun r h => fr_60_1 r (by rintro rfl; simp at h) (by rintro rfl; simp at h)) (fun _ _ => rfl)) hN) (cwV 0 hts gX8_book_X5_count rfl rfl rfl (by decide +kernel) ⟨Nat.le_of_ble_eq_true rfl, Nat.le_of_ble_eq_true rfl⟩) (dz_P.preV hE hS hG ((fr_60_1 _ (dz_n rfl) (dz_n rfl)).1.trans hR.1) rfl ((fr_60_1 _ (dz_n rfl) (dz_n rfl)).2.trans rfl)) rfl rfl hl.1 rfl (lv_room (Nat.le_of_ble_eq_true rfl)) dX8_book_118 ⟨Nat.le_of_ble_eq_true rfl, Nat.le_of_ble_eq_true rfl⟩) ?_
      refine lv_topi (fun v_11 ev_11 => ?_)
      obtain rfl : v_11 = nI nm := ev_11
      refine dz_kMi (va_runV (As := [_, _, _]) ⟨hx, hb, hml, hown, hts⟩ (c_X1_add l Z _ _ _ _ _ _ _ _ _ _ ((fr_60_1 _ (dz_n rfl) (dz_n rfl)).2.trans rfl) ((fr_60_1 _ (dz_n rfl) (dz_n rfl)).1.trans hbo) ((fr_60_1 _ (dz_n rfl) (dz_n rfl)).1.trans hgr) ((fr_60_1 _ (dz_n rfl) (dz_n rfl)).1.trans hma) hk) (cwV 3 hts gX8_book_X1_add rfl rfl rfl (by decide +kernel) ⟨Nat.le_of_ble_eq_true rfl, Nat.le_of_ble_eq_true rfl⟩) (dz_P.preV hE hS hG ((fr_60_1 _ (dz_n rfl) (dz_n rfl)).1.trans hbo) rfl ((fr_60_1 _ (dz_n rfl) (dz_n rfl)).2.trans rfl)) rfl rfl hl.1 rfl (lv_room (Nat.le_of_ble_eq_true rfl)) dX8_book_121 ⟨Nat.le_of_ble_eq_true rfl, Nat.le_of_ble_eq_true rfl⟩) hS (fun x_121_4 G_121_4 ad_121_4 H locs hp_121_4 hG hS => ?_)
      obtain ⟨fr_121_4, rfl, xx, o_121_4, g_121_4, m_121_4⟩ := hp_121_4
      refine W.widen (k := 0) (n := 0) (by first | omega | decide) (by first | omega | decide) ?_
      refine W.iret hx hb hrt (fun t ht hW => dz_endM (f := rv_i) _ hE hS hG ?_ ht hW) (fun q h => hS.2.2 q h) dX8_book_124
      refine ⟨fun r9 n_0 n_1 n_2 n_3 n_4 => (dz_tr (fr_121_4 r9 n_2 n_3 n_4) (fr_60_1 r9 n_0 n_1)), rfl, ?_⟩
      exact ⟨S0, S1, Q1, hS0, ((fr_121_4 _ (dz_n rfl) (dz_n rfl) (dz_n rfl)).1.trans g22), ((fr_121_4 _ (dz_n rfl) (dz_n rfl) (dz_n rfl)).1.trans g23), xx, o_121_4, g_121_4, m_121_4⟩

set_option maxHeartbeats 4000000 in
set_option maxRecDepth 100000 in
theorem c_D_book_outm (l : Launch) (Z : dzG) (G : dzW) (ad : dzA) (aX nl nx : Nat) (dy ssf sst cfr grw : Int32) (ns sc rk ot j jo : Nat) (cnt : Nat → Nat) (col row fl : Nat → Int32) (pl : Nat → Nat → Int32) (nf : Nat) (fdy : Nat → Int32) (lg : Nat → Nat → Int32) (S : Nat → Int64) (Q : Nat → Int32) (fc fr fw : Nat → Int32) (nm : Nat) (sh co ro st : Nat → Int32) (bkk iop : Int32) (k : Nat) (gr ma : Nat → Int32) (ha : ad (1, 0) = aX) (hco : G (1, 0) = some (eO 9 [.ref (ad (2, 0)), .ref (ad (9, 0)), .int (nI nl), .int (nI nx), .ref (ad (19, 0)), .ref (ad (26, 0)), .int dy, .int ssf, .int sst, .int cfr, .int grw])) (hls : dz_L Z G ad (9, 0) (10, 0) ns (fun i => ad (11, i))) (hsc : sc < ns) (hns : ns ≤ 5) (hso : G (11, sc) = some (eO 7 [.int (col sc), .int (row sc), .int (fl sc), .ref (ad (12, sc)), .int (nI (cnt sc)), .ref (ad (13, sc)), .ref (ad (15, sc))])) (hpl : G (12, sc) = some (eI Z 441 (pl sc))) (hro : G (2, 0) = some (eO 6 [.ref (ad (3, 0)), .ref (ad (5, 0)), .ref (ad (6, 0)), .ref (ad (7, 0))])) (hc : G (5, 0) = some (eI Z 484 fc)) (hr : G (6, 0) = some (eI Z 484 fr)) (hw : G (7, 0) = some (eI Z 484 fw)) (hF : dz_Fr Z G ad nf fdy lg) (hnf : nf ≤ 60) (h22 : G (22, 0) = some (eJ Z 151 S)) (h23 : G (23, 0) = some (eI Z 151 Q)) (hrk : rk < cnt sc) (hcn : cnt sc ≤ 441) (hij : pl sc rk = nI j) (hjj : j + 22 < 484) (hot : ot < cnt sc) (hio : pl sc ot = nI jo) (hjo : jo + 22 < 484) (hne : ¬ rk = ot) (hR : dz_Rm Z G ad nm sh co ro st) (hN : nm ≤ 6) (hbo : G (26, 0) = some (eO 2 [.ref (ad (27, 0)), .ref (ad (28, 0)), .int bkk, .ref (ad (29, 0)), .int iop])) (hgr : G (27, 0) = some (eI Z 2 gr)) (hma : G (28, 0) = some (eI Z 2 ma)) (hk : k < 2) (h66 : 6 ≤ rk ∨ 6 ≤ ot) : dzWr l yX8_book wsX8_book 5 111 0 0 Z G ad [.ref aX, .int (nI k), .int (nI sc), .int (nI rk), .int (nI ot)] rv_i (fun (x : Int32) G1 ad1 => (∀ r9 : dzR, r9 ≠ (26, 0) → r9 ≠ (27, 0) → r9 ≠ (28, 0) → G1 r9 = G r9 ∧ ad1 r9 = ad r9) ∧ ad = ad1 ∧ x = bkk + 1 ∧ G1 (26, 0) = some (eO 2 [.ref (ad (27, 0)), .ref (ad (28, 0)), .int (bkk + 1), .ref (ad (29, 0)), .int iop]) ∧ G1 (27, 0) = some (eI Z 2 (upd gr k (if (-1) ≤ 0 ∨ (fw jo - fw j) ≤ 0 then -1 else (fw jo - fw j) * 20 / (-1)))) ∧ G1 (28, 0) = some (eI Z 2 (upd ma k (nI nm)))) := by
  refine Met.ofW (cc := cX8_book) (maxL := 9) (ret := (some .int)) (by decide) rfl ?_
  intro p e s m args below meth c s₁ B hml hv
  obtain ⟨rfl, hG, hE⟩ := hv
  have hx := B.exec
  have hb := B.bytes
  have hrt := B.returns
  have hts := atoms_spec (ws := wsX8_book) B.pre
  have hown : s.vm.findClass RX8 = some m.cls := findClass_of_methodNamed B.named
  have hlocks := B.notSynchronized
  have hS : va_S (dz_A Z) s.heap s.heap [] := va_S.rf
  have hl := lv_entry ([.ref aX, .int (nI k), .int (nI sc), .int (nI rk), .int (nI ot)]) (n := 9) (Nat.le_of_ble_eq_true rfl)
  rw [lg_entry_eq]
  generalize (lg_sl ([.ref aX, .int (nI k), .int (nI sc), .int (nI rk), .int (nI ot)]) ++ List.replicate (9 - (lg_sl ([.ref aX, .int (nI k), .int (nI sc), .int (nI rk), .int (nI ot)])).length) Slot.unset).toArray = ls at hl ⊢
  have hl : lv_has ls 9 [(0, .ref aX), (1, .int (nI k)), (2, .int (nI sc)), (3, .int (nI rk)), (4, .int (nI ot))] := hl
  refine lv_aload_n hx hb dX8_book_0 rfl (lv_at hl 0 rfl) ?_
  refine lv_iload_n hx hb dX8_book_1 rfl (lv_at hl 2 rfl) ?_
  refine dz_kRr (va_runV (As := [_]) ⟨hx, hb, hml, hown, hts⟩ (c_sourceIn l Z _ _ _ _ _ _ _ _ _ _ _ _ _ _ _ _ ha hco hls hsc hns hso) (cwV 1 hts gX8_book_X8_sourceAt rfl rfl rfl (by decide +kernel) ⟨Nat.le_of_ble_eq_true rfl, Nat.le_of_ble_eq_true rfl⟩) (dz_P.preV hE hS hG hco rfl ha) rfl rfl hl.1 rfl (lv_room (Nat.le_of_ble_eq_true rfl)) dX8_book_2 ⟨Nat.le_of_ble_eq_true rfl, Nat.le_of_ble_eq_true rfl⟩) ?_
  refine lv_astore (lv' := [(5, .ref (ad (11, sc))), (0, .ref aX), (1, .int (nI k)), (2, .int (nI sc)), (3, .int (nI rk)), (4, .int (nI ot))]) hx hb dX8_book_5 hl (by decide) rfl (fun ls hl => ?_)
  refine lv_aload_n hx hb dX8_book_7 rfl (lv_at hl 1 rfl) ?_
  refine dz_get hx hb hts (fun _ h => List.mem_cons_of_mem _ (List.mem_append_left _ (List.mem_append_left _ (List.mem_append_left _ (List.mem_append_left _ (List.mem_append_left _ (List.mem_append_left _ (List.mem_append_left _ (List.mem_append_left _ (List.mem_append_right _ h)))))))))) hown hE hG ha hco rfl 5 (by decide) (hts _ (List.mem_of_getElem? (i := 5) rfl)) (fun _ h9 => h9) rfl dX8_book_8 ?_
  refine lv_iload_n hx hb dX8_book_11 rfl (lv_at hl 2 rfl) ?_
  refine dz_kRi (va_runV (As := [_]) ⟨hx, hb, hml, hown, hts⟩ (c_X1_hasHouse l Z _ _ _ _ _ _ rfl hbo) (cwV 1 hts gX8_book_X1_hasHouse rfl rfl rfl (by decide +kernel) ⟨Nat.le_of_ble_eq_true rfl, Nat.le_of_ble_eq_true rfl⟩) (dz_P.preV hE hS hG hbo rfl rfl) rfl rfl hl.1 rfl (lv_room (Nat.le_of_ble_eq_true rfl)) dX8_book_12 ⟨Nat.le_of_ble_eq_true rfl, Nat.le_of_ble_eq_true rfl⟩) ?_
  refine lv_topi (fun v_1 ev_1 => ?_)
  obtain rfl : v_1 = 1 := ev_1.trans (dz_b1 ⟨nI_pos' (by omega), nI_lt hk (by decide)⟩)
  refine lv_if_eq (tgt := 29) hx hb dX8_book_15 (by decide) (fun c_15 => absurd c_15 (by decide)) (fun c_15 => ?_)
  refine lv_aload hx hb dX8_book_18 (lv_at hl 0 rfl) ?_
  refine lv_iload_n hx hb dX8_book_20 rfl (lv_at hl 4 rfl) ?_
  refine lv_iload hx hb dX8_book_21 (lv_at hl 5 rfl) ?_
  refine dz_kRi (va_runS (As := [_, _, _]) ⟨hx, hb, hml, hown, hts⟩ (c_areY l Z _ _ _ _ _ _ _ _ _ hso) (va_cwS 3 hts gX8_book_X8_areImages rfl rfl rfl (by decide +kernel) ⟨Nat.le_of_ble_eq_true rfl, Nat.le_of_ble_eq_true rfl⟩) (dz_P.pre hE hS hG) rfl rfl hl.1 rfl (lv_room (Nat.le_of_ble_eq_true rfl)) dX8_book_23 ⟨Nat.le_of_ble_eq_true rfl, Nat.le_of_ble_eq_true rfl⟩) ?_
  refine lv_topi (fun v_2 ev_2 => ?_)
  obtain rfl : v_2 = 1 := ev_2.trans (dz_b1 ⟨⟨nI_pos' (by omega), nI_lt hrk (by omega)⟩, ⟨nI_pos' (by omega), nI_lt hot (by omega)⟩⟩)
  refine lv_if_ne (tgt := 39) hx hb dX8_book_26 (by decide) (fun c_26 => ?_) (fun c_26 => absurd c_26 (by decide))
  refine lv_iload_n hx hb dX8_book_39 rfl (lv_at hl 4 rfl) ?_
  refine lv_iload hx hb dX8_book_40 (lv_at hl 5 rfl) ?_
  refine lv_icmp_ne (tgt := 55) hx hb dX8_book_42 (by decide) (fun c_42 => ?_) (fun c_42 => absurd c_42 (fun z => hne ((nI_e (by omega) (by omega)).mp z)))
  refine lv_aload_n hx hb dX8_book_55 rfl (lv_at hl 1 rfl) ?_
  refine lv_iload_n hx hb dX8_book_56 rfl (lv_at hl 3 rfl) ?_
  refine lv_iload_n hx hb dX8_book_57 rfl (lv_at hl 4 rfl) ?_
  refine lv_iload hx hb dX8_book_58 (lv_at hl 5 rfl) ?_
  refine dz_kRi (va_runV (As := [_, _, _]) ⟨hx, hb, hml, hown, hts⟩ (c_mdOut l Z _ _ _ _ _ _ _ _ _ _ _ _ _ _ _ _ _ _ ha hco hls hsc hns hso h66 (by omega) (by omega)) (cwV 3 hts gX8_book_X8_measuredDays rfl rfl rfl (by decide +kernel) ⟨Nat.le_of_ble_eq_true rfl, Nat.le_of_ble_eq_true rfl⟩) (dz_P.preV hE hS hG hco rfl ha) rfl rfl hl.1 rfl (lv_room (Nat.le_of_ble_eq_true rfl)) dX8_book_60 ⟨Nat.le_of_ble_eq_true rfl, Nat.le_of_ble_eq_true rfl⟩) ?_
  refine lv_topi (fun v_3 ev_3 => ?_)
  obtain rfl : v_3 = (-1) := ev_3
  refine lv_istore (lv' := [(6, .int (-1)), (5, .ref (ad (11, sc))), (0, .ref aX), (1, .int (nI k)), (2, .int (nI sc)), (3, .int (nI rk)), (4, .int (nI ot))]) hx hb dX8_book_63 hl (by decide) rfl (fun ls hl => ?_)
  refine lv_aload_n hx hb dX8_book_65 rfl (lv_at hl 2 rfl) ?_
  refine lv_aload hx hb dX8_book_66 (lv_at hl 1 rfl) ?_
  refine lv_iload hx hb dX8_book_68 (lv_at hl 6 rfl) ?_
  refine dz_kRi (va_runV (As := [_, _]) ⟨hx, hb, hml, hown, hts⟩ (c_X8_wayOf l Z _ _ _ _ _ _ _ _ _ _ _ _ jo _ _ _ _ _ _ _  ha hco hso hpl hR.1 hc hw hot hcn hio hjo) (cwV 2 hts gX8_book_X8_wayOf rfl rfl rfl (by decide +kernel) ⟨Nat.le_of_ble_eq_true rfl, Nat.le_of_ble_eq_true rfl⟩) (dz_P.preV hE hS hG hco rfl ha) rfl rfl hl.1 rfl (lv_room (Nat.le_of_ble_eq_true rfl)) dX8_book_70 ⟨Nat.le_of_ble_eq_true rfl, Nat.le_of_ble_eq_true rfl⟩) ?_
  refine lv_topi (fun v_4 ev_4 => ?_)
  obtain rfl : v_4 = fw jo := ev_4
  refine lv_aload_n hx hb dX8_book_73 rfl (lv_at hl 2 rfl) ?_
  refine lv_aload hx hb dX8_book_74 (lv_at hl 1 rfl) ?_
  refine lv_iload_n hx hb dX8_book_76 rfl (lv_at hl 5 rfl) ?_
  refine dz_kRi (va_runV (As := [_, _]) ⟨hx, hb, hml, hown, hts⟩ (c_X8_wayOf l Z _ _ _ _ _ _ _ _ _ _ _ _ j _ _ _ _ _ _ _  ha hco hso hpl hR.1 hc hw hrk hcn hij hjj) (cwV 2 hts gX8_book_X8_wayOf rfl rfl rfl (by decide +kernel) ⟨Nat.le_of_ble_eq_true rfl, Nat.le_of_ble_eq_true rfl⟩) (dz_P.preV hE hS hG hco rfl ha) rfl rfl hl.1 rfl (lv_room (Nat.le_of_ble_eq_true rfl)) dX8_book_77 ⟨Nat.le_of_ble_eq_true rfl, Nat.le_of_ble_eq_true rfl⟩) ?_
  refine lv_topi (fun v_5 ev_5 => ?_)
  obtain rfl : v_5 = fw j := ev_5
  refine lv_isub hx hb dX8_book_80 ?_
  refine lv_topi (fun v_6 ev_6 => ?_)
  obtain rfl : v_6 = (fw jo - fw j) := ev_6
  refine lv_istore (lv' := [(7, .int (fw jo - fw j)), (6, .int (-1)), (5, .ref (ad (11, sc))), (0, .ref aX), (1, .int (nI k)), (2, .int (nI sc)), (3, .int (nI rk)), (4, .int (nI ot))]) hx hb dX8_book_81 hl (by decide) rfl (fun ls hl => ?_)
  refine lv_iload hx hb dX8_book_83 (lv_at hl 1 rfl) ?_
  refine lv_if_le (tgt := 93) hx hb dX8_book_85 (by decide) (fun c_85 => ?_) (fun c_85 => absurd (by decide) c_85)
  refine lv_iconst (v := (-1)) hx hb dX8_book_93 (by decide) ?_
  refine lv_goto (tgt := 105) hx hb dX8_book_94 (by decide) ?_
  refine lv_topi (fun v_7 ev_7 => ?_)
  obtain rfl : v_7 = (if (-1) ≤ 0 ∨ (fw jo - fw j) ≤ 0 then -1 else (fw jo - fw j) * 20 / (-1)) := ev_7.trans (if_pos (Or.inl (by decide))).symm
  refine lv_istore (lv' := [(8, .int (if (-1) ≤ 0 ∨ (fw jo - fw j) ≤ 0 then -1 else (fw jo - fw j) * 20 / (-1))), (7, .int (fw jo - fw j)), (6, .int (-1)), (5, .ref (ad (11, sc))), (0, .ref aX), (1, .int (nI k)), (2, .int (nI sc)), (3, .int (nI rk)), (4, .int (nI ot))]) hx hb dX8_book_105 hl (by decide) rfl (fun ls hl => ?_)
  refine lv_aload_n hx hb dX8_book_107 rfl (lv_at hl 4 rfl) ?_
  refine dz_get hx hb hts (fun _ h => List.mem_cons_of_mem _ (List.mem_append_left _ (List.mem_append_left _ (List.mem_append_left _ (List.mem_append_left _ (List.mem_append_left _ (List.mem_append_left _ (List.mem_append_left _ (List.mem_append_left _ (List.mem_append_right _ h)))))))))) hown hE hG ha hco rfl 5 (by decide) (hts _ (List.mem_of_getElem? (i := 5) rfl)) (fun _ h9 => h9) rfl dX8_book_108 ?_
  refine lv_iload_n hx hb dX8_book_111 rfl (lv_at hl 5 rfl) ?_
  refine lv_iload hx hb dX8_book_112 (lv_at hl 0 rfl) ?_
  refine lv_aload_n hx hb dX8_book_114 rfl (lv_at hl 4 rfl) ?_
  refine dz_get hx hb hts (fun _ h => List.mem_cons_of_mem _ (List.mem_append_left _ (List.mem_append_left _ (List.mem_append_left _ (List.mem_append_left _ (List.mem_append_left _ (List.mem_append_left _ (List.mem_append_left _ (List.mem_append_left _ (List.mem_append_right _ h)))))))))) hown hE hG ha hco rfl 0 (by decide) (hts _ (List.mem_of_getElem? (i := 6) rfl)) (fun _ h9 => h9) rfl dX8_book_115 ?_
  refine dz_kRi (va_runV (As := []) ⟨hx, hb, hml, hown, hts⟩ (c_X5_count l Z _ _ _ _ _ _ _ _ rfl hR hN) (cwV 0 hts gX8_book_X5_count rfl rfl rfl (by decide +kernel) ⟨Nat.le_of_ble_eq_true rfl, Nat.le_of_ble_eq_true rfl⟩) (dz_P.preV hE hS hG hR.1 rfl rfl) rfl rfl hl.1 rfl (lv_room (Nat.le_of_ble_eq_true rfl)) dX8_book_118 ⟨Nat.le_of_ble_eq_true rfl, Nat.le_of_ble_eq_true rfl⟩) ?_
  refine lv_topi (fun v_8 ev_8 => ?_)
  obtain rfl : v_8 = nI nm := ev_8
  refine dz_kMi (va_runV (As := [_, _, _]) ⟨hx, hb, hml, hown, hts⟩ (c_X1_add l Z _ _ _ _ _ _ _ _ _ _ rfl hbo hgr hma hk) (cwV 3 hts gX8_book_X1_add rfl rfl rfl (by decide +kernel) ⟨Nat.le_of_ble_eq_true rfl, Nat.le_of_ble_eq_true rfl⟩) (dz_P.preV hE hS hG hbo rfl rfl) rfl rfl hl.1 rfl (lv_room (Nat.le_of_ble_eq_true rfl)) dX8_book_121 ⟨Nat.le_of_ble_eq_true rfl, Nat.le_of_ble_eq_true rfl⟩) hS (fun x_121_1 G_121_1 ad_121_1 H locs hp_121_1 hG hS => ?_)
  obtain ⟨fr_121_1, rfl, xx, o_121_1, g_121_1, m_121_1⟩ := hp_121_1
  refine W.widen (k := 0) (n := 0) (by first | omega | decide) (by first | omega | decide) ?_
  refine W.iret hx hb hrt (fun t ht hW => dz_endM (f := rv_i) _ hE hS hG ?_ ht hW) (fun q h => hS.2.2 q h) dX8_book_124
  refine ⟨fun r9 n_0 n_1 n_2 => (fr_121_1 r9 n_0 n_1 n_2), rfl, ?_⟩
  exact ⟨xx, o_121_1, g_121_1, m_121_1⟩
