set_option maxHeartbeats 4000000 in
set_option maxRecDepth 100000 in
theorem c_X9_anew (l : Launch) (Z : dzG) (G : dzW) (ad : dzA) (aM nm ns nl nx nf my : Nat) (th dy td ssf sst cfr grw bkk iop : Int32) (f3 f4 f5 f6 f8 f9 f10 : Nat → Int32) (ha : ad (39, 0) = aM) (ho : G (39, 0) = some (eO 10 [.int th, .int dy, .int (nI nm), .ref (ad (40, 3)), .ref (ad (40, 4)), .ref (ad (40, 5)), .ref (ad (40, 6)), .int td, .ref (ad (40, 8)), .ref (ad (40, 9)), .ref (ad (40, 10)), .int (nI ns), .ref (ad (40, 12)), .ref (ad (40, 13)), .ref (ad (40, 14)), .int (nI nl), .ref (ad (40, 16)), .ref (ad (40, 17)), .ref (ad (40, 18)), .int (nI nx), .ref (ad (40, 20)), .ref (ad (40, 21)), .ref (ad (40, 22)), .ref (ad (40, 23)), .ref (ad (40, 24)), .int ssf, .int sst, .int cfr, .int grw, .int (nI nf), .ref (ad (40, 30)), .ref (ad (40, 31)), .int bkk, .ref (ad (40, 33)), .ref (ad (40, 34)), .ref (ad (40, 35)), .int iop, .ref (ad (40, 37)), .int (nI my)])) (h3 : G (40, 3) = some (eI Z 6 f3)) (h4 : G (40, 4) = some (eI Z 6 f4)) (h5 : G (40, 5) = some (eI Z 6 f5)) (h6 : G (40, 6) = some (eI Z 6 f6)) (h8 : G (40, 8) = some (eI Z 484 f8)) (h9 : G (40, 9) = some (eI Z 484 f9)) (h10 : G (40, 10) = some (eI Z 484 f10)) (hN : nm ≤ 6) (hok : m_ok nm f4 f5) : dzWr l yX9_anew wsX9_anew 3 74 0 0 Z G ad [.ref aM] rv_v (fun (x : Unit) G1 ad1 => (∀ r9 : dzR, r9 ≠ (39, 0) → r9 ≠ (40, 8) → r9 ≠ (40, 9) → r9 ≠ (40, 10) → G1 r9 = G r9 ∧ ad1 r9 = ad r9) ∧ ad = ad1 ∧ G1 (39, 0) = some (eO 10 [.int th, .int dy, .int (nI nm), .ref (ad (40, 3)), .ref (ad (40, 4)), .ref (ad (40, 5)), .ref (ad (40, 6)), .int (td + 1), .ref (ad (40, 8)), .ref (ad (40, 9)), .ref (ad (40, 10)), .int (nI ns), .ref (ad (40, 12)), .ref (ad (40, 13)), .ref (ad (40, 14)), .int (nI nl), .ref (ad (40, 16)), .ref (ad (40, 17)), .ref (ad (40, 18)), .int (nI 0), .ref (ad (40, 20)), .ref (ad (40, 21)), .ref (ad (40, 22)), .ref (ad (40, 23)), .ref (ad (40, 24)), .int ssf, .int sst, .int cfr, .int grw, .int (nI 0), .ref (ad (40, 30)), .ref (ad (40, 31)), .int bkk, .ref (ad (40, 33)), .ref (ad (40, 34)), .ref (ad (40, 35)), .int iop, .ref (ad (40, 37)), .int (nI my)]) ∧ G1 (40, 8) = some (eI Z 484 (m_bc nm f3 f4 f5 f6)) ∧ G1 (40, 9) = some (eI Z 484 (m_br nm f3 f4 f5 f6)) ∧ G1 (40, 10) = some (eI Z 484 (m_tw nm f3 f4 f5 f6))) := by
  refine Met.ofW (cc := cX9_anew) (maxL := 1) (ret := none) (by decide) rfl ?_
  intro p e s m args below meth c s₁ B hml hv
  obtain ⟨rfl, hG, hE⟩ := hv
  have hx := B.exec
  have hb := B.bytes
  have hrt := B.returns
  have hts := atoms_spec (ws := wsX9_anew) B.pre
  have hown : s.vm.findClass RX9 = some m.cls := findClass_of_methodNamed B.named
  have hlocks := B.notSynchronized
  have hS : va_S (dz_A Z) s.heap s.heap [] := va_S.rf
  have hl := lv_entry ([.ref aM]) (n := 1) (Nat.le_of_ble_eq_true rfl)
  rw [lg_entry_eq]
  generalize (lg_sl ([.ref aM]) ++ List.replicate (1 - (lg_sl ([.ref aM])).length) Slot.unset).toArray = ls at hl ⊢
  have hl : lv_has ls 1 [(0, .ref aM)] := hl
  refine lv_aload_n hx hb dX9_anew_0 rfl (lv_at hl 0 rfl) ?_
  refine lv_dup hx hb dX9_anew_1 rfl ?_
  refine dz_get hx hb hts (fun _ h => List.mem_cons_of_mem _ (List.mem_append_right _ h)) hown hE hG ha ho rfl 7 (by decide) (hts _ (List.mem_of_getElem? (i := 1) rfl)) (fun _ h9 => h9) rfl dX9_anew_2 ?_
  refine lv_iconst (v := 1) hx hb dX9_anew_5 (by decide) ?_
  refine lv_iadd hx hb dX9_anew_6 ?_
  refine lv_topi (fun v_1 ev_1 => ?_)
  obtain rfl : v_1 = td + 1 := ev_1
  refine dz_put hx hb hts (fun _ h => List.mem_cons_of_mem _ (List.mem_append_right _ h)) tyX9 tyX9_ok nmX9 hown hE hG ha hS ho rfl 7 (by decide) (hts _ (List.mem_of_getElem? (i := 1) rfl)) (fun _ h9 => h9) rfl (ty := .int) (by decide +kernel) rfl rfl (fs' := [.int th, .int dy, .int (nI nm), .ref (ad (40, 3)), .ref (ad (40, 4)), .ref (ad (40, 5)), .ref (ad (40, 6)), .int (td + 1), .ref (ad (40, 8)), .ref (ad (40, 9)), .ref (ad (40, 10)), .int (nI ns), .ref (ad (40, 12)), .ref (ad (40, 13)), .ref (ad (40, 14)), .int (nI nl), .ref (ad (40, 16)), .ref (ad (40, 17)), .ref (ad (40, 18)), .int (nI nx), .ref (ad (40, 20)), .ref (ad (40, 21)), .ref (ad (40, 22)), .ref (ad (40, 23)), .ref (ad (40, 24)), .int ssf, .int sst, .int cfr, .int grw, .int (nI nf), .ref (ad (40, 30)), .ref (ad (40, 31)), .int bkk, .ref (ad (40, 33)), .ref (ad (40, 34)), .ref (ad (40, 35)), .int iop, .ref (ad (40, 37)), .int (nI my)]) rfl (Nat.le_of_ble_eq_true rfl) dX9_anew_7 (fun H locs hG hS => ?_)
  obtain ⟨G_1, hG, w_1, o_1⟩ := dz_nm hG
  refine lv_aload_n hx hb dX9_anew_10 rfl (lv_at hl 0 rfl) ?_
  refine lv_iconst (v := 0) hx hb dX9_anew_11 (by decide) ?_
  refine dz_put hx hb hts (fun _ h => List.mem_cons_of_mem _ (List.mem_append_right _ h)) tyX9 tyX9_ok nmX9 hown hE hG ha hS w_1 rfl 29 (by decide) (hts _ (List.mem_of_getElem? (i := 2) rfl)) (fun _ h9 => h9) rfl (ty := .int) (by decide +kernel) rfl rfl (fs' := [.int th, .int dy, .int (nI nm), .ref (ad (40, 3)), .ref (ad (40, 4)), .ref (ad (40, 5)), .ref (ad (40, 6)), .int (td + 1), .ref (ad (40, 8)), .ref (ad (40, 9)), .ref (ad (40, 10)), .int (nI ns), .ref (ad (40, 12)), .ref (ad (40, 13)), .ref (ad (40, 14)), .int (nI nl), .ref (ad (40, 16)), .ref (ad (40, 17)), .ref (ad (40, 18)), .int (nI nx), .ref (ad (40, 20)), .ref (ad (40, 21)), .ref (ad (40, 22)), .ref (ad (40, 23)), .ref (ad (40, 24)), .int ssf, .int sst, .int cfr, .int grw, .int 0, .ref (ad (40, 30)), .ref (ad (40, 31)), .int bkk, .ref (ad (40, 33)), .ref (ad (40, 34)), .ref (ad (40, 35)), .int iop, .ref (ad (40, 37)), .int (nI my)]) rfl (Nat.le_of_ble_eq_true rfl) dX9_anew_12 (fun H locs hG hS => ?_)
  obtain ⟨G_2, hG, w_2, o_2⟩ := dz_nm hG
  refine lv_aload_n hx hb dX9_anew_15 rfl (lv_at hl 0 rfl) ?_
  refine lv_iconst (v := 0) hx hb dX9_anew_16 (by decide) ?_
  refine dz_put hx hb hts (fun _ h => List.mem_cons_of_mem _ (List.mem_append_right _ h)) tyX9 tyX9_ok nmX9 hown hE hG ha hS w_2 rfl 19 (by decide) (hts _ (List.mem_of_getElem? (i := 3) rfl)) (fun _ h9 => h9) rfl (ty := .int) (by decide +kernel) rfl rfl (fs' := [.int th, .int dy, .int (nI nm), .ref (ad (40, 3)), .ref (ad (40, 4)), .ref (ad (40, 5)), .ref (ad (40, 6)), .int (td + 1), .ref (ad (40, 8)), .ref (ad (40, 9)), .ref (ad (40, 10)), .int (nI ns), .ref (ad (40, 12)), .ref (ad (40, 13)), .ref (ad (40, 14)), .int (nI nl), .ref (ad (40, 16)), .ref (ad (40, 17)), .ref (ad (40, 18)), .int 0, .ref (ad (40, 20)), .ref (ad (40, 21)), .ref (ad (40, 22)), .ref (ad (40, 23)), .ref (ad (40, 24)), .int ssf, .int sst, .int cfr, .int grw, .int 0, .ref (ad (40, 30)), .ref (ad (40, 31)), .int bkk, .ref (ad (40, 33)), .ref (ad (40, 34)), .ref (ad (40, 35)), .int iop, .ref (ad (40, 37)), .int (nI my)]) rfl (Nat.le_of_ble_eq_true rfl) dX9_anew_17 (fun H locs hG hS => ?_)
  obtain ⟨G_3, hG, w_3, o_3⟩ := dz_nm hG
  refine lv_aload_n hx hb dX9_anew_20 rfl (lv_at hl 0 rfl) ?_
  refine dz_kMv (va_runV (As := []) ⟨hx, hb, hml, hown, hts⟩ (c_X9_shoot l Z _ _ _ _ _ _ 0 0 _ _ _ _ _ _ _ _ _ _ _ _ _ _ _ _ _  ha w_3 ((o_3 _ (dz_n rfl)).1.trans ((o_2 _ (dz_n rfl)).1.trans ((o_1 _ (dz_n rfl)).1.trans h3))) ((o_3 _ (dz_n rfl)).1.trans ((o_2 _ (dz_n rfl)).1.trans ((o_1 _ (dz_n rfl)).1.trans h4))) ((o_3 _ (dz_n rfl)).1.trans ((o_2 _ (dz_n rfl)).1.trans ((o_1 _ (dz_n rfl)).1.trans h5))) ((o_3 _ (dz_n rfl)).1.trans ((o_2 _ (dz_n rfl)).1.trans ((o_1 _ (dz_n rfl)).1.trans h6))) ((o_3 _ (dz_n rfl)).1.trans ((o_2 _ (dz_n rfl)).1.trans ((o_1 _ (dz_n rfl)).1.trans h8))) ((o_3 _ (dz_n rfl)).1.trans ((o_2 _ (dz_n rfl)).1.trans ((o_1 _ (dz_n rfl)).1.trans h9))) ((o_3 _ (dz_n rfl)).1.trans ((o_2 _ (dz_n rfl)).1.trans ((o_1 _ (dz_n rfl)).1.trans h10))) hN hok) (cwV 0 hts gX9_anew_X9_shoot rfl rfl rfl (by decide +kernel) ⟨Nat.le_of_ble_eq_true rfl, Nat.le_of_ble_eq_true rfl⟩) (dz_P.preV hE hS hG w_3 rfl ha) rfl rfl hl.1 rfl (lv_room (Nat.le_of_ble_eq_true rfl)) dX9_anew_21 ⟨Nat.le_of_ble_eq_true rfl, Nat.le_of_ble_eq_true rfl⟩) hS (fun G_21_1 ad_21_1 H locs hp_21_1 hG hS => ?_)
  obtain ⟨fr_21_1, rfl, g_21_1⟩ := hp_21_1
  refine W.widen (k := 0) (n := 0) (by first | omega | decide) (by first | omega | decide) ?_
  refine W.vret hx hb hrt (fun t ht hW => dz_endM (f := rv_v) () hE hS hG ?_ ht hW) (fun q h => hS.2.2 q h) dX9_anew_24
  refine ⟨fun r9 n_0 n_1 n_2 n_3 => (dz_tr (fr_21_1 r9 n_1 n_2 n_3) (dz_tr (o_3 r9 n_0) (dz_tr (o_2 r9 n_0) (o_1 r9 n_0)))), rfl, ?_⟩
  exact ⟨((fr_21_1 _ (dz_n rfl) (dz_n rfl) (dz_n rfl)).1.trans w_3), g_21_1.1, g_21_1.2.1, g_21_1.2.2⟩

set_option maxHeartbeats 4000000 in
set_option maxRecDepth 100000 in
theorem c_X9_put (l : Launch) (Z : dzG) (G : dzW) (ad : dzA) (aM nm ns nl nx nf my : Nat) (th dy td ssf sst cfr grw bkk iop : Int32) (f3 f4 f5 f6 f8 f9 f10 : Nat → Int32) (v1 v2 v3 v4 : Int32) (ha : ad (39, 0) = aM) (ho : G (39, 0) = some (eO 10 [.int th, .int dy, .int (nI nm), .ref (ad (40, 3)), .ref (ad (40, 4)), .ref (ad (40, 5)), .ref (ad (40, 6)), .int td, .ref (ad (40, 8)), .ref (ad (40, 9)), .ref (ad (40, 10)), .int (nI ns), .ref (ad (40, 12)), .ref (ad (40, 13)), .ref (ad (40, 14)), .int (nI nl), .ref (ad (40, 16)), .ref (ad (40, 17)), .ref (ad (40, 18)), .int (nI nx), .ref (ad (40, 20)), .ref (ad (40, 21)), .ref (ad (40, 22)), .ref (ad (40, 23)), .ref (ad (40, 24)), .int ssf, .int sst, .int cfr, .int grw, .int (nI nf), .ref (ad (40, 30)), .ref (ad (40, 31)), .int bkk, .ref (ad (40, 33)), .ref (ad (40, 34)), .ref (ad (40, 35)), .int iop, .ref (ad (40, 37)), .int (nI my)])) (h3 : G (40, 3) = some (eI Z 6 f3)) (h4 : G (40, 4) = some (eI Z 6 f4)) (h5 : G (40, 5) = some (eI Z 6 f5)) (h6 : G (40, 6) = some (eI Z 6 f6)) (h8 : G (40, 8) = some (eI Z 484 f8)) (h9 : G (40, 9) = some (eI Z 484 f9)) (h10 : G (40, 10) = some (eI Z 484 f10)) (hN : nm ≤ 5) (hok : m_ok (nm + 1) (upd f4 nm v2) (upd f5 nm v3)) : dzWr l yX9_put wsX9_put 4 94 0 0 Z G ad [.ref aM, .int v1, .int v2, .int v3, .int v4] rv_v (fun (x : Unit) G1 ad1 => (∀ r9 : dzR, r9 ≠ (39, 0) → r9 ≠ (40, 3) → r9 ≠ (40, 4) → r9 ≠ (40, 5) → r9 ≠ (40, 6) → r9 ≠ (40, 8) → r9 ≠ (40, 9) → r9 ≠ (40, 10) → G1 r9 = G r9 ∧ ad1 r9 = ad r9) ∧ ad = ad1 ∧ G1 (39, 0) = some (eO 10 [.int th, .int dy, .int (nI (nm + 1)), .ref (ad (40, 3)), .ref (ad (40, 4)), .ref (ad (40, 5)), .ref (ad (40, 6)), .int (td + 1), .ref (ad (40, 8)), .ref (ad (40, 9)), .ref (ad (40, 10)), .int (nI ns), .ref (ad (40, 12)), .ref (ad (40, 13)), .ref (ad (40, 14)), .int (nI nl), .ref (ad (40, 16)), .ref (ad (40, 17)), .ref (ad (40, 18)), .int (nI 0), .ref (ad (40, 20)), .ref (ad (40, 21)), .ref (ad (40, 22)), .ref (ad (40, 23)), .ref (ad (40, 24)), .int ssf, .int sst, .int cfr, .int grw, .int (nI 0), .ref (ad (40, 30)), .ref (ad (40, 31)), .int bkk, .ref (ad (40, 33)), .ref (ad (40, 34)), .ref (ad (40, 35)), .int iop, .ref (ad (40, 37)), .int (nI my)]) ∧ G1 (40, 3) = some (eI Z 6 (upd f3 nm v1)) ∧ G1 (40, 4) = some (eI Z 6 (upd f4 nm v2)) ∧ G1 (40, 5) = some (eI Z 6 (upd f5 nm v3)) ∧ G1 (40, 6) = some (eI Z 6 (upd f6 nm v4)) ∧ G1 (40, 8) = some (eI Z 484 (m_bc (nm + 1) (upd f3 nm v1) (upd f4 nm v2) (upd f5 nm v3) (upd f6 nm v4))) ∧ G1 (40, 9) = some (eI Z 484 (m_br (nm + 1) (upd f3 nm v1) (upd f4 nm v2) (upd f5 nm v3) (upd f6 nm v4))) ∧ G1 (40, 10) = some (eI Z 484 (m_tw (nm + 1) (upd f3 nm v1) (upd f4 nm v2) (upd f5 nm v3) (upd f6 nm v4)))) := by
  refine Met.ofW (cc := cX9_put) (maxL := 5) (ret := none) (by decide) rfl ?_
  intro p e s m args below meth c s₁ B hml hv
  obtain ⟨rfl, hG, hE⟩ := hv
  have hx := B.exec
  have hb := B.bytes
  have hrt := B.returns
  have hts := atoms_spec (ws := wsX9_put) B.pre
  have hown : s.vm.findClass RX9 = some m.cls := findClass_of_methodNamed B.named
  have hlocks := B.notSynchronized
  have hS : va_S (dz_A Z) s.heap s.heap [] := va_S.rf
  have hl := lv_entry ([.ref aM, .int v1, .int v2, .int v3, .int v4]) (n := 5) (Nat.le_of_ble_eq_true rfl)
  rw [lg_entry_eq]
  generalize (lg_sl ([.ref aM, .int v1, .int v2, .int v3, .int v4]) ++ List.replicate (5 - (lg_sl ([.ref aM, .int v1, .int v2, .int v3, .int v4])).length) Slot.unset).toArray = ls at hl ⊢
  have hl : lv_has ls 5 [(0, .ref aM), (1, .int v1), (2, .int v2), (3, .int v3), (4, .int v4)] := hl
  refine lv_aload_n hx hb dX9_put_0 rfl (lv_at hl 0 rfl) ?_
  refine dz_get hx hb hts (fun _ h => List.mem_cons_of_mem _ (List.mem_append_right _ h)) hown hE hG ha ho rfl 3 (by decide) (hts _ (List.mem_of_getElem? (i := 1) rfl)) (fun _ h9 => h9) rfl dX9_put_1 ?_
  refine lv_aload_n hx hb dX9_put_4 rfl (lv_at hl 0 rfl) ?_
  refine dz_get hx hb hts (fun _ h => List.mem_cons_of_mem _ (List.mem_append_right _ h)) hown hE hG ha ho rfl 2 (by decide) (hts _ (List.mem_of_getElem? (i := 2) rfl)) (fun _ h9 => h9) rfl dX9_put_5 ?_
  refine lv_iload_n hx hb dX9_put_8 rfl (lv_at hl 1 rfl) ?_
  refine dz_iast hx hb hE hG rfl hS h3 (vp_in_nI (by omega) (by decide)) dX9_put_9 (fun H locs hG hS => ?_)
  rw [nI_clamp (show nm < 2 ^ 31 by omega)] at hG
  obtain ⟨G_1, hG, w_1, o_1⟩ := dz_nm hG
  refine lv_aload_n hx hb dX9_put_10 rfl (lv_at hl 0 rfl) ?_
  refine dz_get hx hb hts (fun _ h => List.mem_cons_of_mem _ (List.mem_append_right _ h)) hown hE hG ((o_1 _ (dz_n rfl)).2.trans ha) ((o_1 _ (dz_n rfl)).1.trans ho) rfl 4 (by decide) (hts _ (List.mem_of_getElem? (i := 3) rfl)) (fun _ h9 => h9) rfl dX9_put_11 ?_
  refine lv_aload_n hx hb dX9_put_14 rfl (lv_at hl 0 rfl) ?_
  refine dz_get hx hb hts (fun _ h => List.mem_cons_of_mem _ (List.mem_append_right _ h)) hown hE hG ((o_1 _ (dz_n rfl)).2.trans ha) ((o_1 _ (dz_n rfl)).1.trans ho) rfl 2 (by decide) (hts _ (List.mem_of_getElem? (i := 2) rfl)) (fun _ h9 => h9) rfl dX9_put_15 ?_
  refine lv_iload_n hx hb dX9_put_18 rfl (lv_at hl 2 rfl) ?_
  refine dz_iast hx hb hE hG ((o_1 _ (dz_n2 (by decide))).2.trans rfl) hS ((o_1 _ (dz_n2 (by decide))).1.trans h4) (vp_in_nI (by omega) (by decide)) dX9_put_19 (fun H locs hG hS => ?_)
  rw [nI_clamp (show nm < 2 ^ 31 by omega)] at hG
  obtain ⟨G_2, hG, w_2, o_2⟩ := dz_nm hG
  refine lv_aload_n hx hb dX9_put_20 rfl (lv_at hl 0 rfl) ?_
  refine dz_get hx hb hts (fun _ h => List.mem_cons_of_mem _ (List.mem_append_right _ h)) hown hE hG ((o_2 _ (dz_n rfl)).2.trans ((o_1 _ (dz_n rfl)).2.trans ha)) ((o_2 _ (dz_n rfl)).1.trans ((o_1 _ (dz_n rfl)).1.trans ho)) rfl 5 (by decide) (hts _ (List.mem_of_getElem? (i := 4) rfl)) (fun _ h9 => h9) rfl dX9_put_21 ?_
  refine lv_aload_n hx hb dX9_put_24 rfl (lv_at hl 0 rfl) ?_
  refine dz_get hx hb hts (fun _ h => List.mem_cons_of_mem _ (List.mem_append_right _ h)) hown hE hG ((o_2 _ (dz_n rfl)).2.trans ((o_1 _ (dz_n rfl)).2.trans ha)) ((o_2 _ (dz_n rfl)).1.trans ((o_1 _ (dz_n rfl)).1.trans ho)) rfl 2 (by decide) (hts _ (List.mem_of_getElem? (i := 2) rfl)) (fun _ h9 => h9) rfl dX9_put_25 ?_
  refine lv_iload_n hx hb dX9_put_28 rfl (lv_at hl 3 rfl) ?_
  refine dz_iast hx hb hE hG ((o_2 _ (dz_n2 (by decide))).2.trans ((o_1 _ (dz_n2 (by decide))).2.trans rfl)) hS ((o_2 _ (dz_n2 (by decide))).1.trans ((o_1 _ (dz_n2 (by decide))).1.trans h5)) (vp_in_nI (by omega) (by decide)) dX9_put_29 (fun H locs hG hS => ?_)
  rw [nI_clamp (show nm < 2 ^ 31 by omega)] at hG
  obtain ⟨G_3, hG, w_3, o_3⟩ := dz_nm hG
  refine lv_aload_n hx hb dX9_put_30 rfl (lv_at hl 0 rfl) ?_
  refine dz_get hx hb hts (fun _ h => List.mem_cons_of_mem _ (List.mem_append_right _ h)) hown hE hG ((o_3 _ (dz_n rfl)).2.trans ((o_2 _ (dz_n rfl)).2.trans ((o_1 _ (dz_n rfl)).2.trans ha))) ((o_3 _ (dz_n rfl)).1.trans ((o_2 _ (dz_n rfl)).1.trans ((o_1 _ (dz_n rfl)).1.trans ho))) rfl 6 (by decide) (hts _ (List.mem_of_getElem? (i := 5) rfl)) (fun _ h9 => h9) rfl dX9_put_31 ?_
  refine lv_aload_n hx hb dX9_put_34 rfl (lv_at hl 0 rfl) ?_
  refine dz_get hx hb hts (fun _ h => List.mem_cons_of_mem _ (List.mem_append_right _ h)) hown hE hG ((o_3 _ (dz_n rfl)).2.trans ((o_2 _ (dz_n rfl)).2.trans ((o_1 _ (dz_n rfl)).2.trans ha))) ((o_3 _ (dz_n rfl)).1.trans ((o_2 _ (dz_n rfl)).1.trans ((o_1 _ (dz_n rfl)).1.trans ho))) rfl 2 (by decide) (hts _ (List.mem_of_getElem? (i := 2) rfl)) (fun _ h9 => h9) rfl dX9_put_35 ?_
  refine lv_iload hx hb dX9_put_38 (lv_at hl 4 rfl) ?_
  refine dz_iast hx hb hE hG ((o_3 _ (dz_n2 (by decide))).2.trans ((o_2 _ (dz_n2 (by decide))).2.trans ((o_1 _ (dz_n2 (by decide))).2.trans rfl))) hS ((o_3 _ (dz_n2 (by decide))).1.trans ((o_2 _ (dz_n2 (by decide))).1.trans ((o_1 _ (dz_n2 (by decide))).1.trans h6))) (vp_in_nI (by omega) (by decide)) dX9_put_40 (fun H locs hG hS => ?_)
  rw [nI_clamp (show nm < 2 ^ 31 by omega)] at hG
  obtain ⟨G_4, hG, w_4, o_4⟩ := dz_nm hG
  refine lv_aload_n hx hb dX9_put_41 rfl (lv_at hl 0 rfl) ?_
  refine lv_dup hx hb dX9_put_42 rfl ?_
  refine dz_get hx hb hts (fun _ h => List.mem_cons_of_mem _ (List.mem_append_right _ h)) hown hE hG ((o_4 _ (dz_n rfl)).2.trans ((o_3 _ (dz_n rfl)).2.trans ((o_2 _ (dz_n rfl)).2.trans ((o_1 _ (dz_n rfl)).2.trans ha)))) ((o_4 _ (dz_n rfl)).1.trans ((o_3 _ (dz_n rfl)).1.trans ((o_2 _ (dz_n rfl)).1.trans ((o_1 _ (dz_n rfl)).1.trans ho)))) rfl 2 (by decide) (hts _ (List.mem_of_getElem? (i := 2) rfl)) (fun _ h9 => h9) rfl dX9_put_43 ?_
  refine lv_iconst (v := 1) hx hb dX9_put_46 (by decide) ?_
  refine lv_iadd hx hb dX9_put_47 ?_
  refine lv_topi (fun v_1 ev_1 => ?_)
  obtain rfl : v_1 = nI (nm + 1) := ev_1.trans (nI_1 nm)
  refine dz_put hx hb hts (fun _ h => List.mem_cons_of_mem _ (List.mem_append_right _ h)) tyX9 tyX9_ok nmX9 hown hE hG ((o_4 _ (dz_n rfl)).2.trans ((o_3 _ (dz_n rfl)).2.trans ((o_2 _ (dz_n rfl)).2.trans ((o_1 _ (dz_n rfl)).2.trans ha)))) hS ((o_4 _ (dz_n rfl)).1.trans ((o_3 _ (dz_n rfl)).1.trans ((o_2 _ (dz_n rfl)).1.trans ((o_1 _ (dz_n rfl)).1.trans ho)))) rfl 2 (by decide) (hts _ (List.mem_of_getElem? (i := 2) rfl)) (fun _ h9 => h9) rfl (ty := .int) (by decide +kernel) rfl rfl (fs' := [.int th, .int dy, .int (nI (nm + 1)), .ref (ad (40, 3)), .ref (ad (40, 4)), .ref (ad (40, 5)), .ref (ad (40, 6)), .int td, .ref (ad (40, 8)), .ref (ad (40, 9)), .ref (ad (40, 10)), .int (nI ns), .ref (ad (40, 12)), .ref (ad (40, 13)), .ref (ad (40, 14)), .int (nI nl), .ref (ad (40, 16)), .ref (ad (40, 17)), .ref (ad (40, 18)), .int (nI nx), .ref (ad (40, 20)), .ref (ad (40, 21)), .ref (ad (40, 22)), .ref (ad (40, 23)), .ref (ad (40, 24)), .int ssf, .int sst, .int cfr, .int grw, .int (nI nf), .ref (ad (40, 30)), .ref (ad (40, 31)), .int bkk, .ref (ad (40, 33)), .ref (ad (40, 34)), .ref (ad (40, 35)), .int iop, .ref (ad (40, 37)), .int (nI my)]) rfl (Nat.le_of_ble_eq_true rfl) dX9_put_48 (fun H locs hG hS => ?_)
  obtain ⟨G_5, hG, w_5, o_5⟩ := dz_nm hG
  refine lv_aload_n hx hb dX9_put_51 rfl (lv_at hl 0 rfl) ?_
  refine dz_kMv (va_runV (As := []) ⟨hx, hb, hml, hown, hts⟩ (c_X9_anew l Z _ _ _ (nm + 1) _ _ _ _ _ _ _ _ _ _ _ _ _ _ _ _ _ _ _ _ _  ((o_4 _ (dz_n rfl)).2.trans ((o_3 _ (dz_n rfl)).2.trans ((o_2 _ (dz_n rfl)).2.trans ((o_1 _ (dz_n rfl)).2.trans ha)))) w_5 ((o_5 _ (dz_n rfl)).1.trans ((o_4 _ (dz_n2 (by decide))).1.trans ((o_3 _ (dz_n2 (by decide))).1.trans ((o_2 _ (dz_n2 (by decide))).1.trans w_1)))) ((o_5 _ (dz_n rfl)).1.trans ((o_4 _ (dz_n2 (by decide))).1.trans ((o_3 _ (dz_n2 (by decide))).1.trans w_2))) ((o_5 _ (dz_n rfl)).1.trans ((o_4 _ (dz_n2 (by decide))).1.trans w_3)) ((o_5 _ (dz_n rfl)).1.trans w_4) ((o_5 _ (dz_n rfl)).1.trans ((o_4 _ (dz_n2 (by decide))).1.trans ((o_3 _ (dz_n2 (by decide))).1.trans ((o_2 _ (dz_n2 (by decide))).1.trans ((o_1 _ (dz_n2 (by decide))).1.trans h8))))) ((o_5 _ (dz_n rfl)).1.trans ((o_4 _ (dz_n2 (by decide))).1.trans ((o_3 _ (dz_n2 (by decide))).1.trans ((o_2 _ (dz_n2 (by decide))).1.trans ((o_1 _ (dz_n2 (by decide))).1.trans h9))))) ((o_5 _ (dz_n rfl)).1.trans ((o_4 _ (dz_n2 (by decide))).1.trans ((o_3 _ (dz_n2 (by decide))).1.trans ((o_2 _ (dz_n2 (by decide))).1.trans ((o_1 _ (dz_n2 (by decide))).1.trans h10))))) (by omega) hok) (cwV 0 hts gX9_put_X9_anew rfl rfl rfl (by decide +kernel) ⟨Nat.le_of_ble_eq_true rfl, Nat.le_of_ble_eq_true rfl⟩) (dz_P.preV hE hS hG w_5 rfl ((o_4 _ (dz_n rfl)).2.trans ((o_3 _ (dz_n rfl)).2.trans ((o_2 _ (dz_n rfl)).2.trans ((o_1 _ (dz_n rfl)).2.trans ha))))) rfl rfl hl.1 rfl (lv_room (Nat.le_of_ble_eq_true rfl)) dX9_put_52 ⟨Nat.le_of_ble_eq_true rfl, Nat.le_of_ble_eq_true rfl⟩) hS (fun G_52_1 ad_52_1 H locs hp_52_1 hG hS => ?_)
  obtain ⟨fr_52_1, rfl, g_52_1⟩ := hp_52_1
  refine W.widen (k := 0) (n := 0) (by first | omega | decide) (by first | omega | decide) ?_
  refine W.vret hx hb hrt (fun t ht hW => dz_endM (f := rv_v) () hE hS hG ?_ ht hW) (fun q h => hS.2.2 q h) dX9_put_55
  refine ⟨fun r9 n_0 n_1 n_2 n_3 n_4 n_5 n_6 n_7 => (dz_tr (fr_52_1 r9 n_0 n_5 n_6 n_7) (dz_tr (o_5 r9 n_0) (dz_tr (o_4 r9 n_4) (dz_tr (o_3 r9 n_3) (dz_tr (o_2 r9 n_2) (o_1 r9 n_1)))))), rfl, ?_⟩
  exact ⟨g_52_1.1, ((fr_52_1 _ (dz_n rfl) (dz_n2 (by decide)) (dz_n2 (by decide)) (dz_n2 (by decide))).1.trans ((o_5 _ (dz_n rfl)).1.trans ((o_4 _ (dz_n2 (by decide))).1.trans ((o_3 _ (dz_n2 (by decide))).1.trans ((o_2 _ (dz_n2 (by decide))).1.trans w_1))))), ((fr_52_1 _ (dz_n rfl) (dz_n2 (by decide)) (dz_n2 (by decide)) (dz_n2 (by decide))).1.trans ((o_5 _ (dz_n rfl)).1.trans ((o_4 _ (dz_n2 (by decide))).1.trans ((o_3 _ (dz_n2 (by decide))).1.trans w_2)))), ((fr_52_1 _ (dz_n rfl) (dz_n2 (by decide)) (dz_n2 (by decide)) (dz_n2 (by decide))).1.trans ((o_5 _ (dz_n rfl)).1.trans ((o_4 _ (dz_n2 (by decide))).1.trans w_3))), ((fr_52_1 _ (dz_n rfl) (dz_n2 (by decide)) (dz_n2 (by decide)) (dz_n2 (by decide))).1.trans ((o_5 _ (dz_n rfl)).1.trans w_4)), g_52_1.2.1, g_52_1.2.2.1, g_52_1.2.2.2⟩
