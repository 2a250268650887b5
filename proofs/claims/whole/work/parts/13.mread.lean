set_option maxHeartbeats 4000000 in
set_option maxRecDepth 100000 in
theorem c_X9_thrown (l : Launch) (Z : dzG) (G : dzW) (ad : dzA) (aM nm ns nl nx nf my : Nat) (th dy td ssf sst cfr grw bkk iop : Int32) (ha : ad (39, 0) = aM) (ho : G (39, 0) = some (eO 10 [.int th, .int dy, .int (nI nm), .ref (ad (40, 3)), .ref (ad (40, 4)), .ref (ad (40, 5)), .ref (ad (40, 6)), .int td, .ref (ad (40, 8)), .ref (ad (40, 9)), .ref (ad (40, 10)), .int (nI ns), .ref (ad (40, 12)), .ref (ad (40, 13)), .ref (ad (40, 14)), .int (nI nl), .ref (ad (40, 16)), .ref (ad (40, 17)), .ref (ad (40, 18)), .int (nI nx), .ref (ad (40, 20)), .ref (ad (40, 21)), .ref (ad (40, 22)), .ref (ad (40, 23)), .ref (ad (40, 24)), .int ssf, .int sst, .int cfr, .int grw, .int (nI nf), .ref (ad (40, 30)), .ref (ad (40, 31)), .int bkk, .ref (ad (40, 33)), .ref (ad (40, 34)), .ref (ad (40, 35)), .int iop, .ref (ad (40, 37)), .int (nI my)])) : dzRd l yX9_thrown wsX9_thrown 0 0 Z G ad [.ref aM] (some (.int th)) := by
  refine Met.ofW (cc := cX9_thrown) (maxL := 1) (ret := (some .int)) (by decide) rfl ?_
  intro p e s m args below meth c s₁ B hml hv
  obtain ⟨rfl, hG, hE⟩ := hv
  have hx := B.exec
  have hb := B.bytes
  have hrt := B.returns
  have hts := atoms_spec (ws := wsX9_thrown) B.pre
  have hown : s.vm.findClass RX9 = some m.cls := findClass_of_methodNamed B.named
  have hlocks := B.notSynchronized
  have hS : va_S (dz_A Z) s.heap s.heap [] := va_S.rf
  have hl := lv_entry ([.ref aM]) (n := 1) (Nat.le_of_ble_eq_true rfl)
  rw [lg_entry_eq]
  generalize (lg_sl ([.ref aM]) ++ List.replicate (1 - (lg_sl ([.ref aM])).length) Slot.unset).toArray = ls at hl ⊢
  have hl : lv_has ls 1 [(0, .ref aM)] := hl
  refine lv_aload_n hx hb dX9_thrown_0 rfl (lv_at hl 0 rfl) ?_
  refine dz_get hx hb hts (fun _ h => List.mem_cons_of_mem _ (List.mem_append_right _ h)) hown hE hG ha ho rfl 0 (by decide) (hts _ (List.mem_of_getElem? (i := 1) rfl)) (fun _ h9 => h9) rfl dX9_thrown_1 ?_
  refine W.iret hx hb hrt (fun t ht hW => ⟨congrArg (fun x => Outcome.returned (some (Value.int x))) ?_, ht⟩) (fun _ h => by cases h) dX9_thrown_4
  rfl

set_option maxHeartbeats 4000000 in
set_option maxRecDepth 100000 in
theorem c_X9_refused (l : Launch) (Z : dzG) (G : dzW) (ad : dzA) (aM nm ns nl nx nf my : Nat) (th dy td ssf sst cfr grw bkk iop : Int32) (v : Int32) (ha : ad (39, 0) = aM) (ho : G (39, 0) = some (eO 10 [.int th, .int dy, .int (nI nm), .ref (ad (40, 3)), .ref (ad (40, 4)), .ref (ad (40, 5)), .ref (ad (40, 6)), .int td, .ref (ad (40, 8)), .ref (ad (40, 9)), .ref (ad (40, 10)), .int (nI ns), .ref (ad (40, 12)), .ref (ad (40, 13)), .ref (ad (40, 14)), .int (nI nl), .ref (ad (40, 16)), .ref (ad (40, 17)), .ref (ad (40, 18)), .int (nI nx), .ref (ad (40, 20)), .ref (ad (40, 21)), .ref (ad (40, 22)), .ref (ad (40, 23)), .ref (ad (40, 24)), .int ssf, .int sst, .int cfr, .int grw, .int (nI nf), .ref (ad (40, 30)), .ref (ad (40, 31)), .int bkk, .ref (ad (40, 33)), .ref (ad (40, 34)), .ref (ad (40, 35)), .int iop, .ref (ad (40, 37)), .int (nI my)])) : dzWr l yX9_refused wsX9_refused 0 0 0 0 Z G ad [.ref aM, .int v] rv_i (fun (x : Int32) G1 ad1 => (∀ r9 : dzR, r9 ≠ (39, 0) → G1 r9 = G r9 ∧ ad1 r9 = ad r9) ∧ ad = ad1 ∧ x = dz_b (¬ v = 0) ∧ G1 (39, 0) = some (eO 10 [.int v, .int dy, .int (nI nm), .ref (ad (40, 3)), .ref (ad (40, 4)), .ref (ad (40, 5)), .ref (ad (40, 6)), .int td, .ref (ad (40, 8)), .ref (ad (40, 9)), .ref (ad (40, 10)), .int (nI ns), .ref (ad (40, 12)), .ref (ad (40, 13)), .ref (ad (40, 14)), .int (nI nl), .ref (ad (40, 16)), .ref (ad (40, 17)), .ref (ad (40, 18)), .int (nI nx), .ref (ad (40, 20)), .ref (ad (40, 21)), .ref (ad (40, 22)), .ref (ad (40, 23)), .ref (ad (40, 24)), .int ssf, .int sst, .int cfr, .int grw, .int (nI nf), .ref (ad (40, 30)), .ref (ad (40, 31)), .int bkk, .ref (ad (40, 33)), .ref (ad (40, 34)), .ref (ad (40, 35)), .int iop, .ref (ad (40, 37)), .int (nI my)])) := by
  refine Met.ofW (cc := cX9_refused) (maxL := 2) (ret := (some .boolean)) (by decide) rfl ?_
  intro p e s m args below meth c s₁ B hml hv
  obtain ⟨rfl, hG, hE⟩ := hv
  have hx := B.exec
  have hb := B.bytes
  have hrt := B.returns
  have hts := atoms_spec (ws := wsX9_refused) B.pre
  have hown : s.vm.findClass RX9 = some m.cls := findClass_of_methodNamed B.named
  have hlocks := B.notSynchronized
  have hS : va_S (dz_A Z) s.heap s.heap [] := va_S.rf
  have hl := lv_entry ([.ref aM, .int v]) (n := 2) (Nat.le_of_ble_eq_true rfl)
  rw [lg_entry_eq]
  generalize (lg_sl ([.ref aM, .int v]) ++ List.replicate (2 - (lg_sl ([.ref aM, .int v])).length) Slot.unset).toArray = ls at hl ⊢
  have hl : lv_has ls 2 [(0, .ref aM), (1, .int v)] := hl
  refine lv_aload_n hx hb dX9_refused_0 rfl (lv_at hl 0 rfl) ?_
  refine lv_iload_n hx hb dX9_refused_1 rfl (lv_at hl 1 rfl) ?_
  refine dz_put hx hb hts (fun _ h => List.mem_cons_of_mem _ (List.mem_append_right _ h)) tyX9 tyX9_ok nmX9 hown hE hG ha hS ho rfl 0 (by decide) (hts _ (List.mem_of_getElem? (i := 1) rfl)) (fun _ h9 => h9) rfl (ty := .int) (by decide +kernel) rfl rfl (fs' := [.int v, .int dy, .int (nI nm), .ref (ad (40, 3)), .ref (ad (40, 4)), .ref (ad (40, 5)), .ref (ad (40, 6)), .int td, .ref (ad (40, 8)), .ref (ad (40, 9)), .ref (ad (40, 10)), .int (nI ns), .ref (ad (40, 12)), .ref (ad (40, 13)), .ref (ad (40, 14)), .int (nI nl), .ref (ad (40, 16)), .ref (ad (40, 17)), .ref (ad (40, 18)), .int (nI nx), .ref (ad (40, 20)), .ref (ad (40, 21)), .ref (ad (40, 22)), .ref (ad (40, 23)), .ref (ad (40, 24)), .int ssf, .int sst, .int cfr, .int grw, .int (nI nf), .ref (ad (40, 30)), .ref (ad (40, 31)), .int bkk, .ref (ad (40, 33)), .ref (ad (40, 34)), .ref (ad (40, 35)), .int iop, .ref (ad (40, 37)), .int (nI my)]) rfl (Nat.le_of_ble_eq_true rfl) dX9_refused_2 (fun H locs hG hS => ?_)
  obtain ⟨G_1, hG, w_1, o_1⟩ := dz_nm hG
  refine lv_iload_n hx hb dX9_refused_5 rfl (lv_at hl 1 rfl) ?_
  refine lv_if_eq (tgt := 13) hx hb dX9_refused_6 (by decide) (fun c_6 => ?_) (fun c_6 => ?_)
  · refine lv_iconst (v := 0) hx hb dX9_refused_13 (by decide) ?_
    refine W.widen (k := 0) (n := 0) (by first | omega | decide) (by first | omega | decide) ?_
    refine W.zret hx hb hrt (by decide) (fun t ht hW => dz_endM (f := rv_i) _ hE hS hG ?_ ht hW) (fun q h => hS.2.2 q h) dX9_refused_14
    refine ⟨fun r9 n_0 => (o_1 r9 n_0), rfl, ?_⟩
    first | exact ⟨(dz_b0 (fun z => z c_6)).symm, w_1⟩ | exact ⟨(dz_b1 c_6).symm, w_1⟩
  · refine lv_iconst (v := 1) hx hb dX9_refused_9 (by decide) ?_
    refine lv_goto (tgt := 14) hx hb dX9_refused_10 (by decide) ?_
    refine W.widen (k := 0) (n := 0) (by first | omega | decide) (by first | omega | decide) ?_
    refine W.zret hx hb hrt (by decide) (fun t ht hW => dz_endM (f := rv_i) _ hE hS hG ?_ ht hW) (fun q h => hS.2.2 q h) dX9_refused_14
    refine ⟨fun r9 n_0 => (o_1 r9 n_0), rfl, ?_⟩
    first | exact ⟨(dz_b0 (fun z => z c_6)).symm, w_1⟩ | exact ⟨(dz_b1 c_6).symm, w_1⟩

set_option maxHeartbeats 4000000 in
set_option maxRecDepth 100000 in
theorem c_X9_columnFrom (l : Launch) (Z : dzG) (G : dzW) (ad : dzA) (aM nm ns nl nx nf my : Nat) (th dy td ssf sst cfr grw bkk iop : Int32) (f8 : Nat → Int32) (j : Nat) (ha : ad (39, 0) = aM) (ho : G (39, 0) = some (eO 10 [.int th, .int dy, .int (nI nm), .ref (ad (40, 3)), .ref (ad (40, 4)), .ref (ad (40, 5)), .ref (ad (40, 6)), .int td, .ref (ad (40, 8)), .ref (ad (40, 9)), .ref (ad (40, 10)), .int (nI ns), .ref (ad (40, 12)), .ref (ad (40, 13)), .ref (ad (40, 14)), .int (nI nl), .ref (ad (40, 16)), .ref (ad (40, 17)), .ref (ad (40, 18)), .int (nI nx), .ref (ad (40, 20)), .ref (ad (40, 21)), .ref (ad (40, 22)), .ref (ad (40, 23)), .ref (ad (40, 24)), .int ssf, .int sst, .int cfr, .int grw, .int (nI nf), .ref (ad (40, 30)), .ref (ad (40, 31)), .int bkk, .ref (ad (40, 33)), .ref (ad (40, 34)), .ref (ad (40, 35)), .int iop, .ref (ad (40, 37)), .int (nI my)])) (h8 : G (40, 8) = some (eI Z 484 f8)) (hj : j < 484) : dzRd l yX9_columnFrom wsX9_columnFrom 0 0 Z G ad [.ref aM, .int (nI j)] (some (.int (m_pc j - f8 j))) := by
  refine Met.ofW (cc := cX9_columnFrom) (maxL := 2) (ret := (some .int)) (by decide) rfl ?_
  intro p e s m args below meth c s₁ B hml hv
  obtain ⟨rfl, hG, hE⟩ := hv
  have hx := B.exec
  have hb := B.bytes
  have hrt := B.returns
  have hts := atoms_spec (ws := wsX9_columnFrom) B.pre
  have hown : s.vm.findClass RX9 = some m.cls := findClass_of_methodNamed B.named
  have hlocks := B.notSynchronized
  have hS : va_S (dz_A Z) s.heap s.heap [] := va_S.rf
  have hl := lv_entry ([.ref aM, .int (nI j)]) (n := 2) (Nat.le_of_ble_eq_true rfl)
  rw [lg_entry_eq]
  generalize (lg_sl ([.ref aM, .int (nI j)]) ++ List.replicate (2 - (lg_sl ([.ref aM, .int (nI j)])).length) Slot.unset).toArray = ls at hl ⊢
  have hl : lv_has ls 2 [(0, .ref aM), (1, .int (nI j))] := hl
  refine lv_iload_n hx hb dX9_columnFrom_0 rfl (lv_at hl 1 rfl) ?_
  refine lv_bipush (v := 22) hx hb dX9_columnFrom_1 (by decide) ?_
  refine lv_irem hx hb dX9_columnFrom_3 (by decide) ?_
  refine lv_bipush (v := 10) hx hb dX9_columnFrom_4 (by decide) ?_
  refine lv_isub hx hb dX9_columnFrom_6 ?_
  refine lv_aload_n hx hb dX9_columnFrom_7 rfl (lv_at hl 0 rfl) ?_
  refine dz_get hx hb hts (fun _ h => List.mem_cons_of_mem _ (List.mem_append_right _ h)) hown hE hG ha ho rfl 8 (by decide) (hts _ (List.mem_of_getElem? (i := 1) rfl)) (fun _ h9 => h9) rfl dX9_columnFrom_8 ?_
  refine lv_iload_n hx hb dX9_columnFrom_11 rfl (lv_at hl 1 rfl) ?_
  refine dz_iald hx hb hE hG rfl h8 (vp_in_nI (by omega) (by decide)) dX9_columnFrom_12 ?_
  refine lv_topi (fun v_1 ev_1 => ?_)
  obtain rfl : v_1 = f8 j := ev_1.trans (by rw [nI_clamp (by omega)])
  refine lv_isub hx hb dX9_columnFrom_13 ?_
  refine W.iret hx hb hrt (fun t ht hW => ⟨congrArg (fun x => Outcome.returned (some (Value.int x))) ?_, ht⟩) (fun _ h => by cases h) dX9_columnFrom_14
  rfl

set_option maxHeartbeats 4000000 in
set_option maxRecDepth 100000 in
theorem c_X9_rowFrom (l : Launch) (Z : dzG) (G : dzW) (ad : dzA) (aM nm ns nl nx nf my : Nat) (th dy td ssf sst cfr grw bkk iop : Int32) (f9 : Nat → Int32) (j : Nat) (ha : ad (39, 0) = aM) (ho : G (39, 0) = some (eO 10 [.int th, .int dy, .int (nI nm), .ref (ad (40, 3)), .ref (ad (40, 4)), .ref (ad (40, 5)), .ref (ad (40, 6)), .int td, .ref (ad (40, 8)), .ref (ad (40, 9)), .ref (ad (40, 10)), .int (nI ns), .ref (ad (40, 12)), .ref (ad (40, 13)), .ref (ad (40, 14)), .int (nI nl), .ref (ad (40, 16)), .ref (ad (40, 17)), .ref (ad (40, 18)), .int (nI nx), .ref (ad (40, 20)), .ref (ad (40, 21)), .ref (ad (40, 22)), .ref (ad (40, 23)), .ref (ad (40, 24)), .int ssf, .int sst, .int cfr, .int grw, .int (nI nf), .ref (ad (40, 30)), .ref (ad (40, 31)), .int bkk, .ref (ad (40, 33)), .ref (ad (40, 34)), .ref (ad (40, 35)), .int iop, .ref (ad (40, 37)), .int (nI my)])) (h9 : G (40, 9) = some (eI Z 484 f9)) (hj : j < 484) : dzRd l yX9_rowFrom wsX9_rowFrom 0 0 Z G ad [.ref aM, .int (nI j)] (some (.int (m_pr j - f9 j))) := by
  refine Met.ofW (cc := cX9_rowFrom) (maxL := 2) (ret := (some .int)) (by decide) rfl ?_
  intro p e s m args below meth c s₁ B hml hv
  obtain ⟨rfl, hG, hE⟩ := hv
  have hx := B.exec
  have hb := B.bytes
  have hrt := B.returns
  have hts := atoms_spec (ws := wsX9_rowFrom) B.pre
  have hown : s.vm.findClass RX9 = some m.cls := findClass_of_methodNamed B.named
  have hlocks := B.notSynchronized
  have hS : va_S (dz_A Z) s.heap s.heap [] := va_S.rf
  have hl := lv_entry ([.ref aM, .int (nI j)]) (n := 2) (Nat.le_of_ble_eq_true rfl)
  rw [lg_entry_eq]
  generalize (lg_sl ([.ref aM, .int (nI j)]) ++ List.replicate (2 - (lg_sl ([.ref aM, .int (nI j)])).length) Slot.unset).toArray = ls at hl ⊢
  have hl : lv_has ls 2 [(0, .ref aM), (1, .int (nI j))] := hl
  refine lv_iload_n hx hb dX9_rowFrom_0 rfl (lv_at hl 1 rfl) ?_
  refine lv_bipush (v := 22) hx hb dX9_rowFrom_1 (by decide) ?_
  refine lv_idiv hx hb dX9_rowFrom_3 (by decide) ?_
  refine lv_bipush (v := 10) hx hb dX9_rowFrom_4 (by decide) ?_
  refine lv_isub hx hb dX9_rowFrom_6 ?_
  refine lv_aload_n hx hb dX9_rowFrom_7 rfl (lv_at hl 0 rfl) ?_
  refine dz_get hx hb hts (fun _ h => List.mem_cons_of_mem _ (List.mem_append_right _ h)) hown hE hG ha ho rfl 9 (by decide) (hts _ (List.mem_of_getElem? (i := 1) rfl)) (fun _ h9 => h9) rfl dX9_rowFrom_8 ?_
  refine lv_iload_n hx hb dX9_rowFrom_11 rfl (lv_at hl 1 rfl) ?_
  refine dz_iald hx hb hE hG rfl h9 (vp_in_nI (by omega) (by decide)) dX9_rowFrom_12 ?_
  refine lv_topi (fun v_1 ev_1 => ?_)
  obtain rfl : v_1 = f9 j := ev_1.trans (by rw [nI_clamp (by omega)])
  refine lv_isub hx hb dX9_rowFrom_13 ?_
  refine W.iret hx hb hrt (fun t ht hW => ⟨congrArg (fun x => Outcome.returned (some (Value.int x))) ?_, ht⟩) (fun _ h => by cases h) dX9_rowFrom_14
  rfl

set_option maxHeartbeats 4000000 in
set_option maxRecDepth 100000 in
theorem c_X9_bend (l : Launch) (Z : dzG) (G : dzW) (ad : dzA) (aM nm ns nl nx nf my : Nat) (th dy td ssf sst cfr grw bkk iop : Int32) (f3 f6 : Nat → Int32) (k : Nat) (va vb vy : Int32) (ha : ad (39, 0) = aM) (ho : G (39, 0) = some (eO 10 [.int th, .int dy, .int (nI nm), .ref (ad (40, 3)), .ref (ad (40, 4)), .ref (ad (40, 5)), .ref (ad (40, 6)), .int td, .ref (ad (40, 8)), .ref (ad (40, 9)), .ref (ad (40, 10)), .int (nI ns), .ref (ad (40, 12)), .ref (ad (40, 13)), .ref (ad (40, 14)), .int (nI nl), .ref (ad (40, 16)), .ref (ad (40, 17)), .ref (ad (40, 18)), .int (nI nx), .ref (ad (40, 20)), .ref (ad (40, 21)), .ref (ad (40, 22)), .ref (ad (40, 23)), .ref (ad (40, 24)), .int ssf, .int sst, .int cfr, .int grw, .int (nI nf), .ref (ad (40, 30)), .ref (ad (40, 31)), .int bkk, .ref (ad (40, 33)), .ref (ad (40, 34)), .ref (ad (40, 35)), .int iop, .ref (ad (40, 37)), .int (nI my)])) (h3 : G (40, 3) = some (eI Z 6 f3)) (h6 : G (40, 6) = some (eI Z 6 f6)) (hk : k < 6) (hnn : ¬ (m_abs va + m_abs vb) = 0 → ¬ (m_abs va + m_abs vb) * (m_abs va + m_abs vb) = 0) : dzRd l yX9_bend wsX9_bend 1 20 Z G ad [.ref aM, .int (nI k), .int va, .int vb, .int vy] (some (.int (m_bend (f3 k) (f6 k) vy (m_abs va + m_abs vb)))) := by
  refine Met.ofW (cc := cX9_bend) (maxL := 6) (ret := (some .int)) (by decide) rfl ?_
  intro p e s m args below meth c s₁ B hml hv
  obtain ⟨rfl, hG, hE⟩ := hv
  have hx := B.exec
  have hb := B.bytes
  have hrt := B.returns
  have hts := atoms_spec (ws := wsX9_bend) B.pre
  have hown : s.vm.findClass RX9 = some m.cls := findClass_of_methodNamed B.named
  have hlocks := B.notSynchronized
  have hS : va_S (dz_A Z) s.heap s.heap [] := va_S.rf
  have hl := lv_entry ([.ref aM, .int (nI k), .int va, .int vb, .int vy]) (n := 6) (Nat.le_of_ble_eq_true rfl)
  rw [lg_entry_eq]
  generalize (lg_sl ([.ref aM, .int (nI k), .int va, .int vb, .int vy]) ++ List.replicate (6 - (lg_sl ([.ref aM, .int (nI k), .int va, .int vb, .int vy])).length) Slot.unset).toArray = ls at hl ⊢
  have hl : lv_has ls 6 [(0, .ref aM), (1, .int (nI k)), (2, .int va), (3, .int vb), (4, .int vy)] := hl
  refine lv_iload_n hx hb dX9_bend_0 rfl (lv_at hl 2 rfl) ?_
  refine dz_kRi (va_runS (As := [_]) ⟨hx, hb, hml, hown, hts⟩ (c_X9_size l Z _ _ _ ) (va_cwS 1 hts gX9_bend_X9_size rfl rfl rfl (by decide +kernel) ⟨Nat.le_of_ble_eq_true rfl, Nat.le_of_ble_eq_true rfl⟩) (dz_P.pre hE hS hG) rfl rfl hl.1 rfl (lv_room (Nat.le_of_ble_eq_true rfl)) dX9_bend_1 ⟨Nat.le_of_ble_eq_true rfl, Nat.le_of_ble_eq_true rfl⟩) ?_
  refine lv_iload_n hx hb dX9_bend_4 rfl (lv_at hl 3 rfl) ?_
  refine dz_kRi (va_runS (As := [_]) ⟨hx, hb, hml, hown, hts⟩ (c_X9_size l Z _ _ _ ) (va_cwS 1 hts gX9_bend_X9_size rfl rfl rfl (by decide +kernel) ⟨Nat.le_of_ble_eq_true rfl, Nat.le_of_ble_eq_true rfl⟩) (dz_P.pre hE hS hG) rfl rfl hl.1 rfl (lv_room (Nat.le_of_ble_eq_true rfl)) dX9_bend_5 ⟨Nat.le_of_ble_eq_true rfl, Nat.le_of_ble_eq_true rfl⟩) ?_
  refine lv_iadd hx hb dX9_bend_8 ?_
  refine lv_topi (fun v_1 ev_1 => ?_)
  obtain rfl : v_1 = m_abs va + m_abs vb := ev_1
  refine lv_istore (lv' := [(5, .int (m_abs va + m_abs vb)), (0, .ref aM), (1, .int (nI k)), (2, .int va), (3, .int vb), (4, .int vy)]) hx hb dX9_bend_9 hl (by decide) rfl (fun ls hl => ?_)
  refine lv_iload hx hb dX9_bend_11 (lv_at hl 0 rfl) ?_
  refine lv_if_ne (tgt := 18) hx hb dX9_bend_13 (by decide) (fun c_13 => ?_) (fun c_13 => ?_)
  · refine lv_aload_n hx hb dX9_bend_18 rfl (lv_at hl 1 rfl) ?_
    refine dz_get hx hb hts (fun _ h => List.mem_cons_of_mem _ (List.mem_append_right _ h)) hown hE hG ha ho rfl 3 (by decide) (hts _ (List.mem_of_getElem? (i := 1) rfl)) (fun _ h9 => h9) rfl dX9_bend_19 ?_
    refine lv_iload_n hx hb dX9_bend_22 rfl (lv_at hl 2 rfl) ?_
    refine dz_iald hx hb hE hG rfl h3 (vp_in_nI (by omega) (by decide)) dX9_bend_23 ?_
    refine lv_topi (fun v_2 ev_2 => ?_)
    obtain rfl : v_2 = f3 k := ev_2.trans (by rw [nI_clamp (by omega)])
    refine lv_if_ne (tgt := 42) hx hb dX9_bend_24 (by decide) (fun c_24 => ?_) (fun c_24 => ?_)
    · refine lv_aload_n hx hb dX9_bend_42 rfl (lv_at hl 1 rfl) ?_
      refine dz_get hx hb hts (fun _ h => List.mem_cons_of_mem _ (List.mem_append_right _ h)) hown hE hG ha ho rfl 3 (by decide) (hts _ (List.mem_of_getElem? (i := 1) rfl)) (fun _ h9 => h9) rfl dX9_bend_43 ?_
      refine lv_iload_n hx hb dX9_bend_46 rfl (lv_at hl 2 rfl) ?_
      refine dz_iald hx hb hE hG rfl h3 (vp_in_nI (by omega) (by decide)) dX9_bend_47 ?_
      refine lv_topi (fun v_3 ev_3 => ?_)
      obtain rfl : v_3 = f3 k := ev_3.trans (by rw [nI_clamp (by omega)])
      refine lv_iconst (v := 1) hx hb dX9_bend_48 (by decide) ?_
      refine lv_icmp_ne (tgt := 72) hx hb dX9_bend_49 (by decide) (fun c_49 => ?_) (fun c_49 => ?_)
      · refine lv_aload_n hx hb dX9_bend_72 rfl (lv_at hl 1 rfl) ?_
        refine dz_get hx hb hts (fun _ h => List.mem_cons_of_mem _ (List.mem_append_right _ h)) hown hE hG ha ho rfl 6 (by decide) (hts _ (List.mem_of_getElem? (i := 2) rfl)) (fun _ h9 => h9) rfl dX9_bend_73 ?_
        refine lv_iload_n hx hb dX9_bend_76 rfl (lv_at hl 2 rfl) ?_
        refine dz_iald hx hb hE hG rfl h6 (vp_in_nI (by omega) (by decide)) dX9_bend_77 ?_
        refine lv_topi (fun v_4 ev_4 => ?_)
        obtain rfl : v_4 = f6 k := ev_4.trans (by rw [nI_clamp (by omega)])
        refine lv_iload hx hb dX9_bend_78 (lv_at hl 5 rfl) ?_
        refine lv_imul hx hb dX9_bend_80 ?_
        refine lv_bipush (v := 8) hx hb dX9_bend_81 (by decide) ?_
        refine lv_idiv hx hb dX9_bend_83 (by decide) ?_
        refine W.iret hx hb hrt (fun t ht hW => ⟨congrArg (fun x => Outcome.returned (some (Value.int x))) ?_, ht⟩) (fun _ h => by cases h) dX9_bend_84
        unfold m_bend
        first | (rw [if_pos c_13]; done) | (rw [if_neg c_13, if_pos c_24]; done) | (rw [if_neg c_13, if_neg c_24, if_pos c_49]; done) | (rw [if_neg c_13, if_neg c_24, if_neg c_49]; done)
      · refine lv_iconst (v := 4) hx hb dX9_bend_52 (by decide) ?_
        refine lv_aload_n hx hb dX9_bend_53 rfl (lv_at hl 1 rfl) ?_
        refine dz_get hx hb hts (fun _ h => List.mem_cons_of_mem _ (List.mem_append_right _ h)) hown hE hG ha ho rfl 6 (by decide) (hts _ (List.mem_of_getElem? (i := 2) rfl)) (fun _ h9 => h9) rfl dX9_bend_54 ?_
        refine lv_iload_n hx hb dX9_bend_57 rfl (lv_at hl 2 rfl) ?_
        refine dz_iald hx hb hE hG rfl h6 (vp_in_nI (by omega) (by decide)) dX9_bend_58 ?_
        refine lv_topi (fun v_5 ev_5 => ?_)
        obtain rfl : v_5 = f6 k := ev_5.trans (by rw [nI_clamp (by omega)])
        refine lv_imul hx hb dX9_bend_59 ?_
        refine lv_iload hx hb dX9_bend_60 (lv_at hl 5 rfl) ?_
        refine lv_imul hx hb dX9_bend_62 ?_
        refine lv_iload hx hb dX9_bend_63 (lv_at hl 0 rfl) ?_
        refine lv_iload hx hb dX9_bend_65 (lv_at hl 0 rfl) ?_
        refine lv_imul hx hb dX9_bend_67 ?_
        refine lv_idiv hx hb dX9_bend_68 (hnn c_13) ?_
        refine lv_goto (tgt := 84) hx hb dX9_bend_69 (by decide) ?_
        refine W.iret hx hb hrt (fun t ht hW => ⟨congrArg (fun x => Outcome.returned (some (Value.int x))) ?_, ht⟩) (fun _ h => by cases h) dX9_bend_84
        unfold m_bend
        first | (rw [if_pos c_13]; done) | (rw [if_neg c_13, if_pos c_24]; done) | (rw [if_neg c_13, if_neg c_24, if_pos c_49]; done) | (rw [if_neg c_13, if_neg c_24, if_neg c_49]; done)
    · refine lv_aload_n hx hb dX9_bend_27 rfl (lv_at hl 1 rfl) ?_
      refine dz_get hx hb hts (fun _ h => List.mem_cons_of_mem _ (List.mem_append_right _ h)) hown hE hG ha ho rfl 6 (by decide) (hts _ (List.mem_of_getElem? (i := 2) rfl)) (fun _ h9 => h9) rfl dX9_bend_28 ?_
      refine lv_iload_n hx hb dX9_bend_31 rfl (lv_at hl 2 rfl) ?_
      refine dz_iald hx hb hE hG rfl h6 (vp_in_nI (by omega) (by decide)) dX9_bend_32 ?_
      refine lv_topi (fun v_6 ev_6 => ?_)
      obtain rfl : v_6 = f6 k := ev_6.trans (by rw [nI_clamp (by omega)])
      refine lv_iload hx hb dX9_bend_33 (lv_at hl 5 rfl) ?_
      refine lv_imul hx hb dX9_bend_35 ?_
      refine lv_iload hx hb dX9_bend_36 (lv_at hl 0 rfl) ?_
      refine lv_idiv hx hb dX9_bend_38 c_13 ?_
      refine lv_goto (tgt := 84) hx hb dX9_bend_39 (by decide) ?_
      refine W.iret hx hb hrt (fun t ht hW => ⟨congrArg (fun x => Outcome.returned (some (Value.int x))) ?_, ht⟩) (fun _ h => by cases h) dX9_bend_84
      unfold m_bend
      first | (rw [if_pos c_13]; done) | (rw [if_neg c_13, if_pos c_24]; done) | (rw [if_neg c_13, if_neg c_24, if_pos c_49]; done) | (rw [if_neg c_13, if_neg c_24, if_neg c_49]; done)
  · refine lv_iconst (v := 0) hx hb dX9_bend_16 (by decide) ?_
    refine W.iret hx hb hrt (fun t ht hW => ⟨congrArg (fun x => Outcome.returned (some (Value.int x))) ?_, ht⟩) (fun _ h => by cases h) dX9_bend_17
    unfold m_bend
    first | (rw [if_pos c_13]; done) | (rw [if_neg c_13, if_pos c_24]; done) | (rw [if_neg c_13, if_neg c_24, if_pos c_49]; done) | (rw [if_neg c_13, if_neg c_24, if_neg c_49]; done)

set_option maxHeartbeats 4000000 in
set_option maxRecDepth 100000 in
theorem c_X9_isSource (l : Launch) (Z : dzG) (G : dzW) (ad : dzA) (aM nm ns nl nx nf my : Nat) (th dy td ssf sst cfr grw bkk iop : Int32) (v : Int32) (ha : ad (39, 0) = aM) (ho : G (39, 0) = some (eO 10 [.int th, .int dy, .int (nI nm), .ref (ad (40, 3)), .ref (ad (40, 4)), .ref (ad (40, 5)), .ref (ad (40, 6)), .int td, .ref (ad (40, 8)), .ref (ad (40, 9)), .ref (ad (40, 10)), .int (nI ns), .ref (ad (40, 12)), .ref (ad (40, 13)), .ref (ad (40, 14)), .int (nI nl), .ref (ad (40, 16)), .ref (ad (40, 17)), .ref (ad (40, 18)), .int (nI nx), .ref (ad (40, 20)), .ref (ad (40, 21)), .ref (ad (40, 22)), .ref (ad (40, 23)), .ref (ad (40, 24)), .int ssf, .int sst, .int cfr, .int grw, .int (nI nf), .ref (ad (40, 30)), .ref (ad (40, 31)), .int bkk, .ref (ad (40, 33)), .ref (ad (40, 34)), .ref (ad (40, 35)), .int iop, .ref (ad (40, 37)), .int (nI my)])) (hns : ns ≤ 5) : dzRd l yX9_isSource wsX9_isSource 1 22 Z G ad [.ref aM, .int v] (some (.int (dz_b (0 ≤ v ∧ v ≤ nI ns - 1)))) := by
  refine Met.ofW (cc := cX9_isSource) (maxL := 2) (ret := (some .boolean)) (by decide) rfl ?_
  intro p e s m args below meth c s₁ B hml hv
  obtain ⟨rfl, hG, hE⟩ := hv
  have hx := B.exec
  have hb := B.bytes
  have hrt := B.returns
  have hts := atoms_spec (ws := wsX9_isSource) B.pre
  have hown : s.vm.findClass RX9 = some m.cls := findClass_of_methodNamed B.named
  have hlocks := B.notSynchronized
  have hS : va_S (dz_A Z) s.heap s.heap [] := va_S.rf
  have hl := lv_entry ([.ref aM, .int v]) (n := 2) (Nat.le_of_ble_eq_true rfl)
  rw [lg_entry_eq]
  generalize (lg_sl ([.ref aM, .int v]) ++ List.replicate (2 - (lg_sl ([.ref aM, .int v])).length) Slot.unset).toArray = ls at hl ⊢
  have hl : lv_has ls 2 [(0, .ref aM), (1, .int v)] := hl
  refine lv_iload_n hx hb dX9_isSource_0 rfl (lv_at hl 1 rfl) ?_
  refine lv_iconst (v := 0) hx hb dX9_isSource_1 (by decide) ?_
  refine lv_aload_n hx hb dX9_isSource_2 rfl (lv_at hl 0 rfl) ?_
  refine dz_get hx hb hts (fun _ h => List.mem_cons_of_mem _ (List.mem_append_right _ h)) hown hE hG ha ho rfl 11 (by decide) (hts _ (List.mem_of_getElem? (i := 1) rfl)) (fun _ h9 => h9) rfl dX9_isSource_3 ?_
  refine lv_iconst (v := 1) hx hb dX9_isSource_6 (by decide) ?_
  refine lv_isub hx hb dX9_isSource_7 ?_
  refine dz_kRi (va_runS (As := [_, _, _]) ⟨hx, hb, hml, hown, hts⟩ (c_X9_in l Z _ _ _ _ _ ) (va_cwS 3 hts gX9_isSource_X9_in rfl rfl rfl (by decide +kernel) ⟨Nat.le_of_ble_eq_true rfl, Nat.le_of_ble_eq_true rfl⟩) (dz_P.pre hE hS hG) rfl rfl hl.1 rfl (lv_room (Nat.le_of_ble_eq_true rfl)) dX9_isSource_8 ⟨Nat.le_of_ble_eq_true rfl, Nat.le_of_ble_eq_true rfl⟩) ?_
  refine W.zret hx hb hrt dz_bn (fun t ht hW => ⟨congrArg (fun x => Outcome.returned (some (Value.int x))) ?_, ht⟩) (fun _ h => by cases h) dX9_isSource_11
  rfl

set_option maxHeartbeats 4000000 in
set_option maxRecDepth 100000 in
theorem c_X9_isAhead (l : Launch) (Z : dzG) (G : dzW) (ad : dzA) (aM nm ns nl nx nf my : Nat) (th dy td ssf sst cfr grw bkk iop : Int32) (f10 : Nat → Int32) (i j : Nat) (ha : ad (39, 0) = aM) (ho : G (39, 0) = some (eO 10 [.int th, .int dy, .int (nI nm), .ref (ad (40, 3)), .ref (ad (40, 4)), .ref (ad (40, 5)), .ref (ad (40, 6)), .int td, .ref (ad (40, 8)), .ref (ad (40, 9)), .ref (ad (40, 10)), .int (nI ns), .ref (ad (40, 12)), .ref (ad (40, 13)), .ref (ad (40, 14)), .int (nI nl), .ref (ad (40, 16)), .ref (ad (40, 17)), .ref (ad (40, 18)), .int (nI nx), .ref (ad (40, 20)), .ref (ad (40, 21)), .ref (ad (40, 22)), .ref (ad (40, 23)), .ref (ad (40, 24)), .int ssf, .int sst, .int cfr, .int grw, .int (nI nf), .ref (ad (40, 30)), .ref (ad (40, 31)), .int bkk, .ref (ad (40, 33)), .ref (ad (40, 34)), .ref (ad (40, 35)), .int iop, .ref (ad (40, 37)), .int (nI my)])) (h10 : G (40, 10) = some (eI Z 484 f10)) (hi : i < 484) (hji : j < i) : dzRd l yX9_isAhead wsX9_isAhead 0 0 Z G ad [.ref aM, .int (nI i), .int (nI j)] (some (.int (dz_b (f10 i < f10 j)))) := by
  refine Met.ofW (cc := cX9_isAhead) (maxL := 3) (ret := (some .boolean)) (by decide) rfl ?_
  intro p e s m args below meth c s₁ B hml hv
  obtain ⟨rfl, hG, hE⟩ := hv
  have hx := B.exec
  have hb := B.bytes
  have hrt := B.returns
  have hts := atoms_spec (ws := wsX9_isAhead) B.pre
  have hown : s.vm.findClass RX9 = some m.cls := findClass_of_methodNamed B.named
  have hlocks := B.notSynchronized
  have hS : va_S (dz_A Z) s.heap s.heap [] := va_S.rf
  have hl := lv_entry ([.ref aM, .int (nI i), .int (nI j)]) (n := 3) (Nat.le_of_ble_eq_true rfl)
  rw [lg_entry_eq]
  generalize (lg_sl ([.ref aM, .int (nI i), .int (nI j)]) ++ List.replicate (3 - (lg_sl ([.ref aM, .int (nI i), .int (nI j)])).length) Slot.unset).toArray = ls at hl ⊢
  have hl : lv_has ls 3 [(0, .ref aM), (1, .int (nI i)), (2, .int (nI j))] := hl
  refine lv_aload_n hx hb dX9_isAhead_0 rfl (lv_at hl 0 rfl) ?_
  refine dz_get hx hb hts (fun _ h => List.mem_cons_of_mem _ (List.mem_append_right _ h)) hown hE hG ha ho rfl 10 (by decide) (hts _ (List.mem_of_getElem? (i := 1) rfl)) (fun _ h9 => h9) rfl dX9_isAhead_1 ?_
  refine lv_iload_n hx hb dX9_isAhead_4 rfl (lv_at hl 1 rfl) ?_
  refine dz_iald hx hb hE hG rfl h10 (vp_in_nI (by omega) (by decide)) dX9_isAhead_5 ?_
  refine lv_topi (fun v_1 ev_1 => ?_)
  obtain rfl : v_1 = f10 i := ev_1.trans (by rw [nI_clamp (by omega)])
  refine lv_aload_n hx hb dX9_isAhead_6 rfl (lv_at hl 0 rfl) ?_
  refine dz_get hx hb hts (fun _ h => List.mem_cons_of_mem _ (List.mem_append_right _ h)) hown hE hG ha ho rfl 10 (by decide) (hts _ (List.mem_of_getElem? (i := 1) rfl)) (fun _ h9 => h9) rfl dX9_isAhead_7 ?_
  refine lv_iload_n hx hb dX9_isAhead_10 rfl (lv_at hl 2 rfl) ?_
  refine dz_iald hx hb hE hG rfl h10 (vp_in_nI (by omega) (by decide)) dX9_isAhead_11 ?_
  refine lv_topi (fun v_2 ev_2 => ?_)
  obtain rfl : v_2 = f10 j := ev_2.trans (by rw [nI_clamp (by omega)])
  refine lv_icmp_eq (tgt := 36) hx hb dX9_isAhead_12 (by decide) (fun c_12 => ?_) (fun c_12 => ?_)
  · refine lv_iload_n hx hb dX9_isAhead_36 rfl (lv_at hl 1 rfl) ?_
    refine lv_iload_n hx hb dX9_isAhead_37 rfl (lv_at hl 2 rfl) ?_
    refine lv_icmp_ge (tgt := 45) hx hb dX9_isAhead_38 (by decide) (fun c_38 => ?_) (fun c_38 => absurd ((nI_leI (by omega) (by omega)).mpr (by omega)) c_38)
    refine lv_iconst (v := 0) hx hb dX9_isAhead_45 (by decide) ?_
    refine W.zret hx hb hrt (by decide) (fun t ht hW => ⟨congrArg (fun x => Outcome.returned (some (Value.int x))) ?_, ht⟩) (fun _ h => by cases h) dX9_isAhead_46
    first | exact (dz_b1 (Int32.not_le.mp c_27)).symm | exact (dz_b0 (Int32.not_lt.mpr c_27)).symm | exact (dz_b0 (fun z => by rw [c_12] at z; exact Int32.lt_irrefl z)).symm
  · refine lv_aload_n hx hb dX9_isAhead_15 rfl (lv_at hl 0 rfl) ?_
    refine dz_get hx hb hts (fun _ h => List.mem_cons_of_mem _ (List.mem_append_right _ h)) hown hE hG ha ho rfl 10 (by decide) (hts _ (List.mem_of_getElem? (i := 1) rfl)) (fun _ h9 => h9) rfl dX9_isAhead_16 ?_
    refine lv_iload_n hx hb dX9_isAhead_19 rfl (lv_at hl 1 rfl) ?_
    refine dz_iald hx hb hE hG rfl h10 (vp_in_nI (by omega) (by decide)) dX9_isAhead_20 ?_
    refine lv_topi (fun v_3 ev_3 => ?_)
    obtain rfl : v_3 = f10 i := ev_3.trans (by rw [nI_clamp (by omega)])
    refine lv_aload_n hx hb dX9_isAhead_21 rfl (lv_at hl 0 rfl) ?_
    refine dz_get hx hb hts (fun _ h => List.mem_cons_of_mem _ (List.mem_append_right _ h)) hown hE hG ha ho rfl 10 (by decide) (hts _ (List.mem_of_getElem? (i := 1) rfl)) (fun _ h9 => h9) rfl dX9_isAhead_22 ?_
    refine lv_iload_n hx hb dX9_isAhead_25 rfl (lv_at hl 2 rfl) ?_
    refine dz_iald hx hb hE hG rfl h10 (vp_in_nI (by omega) (by decide)) dX9_isAhead_26 ?_
    refine lv_topi (fun v_4 ev_4 => ?_)
    obtain rfl : v_4 = f10 j := ev_4.trans (by rw [nI_clamp (by omega)])
    refine lv_icmp_ge (tgt := 34) hx hb dX9_isAhead_27 (by decide) (fun c_27 => ?_) (fun c_27 => ?_)
    · refine lv_iconst (v := 0) hx hb dX9_isAhead_34 (by decide) ?_
      refine W.zret hx hb hrt (by decide) (fun t ht hW => ⟨congrArg (fun x => Outcome.returned (some (Value.int x))) ?_, ht⟩) (fun _ h => by cases h) dX9_isAhead_35
      first | exact (dz_b1 (Int32.not_le.mp c_27)).symm | exact (dz_b0 (Int32.not_lt.mpr c_27)).symm | exact (dz_b0 (fun z => by rw [c_12] at z; exact Int32.lt_irrefl z)).symm
    · refine lv_iconst (v := 1) hx hb dX9_isAhead_30 (by decide) ?_
      refine lv_goto (tgt := 35) hx hb dX9_isAhead_31 (by decide) ?_
      refine W.zret hx hb hrt (by decide) (fun t ht hW => ⟨congrArg (fun x => Outcome.returned (some (Value.int x))) ?_, ht⟩) (fun _ h => by cases h) dX9_isAhead_35
      first | exact (dz_b1 (Int32.not_le.mp c_27)).symm | exact (dz_b0 (Int32.not_lt.mpr c_27)).symm | exact (dz_b0 (fun z => by rw [c_12] at z; exact Int32.lt_irrefl z)).symm

set_option maxHeartbeats 4000000 in
set_option maxRecDepth 100000 in
theorem c_X9_shoot (l : Launch) (Z : dzG) (G : dzW) (ad : dzA) (aM nm ns nl nx nf my : Nat) (th dy td ssf sst cfr grw bkk iop : Int32) (f3 f4 f5 f6 f8 f9 f10 : Nat → Int32) (ha : ad (39, 0) = aM) (ho : G (39, 0) = some (eO 10 [.int th, .int dy, .int (nI nm), .ref (ad (40, 3)), .ref (ad (40, 4)), .ref (ad (40, 5)), .ref (ad (40, 6)), .int td, .ref (ad (40, 8)), .ref (ad (40, 9)), .ref (ad (40, 10)), .int (nI ns), .ref (ad (40, 12)), .ref (ad (40, 13)), .ref (ad (40, 14)), .int (nI nl), .ref (ad (40, 16)), .ref (ad (40, 17)), .ref (ad (40, 18)), .int (nI nx), .ref (ad (40, 20)), .ref (ad (40, 21)), .ref (ad (40, 22)), .ref (ad (40, 23)), .ref (ad (40, 24)), .int ssf, .int sst, .int cfr, .int grw, .int (nI nf), .ref (ad (40, 30)), .ref (ad (40, 31)), .int bkk, .ref (ad (40, 33)), .ref (ad (40, 34)), .ref (ad (40, 35)), .int iop, .ref (ad (40, 37)), .int (nI my)])) (h3 : G (40, 3) = some (eI Z 6 f3)) (h4 : G (40, 4) = some (eI Z 6 f4)) (h5 : G (40, 5) = some (eI Z 6 f5)) (h6 : G (40, 6) = some (eI Z 6 f6)) (h8 : G (40, 8) = some (eI Z 484 f8)) (h9 : G (40, 9) = some (eI Z 484 f9)) (h10 : G (40, 10) = some (eI Z 484 f10)) (hN : nm ≤ 6) (hok : m_ok nm f4 f5) : dzWr l yX9_shoot wsX9_shoot 2 45 0 0 Z G ad [.ref aM] rv_v (fun (x : Unit) G1 ad1 => (∀ r9 : dzR, r9 ≠ (40, 8) → r9 ≠ (40, 9) → r9 ≠ (40, 10) → G1 r9 = G r9 ∧ ad1 r9 = ad r9) ∧ ad = ad1 ∧ G1 (40, 8) = some (eI Z 484 (m_bc nm f3 f4 f5 f6)) ∧ G1 (40, 9) = some (eI Z 484 (m_br nm f3 f4 f5 f6)) ∧ G1 (40, 10) = some (eI Z 484 (m_tw nm f3 f4 f5 f6))) := by
  refine Met.ofW (cc := cX9_shoot) (maxL := 10) (ret := none) (by decide) rfl ?_
  intro p e s m args below meth c s₁ B hml hv
  obtain ⟨rfl, hG, hE⟩ := hv
  have hx := B.exec
  have hb := B.bytes
  have hrt := B.returns
  have hts := atoms_spec (ws := wsX9_shoot) B.pre
  have hown : s.vm.findClass RX9 = some m.cls := findClass_of_methodNamed B.named
  have hlocks := B.notSynchronized
  have hS : va_S (dz_A Z) s.heap s.heap [] := va_S.rf
  have hl := lv_entry ([.ref aM]) (n := 10) (Nat.le_of_ble_eq_true rfl)
  rw [lg_entry_eq]
  generalize (lg_sl ([.ref aM]) ++ List.replicate (10 - (lg_sl ([.ref aM])).length) Slot.unset).toArray = ls at hl ⊢
  have hl : lv_has ls 10 [(0, .ref aM)] := hl
  refine lv_bipush (v := (-10)) hx hb dX9_shoot_0 (by decide) ?_
  refine lv_istore_n (lv' := [(1, .int (-10)), (0, .ref aM)]) hx hb dX9_shoot_2 rfl hl (by decide) rfl (fun ls hl => ?_)
  refine dz_lw (α := Nat × (Nat → Int32) × (Nat → Int32) × (Nat → Int32) × dzW × Array Slot) (fun a9 => (fun (a : Nat) (F8 : Nat → Int32) (F9 : Nat → Int32) (F10 : Nat → Int32) (G_L3 : dzW) (ls : Array Slot) => 22 - a) a9.1 a9.2.1 a9.2.2.1 a9.2.2.2.1 a9.2.2.2.2.1 a9.2.2.2.2.2) (fun a9 H locs => (fun (a : Nat) (F8 : Nat → Int32) (F9 : Nat → Int32) (F10 : Nat → Int32) (G_L3 : dzW) (ls : Array Slot) => (a ≤ 22) ∧ ((∀ j, j < 22 * a → F8 j = m_bc nm f3 f4 f5 f6 j)) ∧ ((∀ j, j < 22 * a → F9 j = m_br nm f3 f4 f5 f6 j)) ∧ ((∀ j, j < 22 * a → F10 j = m_tw nm f3 f4 f5 f6 j)) ∧ (∀ r9 : dzR, r9 ≠ (40, 8) → r9 ≠ (40, 9) → r9 ≠ (40, 10) → G_L3 r9 = G r9 ∧ ad r9 = ad r9) ∧ (G_L3 (40, 8) = some (eI Z 484 F8)) ∧ (G_L3 (40, 9) = some (eI Z 484 F9)) ∧ (G_L3 (40, 10) = some (eI Z 484 F10)) ∧ dz_w Z G_L3 ad H ∧ va_S (dz_A Z) s.heap H locs ∧ lv_has ls 10 [(1, .int (nI a - 10)), (0, .ref aM)]) a9.1 a9.2.1 a9.2.2.1 a9.2.2.2.1 a9.2.2.2.2.1 a9.2.2.2.2.2) (fun a9 => F0 m 3 a9.2.2.2.2.2 []) (fun a9 H locs hI ih_3 => ?_) (0, f8, f9, f10, G, ls) ⟨(Nat.zero_le _), (fun j h => absurd h (by omega)), (fun j h => absurd h (by omega)), (fun j h => absurd h (by omega)), (fun r9 _ _ _ => ⟨rfl, rfl⟩), h8, h9, h10, hG, hS, lv_sub hl [0, 1] rfl⟩
  obtain ⟨a, F8, F9, F10, G_L3, ls⟩ := a9
  obtain ⟨hal, g8, g9, g10, fr_L3, w8, w9, w10, hG, hS, hl⟩ := hI
  have hal : a ≤ 22 := hal
  have g8 : (∀ j, j < 22 * a → F8 j = m_bc nm f3 f4 f5 f6 j) := g8
  have g9 : (∀ j, j < 22 * a → F9 j = m_br nm f3 f4 f5 f6 j) := g9
  have g10 : (∀ j, j < 22 * a → F10 j = m_tw nm f3 f4 f5 f6 j) := g10
  have fr_L3 : ∀ r9 : dzR, r9 ≠ (40, 8) → r9 ≠ (40, 9) → r9 ≠ (40, 10) → G_L3 r9 = G r9 ∧ ad r9 = ad r9 := fr_L3
  have w8 : G_L3 (40, 8) = some (eI Z 484 F8) := w8
  have w9 : G_L3 (40, 9) = some (eI Z 484 F9) := w9
  have w10 : G_L3 (40, 10) = some (eI Z 484 F10) := w10
  have hG : dz_w Z G_L3 ad H := hG
  have hS : va_S (dz_A Z) s.heap H locs := hS
  have hl : lv_has ls 10 [(1, .int (nI a - 10)), (0, .ref aM)] := hl
  refine lv_iload_n hx hb dX9_shoot_3 rfl (lv_at hl 0 rfl) ?_
  refine lv_bipush (v := 11) hx hb dX9_shoot_4 (by decide) ?_
  refine lv_icmp_gt (tgt := 219) hx hb dX9_shoot_6 (by decide) (fun c_6 => ?_) (fun c_6 => ?_)
  · have ha22 : a = 22 := (fl_g11 a (by omega)).mp c_6
    obtain ⟨G_1, hG, w_1, o_1⟩ := dz_re (m_bc nm f3 f4 f5 f6) hG w8 (fun j hj => g8 j (by omega))
    obtain ⟨G_2, hG, w_2, o_2⟩ := dz_re (m_br nm f3 f4 f5 f6) hG ((o_1 _ (dz_n2 (by decide))).1.trans w9) (fun j hj => g9 j (by omega))
    obtain ⟨G_3, hG, w_3, o_3⟩ := dz_re (m_tw nm f3 f4 f5 f6) hG ((o_2 _ (dz_n2 (by decide))).1.trans ((o_1 _ (dz_n2 (by decide))).1.trans w10)) (fun j hj => g10 j (by omega))
    refine W.widen (k := 0) (n := 0) (by first | omega | decide) (by first | omega | decide) ?_
    refine W.vret hx hb hrt (fun t ht hW => dz_endM (f := rv_v) () hE hS hG ?_ ht hW) (fun q h => hS.2.2 q h) dX9_shoot_219
    refine ⟨fun r9 n_0 n_1 n_2 => (dz_tr (o_3 r9 n_2) (dz_tr (o_2 r9 n_1) (dz_tr (o_1 r9 n_0) (fr_L3 r9 n_0 n_1 n_2)))), rfl, ?_⟩
    exact ⟨((o_3 _ (dz_n2 (by decide))).1.trans ((o_2 _ (dz_n2 (by decide))).1.trans w_1)), ((o_3 _ (dz_n2 (by decide))).1.trans w_2), w_3⟩
  · have hal2 : a < 22 := by
      rcases Nat.lt_or_ge a 22 with q | q
      · exact q
      · exact absurd ((fl_g11 a (by omega)).mpr (by omega)) c_6
    refine lv_bipush (v := (-10)) hx hb dX9_shoot_9 (by decide) ?_
    refine lv_istore_n (lv' := [(2, .int (-10)), (1, .int (nI a - 10)), (0, .ref aM)]) hx hb dX9_shoot_11 rfl hl (by decide) rfl (fun ls hl => ?_)
    refine dz_lw (α := Nat × (Nat → Int32) × (Nat → Int32) × (Nat → Int32) × dzW × Array Slot) (fun a9 => (fun (b : Nat) (F8 : Nat → Int32) (F9 : Nat → Int32) (F10 : Nat → Int32) (G_L12 : dzW) (ls : Array Slot) => 22 - b) a9.1 a9.2.1 a9.2.2.1 a9.2.2.2.1 a9.2.2.2.2.1 a9.2.2.2.2.2) (fun a9 H locs => (fun (b : Nat) (F8 : Nat → Int32) (F9 : Nat → Int32) (F10 : Nat → Int32) (G_L12 : dzW) (ls : Array Slot) => (b ≤ 22) ∧ ((∀ j, j < 22 * a + b → F8 j = m_bc nm f3 f4 f5 f6 j)) ∧ ((∀ j, j < 22 * a + b → F9 j = m_br nm f3 f4 f5 f6 j)) ∧ ((∀ j, j < 22 * a + b → F10 j = m_tw nm f3 f4 f5 f6 j)) ∧ (∀ r9 : dzR, r9 ≠ (40, 8) → r9 ≠ (40, 9) → r9 ≠ (40, 10) → G_L12 r9 = G_L3 r9 ∧ ad r9 = ad r9) ∧ (G_L12 (40, 8) = some (eI Z 484 F8)) ∧ (G_L12 (40, 9) = some (eI Z 484 F9)) ∧ (G_L12 (40, 10) = some (eI Z 484 F10)) ∧ dz_w Z G_L12 ad H ∧ va_S (dz_A Z) s.heap H locs ∧ lv_has ls 10 [(2, .int (nI b - 10)), (1, .int (nI a - 10)), (0, .ref aM)]) a9.1 a9.2.1 a9.2.2.1 a9.2.2.2.1 a9.2.2.2.2.1 a9.2.2.2.2.2) (fun a9 => F0 m 12 a9.2.2.2.2.2 []) (fun a9 H locs hI ih_12 => ?_) (0, F8, F9, F10, G_L3, ls) ⟨(Nat.zero_le _), g8, g9, g10, (fun r9 _ _ _ => ⟨rfl, rfl⟩), w8, w9, w10, hG, hS, lv_sub hl [0, 1, 2] rfl⟩
    obtain ⟨b, F8, F9, F10, G_L12, ls⟩ := a9
    obtain ⟨hbl, g8, g9, g10, fr_L12, w8, w9, w10, hG, hS, hl⟩ := hI
    have hbl : b ≤ 22 := hbl
    have g8 : (∀ j, j < 22 * a + b → F8 j = m_bc nm f3 f4 f5 f6 j) := g8
    have g9 : (∀ j, j < 22 * a + b → F9 j = m_br nm f3 f4 f5 f6 j) := g9
    have g10 : (∀ j, j < 22 * a + b → F10 j = m_tw nm f3 f4 f5 f6 j) := g10
    have fr_L12 : ∀ r9 : dzR, r9 ≠ (40, 8) → r9 ≠ (40, 9) → r9 ≠ (40, 10) → G_L12 r9 = G_L3 r9 ∧ ad r9 = ad r9 := fr_L12
    have w8 : G_L12 (40, 8) = some (eI Z 484 F8) := w8
    have w9 : G_L12 (40, 9) = some (eI Z 484 F9) := w9
    have w10 : G_L12 (40, 10) = some (eI Z 484 F10) := w10
    have hG : dz_w Z G_L12 ad H := hG
    have hS : va_S (dz_A Z) s.heap H locs := hS
    have hl : lv_has ls 10 [(2, .int (nI b - 10)), (1, .int (nI a - 10)), (0, .ref aM)] := hl
    refine lv_iload_n hx hb dX9_shoot_12 rfl (lv_at hl 0 rfl) ?_
    refine lv_bipush (v := 11) hx hb dX9_shoot_13 (by decide) ?_
    refine lv_icmp_gt (tgt := 213) hx hb dX9_shoot_15 (by decide) (fun c_15 => ?_) (fun c_15 => ?_)
    · have hb22 : b = 22 := (fl_g11 b (by omega)).mp c_15
      obtain ⟨v_1, ev_1⟩ : ∃ y : Int32, y = (nI a - 10) + 1 := ⟨_, rfl⟩
      refine lv_iinc (v := v_1) (lv' := [(1, .int v_1), (2, .int (nI b - 10)), (0, .ref aM)]) hx hb dX9_shoot_213 hl (k := 1) rfl (by rw [ev_1]; rfl) (by decide) rfl (fun ls hl => ?_)
      refine lv_goto (tgt := 3) hx hb dX9_shoot_216 (by decide) ?_
      obtain rfl : v_1 = nI (a + 1) - 10 := ev_1.trans (fl_s22 a (by omega))
      exact ih_3 (a + 1, _, _, _, G_L12, ls) _ _ (by first | (dsimp only; omega) | omega) ⟨(by omega), (by have z := g8; rw [hb22] at z; exact z), (by have z := g9; rw [hb22] at z; exact z), (by have z := g10; rw [hb22] at z; exact z), (fun r9 n_0 n_1 n_2 => (dz_tr (fr_L12 r9 n_0 n_1 n_2) (fr_L3 r9 n_0 n_1 n_2))), w8, w9, w10, hG, hS, lv_sub hl [0, 2] rfl⟩
    · have hbl2 : b < 22 := by
        rcases Nat.lt_or_ge b 22 with q | q
        · exact q
        · exact absurd ((fl_g11 b (by omega)).mpr (by omega)) c_15
      refine lv_iconst (v := 0) hx hb dX9_shoot_18 (by decide) ?_
      refine lv_istore_n (lv' := [(3, .int 0), (2, .int (nI b - 10)), (1, .int (nI a - 10)), (0, .ref aM)]) hx hb dX9_shoot_19 rfl hl (by decide) rfl (fun ls hl => ?_)
      refine lv_iconst (v := 0) hx hb dX9_shoot_20 (by decide) ?_
      refine lv_istore (lv' := [(4, .int 0), (3, .int 0), (2, .int (nI b - 10)), (1, .int (nI a - 10)), (0, .ref aM)]) hx hb dX9_shoot_21 hl (by decide) rfl (fun ls hl => ?_)
      refine lv_iconst (v := 0) hx hb dX9_shoot_23 (by decide) ?_
      refine lv_istore (lv' := [(5, .int 0), (4, .int 0), (3, .int 0), (2, .int (nI b - 10)), (1, .int (nI a - 10)), (0, .ref aM)]) hx hb dX9_shoot_24 hl (by decide) rfl (fun ls hl => ?_)
      refine lv_iconst (v := 0) hx hb dX9_shoot_26 (by decide) ?_
      refine lv_istore (lv' := [(6, .int 0), (5, .int 0), (4, .int 0), (3, .int 0), (2, .int (nI b - 10)), (1, .int (nI a - 10)), (0, .ref aM)]) hx hb dX9_shoot_27 hl (by decide) rfl (fun ls hl => ?_)
      refine dz_lp (α := Nat × Array Slot) (fun a9 => (fun (k : Nat) (ls : Array Slot) => nm - k) a9.1 a9.2) (fun a9 => (fun (k : Nat) (ls : Array Slot) => (k ≤ nm) ∧ lv_has ls 10 [(6, .int (nI k)), (5, .int (m_bsho f3 f4 f5 f6 (nI b - 10) (nI a - 10) k)), (4, .int (m_brow f3 f4 f5 f6 (nI b - 10) (nI a - 10) k)), (3, .int (m_bcol f3 f4 f5 f6 (nI b - 10) (nI a - 10) k)), (2, .int (nI b - 10)), (1, .int (nI a - 10)), (0, .ref aM)]) a9.1 a9.2) (fun a9 => F0 m 29 a9.2 []) (fun a9 hI ih_29 => ?_) (0, ls) ⟨(Nat.zero_le _), lv_sub hl [0, 1, 2, 3, 4, 5, 6] rfl⟩
      obtain ⟨k, ls⟩ := a9
      obtain ⟨hk, hl⟩ := hI
      have hk : k ≤ nm := hk
      have hl : lv_has ls 10 [(6, .int (nI k)), (5, .int (m_bsho f3 f4 f5 f6 (nI b - 10) (nI a - 10) k)), (4, .int (m_brow f3 f4 f5 f6 (nI b - 10) (nI a - 10) k)), (3, .int (m_bcol f3 f4 f5 f6 (nI b - 10) (nI a - 10) k)), (2, .int (nI b - 10)), (1, .int (nI a - 10)), (0, .ref aM)] := hl
      refine lv_iload hx hb dX9_shoot_29 (lv_at hl 0 rfl) ?_
      refine lv_aload_n hx hb dX9_shoot_31 rfl (lv_at hl 6 rfl) ?_
      refine dz_get hx hb hts (fun _ h => List.mem_cons_of_mem _ (List.mem_append_right _ h)) hown hE hG ((fr_L12 _ (dz_n rfl) (dz_n rfl) (dz_n rfl)).2.trans ((fr_L3 _ (dz_n rfl) (dz_n rfl) (dz_n rfl)).2.trans ha)) ((fr_L12 _ (dz_n rfl) (dz_n rfl) (dz_n rfl)).1.trans ((fr_L3 _ (dz_n rfl) (dz_n rfl) (dz_n rfl)).1.trans ho)) rfl 2 (by decide) (hts _ (List.mem_of_getElem? (i := 1) rfl)) (fun _ h9 => h9) rfl dX9_shoot_32 ?_
      refine lv_icmp_ge (tgt := 160) hx hb dX9_shoot_35 (by decide) (fun c_35 => ?_) (fun c_35 => ?_)
      · have hk2 : k = nm := by have := (nI_leI (by omega) (by omega)).mp c_35; omega
        refine lv_aload_n hx hb dX9_shoot_160 rfl (lv_at hl 6 rfl) ?_
        refine dz_get hx hb hts (fun _ h => List.mem_cons_of_mem _ (List.mem_append_right _ h)) hown hE hG ((fr_L12 _ (dz_n rfl) (dz_n rfl) (dz_n rfl)).2.trans ((fr_L3 _ (dz_n rfl) (dz_n rfl) (dz_n rfl)).2.trans ha)) ((fr_L12 _ (dz_n rfl) (dz_n rfl) (dz_n rfl)).1.trans ((fr_L3 _ (dz_n rfl) (dz_n rfl) (dz_n rfl)).1.trans ho)) rfl 8 (by decide) (hts _ (List.mem_of_getElem? (i := 6) rfl)) (fun _ h9 => h9) rfl dX9_shoot_161 ?_
        refine lv_iload_n hx hb dX9_shoot_164 rfl (lv_at hl 4 rfl) ?_
        refine lv_iload_n hx hb dX9_shoot_165 rfl (lv_at hl 5 rfl) ?_
        refine dz_kRi (va_runS (As := [_, _]) ⟨hx, hb, hml, hown, hts⟩ (c_X9_cell l Z _ _ _ _ ) (va_cwS 2 hts gX9_shoot_X9_cell rfl rfl rfl (by decide +kernel) ⟨Nat.le_of_ble_eq_true rfl, Nat.le_of_ble_eq_true rfl⟩) (dz_P.pre hE hS hG) rfl rfl hl.1 rfl (lv_room (Nat.le_of_ble_eq_true rfl)) dX9_shoot_166 ⟨Nat.le_of_ble_eq_true rfl, Nat.le_of_ble_eq_true rfl⟩) ?_
        refine lv_topi (fun v_2 ev_2 => ?_)
        obtain rfl : v_2 = nI (22 * a + b) := ev_2.trans (fl_cl a (by omega) b (by omega))
        refine lv_iload_n hx hb dX9_shoot_169 rfl (lv_at hl 3 rfl) ?_
        refine dz_iast hx hb hE hG rfl hS w8 (vp_in_nI (by omega) (by decide)) dX9_shoot_170 (fun H locs hG hS => ?_)
        obtain ⟨G_4, hG, w_4, o_4⟩ := dz_nm hG
        refine lv_aload_n hx hb dX9_shoot_171 rfl (lv_at hl 6 rfl) ?_
        refine dz_get hx hb hts (fun _ h => List.mem_cons_of_mem _ (List.mem_append_right _ h)) hown hE hG ((o_4 _ (dz_n rfl)).2.trans ((fr_L12 _ (dz_n rfl) (dz_n rfl) (dz_n rfl)).2.trans ((fr_L3 _ (dz_n rfl) (dz_n rfl) (dz_n rfl)).2.trans ha))) ((o_4 _ (dz_n rfl)).1.trans ((fr_L12 _ (dz_n rfl) (dz_n rfl) (dz_n rfl)).1.trans ((fr_L3 _ (dz_n rfl) (dz_n rfl) (dz_n rfl)).1.trans ho))) rfl 9 (by decide) (hts _ (List.mem_of_getElem? (i := 7) rfl)) (fun _ h9 => h9) rfl dX9_shoot_172 ?_
        refine lv_iload_n hx hb dX9_shoot_175 rfl (lv_at hl 4 rfl) ?_
        refine lv_iload_n hx hb dX9_shoot_176 rfl (lv_at hl 5 rfl) ?_
        refine dz_kRi (va_runS (As := [_, _]) ⟨hx, hb, hml, hown, hts⟩ (c_X9_cell l Z _ _ _ _ ) (va_cwS 2 hts gX9_shoot_X9_cell rfl rfl rfl (by decide +kernel) ⟨Nat.le_of_ble_eq_true rfl, Nat.le_of_ble_eq_true rfl⟩) (dz_P.pre hE hS hG) rfl rfl hl.1 rfl (lv_room (Nat.le_of_ble_eq_true rfl)) dX9_shoot_177 ⟨Nat.le_of_ble_eq_true rfl, Nat.le_of_ble_eq_true rfl⟩) ?_
        refine lv_topi (fun v_3 ev_3 => ?_)
        obtain rfl : v_3 = nI (22 * a + b) := ev_3.trans (fl_cl a (by omega) b (by omega))
        refine lv_iload hx hb dX9_shoot_180 (lv_at hl 2 rfl) ?_
        refine dz_iast hx hb hE hG ((o_4 _ (dz_n2 (by decide))).2.trans rfl) hS ((o_4 _ (dz_n2 (by decide))).1.trans w9) (vp_in_nI (by omega) (by decide)) dX9_shoot_182 (fun H locs hG hS => ?_)
        obtain ⟨G_5, hG, w_5, o_5⟩ := dz_nm hG
        refine lv_aload_n hx hb dX9_shoot_183 rfl (lv_at hl 6 rfl) ?_
        refine dz_get hx hb hts (fun _ h => List.mem_cons_of_mem _ (List.mem_append_right _ h)) hown hE hG ((o_5 _ (dz_n rfl)).2.trans ((o_4 _ (dz_n rfl)).2.trans ((fr_L12 _ (dz_n rfl) (dz_n rfl) (dz_n rfl)).2.trans ((fr_L3 _ (dz_n rfl) (dz_n rfl) (dz_n rfl)).2.trans ha)))) ((o_5 _ (dz_n rfl)).1.trans ((o_4 _ (dz_n rfl)).1.trans ((fr_L12 _ (dz_n rfl) (dz_n rfl) (dz_n rfl)).1.trans ((fr_L3 _ (dz_n rfl) (dz_n rfl) (dz_n rfl)).1.trans ho)))) rfl 10 (by decide) (hts _ (List.mem_of_getElem? (i := 8) rfl)) (fun _ h9 => h9) rfl dX9_shoot_184 ?_
        refine lv_iload_n hx hb dX9_shoot_187 rfl (lv_at hl 4 rfl) ?_
        refine lv_iload_n hx hb dX9_shoot_188 rfl (lv_at hl 5 rfl) ?_
        refine dz_kRi (va_runS (As := [_, _]) ⟨hx, hb, hml, hown, hts⟩ (c_X9_cell l Z _ _ _ _ ) (va_cwS 2 hts gX9_shoot_X9_cell rfl rfl rfl (by decide +kernel) ⟨Nat.le_of_ble_eq_true rfl, Nat.le_of_ble_eq_true rfl⟩) (dz_P.pre hE hS hG) rfl rfl hl.1 rfl (lv_room (Nat.le_of_ble_eq_true rfl)) dX9_shoot_189 ⟨Nat.le_of_ble_eq_true rfl, Nat.le_of_ble_eq_true rfl⟩) ?_
        refine lv_topi (fun v_4 ev_4 => ?_)
        obtain rfl : v_4 = nI (22 * a + b) := ev_4.trans (fl_cl a (by omega) b (by omega))
        refine lv_iconst (v := 5) hx hb dX9_shoot_192 (by decide) ?_
        refine lv_iload_n hx hb dX9_shoot_193 rfl (lv_at hl 3 rfl) ?_
        refine lv_iload_n hx hb dX9_shoot_194 rfl (lv_at hl 3 rfl) ?_
        refine lv_imul hx hb dX9_shoot_195 ?_
        refine lv_iload hx hb dX9_shoot_196 (lv_at hl 2 rfl) ?_
        refine lv_iload hx hb dX9_shoot_198 (lv_at hl 2 rfl) ?_
        refine lv_imul hx hb dX9_shoot_200 ?_
        refine lv_iadd hx hb dX9_shoot_201 ?_
        refine lv_imul hx hb dX9_shoot_202 ?_
        refine lv_iload hx hb dX9_shoot_203 (lv_at hl 1 rfl) ?_
        refine lv_isub hx hb dX9_shoot_205 ?_
        refine lv_topi (fun wv ewv => ?_)
        refine dz_iast hx hb hE hG ((o_5 _ (dz_n2 (by decide))).2.trans ((o_4 _ (dz_n2 (by decide))).2.trans rfl)) hS ((o_5 _ (dz_n2 (by decide))).1.trans ((o_4 _ (dz_n2 (by decide))).1.trans w10)) (vp_in_nI (by omega) (by decide)) dX9_shoot_206 (fun H locs hG hS => ?_)
        obtain ⟨G_6, hG, w_6, o_6⟩ := dz_nm hG
        obtain ⟨v_5, ev_5⟩ : ∃ y : Int32, y = (nI b - 10) + 1 := ⟨_, rfl⟩
        refine lv_iinc (v := v_5) (lv' := [(2, .int v_5), (6, .int (nI k)), (5, .int (m_bsho f3 f4 f5 f6 (nI b - 10) (nI a - 10) k)), (4, .int (m_brow f3 f4 f5 f6 (nI b - 10) (nI a - 10) k)), (3, .int (m_bcol f3 f4 f5 f6 (nI b - 10) (nI a - 10) k)), (1, .int (nI a - 10)), (0, .ref aM)]) hx hb dX9_shoot_207 hl (k := 4) rfl (by rw [ev_5]; rfl) (by decide) rfl (fun ls hl => ?_)
        refine lv_goto (tgt := 12) hx hb dX9_shoot_210 (by decide) ?_
        obtain rfl : v_5 = nI (b + 1) - 10 := ev_5.trans (fl_s22 b (by omega))
        exact ih_12 (b + 1, _, _, _, G_6, ls) _ _ (by first | (dsimp only; omega) | omega) ⟨(by omega), (by rw [nI_clamp (by omega)]; exact m_up22 (k := 22 * a + b) g8 (by unfold m_bc; rw [fl_pc a (by omega) b (by omega), fl_pr a (by omega) b (by omega), hk2])), (by rw [nI_clamp (by omega)]; exact m_up22 (k := 22 * a + b) g9 (by unfold m_br; rw [fl_pc a (by omega) b (by omega), fl_pr a (by omega) b (by omega), hk2])), (by rw [nI_clamp (by omega)]; exact m_up22 (k := 22 * a + b) g10 (by unfold m_tw; rw [fl_pc a (by omega) b (by omega), fl_pr a (by omega) b (by omega), ← hk2, ewv])), (fun r9 n_0 n_1 n_2 => (dz_tr (o_6 r9 n_2) (dz_tr (o_5 r9 n_1) (dz_tr (o_4 r9 n_0) (fr_L12 r9 n_0 n_1 n_2))))), ((o_6 _ (dz_n2 (by decide))).1.trans ((o_5 _ (dz_n2 (by decide))).1.trans w_4)), ((o_6 _ (dz_n2 (by decide))).1.trans w_5), w_6, hG, hS, lv_sub hl [0, 5, 6] rfl⟩
      · have hlt : k < nm := by
          rcases Nat.lt_or_ge k nm with q | q
          · exact q
          · exact absurd ((nI_leI (by omega) (by omega)).mpr q) c_35
        refine lv_iload_n hx hb dX9_shoot_38 rfl (lv_at hl 4 rfl) ?_
        refine lv_aload_n hx hb dX9_shoot_39 rfl (lv_at hl 6 rfl) ?_
        refine dz_get hx hb hts (fun _ h => List.mem_cons_of_mem _ (List.mem_append_right _ h)) hown hE hG ((fr_L12 _ (dz_n rfl) (dz_n rfl) (dz_n rfl)).2.trans ((fr_L3 _ (dz_n rfl) (dz_n rfl) (dz_n rfl)).2.trans ha)) ((fr_L12 _ (dz_n rfl) (dz_n rfl) (dz_n rfl)).1.trans ((fr_L3 _ (dz_n rfl) (dz_n rfl) (dz_n rfl)).1.trans ho)) rfl 4 (by decide) (hts _ (List.mem_of_getElem? (i := 2) rfl)) (fun _ h9 => h9) rfl dX9_shoot_40 ?_
        refine lv_iload hx hb dX9_shoot_43 (lv_at hl 0 rfl) ?_
        refine dz_iald hx hb hE hG ((fr_L12 _ (dz_n2 (by decide)) (dz_n2 (by decide)) (dz_n2 (by decide))).2.trans ((fr_L3 _ (dz_n2 (by decide)) (dz_n2 (by decide)) (dz_n2 (by decide))).2.trans rfl)) ((fr_L12 _ (dz_n2 (by decide)) (dz_n2 (by decide)) (dz_n2 (by decide))).1.trans ((fr_L3 _ (dz_n2 (by decide)) (dz_n2 (by decide)) (dz_n2 (by decide))).1.trans h4)) (vp_in_nI (by omega) (by decide)) dX9_shoot_45 ?_
        refine lv_topi (fun v_6 ev_6 => ?_)
        obtain rfl : v_6 = f4 k := ev_6.trans (by rw [nI_clamp (by omega)])
        refine lv_isub hx hb dX9_shoot_46 ?_
        refine lv_topi (fun v_7 ev_7 => ?_)
        obtain rfl : v_7 = (nI b - 10) - f4 k := ev_7
        refine lv_istore (lv' := [(7, .int ((nI b - 10) - f4 k)), (6, .int (nI k)), (5, .int (m_bsho f3 f4 f5 f6 (nI b - 10) (nI a - 10) k)), (4, .int (m_brow f3 f4 f5 f6 (nI b - 10) (nI a - 10) k)), (3, .int (m_bcol f3 f4 f5 f6 (nI b - 10) (nI a - 10) k)), (2, .int (nI b - 10)), (1, .int (nI a - 10)), (0, .ref aM)]) hx hb dX9_shoot_47 hl (by decide) rfl (fun ls hl => ?_)
        refine lv_iload_n hx hb dX9_shoot_49 rfl (lv_at hl 6 rfl) ?_
        refine lv_aload_n hx hb dX9_shoot_50 rfl (lv_at hl 7 rfl) ?_
        refine dz_get hx hb hts (fun _ h => List.mem_cons_of_mem _ (List.mem_append_right _ h)) hown hE hG ((fr_L12 _ (dz_n rfl) (dz_n rfl) (dz_n rfl)).2.trans ((fr_L3 _ (dz_n rfl) (dz_n rfl) (dz_n rfl)).2.trans ha)) ((fr_L12 _ (dz_n rfl) (dz_n rfl) (dz_n rfl)).1.trans ((fr_L3 _ (dz_n rfl) (dz_n rfl) (dz_n rfl)).1.trans ho)) rfl 5 (by decide) (hts _ (List.mem_of_getElem? (i := 3) rfl)) (fun _ h9 => h9) rfl dX9_shoot_51 ?_
        refine lv_iload hx hb dX9_shoot_54 (lv_at hl 1 rfl) ?_
        refine dz_iald hx hb hE hG ((fr_L12 _ (dz_n2 (by decide)) (dz_n2 (by decide)) (dz_n2 (by decide))).2.trans ((fr_L3 _ (dz_n2 (by decide)) (dz_n2 (by decide)) (dz_n2 (by decide))).2.trans rfl)) ((fr_L12 _ (dz_n2 (by decide)) (dz_n2 (by decide)) (dz_n2 (by decide))).1.trans ((fr_L3 _ (dz_n2 (by decide)) (dz_n2 (by decide)) (dz_n2 (by decide))).1.trans h5)) (vp_in_nI (by omega) (by decide)) dX9_shoot_56 ?_
        refine lv_topi (fun v_8 ev_8 => ?_)
        obtain rfl : v_8 = f5 k := ev_8.trans (by rw [nI_clamp (by omega)])
        refine lv_isub hx hb dX9_shoot_57 ?_
        refine lv_topi (fun v_9 ev_9 => ?_)
        obtain rfl : v_9 = (nI a - 10) - f5 k := ev_9
        refine lv_istore (lv' := [(8, .int ((nI a - 10) - f5 k)), (7, .int ((nI b - 10) - f4 k)), (6, .int (nI k)), (5, .int (m_bsho f3 f4 f5 f6 (nI b - 10) (nI a - 10) k)), (4, .int (m_brow f3 f4 f5 f6 (nI b - 10) (nI a - 10) k)), (3, .int (m_bcol f3 f4 f5 f6 (nI b - 10) (nI a - 10) k)), (2, .int (nI b - 10)), (1, .int (nI a - 10)), (0, .ref aM)]) hx hb dX9_shoot_58 hl (by decide) rfl (fun ls hl => ?_)
        refine lv_aload_n hx hb dX9_shoot_60 rfl (lv_at hl 8 rfl) ?_
        refine lv_iload hx hb dX9_shoot_61 (lv_at hl 2 rfl) ?_
        refine lv_iload hx hb dX9_shoot_63 (lv_at hl 1 rfl) ?_
        refine lv_iload hx hb dX9_shoot_65 (lv_at hl 0 rfl) ?_
        refine lv_iload hx hb dX9_shoot_67 (lv_at hl 0 rfl) ?_
        refine dz_kRi (va_runV (As := [_, _, _, _]) ⟨hx, hb, hml, hown, hts⟩ (c_X9_bend l Z _ _ _ _ _ _ _ _ _ _ _ _ _ _ _ _ _ _ _ _ k ((nI b - 10) - f4 k) ((nI a - 10) - f5 k) _ ((fr_L12 _ (dz_n rfl) (dz_n rfl) (dz_n rfl)).2.trans ((fr_L3 _ (dz_n rfl) (dz_n rfl) (dz_n rfl)).2.trans ha)) ((fr_L12 _ (dz_n rfl) (dz_n rfl) (dz_n rfl)).1.trans ((fr_L3 _ (dz_n rfl) (dz_n rfl) (dz_n rfl)).1.trans ho)) ((fr_L12 _ (dz_n2 (by decide)) (dz_n2 (by decide)) (dz_n2 (by decide))).1.trans ((fr_L3 _ (dz_n2 (by decide)) (dz_n2 (by decide)) (dz_n2 (by decide))).1.trans h3)) ((fr_L12 _ (dz_n2 (by decide)) (dz_n2 (by decide)) (dz_n2 (by decide))).1.trans ((fr_L3 _ (dz_n2 (by decide)) (dz_n2 (by decide)) (dz_n2 (by decide))).1.trans h6)) (show k < 6 from by omega) (m_dsn (x := b) (y := a) hok (by omega) (by omega) k hlt)) (cwV 4 hts gX9_shoot_X9_bend rfl rfl rfl (by decide +kernel) ⟨Nat.le_of_ble_eq_true rfl, Nat.le_of_ble_eq_true rfl⟩) (dz_P.preV hE hS hG ((fr_L12 _ (dz_n rfl) (dz_n rfl) (dz_n rfl)).1.trans ((fr_L3 _ (dz_n rfl) (dz_n rfl) (dz_n rfl)).1.trans ho)) rfl ((fr_L12 _ (dz_n rfl) (dz_n rfl) (dz_n rfl)).2.trans ((fr_L3 _ (dz_n rfl) (dz_n rfl) (dz_n rfl)).2.trans ha))) rfl rfl hl.1 rfl (lv_room (Nat.le_of_ble_eq_true rfl)) dX9_shoot_69 ⟨Nat.le_of_ble_eq_true rfl, Nat.le_of_ble_eq_true rfl⟩) ?_
        refine lv_topi (fun v_10 ev_10 => ?_)
        obtain rfl : v_10 = m_bend (f3 k) (f6 k) ((nI a - 10) - f5 k) (m_ds (f4 k) (f5 k) (nI b - 10) (nI a - 10)) := ev_10
        refine lv_istore (lv' := [(9, .int (m_bend (f3 k) (f6 k) ((nI a - 10) - f5 k) (m_ds (f4 k) (f5 k) (nI b - 10) (nI a - 10)))), (8, .int ((nI a - 10) - f5 k)), (7, .int ((nI b - 10) - f4 k)), (6, .int (nI k)), (5, .int (m_bsho f3 f4 f5 f6 (nI b - 10) (nI a - 10) k)), (4, .int (m_brow f3 f4 f5 f6 (nI b - 10) (nI a - 10) k)), (3, .int (m_bcol f3 f4 f5 f6 (nI b - 10) (nI a - 10) k)), (2, .int (nI b - 10)), (1, .int (nI a - 10)), (0, .ref aM)]) hx hb dX9_shoot_72 hl (by decide) rfl (fun ls hl => ?_)
        refine lv_iload_n hx hb dX9_shoot_74 rfl (lv_at hl 6 rfl) ?_
        refine lv_aload_n hx hb dX9_shoot_75 rfl (lv_at hl 9 rfl) ?_
        refine lv_iload hx hb dX9_shoot_76 (lv_at hl 3 rfl) ?_
        refine lv_iload hx hb dX9_shoot_78 (lv_at hl 2 rfl) ?_
        refine lv_iload hx hb dX9_shoot_80 (lv_at hl 1 rfl) ?_
        refine lv_iload hx hb dX9_shoot_82 (lv_at hl 2 rfl) ?_
        refine dz_kRi (va_runV (As := [_, _, _, _]) ⟨hx, hb, hml, hown, hts⟩ (c_X9_bend l Z _ _ _ _ _ _ _ _ _ _ _ _ _ _ _ _ _ _ _ _ k ((nI b - 10) - f4 k) ((nI a - 10) - f5 k) _ ((fr_L12 _ (dz_n rfl) (dz_n rfl) (dz_n rfl)).2.trans ((fr_L3 _ (dz_n rfl) (dz_n rfl) (dz_n rfl)).2.trans ha)) ((fr_L12 _ (dz_n rfl) (dz_n rfl) (dz_n rfl)).1.trans ((fr_L3 _ (dz_n rfl) (dz_n rfl) (dz_n rfl)).1.trans ho)) ((fr_L12 _ (dz_n2 (by decide)) (dz_n2 (by decide)) (dz_n2 (by decide))).1.trans ((fr_L3 _ (dz_n2 (by decide)) (dz_n2 (by decide)) (dz_n2 (by decide))).1.trans h3)) ((fr_L12 _ (dz_n2 (by decide)) (dz_n2 (by decide)) (dz_n2 (by decide))).1.trans ((fr_L3 _ (dz_n2 (by decide)) (dz_n2 (by decide)) (dz_n2 (by decide))).1.trans h6)) (show k < 6 from by omega) (m_dsn (x := b) (y := a) hok (by omega) (by omega) k hlt)) (cwV 4 hts gX9_shoot_X9_bend rfl rfl rfl (by decide +kernel) ⟨Nat.le_of_ble_eq_true rfl, Nat.le_of_ble_eq_true rfl⟩) (dz_P.preV hE hS hG ((fr_L12 _ (dz_n rfl) (dz_n rfl) (dz_n rfl)).1.trans ((fr_L3 _ (dz_n rfl) (dz_n rfl) (dz_n rfl)).1.trans ho)) rfl ((fr_L12 _ (dz_n rfl) (dz_n rfl) (dz_n rfl)).2.trans ((fr_L3 _ (dz_n rfl) (dz_n rfl) (dz_n rfl)).2.trans ha))) rfl rfl hl.1 rfl (lv_room (Nat.le_of_ble_eq_true rfl)) dX9_shoot_84 ⟨Nat.le_of_ble_eq_true rfl, Nat.le_of_ble_eq_true rfl⟩) ?_
        refine lv_iadd hx hb dX9_shoot_87 ?_
        refine lv_topi (fun v_11 ev_11 => ?_)
        refine lv_istore_n (lv' := [(3, .int v_11), (9, .int (m_bend (f3 k) (f6 k) ((nI a - 10) - f5 k) (m_ds (f4 k) (f5 k) (nI b - 10) (nI a - 10)))), (8, .int ((nI a - 10) - f5 k)), (7, .int ((nI b - 10) - f4 k)), (6, .int (nI k)), (5, .int (m_bsho f3 f4 f5 f6 (nI b - 10) (nI a - 10) k)), (4, .int (m_brow f3 f4 f5 f6 (nI b - 10) (nI a - 10) k)), (2, .int (nI b - 10)), (1, .int (nI a - 10)), (0, .ref aM)]) hx hb dX9_shoot_88 rfl hl (by decide) rfl (fun ls hl => ?_)
        refine lv_iload hx hb dX9_shoot_89 (lv_at hl 6 rfl) ?_
        refine lv_aload_n hx hb dX9_shoot_91 rfl (lv_at hl 9 rfl) ?_
        refine dz_get hx hb hts (fun _ h => List.mem_cons_of_mem _ (List.mem_append_right _ h)) hown hE hG ((fr_L12 _ (dz_n rfl) (dz_n rfl) (dz_n rfl)).2.trans ((fr_L3 _ (dz_n rfl) (dz_n rfl) (dz_n rfl)).2.trans ha)) ((fr_L12 _ (dz_n rfl) (dz_n rfl) (dz_n rfl)).1.trans ((fr_L3 _ (dz_n rfl) (dz_n rfl) (dz_n rfl)).1.trans ho)) rfl 3 (by decide) (hts _ (List.mem_of_getElem? (i := 4) rfl)) (fun _ h9 => h9) rfl dX9_shoot_92 ?_
        refine lv_iload hx hb dX9_shoot_95 (lv_at hl 4 rfl) ?_
        refine dz_iald hx hb hE hG ((fr_L12 _ (dz_n2 (by decide)) (dz_n2 (by decide)) (dz_n2 (by decide))).2.trans ((fr_L3 _ (dz_n2 (by decide)) (dz_n2 (by decide)) (dz_n2 (by decide))).2.trans rfl)) ((fr_L12 _ (dz_n2 (by decide)) (dz_n2 (by decide)) (dz_n2 (by decide))).1.trans ((fr_L3 _ (dz_n2 (by decide)) (dz_n2 (by decide)) (dz_n2 (by decide))).1.trans h3)) (vp_in_nI (by omega) (by decide)) dX9_shoot_97 ?_
        refine lv_topi (fun v_12 ev_12 => ?_)
        obtain rfl : v_12 = f3 k := ev_12.trans (by rw [nI_clamp (by omega)])
        refine lv_iconst (v := 2) hx hb dX9_shoot_98 (by decide) ?_
        refine lv_icmp_ne (tgt := 108) hx hb dX9_shoot_99 (by decide) (fun c_99 => ?_) (fun c_99 => ?_)
        · have hb2 : m_bendR (f3 k) (f6 k) ((nI a - 10) - f5 k) (m_ds (f4 k) (f5 k) (nI b - 10) (nI a - 10)) = m_bend (f3 k) (f6 k) ((nI a - 10) - f5 k) (m_ds (f4 k) (f5 k) (nI b - 10) (nI a - 10)) := if_neg c_99
          have hs2 : m_short (f3 k) (f6 k) (f4 k) (f5 k) (nI b - 10) (nI a - 10) = 2 * f6 k * m_ds (f4 k) (f5 k) (nI b - 10) (nI a - 10) := if_neg c_99
          refine lv_iload hx hb dX9_shoot_108 (lv_at hl 1 rfl) ?_
          refine lv_iadd hx hb dX9_shoot_110 ?_
          refine lv_topi (fun v_13 ev_13 => ?_)
          refine lv_istore (lv' := [(4, .int v_13), (3, .int v_11), (9, .int (m_bend (f3 k) (f6 k) ((nI a - 10) - f5 k) (m_ds (f4 k) (f5 k) (nI b - 10) (nI a - 10)))), (8, .int ((nI a - 10) - f5 k)), (7, .int ((nI b - 10) - f4 k)), (6, .int (nI k)), (5, .int (m_bsho f3 f4 f5 f6 (nI b - 10) (nI a - 10) k)), (2, .int (nI b - 10)), (1, .int (nI a - 10)), (0, .ref aM)]) hx hb dX9_shoot_111 hl (by decide) rfl (fun ls hl => ?_)
          refine lv_iload hx hb dX9_shoot_113 (lv_at hl 6 rfl) ?_
          refine lv_aload_n hx hb dX9_shoot_115 rfl (lv_at hl 9 rfl) ?_
          refine dz_get hx hb hts (fun _ h => List.mem_cons_of_mem _ (List.mem_append_right _ h)) hown hE hG ((fr_L12 _ (dz_n rfl) (dz_n rfl) (dz_n rfl)).2.trans ((fr_L3 _ (dz_n rfl) (dz_n rfl) (dz_n rfl)).2.trans ha)) ((fr_L12 _ (dz_n rfl) (dz_n rfl) (dz_n rfl)).1.trans ((fr_L3 _ (dz_n rfl) (dz_n rfl) (dz_n rfl)).1.trans ho)) rfl 3 (by decide) (hts _ (List.mem_of_getElem? (i := 4) rfl)) (fun _ h9 => h9) rfl dX9_shoot_116 ?_
          refine lv_iload hx hb dX9_shoot_119 (lv_at hl 5 rfl) ?_
          refine dz_iald hx hb hE hG ((fr_L12 _ (dz_n2 (by decide)) (dz_n2 (by decide)) (dz_n2 (by decide))).2.trans ((fr_L3 _ (dz_n2 (by decide)) (dz_n2 (by decide)) (dz_n2 (by decide))).2.trans rfl)) ((fr_L12 _ (dz_n2 (by decide)) (dz_n2 (by decide)) (dz_n2 (by decide))).1.trans ((fr_L3 _ (dz_n2 (by decide)) (dz_n2 (by decide)) (dz_n2 (by decide))).1.trans h3)) (vp_in_nI (by omega) (by decide)) dX9_shoot_121 ?_
          refine lv_topi (fun v_14 ev_14 => ?_)
          obtain rfl : v_14 = f3 k := ev_14.trans (by rw [nI_clamp (by omega)])
          refine lv_iconst (v := 2) hx hb dX9_shoot_122 (by decide) ?_
          refine lv_icmp_ne (tgt := 130) hx hb dX9_shoot_123 (by decide) (fun c_123 => ?_) (fun c_123 => absurd c_123 c_99)
          refine lv_iconst (v := 2) hx hb dX9_shoot_130 (by decide) ?_
          refine lv_aload_n hx hb dX9_shoot_131 rfl (lv_at hl 9 rfl) ?_
          refine dz_get hx hb hts (fun _ h => List.mem_cons_of_mem _ (List.mem_append_right _ h)) hown hE hG ((fr_L12 _ (dz_n rfl) (dz_n rfl) (dz_n rfl)).2.trans ((fr_L3 _ (dz_n rfl) (dz_n rfl) (dz_n rfl)).2.trans ha)) ((fr_L12 _ (dz_n rfl) (dz_n rfl) (dz_n rfl)).1.trans ((fr_L3 _ (dz_n rfl) (dz_n rfl) (dz_n rfl)).1.trans ho)) rfl 6 (by decide) (hts _ (List.mem_of_getElem? (i := 5) rfl)) (fun _ h9 => h9) rfl dX9_shoot_132 ?_
          refine lv_iload hx hb dX9_shoot_135 (lv_at hl 5 rfl) ?_
          refine dz_iald hx hb hE hG ((fr_L12 _ (dz_n2 (by decide)) (dz_n2 (by decide)) (dz_n2 (by decide))).2.trans ((fr_L3 _ (dz_n2 (by decide)) (dz_n2 (by decide)) (dz_n2 (by decide))).2.trans rfl)) ((fr_L12 _ (dz_n2 (by decide)) (dz_n2 (by decide)) (dz_n2 (by decide))).1.trans ((fr_L3 _ (dz_n2 (by decide)) (dz_n2 (by decide)) (dz_n2 (by decide))).1.trans h6)) (vp_in_nI (by omega) (by decide)) dX9_shoot_137 ?_
          refine lv_topi (fun v_15 ev_15 => ?_)
          obtain rfl : v_15 = f6 k := ev_15.trans (by rw [nI_clamp (by omega)])
          refine lv_imul hx hb dX9_shoot_138 ?_
          refine lv_iload hx hb dX9_shoot_139 (lv_at hl 4 rfl) ?_
          refine dz_kRi (va_runS (As := [_]) ⟨hx, hb, hml, hown, hts⟩ (c_X9_size l Z _ _ _ ) (va_cwS 1 hts gX9_shoot_X9_size rfl rfl rfl (by decide +kernel) ⟨Nat.le_of_ble_eq_true rfl, Nat.le_of_ble_eq_true rfl⟩) (dz_P.pre hE hS hG) rfl rfl hl.1 rfl (lv_room (Nat.le_of_ble_eq_true rfl)) dX9_shoot_141 ⟨Nat.le_of_ble_eq_true rfl, Nat.le_of_ble_eq_true rfl⟩) ?_
          refine lv_iload hx hb dX9_shoot_144 (lv_at hl 3 rfl) ?_
          refine dz_kRi (va_runS (As := [_]) ⟨hx, hb, hml, hown, hts⟩ (c_X9_size l Z _ _ _ ) (va_cwS 1 hts gX9_shoot_X9_size rfl rfl rfl (by decide +kernel) ⟨Nat.le_of_ble_eq_true rfl, Nat.le_of_ble_eq_true rfl⟩) (dz_P.pre hE hS hG) rfl rfl hl.1 rfl (lv_room (Nat.le_of_ble_eq_true rfl)) dX9_shoot_146 ⟨Nat.le_of_ble_eq_true rfl, Nat.le_of_ble_eq_true rfl⟩) ?_
          refine lv_iadd hx hb dX9_shoot_149 ?_
          refine lv_imul hx hb dX9_shoot_150 ?_
          refine lv_iadd hx hb dX9_shoot_151 ?_
          refine lv_topi (fun v_16 ev_16 => ?_)
          refine lv_istore (lv' := [(5, .int v_16), (4, .int v_13), (3, .int v_11), (9, .int (m_bend (f3 k) (f6 k) ((nI a - 10) - f5 k) (m_ds (f4 k) (f5 k) (nI b - 10) (nI a - 10)))), (8, .int ((nI a - 10) - f5 k)), (7, .int ((nI b - 10) - f4 k)), (6, .int (nI k)), (2, .int (nI b - 10)), (1, .int (nI a - 10)), (0, .ref aM)]) hx hb dX9_shoot_152 hl (by decide) rfl (fun ls hl => ?_)
          obtain ⟨v_17, ev_17⟩ : ∃ y : Int32, y = (nI k) + 1 := ⟨_, rfl⟩
          refine lv_iinc (v := v_17) (lv' := [(6, .int v_17), (5, .int v_16), (4, .int v_13), (3, .int v_11), (9, .int (m_bend (f3 k) (f6 k) ((nI a - 10) - f5 k) (m_ds (f4 k) (f5 k) (nI b - 10) (nI a - 10)))), (8, .int ((nI a - 10) - f5 k)), (7, .int ((nI b - 10) - f4 k)), (2, .int (nI b - 10)), (1, .int (nI a - 10)), (0, .ref aM)]) hx hb dX9_shoot_154 hl (k := 6) rfl (by rw [ev_17]; rfl) (by decide) rfl (fun ls hl => ?_)
          refine lv_goto (tgt := 29) hx hb dX9_shoot_157 (by decide) ?_
          obtain rfl : v_17 = nI (k + 1) := ev_17.trans (nI_1 k)
          obtain rfl : v_11 = (m_bcol f3 f4 f5 f6 (nI b - 10) (nI a - 10) (k + 1)) := ev_11
          obtain rfl : v_13 = (m_brow f3 f4 f5 f6 (nI b - 10) (nI a - 10) (k + 1)) := ev_13.trans (congrArg (fun z => (m_brow f3 f4 f5 f6 (nI b - 10) (nI a - 10) k) + z) hb2.symm)
          obtain rfl : v_16 = (m_bsho f3 f4 f5 f6 (nI b - 10) (nI a - 10) (k + 1)) := ev_16.trans (congrArg (fun z => (m_bsho f3 f4 f5 f6 (nI b - 10) (nI a - 10) k) + z) hs2.symm)
          exact ih_29 (k + 1, ls) (by first | (dsimp only; omega) | omega) ⟨(by omega), lv_sub hl [0, 1, 2, 3, 7, 8, 9] rfl⟩
        · have hb2 : m_bendR (f3 k) (f6 k) ((nI a - 10) - f5 k) (m_ds (f4 k) (f5 k) (nI b - 10) (nI a - 10)) = -(m_bend (f3 k) (f6 k) ((nI a - 10) - f5 k) (m_ds (f4 k) (f5 k) (nI b - 10) (nI a - 10))) := if_pos c_99
          have hs2 : m_short (f3 k) (f6 k) (f4 k) (f5 k) (nI b - 10) (nI a - 10) = 0 := if_pos c_99
          refine lv_iload hx hb dX9_shoot_102 (lv_at hl 1 rfl) ?_
          refine lv_ineg hx hb dX9_shoot_104 ?_
          refine lv_goto (tgt := 110) hx hb dX9_shoot_105 (by decide) ?_
          refine lv_iadd hx hb dX9_shoot_110 ?_
          refine lv_topi (fun v_18 ev_18 => ?_)
          refine lv_istore (lv' := [(4, .int v_18), (3, .int v_11), (9, .int (m_bend (f3 k) (f6 k) ((nI a - 10) - f5 k) (m_ds (f4 k) (f5 k) (nI b - 10) (nI a - 10)))), (8, .int ((nI a - 10) - f5 k)), (7, .int ((nI b - 10) - f4 k)), (6, .int (nI k)), (5, .int (m_bsho f3 f4 f5 f6 (nI b - 10) (nI a - 10) k)), (2, .int (nI b - 10)), (1, .int (nI a - 10)), (0, .ref aM)]) hx hb dX9_shoot_111 hl (by decide) rfl (fun ls hl => ?_)
          refine lv_iload hx hb dX9_shoot_113 (lv_at hl 6 rfl) ?_
          refine lv_aload_n hx hb dX9_shoot_115 rfl (lv_at hl 9 rfl) ?_
          refine dz_get hx hb hts (fun _ h => List.mem_cons_of_mem _ (List.mem_append_right _ h)) hown hE hG ((fr_L12 _ (dz_n rfl) (dz_n rfl) (dz_n rfl)).2.trans ((fr_L3 _ (dz_n rfl) (dz_n rfl) (dz_n rfl)).2.trans ha)) ((fr_L12 _ (dz_n rfl) (dz_n rfl) (dz_n rfl)).1.trans ((fr_L3 _ (dz_n rfl) (dz_n rfl) (dz_n rfl)).1.trans ho)) rfl 3 (by decide) (hts _ (List.mem_of_getElem? (i := 4) rfl)) (fun _ h9 => h9) rfl dX9_shoot_116 ?_
          refine lv_iload hx hb dX9_shoot_119 (lv_at hl 5 rfl) ?_
          refine dz_iald hx hb hE hG ((fr_L12 _ (dz_n2 (by decide)) (dz_n2 (by decide)) (dz_n2 (by decide))).2.trans ((fr_L3 _ (dz_n2 (by decide)) (dz_n2 (by decide)) (dz_n2 (by decide))).2.trans rfl)) ((fr_L12 _ (dz_n2 (by decide)) (dz_n2 (by decide)) (dz_n2 (by decide))).1.trans ((fr_L3 _ (dz_n2 (by decide)) (dz_n2 (by decide)) (dz_n2 (by decide))).1.trans h3)) (vp_in_nI (by omega) (by decide)) dX9_shoot_121 ?_
          refine lv_topi (fun v_19 ev_19 => ?_)
          obtain rfl : v_19 = f3 k := ev_19.trans (by rw [nI_clamp (by omega)])
          refine lv_iconst (v := 2) hx hb dX9_shoot_122 (by decide) ?_
          refine lv_icmp_ne (tgt := 130) hx hb dX9_shoot_123 (by decide) (fun c_123 => absurd c_99 c_123) (fun c_123 => ?_)
          refine lv_iconst (v := 0) hx hb dX9_shoot_126 (by decide) ?_
          refine lv_goto (tgt := 151) hx hb dX9_shoot_127 (by decide) ?_
          refine lv_iadd hx hb dX9_shoot_151 ?_
          refine lv_topi (fun v_20 ev_20 => ?_)
          refine lv_istore (lv' := [(5, .int v_20), (4, .int v_18), (3, .int v_11), (9, .int (m_bend (f3 k) (f6 k) ((nI a - 10) - f5 k) (m_ds (f4 k) (f5 k) (nI b - 10) (nI a - 10)))), (8, .int ((nI a - 10) - f5 k)), (7, .int ((nI b - 10) - f4 k)), (6, .int (nI k)), (2, .int (nI b - 10)), (1, .int (nI a - 10)), (0, .ref aM)]) hx hb dX9_shoot_152 hl (by decide) rfl (fun ls hl => ?_)
          obtain ⟨v_21, ev_21⟩ : ∃ y : Int32, y = (nI k) + 1 := ⟨_, rfl⟩
          refine lv_iinc (v := v_21) (lv' := [(6, .int v_21), (5, .int v_20), (4, .int v_18), (3, .int v_11), (9, .int (m_bend (f3 k) (f6 k) ((nI a - 10) - f5 k) (m_ds (f4 k) (f5 k) (nI b - 10) (nI a - 10)))), (8, .int ((nI a - 10) - f5 k)), (7, .int ((nI b - 10) - f4 k)), (2, .int (nI b - 10)), (1, .int (nI a - 10)), (0, .ref aM)]) hx hb dX9_shoot_154 hl (k := 6) rfl (by rw [ev_21]; rfl) (by decide) rfl (fun ls hl => ?_)
          refine lv_goto (tgt := 29) hx hb dX9_shoot_157 (by decide) ?_
          obtain rfl : v_21 = nI (k + 1) := ev_21.trans (nI_1 k)
          obtain rfl : v_11 = (m_bcol f3 f4 f5 f6 (nI b - 10) (nI a - 10) (k + 1)) := ev_11
          obtain rfl : v_18 = (m_brow f3 f4 f5 f6 (nI b - 10) (nI a - 10) (k + 1)) := ev_18.trans (congrArg (fun z => (m_brow f3 f4 f5 f6 (nI b - 10) (nI a - 10) k) + z) hb2.symm)
          obtain rfl : v_20 = (m_bsho f3 f4 f5 f6 (nI b - 10) (nI a - 10) (k + 1)) := ev_20.trans (congrArg (fun z => (m_bsho f3 f4 f5 f6 (nI b - 10) (nI a - 10) k) + z) hs2.symm)
          exact ih_29 (k + 1, ls) (by first | (dsimp only; omega) | omega) ⟨(by omega), lv_sub hl [0, 1, 2, 3, 7, 8, 9] rfl⟩
