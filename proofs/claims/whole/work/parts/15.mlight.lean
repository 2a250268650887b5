set_option maxHeartbeats 4000000 in
set_option maxRecDepth 100000 in
theorem c_X9_timesOf (l : Launch) (Z : dzG) (G : dzW) (ad : dzA) (aM nm ns nl nx nf my : Nat) (th dy td ssf sst cfr grw bkk iop : Int32) (f8 f9 f37 : Nat → Int32) (rk j : Nat) (ha : ad (39, 0) = aM) (ho : G (39, 0) = some (eO 10 [.int th, .int dy, .int (nI nm), .ref (ad (40, 3)), .ref (ad (40, 4)), .ref (ad (40, 5)), .ref (ad (40, 6)), .int td, .ref (ad (40, 8)), .ref (ad (40, 9)), .ref (ad (40, 10)), .int (nI ns), .ref (ad (40, 12)), .ref (ad (40, 13)), .ref (ad (40, 14)), .int (nI nl), .ref (ad (40, 16)), .ref (ad (40, 17)), .ref (ad (40, 18)), .int (nI nx), .ref (ad (40, 20)), .ref (ad (40, 21)), .ref (ad (40, 22)), .ref (ad (40, 23)), .ref (ad (40, 24)), .int ssf, .int sst, .int cfr, .int grw, .int (nI nf), .ref (ad (40, 30)), .ref (ad (40, 31)), .int bkk, .ref (ad (40, 33)), .ref (ad (40, 34)), .ref (ad (40, 35)), .int iop, .ref (ad (40, 37)), .int (nI my)])) (h8 : G (40, 8) = some (eI Z 484 f8)) (h9 : G (40, 9) = some (eI Z 484 f9)) (h37 : G (40, 37) = some (eI Z 441 f37)) (hrk : rk < 441) (hij : f37 rk = nI j) (hjj : j + 22 < 484) : dzRd l yX9_timesOf wsX9_timesOf 1 21 Z G ad [.ref aM, .int (nI rk)] (some (.int (m_times (m_turn (fun j => m_pc j - f8 j) (fun j => m_pr j - f9 j) j)))) := by
  refine Met.ofW (cc := cX9_timesOf) (maxL := 10) (ret := (some .int)) (by decide) rfl ?_
  intro p e s m args below meth c s₁ B hml hv
  obtain ⟨rfl, hG, hE⟩ := hv
  have hx := B.exec
  have hb := B.bytes
  have hrt := B.returns
  have hts := atoms_spec (ws := wsX9_timesOf) B.pre
  have hown : s.vm.findClass RX9 = some m.cls := findClass_of_methodNamed B.named
  have hlocks := B.notSynchronized
  have hS : va_S (dz_A Z) s.heap s.heap [] := va_S.rf
  have hl := lv_entry ([.ref aM, .int (nI rk)]) (n := 10) (Nat.le_of_ble_eq_true rfl)
  rw [lg_entry_eq]
  generalize (lg_sl ([.ref aM, .int (nI rk)]) ++ List.replicate (10 - (lg_sl ([.ref aM, .int (nI rk)])).length) Slot.unset).toArray = ls at hl ⊢
  have hl : lv_has ls 10 [(0, .ref aM), (1, .int (nI rk))] := hl
  refine lv_aload_n hx hb dX9_timesOf_0 rfl (lv_at hl 0 rfl) ?_
  refine dz_get hx hb hts (fun _ h => List.mem_cons_of_mem _ (List.mem_append_right _ h)) hown hE hG ha ho rfl 37 (by decide) (hts _ (List.mem_of_getElem? (i := 1) rfl)) (fun _ h9 => h9) rfl dX9_timesOf_1 ?_
  refine lv_iload_n hx hb dX9_timesOf_4 rfl (lv_at hl 1 rfl) ?_
  refine dz_iald hx hb hE hG rfl h37 (vp_in_nI (by omega) (by decide)) dX9_timesOf_5 ?_
  refine lv_topi (fun v_1 ev_1 => ?_)
  obtain rfl : v_1 = nI j := ev_1.trans (by rw [nI_clamp (by omega)]; exact hij)
  refine lv_istore_n (lv' := [(2, .int (nI j)), (0, .ref aM), (1, .int (nI rk))]) hx hb dX9_timesOf_6 rfl hl (by decide) rfl (fun ls hl => ?_)
  refine lv_iload_n hx hb dX9_timesOf_7 rfl (lv_at hl 0 rfl) ?_
  refine lv_iconst (v := 1) hx hb dX9_timesOf_8 (by decide) ?_
  refine lv_iadd hx hb dX9_timesOf_9 ?_
  refine lv_topi (fun v_2 ev_2 => ?_)
  obtain rfl : v_2 = nI (j + 1) := ev_2.trans (nI_1 j)
  refine lv_istore_n (lv' := [(3, .int (nI (j + 1))), (2, .int (nI j)), (0, .ref aM), (1, .int (nI rk))]) hx hb dX9_timesOf_10 rfl hl (by decide) rfl (fun ls hl => ?_)
  refine lv_iload_n hx hb dX9_timesOf_11 rfl (lv_at hl 1 rfl) ?_
  refine lv_bipush (v := 22) hx hb dX9_timesOf_12 (by decide) ?_
  refine lv_iadd hx hb dX9_timesOf_14 ?_
  refine lv_topi (fun v_3 ev_3 => ?_)
  obtain rfl : v_3 = nI (j + 22) := ev_3.trans (nI_add j 22)
  refine lv_istore (lv' := [(4, .int (nI (j + 22))), (3, .int (nI (j + 1))), (2, .int (nI j)), (0, .ref aM), (1, .int (nI rk))]) hx hb dX9_timesOf_15 hl (by decide) rfl (fun ls hl => ?_)
  refine lv_aload_n hx hb dX9_timesOf_17 rfl (lv_at hl 3 rfl) ?_
  refine lv_iload_n hx hb dX9_timesOf_18 rfl (lv_at hl 1 rfl) ?_
  refine dz_kRi (va_runV (As := [_]) ⟨hx, hb, hml, hown, hts⟩ (c_X9_columnFrom l Z _ _ _ _ _ _ _ _ _ _ _ _ _ _ _ _ _ _ _ _ ha ho h8 (show j + 1 < 484 from by omega)) (cwV 1 hts gX9_timesOf_X9_columnFrom rfl rfl rfl (by decide +kernel) ⟨Nat.le_of_ble_eq_true rfl, Nat.le_of_ble_eq_true rfl⟩) (dz_P.preV hE hS hG ho rfl ha) rfl rfl hl.1 rfl (lv_room (Nat.le_of_ble_eq_true rfl)) dX9_timesOf_19 ⟨Nat.le_of_ble_eq_true rfl, Nat.le_of_ble_eq_true rfl⟩) ?_
  refine lv_topi (fun v_4 ev_4 => ?_)
  obtain rfl : v_4 = m_pc (j + 1) - f8 (j + 1) := ev_4
  refine lv_aload_n hx hb dX9_timesOf_22 rfl (lv_at hl 3 rfl) ?_
  refine lv_iload_n hx hb dX9_timesOf_23 rfl (lv_at hl 2 rfl) ?_
  refine dz_kRi (va_runV (As := [_]) ⟨hx, hb, hml, hown, hts⟩ (c_X9_columnFrom l Z _ _ _ _ _ _ _ _ _ _ _ _ _ _ _ _ _ _ _ _ ha ho h8 (show j < 484 from by omega)) (cwV 1 hts gX9_timesOf_X9_columnFrom rfl rfl rfl (by decide +kernel) ⟨Nat.le_of_ble_eq_true rfl, Nat.le_of_ble_eq_true rfl⟩) (dz_P.preV hE hS hG ho rfl ha) rfl rfl hl.1 rfl (lv_room (Nat.le_of_ble_eq_true rfl)) dX9_timesOf_24 ⟨Nat.le_of_ble_eq_true rfl, Nat.le_of_ble_eq_true rfl⟩) ?_
  refine lv_topi (fun v_5 ev_5 => ?_)
  obtain rfl : v_5 = m_pc (j) - f8 (j) := ev_5
  refine lv_isub hx hb dX9_timesOf_27 ?_
  refine lv_topi (fun va eva => ?_)
  refine lv_istore (lv' := [(5, .int va), (4, .int (nI (j + 22))), (3, .int (nI (j + 1))), (2, .int (nI j)), (0, .ref aM), (1, .int (nI rk))]) hx hb dX9_timesOf_28 hl (by decide) rfl (fun ls hl => ?_)
  refine lv_aload_n hx hb dX9_timesOf_30 rfl (lv_at hl 4 rfl) ?_
  refine lv_iload_n hx hb dX9_timesOf_31 rfl (lv_at hl 2 rfl) ?_
  refine dz_kRi (va_runV (As := [_]) ⟨hx, hb, hml, hown, hts⟩ (c_X9_rowFrom l Z _ _ _ _ _ _ _ _ _ _ _ _ _ _ _ _ _ _ _ _ ha ho h9 (show j + 1 < 484 from by omega)) (cwV 1 hts gX9_timesOf_X9_rowFrom rfl rfl rfl (by decide +kernel) ⟨Nat.le_of_ble_eq_true rfl, Nat.le_of_ble_eq_true rfl⟩) (dz_P.preV hE hS hG ho rfl ha) rfl rfl hl.1 rfl (lv_room (Nat.le_of_ble_eq_true rfl)) dX9_timesOf_32 ⟨Nat.le_of_ble_eq_true rfl, Nat.le_of_ble_eq_true rfl⟩) ?_
  refine lv_topi (fun v_6 ev_6 => ?_)
  obtain rfl : v_6 = m_pr (j + 1) - f9 (j + 1) := ev_6
  refine lv_aload_n hx hb dX9_timesOf_35 rfl (lv_at hl 4 rfl) ?_
  refine lv_iload_n hx hb dX9_timesOf_36 rfl (lv_at hl 3 rfl) ?_
  refine dz_kRi (va_runV (As := [_]) ⟨hx, hb, hml, hown, hts⟩ (c_X9_rowFrom l Z _ _ _ _ _ _ _ _ _ _ _ _ _ _ _ _ _ _ _ _ ha ho h9 (show j < 484 from by omega)) (cwV 1 hts gX9_timesOf_X9_rowFrom rfl rfl rfl (by decide +kernel) ⟨Nat.le_of_ble_eq_true rfl, Nat.le_of_ble_eq_true rfl⟩) (dz_P.preV hE hS hG ho rfl ha) rfl rfl hl.1 rfl (lv_room (Nat.le_of_ble_eq_true rfl)) dX9_timesOf_37 ⟨Nat.le_of_ble_eq_true rfl, Nat.le_of_ble_eq_true rfl⟩) ?_
  refine lv_topi (fun v_7 ev_7 => ?_)
  obtain rfl : v_7 = m_pr (j) - f9 (j) := ev_7
  refine lv_isub hx hb dX9_timesOf_40 ?_
  refine lv_topi (fun vb evb => ?_)
  refine lv_istore (lv' := [(6, .int vb), (5, .int va), (4, .int (nI (j + 22))), (3, .int (nI (j + 1))), (2, .int (nI j)), (0, .ref aM), (1, .int (nI rk))]) hx hb dX9_timesOf_41 hl (by decide) rfl (fun ls hl => ?_)
  refine lv_aload_n hx hb dX9_timesOf_43 rfl (lv_at hl 5 rfl) ?_
  refine lv_iload hx hb dX9_timesOf_44 (lv_at hl 2 rfl) ?_
  refine dz_kRi (va_runV (As := [_]) ⟨hx, hb, hml, hown, hts⟩ (c_X9_columnFrom l Z _ _ _ _ _ _ _ _ _ _ _ _ _ _ _ _ _ _ _ _ ha ho h8 (show j + 22 < 484 from by omega)) (cwV 1 hts gX9_timesOf_X9_columnFrom rfl rfl rfl (by decide +kernel) ⟨Nat.le_of_ble_eq_true rfl, Nat.le_of_ble_eq_true rfl⟩) (dz_P.preV hE hS hG ho rfl ha) rfl rfl hl.1 rfl (lv_room (Nat.le_of_ble_eq_true rfl)) dX9_timesOf_46 ⟨Nat.le_of_ble_eq_true rfl, Nat.le_of_ble_eq_true rfl⟩) ?_
  refine lv_topi (fun v_8 ev_8 => ?_)
  obtain rfl : v_8 = m_pc (j + 22) - f8 (j + 22) := ev_8
  refine lv_aload_n hx hb dX9_timesOf_49 rfl (lv_at hl 5 rfl) ?_
  refine lv_iload_n hx hb dX9_timesOf_50 rfl (lv_at hl 4 rfl) ?_
  refine dz_kRi (va_runV (As := [_]) ⟨hx, hb, hml, hown, hts⟩ (c_X9_columnFrom l Z _ _ _ _ _ _ _ _ _ _ _ _ _ _ _ _ _ _ _ _ ha ho h8 (show j < 484 from by omega)) (cwV 1 hts gX9_timesOf_X9_columnFrom rfl rfl rfl (by decide +kernel) ⟨Nat.le_of_ble_eq_true rfl, Nat.le_of_ble_eq_true rfl⟩) (dz_P.preV hE hS hG ho rfl ha) rfl rfl hl.1 rfl (lv_room (Nat.le_of_ble_eq_true rfl)) dX9_timesOf_51 ⟨Nat.le_of_ble_eq_true rfl, Nat.le_of_ble_eq_true rfl⟩) ?_
  refine lv_topi (fun v_9 ev_9 => ?_)
  obtain rfl : v_9 = m_pc (j) - f8 (j) := ev_9
  refine lv_isub hx hb dX9_timesOf_54 ?_
  refine lv_topi (fun vc evc => ?_)
  refine lv_istore (lv' := [(7, .int vc), (6, .int vb), (5, .int va), (4, .int (nI (j + 22))), (3, .int (nI (j + 1))), (2, .int (nI j)), (0, .ref aM), (1, .int (nI rk))]) hx hb dX9_timesOf_55 hl (by decide) rfl (fun ls hl => ?_)
  refine lv_aload_n hx hb dX9_timesOf_57 rfl (lv_at hl 6 rfl) ?_
  refine lv_iload hx hb dX9_timesOf_58 (lv_at hl 3 rfl) ?_
  refine dz_kRi (va_runV (As := [_]) ⟨hx, hb, hml, hown, hts⟩ (c_X9_rowFrom l Z _ _ _ _ _ _ _ _ _ _ _ _ _ _ _ _ _ _ _ _ ha ho h9 (show j + 22 < 484 from by omega)) (cwV 1 hts gX9_timesOf_X9_rowFrom rfl rfl rfl (by decide +kernel) ⟨Nat.le_of_ble_eq_true rfl, Nat.le_of_ble_eq_true rfl⟩) (dz_P.preV hE hS hG ho rfl ha) rfl rfl hl.1 rfl (lv_room (Nat.le_of_ble_eq_true rfl)) dX9_timesOf_60 ⟨Nat.le_of_ble_eq_true rfl, Nat.le_of_ble_eq_true rfl⟩) ?_
  refine lv_topi (fun v_10 ev_10 => ?_)
  obtain rfl : v_10 = m_pr (j + 22) - f9 (j + 22) := ev_10
  refine lv_aload_n hx hb dX9_timesOf_63 rfl (lv_at hl 6 rfl) ?_
  refine lv_iload_n hx hb dX9_timesOf_64 rfl (lv_at hl 5 rfl) ?_
  refine dz_kRi (va_runV (As := [_]) ⟨hx, hb, hml, hown, hts⟩ (c_X9_rowFrom l Z _ _ _ _ _ _ _ _ _ _ _ _ _ _ _ _ _ _ _ _ ha ho h9 (show j < 484 from by omega)) (cwV 1 hts gX9_timesOf_X9_rowFrom rfl rfl rfl (by decide +kernel) ⟨Nat.le_of_ble_eq_true rfl, Nat.le_of_ble_eq_true rfl⟩) (dz_P.preV hE hS hG ho rfl ha) rfl rfl hl.1 rfl (lv_room (Nat.le_of_ble_eq_true rfl)) dX9_timesOf_65 ⟨Nat.le_of_ble_eq_true rfl, Nat.le_of_ble_eq_true rfl⟩) ?_
  refine lv_topi (fun v_11 ev_11 => ?_)
  obtain rfl : v_11 = m_pr (j) - f9 (j) := ev_11
  refine lv_isub hx hb dX9_timesOf_68 ?_
  refine lv_topi (fun vd evd => ?_)
  refine lv_istore (lv' := [(8, .int vd), (7, .int vc), (6, .int vb), (5, .int va), (4, .int (nI (j + 22))), (3, .int (nI (j + 1))), (2, .int (nI j)), (0, .ref aM), (1, .int (nI rk))]) hx hb dX9_timesOf_69 hl (by decide) rfl (fun ls hl => ?_)
  refine lv_iload hx hb dX9_timesOf_71 (lv_at hl 3 rfl) ?_
  refine lv_iload hx hb dX9_timesOf_73 (lv_at hl 0 rfl) ?_
  refine lv_imul hx hb dX9_timesOf_75 ?_
  refine lv_iload hx hb dX9_timesOf_76 (lv_at hl 2 rfl) ?_
  refine lv_iload hx hb dX9_timesOf_78 (lv_at hl 1 rfl) ?_
  refine lv_imul hx hb dX9_timesOf_80 ?_
  refine lv_isub hx hb dX9_timesOf_81 ?_
  refine lv_topi (fun v_12 ev_12 => ?_)
  obtain rfl : v_12 = m_turn (fun j => m_pc j - f8 j) (fun j => m_pr j - f9 j) j := ev_12.trans (by rw [eva, evb, evc, evd]; rfl)
  refine lv_istore (lv' := [(9, .int (m_turn (fun j => m_pc j - f8 j) (fun j => m_pr j - f9 j) j)), (8, .int vd), (7, .int vc), (6, .int vb), (5, .int va), (4, .int (nI (j + 22))), (3, .int (nI (j + 1))), (2, .int (nI j)), (0, .ref aM), (1, .int (nI rk))]) hx hb dX9_timesOf_82 hl (by decide) rfl (fun ls hl => ?_)
  refine lv_iload hx hb dX9_timesOf_84 (lv_at hl 0 rfl) ?_
  refine lv_if_ne (tgt := 94) hx hb dX9_timesOf_86 (by decide) (fun c_86 => ?_) (fun c_86 => ?_)
  · refine lv_bipush (v := 24) hx hb dX9_timesOf_94 (by decide) ?_
    refine lv_iload hx hb dX9_timesOf_96 (lv_at hl 0 rfl) ?_
    refine lv_idiv hx hb dX9_timesOf_98 c_86 ?_
    refine W.iret hx hb hrt (fun t ht hW => ⟨congrArg (fun x => Outcome.returned (some (Value.int x))) ?_, ht⟩) (fun _ h => by cases h) dX9_timesOf_99
    first | exact (if_pos c_86).symm | exact (if_neg c_86).symm
  · refine lv_bipush (v := 24) hx hb dX9_timesOf_89 (by decide) ?_
    refine lv_goto (tgt := 99) hx hb dX9_timesOf_91 (by decide) ?_
    refine W.iret hx hb hrt (fun t ht hW => ⟨congrArg (fun x => Outcome.returned (some (Value.int x))) ?_, ht⟩) (fun _ h => by cases h) dX9_timesOf_99
    first | exact (if_pos c_86).symm | exact (if_neg c_86).symm

set_option maxHeartbeats 4000000 in
set_option maxRecDepth 100000 in
theorem c_X9_lateOf (l : Launch) (Z : dzG) (G : dzW) (ad : dzA) (aM nm ns nl nx nf my : Nat) (th dy td ssf sst cfr grw bkk iop : Int32) (f10 f37 : Nat → Int32) (rk j j0 : Nat) (ha : ad (39, 0) = aM) (ho : G (39, 0) = some (eO 10 [.int th, .int dy, .int (nI nm), .ref (ad (40, 3)), .ref (ad (40, 4)), .ref (ad (40, 5)), .ref (ad (40, 6)), .int td, .ref (ad (40, 8)), .ref (ad (40, 9)), .ref (ad (40, 10)), .int (nI ns), .ref (ad (40, 12)), .ref (ad (40, 13)), .ref (ad (40, 14)), .int (nI nl), .ref (ad (40, 16)), .ref (ad (40, 17)), .ref (ad (40, 18)), .int (nI nx), .ref (ad (40, 20)), .ref (ad (40, 21)), .ref (ad (40, 22)), .ref (ad (40, 23)), .ref (ad (40, 24)), .int ssf, .int sst, .int cfr, .int grw, .int (nI nf), .ref (ad (40, 30)), .ref (ad (40, 31)), .int bkk, .ref (ad (40, 33)), .ref (ad (40, 34)), .ref (ad (40, 35)), .int iop, .ref (ad (40, 37)), .int (nI my)])) (h10 : G (40, 10) = some (eI Z 484 f10)) (h37 : G (40, 37) = some (eI Z 441 f37)) (hrk : rk < 441) (hij : f37 rk = nI j) (hi0 : f37 0 = nI j0) (hj : j < 484) (hj0 : j0 < 484) (hg : ¬ grw = 0) : dzRd l yX9_lateOf wsX9_lateOf 0 0 Z G ad [.ref aM, .int (nI rk)] (some (.int ((f10 j - f10 j0) * 20 / grw))) := by
  refine Met.ofW (cc := cX9_lateOf) (maxL := 2) (ret := (some .int)) (by decide) rfl ?_
  intro p e s m args below meth c s₁ B hml hv
  obtain ⟨rfl, hG, hE⟩ := hv
  have hx := B.exec
  have hb := B.bytes
  have hrt := B.returns
  have hts := atoms_spec (ws := wsX9_lateOf) B.pre
  have hown : s.vm.findClass RX9 = some m.cls := findClass_of_methodNamed B.named
  have hlocks := B.notSynchronized
  have hS : va_S (dz_A Z) s.heap s.heap [] := va_S.rf
  have hl := lv_entry ([.ref aM, .int (nI rk)]) (n := 2) (Nat.le_of_ble_eq_true rfl)
  rw [lg_entry_eq]
  generalize (lg_sl ([.ref aM, .int (nI rk)]) ++ List.replicate (2 - (lg_sl ([.ref aM, .int (nI rk)])).length) Slot.unset).toArray = ls at hl ⊢
  have hl : lv_has ls 2 [(0, .ref aM), (1, .int (nI rk))] := hl
  refine lv_aload_n hx hb dX9_lateOf_0 rfl (lv_at hl 0 rfl) ?_
  refine dz_get hx hb hts (fun _ h => List.mem_cons_of_mem _ (List.mem_append_right _ h)) hown hE hG ha ho rfl 10 (by decide) (hts _ (List.mem_of_getElem? (i := 1) rfl)) (fun _ h9 => h9) rfl dX9_lateOf_1 ?_
  refine lv_aload_n hx hb dX9_lateOf_4 rfl (lv_at hl 0 rfl) ?_
  refine dz_get hx hb hts (fun _ h => List.mem_cons_of_mem _ (List.mem_append_right _ h)) hown hE hG ha ho rfl 37 (by decide) (hts _ (List.mem_of_getElem? (i := 2) rfl)) (fun _ h9 => h9) rfl dX9_lateOf_5 ?_
  refine lv_iload_n hx hb dX9_lateOf_8 rfl (lv_at hl 1 rfl) ?_
  refine dz_iald hx hb hE hG rfl h37 (vp_in_nI (by omega) (by decide)) dX9_lateOf_9 ?_
  refine lv_topi (fun v_1 ev_1 => ?_)
  obtain rfl : v_1 = nI j := ev_1.trans (by rw [nI_clamp (by omega)]; exact hij)
  refine dz_iald hx hb hE hG rfl h10 (vp_in_nI (by omega) (by decide)) dX9_lateOf_10 ?_
  refine lv_topi (fun v_2 ev_2 => ?_)
  obtain rfl : v_2 = f10 j := ev_2.trans (by rw [nI_clamp (by omega)])
  refine lv_aload_n hx hb dX9_lateOf_11 rfl (lv_at hl 0 rfl) ?_
  refine dz_get hx hb hts (fun _ h => List.mem_cons_of_mem _ (List.mem_append_right _ h)) hown hE hG ha ho rfl 10 (by decide) (hts _ (List.mem_of_getElem? (i := 1) rfl)) (fun _ h9 => h9) rfl dX9_lateOf_12 ?_
  refine lv_aload_n hx hb dX9_lateOf_15 rfl (lv_at hl 0 rfl) ?_
  refine dz_get hx hb hts (fun _ h => List.mem_cons_of_mem _ (List.mem_append_right _ h)) hown hE hG ha ho rfl 37 (by decide) (hts _ (List.mem_of_getElem? (i := 2) rfl)) (fun _ h9 => h9) rfl dX9_lateOf_16 ?_
  refine lv_iconst (v := 0) hx hb dX9_lateOf_19 (by decide) ?_
  refine dz_iald hx hb hE hG rfl h37 (by unfold vp_in; decide) dX9_lateOf_20 ?_
  refine lv_topi (fun v_3 ev_3 => ?_)
  obtain rfl : v_3 = nI j0 := ev_3.trans hi0
  refine dz_iald hx hb hE hG rfl h10 (vp_in_nI (by omega) (by decide)) dX9_lateOf_21 ?_
  refine lv_topi (fun v_4 ev_4 => ?_)
  obtain rfl : v_4 = f10 j0 := ev_4.trans (by rw [nI_clamp (by omega)])
  refine lv_isub hx hb dX9_lateOf_22 ?_
  refine lv_bipush (v := 20) hx hb dX9_lateOf_23 (by decide) ?_
  refine lv_imul hx hb dX9_lateOf_25 ?_
  refine lv_aload_n hx hb dX9_lateOf_26 rfl (lv_at hl 0 rfl) ?_
  refine dz_get hx hb hts (fun _ h => List.mem_cons_of_mem _ (List.mem_append_right _ h)) hown hE hG ha ho rfl 28 (by decide) (hts _ (List.mem_of_getElem? (i := 3) rfl)) (fun _ h9 => h9) rfl dX9_lateOf_27 ?_
  refine lv_idiv hx hb dX9_lateOf_30 hg ?_
  refine W.iret hx hb hrt (fun t ht hW => ⟨congrArg (fun x => Outcome.returned (some (Value.int x))) ?_, ht⟩) (fun _ h => by cases h) dX9_lateOf_31
  rfl

set_option maxHeartbeats 4000000 in
set_option maxRecDepth 100000 in
theorem c_X9_sourceOn (l : Launch) (Z : dzG) (G : dzW) (ad : dzA) (aM nm ns nl nx nf my : Nat) (th dy td ssf sst cfr grw bkk iop : Int32) (f14 f16 f17 f18 : Nat → Int32) (sc : Nat) (dv : Int32) (ha : ad (39, 0) = aM) (ho : G (39, 0) = some (eO 10 [.int th, .int dy, .int (nI nm), .ref (ad (40, 3)), .ref (ad (40, 4)), .ref (ad (40, 5)), .ref (ad (40, 6)), .int td, .ref (ad (40, 8)), .ref (ad (40, 9)), .ref (ad (40, 10)), .int (nI ns), .ref (ad (40, 12)), .ref (ad (40, 13)), .ref (ad (40, 14)), .int (nI nl), .ref (ad (40, 16)), .ref (ad (40, 17)), .ref (ad (40, 18)), .int (nI nx), .ref (ad (40, 20)), .ref (ad (40, 21)), .ref (ad (40, 22)), .ref (ad (40, 23)), .ref (ad (40, 24)), .int ssf, .int sst, .int cfr, .int grw, .int (nI nf), .ref (ad (40, 30)), .ref (ad (40, 31)), .int bkk, .ref (ad (40, 33)), .ref (ad (40, 34)), .ref (ad (40, 35)), .int iop, .ref (ad (40, 37)), .int (nI my)])) (h14 : G (40, 14) = some (eI Z 5 f14)) (h16 : G (40, 16) = some (eI Z 40 f16)) (h17 : G (40, 17) = some (eI Z 40 f17)) (h18 : G (40, 18) = some (eI Z 40 f18)) (hsc : sc < 5) (hnl : nl ≤ 40) : dzRd l yX9_sourceOn wsX9_sourceOn 0 0 Z G ad [.ref aM, .int (nI sc), .int dv] (some (.int (m_pos (m_mfl (f14 sc) f16 f17 f18 (nI sc) dv nl)))) := by
  refine Met.ofW (cc := cX9_sourceOn) (maxL := 5) (ret := (some .int)) (by decide) rfl ?_
  intro p e s m args below meth c s₁ B hml hv
  obtain ⟨rfl, hG, hE⟩ := hv
  have hx := B.exec
  have hb := B.bytes
  have hrt := B.returns
  have hts := atoms_spec (ws := wsX9_sourceOn) B.pre
  have hown : s.vm.findClass RX9 = some m.cls := findClass_of_methodNamed B.named
  have hlocks := B.notSynchronized
  have hS : va_S (dz_A Z) s.heap s.heap [] := va_S.rf
  have hl := lv_entry ([.ref aM, .int (nI sc), .int dv]) (n := 5) (Nat.le_of_ble_eq_true rfl)
  rw [lg_entry_eq]
  generalize (lg_sl ([.ref aM, .int (nI sc), .int dv]) ++ List.replicate (5 - (lg_sl ([.ref aM, .int (nI sc), .int dv])).length) Slot.unset).toArray = ls at hl ⊢
  have hl : lv_has ls 5 [(0, .ref aM), (1, .int (nI sc)), (2, .int dv)] := hl
  refine lv_aload_n hx hb dX9_sourceOn_0 rfl (lv_at hl 0 rfl) ?_
  refine dz_get hx hb hts (fun _ h => List.mem_cons_of_mem _ (List.mem_append_right _ h)) hown hE hG ha ho rfl 14 (by decide) (hts _ (List.mem_of_getElem? (i := 1) rfl)) (fun _ h9 => h9) rfl dX9_sourceOn_1 ?_
  refine lv_iload_n hx hb dX9_sourceOn_4 rfl (lv_at hl 1 rfl) ?_
  refine dz_iald hx hb hE hG rfl h14 (vp_in_nI (by omega) (by decide)) dX9_sourceOn_5 ?_
  refine lv_topi (fun v_1 ev_1 => ?_)
  obtain rfl : v_1 = f14 sc := ev_1.trans (by rw [nI_clamp (by omega)])
  refine lv_istore_n (lv' := [(3, .int (f14 sc)), (0, .ref aM), (1, .int (nI sc)), (2, .int dv)]) hx hb dX9_sourceOn_6 rfl hl (by decide) rfl (fun ls hl => ?_)
  refine lv_iconst (v := 0) hx hb dX9_sourceOn_7 (by decide) ?_
  refine lv_istore (lv' := [(4, .int 0), (3, .int (f14 sc)), (0, .ref aM), (1, .int (nI sc)), (2, .int dv)]) hx hb dX9_sourceOn_8 hl (by decide) rfl (fun ls hl => ?_)
  refine dz_lp (α := Nat × Array Slot) (fun a9 => (fun (k : Nat) (ls : Array Slot) => nl - k) a9.1 a9.2) (fun a9 => (fun (k : Nat) (ls : Array Slot) => (k ≤ nl) ∧ lv_has ls 5 [(4, .int (nI k)), (3, .int (m_mfl (f14 sc) f16 f17 f18 (nI sc) dv k)), (0, .ref aM), (1, .int (nI sc)), (2, .int dv)]) a9.1 a9.2) (fun a9 => F0 m 10 a9.2 []) (fun a9 hI ih_10 => ?_) (0, ls) ⟨(Nat.zero_le _), lv_sub hl [0, 1, 2, 3, 4] rfl⟩
  obtain ⟨k, ls⟩ := a9
  obtain ⟨hk, hl⟩ := hI
  have hk : k ≤ nl := hk
  have hl : lv_has ls 5 [(4, .int (nI k)), (3, .int (m_mfl (f14 sc) f16 f17 f18 (nI sc) dv k)), (0, .ref aM), (1, .int (nI sc)), (2, .int dv)] := hl
  refine lv_iload hx hb dX9_sourceOn_10 (lv_at hl 0 rfl) ?_
  refine lv_aload_n hx hb dX9_sourceOn_12 rfl (lv_at hl 2 rfl) ?_
  refine dz_get hx hb hts (fun _ h => List.mem_cons_of_mem _ (List.mem_append_right _ h)) hown hE hG ha ho rfl 15 (by decide) (hts _ (List.mem_of_getElem? (i := 2) rfl)) (fun _ h9 => h9) rfl dX9_sourceOn_13 ?_
  refine lv_icmp_ge (tgt := 61) hx hb dX9_sourceOn_16 (by decide) (fun c_16 => ?_) (fun c_16 => ?_)
  · have hk9 : k = nl := by have := (nI_leI (by omega) (by omega)).mp c_16; omega
    refine lv_iload_n hx hb dX9_sourceOn_61 rfl (lv_at hl 1 rfl) ?_
    refine lv_if_ge (tgt := 69) hx hb dX9_sourceOn_62 (by decide) (fun c_62 => ?_) (fun c_62 => ?_)
    · refine lv_iload_n hx hb dX9_sourceOn_69 rfl (lv_at hl 1 rfl) ?_
      refine W.iret hx hb hrt (fun t ht hW => ⟨congrArg (fun x => Outcome.returned (some (Value.int x))) ?_, ht⟩) (fun _ h => by cases h) dX9_sourceOn_70
      rw [hk9] at *
      unfold m_pos
      first | exact (if_pos (Int32.not_le.mp c_62)).symm | exact (if_neg (Int32.not_lt.mpr c_62)).symm
    · refine lv_iconst (v := 0) hx hb dX9_sourceOn_65 (by decide) ?_
      refine lv_goto (tgt := 70) hx hb dX9_sourceOn_66 (by decide) ?_
      refine W.iret hx hb hrt (fun t ht hW => ⟨congrArg (fun x => Outcome.returned (some (Value.int x))) ?_, ht⟩) (fun _ h => by cases h) dX9_sourceOn_70
      rw [hk9] at *
      unfold m_pos
      first | exact (if_pos (Int32.not_le.mp c_62)).symm | exact (if_neg (Int32.not_lt.mpr c_62)).symm
  · have hltk : k < nl := by
      rcases Nat.lt_or_ge k (nl) with q | q
      · exact q
      · exact absurd ((nI_leI (by omega) (by omega)).mpr q) c_16
    refine lv_iload_n hx hb dX9_sourceOn_19 rfl (lv_at hl 1 rfl) ?_
    refine lv_aload_n hx hb dX9_sourceOn_20 rfl (lv_at hl 2 rfl) ?_
    refine dz_get hx hb hts (fun _ h => List.mem_cons_of_mem _ (List.mem_append_right _ h)) hown hE hG ha ho rfl 16 (by decide) (hts _ (List.mem_of_getElem? (i := 3) rfl)) (fun _ h9 => h9) rfl dX9_sourceOn_21 ?_
    refine lv_iload hx hb dX9_sourceOn_24 (lv_at hl 0 rfl) ?_
    refine dz_iald hx hb hE hG rfl h16 (vp_in_nI (by omega) (by decide)) dX9_sourceOn_26 ?_
    refine lv_topi (fun v_2 ev_2 => ?_)
    obtain rfl : v_2 = f16 k := ev_2.trans (by rw [nI_clamp (by omega)])
    refine lv_iload_n hx hb dX9_sourceOn_27 rfl (lv_at hl 3 rfl) ?_
    refine lv_icmp_ne (tgt := 52) hx hb dX9_sourceOn_28 (by decide) (fun c_28 => ?_) (fun c_28 => ?_)
    · have hst : m_mfl (f14 sc) f16 f17 f18 (nI sc) dv (k + 1) = m_mfl (f14 sc) f16 f17 f18 (nI sc) dv k + 0 := congrArg (fun z => m_mfl (f14 sc) f16 f17 f18 (nI sc) dv k + z) (if_neg (fun z => c_28 z.1))
      refine lv_iconst (v := 0) hx hb dX9_sourceOn_52 (by decide) ?_
      refine lv_iadd hx hb dX9_sourceOn_53 ?_
      refine lv_topi (fun v_3 ev_3 => ?_)
      refine lv_istore_n (lv' := [(3, .int v_3), (4, .int (nI k)), (0, .ref aM), (1, .int (nI sc)), (2, .int dv)]) hx hb dX9_sourceOn_54 rfl hl (by decide) rfl (fun ls hl => ?_)
      obtain ⟨v_4, ev_4⟩ : ∃ y : Int32, y = (nI k) + 1 := ⟨_, rfl⟩
      refine lv_iinc (v := v_4) (lv' := [(4, .int v_4), (3, .int v_3), (0, .ref aM), (1, .int (nI sc)), (2, .int dv)]) hx hb dX9_sourceOn_55 hl (k := 1) rfl (by rw [ev_4]; rfl) (by decide) rfl (fun ls hl => ?_)
      refine lv_goto (tgt := 10) hx hb dX9_sourceOn_58 (by decide) ?_
      obtain rfl : v_4 = nI (k + 1) := ev_4.trans (nI_1 k)
      obtain rfl : v_3 = m_mfl (f14 sc) f16 f17 f18 (nI sc) dv (k + 1) := ev_3.trans hst.symm
      exact ih_10 (k + 1, ls) (by first | (dsimp only; omega) | omega) ⟨(by omega), lv_sub hl [0, 1, 2, 3, 4] rfl⟩
    · refine lv_aload_n hx hb dX9_sourceOn_31 rfl (lv_at hl 2 rfl) ?_
      refine dz_get hx hb hts (fun _ h => List.mem_cons_of_mem _ (List.mem_append_right _ h)) hown hE hG ha ho rfl 17 (by decide) (hts _ (List.mem_of_getElem? (i := 4) rfl)) (fun _ h9 => h9) rfl dX9_sourceOn_32 ?_
      refine lv_iload hx hb dX9_sourceOn_35 (lv_at hl 0 rfl) ?_
      refine dz_iald hx hb hE hG rfl h17 (vp_in_nI (by omega) (by decide)) dX9_sourceOn_37 ?_
      refine lv_topi (fun v_5 ev_5 => ?_)
      obtain rfl : v_5 = f17 k := ev_5.trans (by rw [nI_clamp (by omega)])
      refine lv_iload_n hx hb dX9_sourceOn_38 rfl (lv_at hl 4 rfl) ?_
      refine lv_icmp_gt (tgt := 52) hx hb dX9_sourceOn_39 (by decide) (fun c_39 => ?_) (fun c_39 => ?_)
      · have hst : m_mfl (f14 sc) f16 f17 f18 (nI sc) dv (k + 1) = m_mfl (f14 sc) f16 f17 f18 (nI sc) dv k + 0 := congrArg (fun z => m_mfl (f14 sc) f16 f17 f18 (nI sc) dv k + z) (if_neg (fun z => Int32.not_lt.mpr z.2 c_39))
        refine lv_iconst (v := 0) hx hb dX9_sourceOn_52 (by decide) ?_
        refine lv_iadd hx hb dX9_sourceOn_53 ?_
        refine lv_topi (fun v_6 ev_6 => ?_)
        refine lv_istore_n (lv' := [(3, .int v_6), (4, .int (nI k)), (0, .ref aM), (1, .int (nI sc)), (2, .int dv)]) hx hb dX9_sourceOn_54 rfl hl (by decide) rfl (fun ls hl => ?_)
        obtain ⟨v_7, ev_7⟩ : ∃ y : Int32, y = (nI k) + 1 := ⟨_, rfl⟩
        refine lv_iinc (v := v_7) (lv' := [(4, .int v_7), (3, .int v_6), (0, .ref aM), (1, .int (nI sc)), (2, .int dv)]) hx hb dX9_sourceOn_55 hl (k := 1) rfl (by rw [ev_7]; rfl) (by decide) rfl (fun ls hl => ?_)
        refine lv_goto (tgt := 10) hx hb dX9_sourceOn_58 (by decide) ?_
        obtain rfl : v_7 = nI (k + 1) := ev_7.trans (nI_1 k)
        obtain rfl : v_6 = m_mfl (f14 sc) f16 f17 f18 (nI sc) dv (k + 1) := ev_6.trans hst.symm
        exact ih_10 (k + 1, ls) (by first | (dsimp only; omega) | omega) ⟨(by omega), lv_sub hl [0, 1, 2, 3, 4] rfl⟩
      · have hst : m_mfl (f14 sc) f16 f17 f18 (nI sc) dv (k + 1) = m_mfl (f14 sc) f16 f17 f18 (nI sc) dv k + f18 k := congrArg (fun z => m_mfl (f14 sc) f16 f17 f18 (nI sc) dv k + z) (if_pos ⟨c_28, Int32.not_lt.mp c_39⟩)
        refine lv_aload_n hx hb dX9_sourceOn_42 rfl (lv_at hl 2 rfl) ?_
        refine dz_get hx hb hts (fun _ h => List.mem_cons_of_mem _ (List.mem_append_right _ h)) hown hE hG ha ho rfl 18 (by decide) (hts _ (List.mem_of_getElem? (i := 5) rfl)) (fun _ h9 => h9) rfl dX9_sourceOn_43 ?_
        refine lv_iload hx hb dX9_sourceOn_46 (lv_at hl 0 rfl) ?_
        refine dz_iald hx hb hE hG rfl h18 (vp_in_nI (by omega) (by decide)) dX9_sourceOn_48 ?_
        refine lv_topi (fun v_8 ev_8 => ?_)
        obtain rfl : v_8 = f18 k := ev_8.trans (by rw [nI_clamp (by omega)])
        refine lv_goto (tgt := 53) hx hb dX9_sourceOn_49 (by decide) ?_
        refine lv_iadd hx hb dX9_sourceOn_53 ?_
        refine lv_topi (fun v_9 ev_9 => ?_)
        refine lv_istore_n (lv' := [(3, .int v_9), (4, .int (nI k)), (0, .ref aM), (1, .int (nI sc)), (2, .int dv)]) hx hb dX9_sourceOn_54 rfl hl (by decide) rfl (fun ls hl => ?_)
        obtain ⟨v_10, ev_10⟩ : ∃ y : Int32, y = (nI k) + 1 := ⟨_, rfl⟩
        refine lv_iinc (v := v_10) (lv' := [(4, .int v_10), (3, .int v_9), (0, .ref aM), (1, .int (nI sc)), (2, .int dv)]) hx hb dX9_sourceOn_55 hl (k := 1) rfl (by rw [ev_10]; rfl) (by decide) rfl (fun ls hl => ?_)
        refine lv_goto (tgt := 10) hx hb dX9_sourceOn_58 (by decide) ?_
        obtain rfl : v_10 = nI (k + 1) := ev_10.trans (nI_1 k)
        obtain rfl : v_9 = m_mfl (f14 sc) f16 f17 f18 (nI sc) dv (k + 1) := ev_9.trans hst.symm
        exact ih_10 (k + 1, ls) (by first | (dsimp only; omega) | omega) ⟨(by omega), lv_sub hl [0, 1, 2, 3, 4] rfl⟩

set_option maxHeartbeats 4000000 in
set_option maxRecDepth 100000 in
theorem c_X9_lightOf (l : Launch) (Z : dzG) (G : dzW) (ad : dzA) (aM nm ns nl nx nf my : Nat) (th dy td ssf sst cfr grw bkk iop : Int32) (f8 f9 f10 f14 f16 f17 f18 f20 f21 f22 f23 f24 f37 : Nat → Int32) (sc rk j j0 : Nat) (ha : ad (39, 0) = aM) (ho : G (39, 0) = some (eO 10 [.int th, .int dy, .int (nI nm), .ref (ad (40, 3)), .ref (ad (40, 4)), .ref (ad (40, 5)), .ref (ad (40, 6)), .int td, .ref (ad (40, 8)), .ref (ad (40, 9)), .ref (ad (40, 10)), .int (nI ns), .ref (ad (40, 12)), .ref (ad (40, 13)), .ref (ad (40, 14)), .int (nI nl), .ref (ad (40, 16)), .ref (ad (40, 17)), .ref (ad (40, 18)), .int (nI nx), .ref (ad (40, 20)), .ref (ad (40, 21)), .ref (ad (40, 22)), .ref (ad (40, 23)), .ref (ad (40, 24)), .int ssf, .int sst, .int cfr, .int grw, .int (nI nf), .ref (ad (40, 30)), .ref (ad (40, 31)), .int bkk, .ref (ad (40, 33)), .ref (ad (40, 34)), .ref (ad (40, 35)), .int iop, .ref (ad (40, 37)), .int (nI my)])) (h8 : G (40, 8) = some (eI Z 484 f8)) (h9 : G (40, 9) = some (eI Z 484 f9)) (h10 : G (40, 10) = some (eI Z 484 f10)) (h14 : G (40, 14) = some (eI Z 5 f14)) (h16 : G (40, 16) = some (eI Z 40 f16)) (h17 : G (40, 17) = some (eI Z 40 f17)) (h18 : G (40, 18) = some (eI Z 40 f18)) (h20 : G (40, 20) = some (eI Z 20 f20)) (h21 : G (40, 21) = some (eI Z 20 f21)) (h22 : G (40, 22) = some (eI Z 20 f22)) (h23 : G (40, 23) = some (eI Z 20 f23)) (h24 : G (40, 24) = some (eI Z 20 f24)) (h37 : G (40, 37) = some (eI Z 441 f37)) (hsc : sc < 5) (hnl : nl ≤ 40) (hnx : nx ≤ 20) (hrk : rk < 441) (hij : f37 rk = nI j) (hj : j + 22 < 484) (hi0 : f37 0 = nI j0) (hj0 : j0 < 484) (hg : ¬ grw = 0) (hsw : ∀ k, k < nx → ¬ f23 k = 0) : dzRd l yX9_lightOf wsX9_lightOf 2 50 Z G ad [.ref aM, .int (nI sc), .int (nI rk)] (some (.int (m_mst (m_abs (m_times (m_turn (fun j => m_pc j - f8 j) (fun j => m_pr j - f9 j) j)) * m_pos (m_mfl (f14 sc) f16 f17 f18 (nI sc) (dy - ((f10 j - f10 j0) * 20 / grw)) nl)) f20 f21 f22 f23 f24 (nI sc) (nI rk) dy nx))) := by
  refine Met.ofW (cc := cX9_lightOf) (maxL := 6) (ret := (some .int)) (by decide) rfl ?_
  intro p e s m args below meth c s₁ B hml hv
  obtain ⟨rfl, hG, hE⟩ := hv
  have hx := B.exec
  have hb := B.bytes
  have hrt := B.returns
  have hts := atoms_spec (ws := wsX9_lightOf) B.pre
  have hown : s.vm.findClass RX9 = some m.cls := findClass_of_methodNamed B.named
  have hlocks := B.notSynchronized
  have hS : va_S (dz_A Z) s.heap s.heap [] := va_S.rf
  have hl := lv_entry ([.ref aM, .int (nI sc), .int (nI rk)]) (n := 6) (Nat.le_of_ble_eq_true rfl)
  rw [lg_entry_eq]
  generalize (lg_sl ([.ref aM, .int (nI sc), .int (nI rk)]) ++ List.replicate (6 - (lg_sl ([.ref aM, .int (nI sc), .int (nI rk)])).length) Slot.unset).toArray = ls at hl ⊢
  have hl : lv_has ls 6 [(0, .ref aM), (1, .int (nI sc)), (2, .int (nI rk))] := hl
  refine lv_aload_n hx hb dX9_lightOf_0 rfl (lv_at hl 0 rfl) ?_
  refine lv_iload_n hx hb dX9_lightOf_1 rfl (lv_at hl 2 rfl) ?_
  refine dz_kRi (va_runV (As := [_]) ⟨hx, hb, hml, hown, hts⟩ (c_X9_timesOf l Z _ _ _ _ _ _ _ _ _ _ _ _ _ _ _ _ _ _ _ _ _ _ j ha ho h8 h9 h37 hrk hij hj) (cwV 1 hts gX9_lightOf_X9_timesOf rfl rfl rfl (by decide +kernel) ⟨Nat.le_of_ble_eq_true rfl, Nat.le_of_ble_eq_true rfl⟩) (dz_P.preV hE hS hG ho rfl ha) rfl rfl hl.1 rfl (lv_room (Nat.le_of_ble_eq_true rfl)) dX9_lightOf_2 ⟨Nat.le_of_ble_eq_true rfl, Nat.le_of_ble_eq_true rfl⟩) ?_
  refine dz_kRi (va_runS (As := [_]) ⟨hx, hb, hml, hown, hts⟩ (c_X9_size l Z _ _ _ ) (va_cwS 1 hts gX9_lightOf_X9_size rfl rfl rfl (by decide +kernel) ⟨Nat.le_of_ble_eq_true rfl, Nat.le_of_ble_eq_true rfl⟩) (dz_P.pre hE hS hG) rfl rfl hl.1 rfl (lv_room (Nat.le_of_ble_eq_true rfl)) dX9_lightOf_5 ⟨Nat.le_of_ble_eq_true rfl, Nat.le_of_ble_eq_true rfl⟩) ?_
  refine lv_aload_n hx hb dX9_lightOf_8 rfl (lv_at hl 0 rfl) ?_
  refine lv_iload_n hx hb dX9_lightOf_9 rfl (lv_at hl 1 rfl) ?_
  refine lv_aload_n hx hb dX9_lightOf_10 rfl (lv_at hl 0 rfl) ?_
  refine dz_get hx hb hts (fun _ h => List.mem_cons_of_mem _ (List.mem_append_right _ h)) hown hE hG ha ho rfl 1 (by decide) (hts _ (List.mem_of_getElem? (i := 1) rfl)) (fun _ h9 => h9) rfl dX9_lightOf_11 ?_
  refine lv_aload_n hx hb dX9_lightOf_14 rfl (lv_at hl 0 rfl) ?_
  refine lv_iload_n hx hb dX9_lightOf_15 rfl (lv_at hl 2 rfl) ?_
  refine dz_kRi (va_runV (As := [_]) ⟨hx, hb, hml, hown, hts⟩ (c_X9_lateOf l Z _ _ _ _ _ _ _ _ _ _ _ _ _ _ _ _ _ _ _ _ _ j j0 ha ho h10 h37 hrk hij hi0 (by omega) hj0 hg) (cwV 1 hts gX9_lightOf_X9_lateOf rfl rfl rfl (by decide +kernel) ⟨Nat.le_of_ble_eq_true rfl, Nat.le_of_ble_eq_true rfl⟩) (dz_P.preV hE hS hG ho rfl ha) rfl rfl hl.1 rfl (lv_room (Nat.le_of_ble_eq_true rfl)) dX9_lightOf_16 ⟨Nat.le_of_ble_eq_true rfl, Nat.le_of_ble_eq_true rfl⟩) ?_
  refine lv_topi (fun v_1 ev_1 => ?_)
  obtain rfl : v_1 = ((f10 j - f10 j0) * 20 / grw) := ev_1
  refine lv_isub hx hb dX9_lightOf_19 ?_
  refine dz_kRi (va_runV (As := [_, _]) ⟨hx, hb, hml, hown, hts⟩ (c_X9_sourceOn l Z _ _ _ _ _ _ _ _ _ _ _ _ _ _ _ _ _ _ _ _ _ _ _ _ ha ho h14 h16 h17 h18 hsc hnl) (cwV 2 hts gX9_lightOf_X9_sourceOn rfl rfl rfl (by decide +kernel) ⟨Nat.le_of_ble_eq_true rfl, Nat.le_of_ble_eq_true rfl⟩) (dz_P.preV hE hS hG ho rfl ha) rfl rfl hl.1 rfl (lv_room (Nat.le_of_ble_eq_true rfl)) dX9_lightOf_20 ⟨Nat.le_of_ble_eq_true rfl, Nat.le_of_ble_eq_true rfl⟩) ?_
  refine lv_imul hx hb dX9_lightOf_23 ?_
  refine lv_topi (fun v_2 ev_2 => ?_)
  obtain rfl : v_2 = (m_abs (m_times (m_turn (fun j => m_pc j - f8 j) (fun j => m_pr j - f9 j) j)) * m_pos (m_mfl (f14 sc) f16 f17 f18 (nI sc) (dy - ((f10 j - f10 j0) * 20 / grw)) nl)) := ev_2
  refine lv_istore_n (lv' := [(3, .int (m_abs (m_times (m_turn (fun j => m_pc j - f8 j) (fun j => m_pr j - f9 j) j)) * m_pos (m_mfl (f14 sc) f16 f17 f18 (nI sc) (dy - ((f10 j - f10 j0) * 20 / grw)) nl))), (0, .ref aM), (1, .int (nI sc)), (2, .int (nI rk))]) hx hb dX9_lightOf_24 rfl hl (by decide) rfl (fun ls hl => ?_)
  refine lv_iconst (v := 0) hx hb dX9_lightOf_25 (by decide) ?_
  refine lv_istore (lv' := [(4, .int 0), (3, .int (m_abs (m_times (m_turn (fun j => m_pc j - f8 j) (fun j => m_pr j - f9 j) j)) * m_pos (m_mfl (f14 sc) f16 f17 f18 (nI sc) (dy - ((f10 j - f10 j0) * 20 / grw)) nl))), (0, .ref aM), (1, .int (nI sc)), (2, .int (nI rk))]) hx hb dX9_lightOf_26 hl (by decide) rfl (fun ls hl => ?_)
  refine dz_lp (α := Nat × Array Slot) (fun a9 => (fun (k : Nat) (ls : Array Slot) => nx - k) a9.1 a9.2) (fun a9 => (fun (k : Nat) (ls : Array Slot) => (k ≤ nx) ∧ lv_has ls 6 [(4, .int (nI k)), (3, .int (m_mst (m_abs (m_times (m_turn (fun j => m_pc j - f8 j) (fun j => m_pr j - f9 j) j)) * m_pos (m_mfl (f14 sc) f16 f17 f18 (nI sc) (dy - ((f10 j - f10 j0) * 20 / grw)) nl)) f20 f21 f22 f23 f24 (nI sc) (nI rk) dy k)), (0, .ref aM), (1, .int (nI sc)), (2, .int (nI rk))]) a9.1 a9.2) (fun a9 => F0 m 28 a9.2 []) (fun a9 hI ih_28 => ?_) (0, ls) ⟨(Nat.zero_le _), lv_sub hl [0, 1, 2, 3, 4] rfl⟩
  obtain ⟨k, ls⟩ := a9
  obtain ⟨hk, hl⟩ := hI
  have hk : k ≤ nx := hk
  have hl : lv_has ls 6 [(4, .int (nI k)), (3, .int (m_mst (m_abs (m_times (m_turn (fun j => m_pc j - f8 j) (fun j => m_pr j - f9 j) j)) * m_pos (m_mfl (f14 sc) f16 f17 f18 (nI sc) (dy - ((f10 j - f10 j0) * 20 / grw)) nl)) f20 f21 f22 f23 f24 (nI sc) (nI rk) dy k)), (0, .ref aM), (1, .int (nI sc)), (2, .int (nI rk))] := hl
  refine lv_iload hx hb dX9_lightOf_28 (lv_at hl 0 rfl) ?_
  refine lv_aload_n hx hb dX9_lightOf_30 rfl (lv_at hl 2 rfl) ?_
  refine dz_get hx hb hts (fun _ h => List.mem_cons_of_mem _ (List.mem_append_right _ h)) hown hE hG ha ho rfl 19 (by decide) (hts _ (List.mem_of_getElem? (i := 2) rfl)) (fun _ h9 => h9) rfl dX9_lightOf_31 ?_
  refine lv_icmp_ge (tgt := 128) hx hb dX9_lightOf_34 (by decide) (fun c_34 => ?_) (fun c_34 => ?_)
  · have hk9 : k = nx := by have := (nI_leI (by omega) (by omega)).mp c_34; omega
    refine lv_iload_n hx hb dX9_lightOf_128 rfl (lv_at hl 1 rfl) ?_
    refine W.iret hx hb hrt (fun t ht hW => ⟨congrArg (fun x => Outcome.returned (some (Value.int x))) ?_, ht⟩) (fun _ h => by cases h) dX9_lightOf_129
    rw [hk9]
  · have hltk : k < nx := by
      rcases Nat.lt_or_ge k (nx) with q | q
      · exact q
      · exact absurd ((nI_leI (by omega) (by omega)).mpr q) c_34
    refine lv_aload_n hx hb dX9_lightOf_37 rfl (lv_at hl 2 rfl) ?_
    refine dz_get hx hb hts (fun _ h => List.mem_cons_of_mem _ (List.mem_append_right _ h)) hown hE hG ha ho rfl 23 (by decide) (hts _ (List.mem_of_getElem? (i := 3) rfl)) (fun _ h9 => h9) rfl dX9_lightOf_38 ?_
    refine lv_iload hx hb dX9_lightOf_41 (lv_at hl 0 rfl) ?_
    refine dz_iald hx hb hE hG rfl h23 (vp_in_nI (by omega) (by decide)) dX9_lightOf_43 ?_
    refine lv_topi (fun v_3 ev_3 => ?_)
    obtain rfl : v_3 = f23 k := ev_3.trans (by rw [nI_clamp (by omega)])
    refine lv_aload_n hx hb dX9_lightOf_44 rfl (lv_at hl 2 rfl) ?_
    refine dz_get hx hb hts (fun _ h => List.mem_cons_of_mem _ (List.mem_append_right _ h)) hown hE hG ha ho rfl 1 (by decide) (hts _ (List.mem_of_getElem? (i := 1) rfl)) (fun _ h9 => h9) rfl dX9_lightOf_45 ?_
    refine lv_aload_n hx hb dX9_lightOf_48 rfl (lv_at hl 2 rfl) ?_
    refine dz_get hx hb hts (fun _ h => List.mem_cons_of_mem _ (List.mem_append_right _ h)) hown hE hG ha ho rfl 22 (by decide) (hts _ (List.mem_of_getElem? (i := 4) rfl)) (fun _ h9 => h9) rfl dX9_lightOf_49 ?_
    refine lv_iload hx hb dX9_lightOf_52 (lv_at hl 0 rfl) ?_
    refine dz_iald hx hb hE hG rfl h22 (vp_in_nI (by omega) (by decide)) dX9_lightOf_54 ?_
    refine lv_topi (fun v_4 ev_4 => ?_)
    obtain rfl : v_4 = f22 k := ev_4.trans (by rw [nI_clamp (by omega)])
    refine lv_isub hx hb dX9_lightOf_55 ?_
    refine lv_aload_n hx hb dX9_lightOf_56 rfl (lv_at hl 2 rfl) ?_
    refine dz_get hx hb hts (fun _ h => List.mem_cons_of_mem _ (List.mem_append_right _ h)) hown hE hG ha ho rfl 23 (by decide) (hts _ (List.mem_of_getElem? (i := 3) rfl)) (fun _ h9 => h9) rfl dX9_lightOf_57 ?_
    refine lv_iload hx hb dX9_lightOf_60 (lv_at hl 0 rfl) ?_
    refine dz_iald hx hb hE hG rfl h23 (vp_in_nI (by omega) (by decide)) dX9_lightOf_62 ?_
    refine lv_topi (fun v_5 ev_5 => ?_)
    obtain rfl : v_5 = f23 k := ev_5.trans (by rw [nI_clamp (by omega)])
    refine lv_isub hx hb dX9_lightOf_63 ?_
    refine dz_kRi (va_runS (As := [_]) ⟨hx, hb, hml, hown, hts⟩ (c_X9_size l Z _ _ _ ) (va_cwS 1 hts gX9_lightOf_X9_size rfl rfl rfl (by decide +kernel) ⟨Nat.le_of_ble_eq_true rfl, Nat.le_of_ble_eq_true rfl⟩) (dz_P.pre hE hS hG) rfl rfl hl.1 rfl (lv_room (Nat.le_of_ble_eq_true rfl)) dX9_lightOf_64 ⟨Nat.le_of_ble_eq_true rfl, Nat.le_of_ble_eq_true rfl⟩) ?_
    refine lv_isub hx hb dX9_lightOf_67 ?_
    refine lv_topi (fun v_6 ev_6 => ?_)
    obtain rfl : v_6 = f23 k - m_abs (dy - (f22 k + f23 k)) := ev_6.trans (by rw [Int32.sub_sub])
    refine lv_istore (lv' := [(5, .int (f23 k - m_abs (dy - (f22 k + f23 k)))), (4, .int (nI k)), (3, .int (m_mst (m_abs (m_times (m_turn (fun j => m_pc j - f8 j) (fun j => m_pr j - f9 j) j)) * m_pos (m_mfl (f14 sc) f16 f17 f18 (nI sc) (dy - ((f10 j - f10 j0) * 20 / grw)) nl)) f20 f21 f22 f23 f24 (nI sc) (nI rk) dy k)), (0, .ref aM), (1, .int (nI sc)), (2, .int (nI rk))]) hx hb dX9_lightOf_68 hl (by decide) rfl (fun ls hl => ?_)
    refine lv_iload_n hx hb dX9_lightOf_70 rfl (lv_at hl 2 rfl) ?_
    refine lv_aload_n hx hb dX9_lightOf_71 rfl (lv_at hl 3 rfl) ?_
    refine dz_get hx hb hts (fun _ h => List.mem_cons_of_mem _ (List.mem_append_right _ h)) hown hE hG ha ho rfl 20 (by decide) (hts _ (List.mem_of_getElem? (i := 5) rfl)) (fun _ h9 => h9) rfl dX9_lightOf_72 ?_
    refine lv_iload hx hb dX9_lightOf_75 (lv_at hl 1 rfl) ?_
    refine dz_iald hx hb hE hG rfl h20 (vp_in_nI (by omega) (by decide)) dX9_lightOf_77 ?_
    refine lv_topi (fun v_7 ev_7 => ?_)
    obtain rfl : v_7 = f20 k := ev_7.trans (by rw [nI_clamp (by omega)])
    refine lv_iload_n hx hb dX9_lightOf_78 rfl (lv_at hl 4 rfl) ?_
    refine lv_icmp_ne (tgt := 119) hx hb dX9_lightOf_79 (by decide) (fun c_79 => ?_) (fun c_79 => ?_)
    · have hst : m_mst (m_abs (m_times (m_turn (fun j => m_pc j - f8 j) (fun j => m_pr j - f9 j) j)) * m_pos (m_mfl (f14 sc) f16 f17 f18 (nI sc) (dy - ((f10 j - f10 j0) * 20 / grw)) nl)) f20 f21 f22 f23 f24 (nI sc) (nI rk) dy (k + 1) = m_mst (m_abs (m_times (m_turn (fun j => m_pc j - f8 j) (fun j => m_pr j - f9 j) j)) * m_pos (m_mfl (f14 sc) f16 f17 f18 (nI sc) (dy - ((f10 j - f10 j0) * 20 / grw)) nl)) f20 f21 f22 f23 f24 (nI sc) (nI rk) dy k + 0 := congrArg (fun z => m_mst (m_abs (m_times (m_turn (fun j => m_pc j - f8 j) (fun j => m_pr j - f9 j) j)) * m_pos (m_mfl (f14 sc) f16 f17 f18 (nI sc) (dy - ((f10 j - f10 j0) * 20 / grw)) nl)) f20 f21 f22 f23 f24 (nI sc) (nI rk) dy k + z) (if_neg (fun z => c_79 z.1))
      refine lv_iconst (v := 0) hx hb dX9_lightOf_119 (by decide) ?_
      refine lv_iadd hx hb dX9_lightOf_120 ?_
      refine lv_topi (fun v_8 ev_8 => ?_)
      refine lv_istore_n (lv' := [(3, .int v_8), (5, .int (f23 k - m_abs (dy - (f22 k + f23 k)))), (4, .int (nI k)), (0, .ref aM), (1, .int (nI sc)), (2, .int (nI rk))]) hx hb dX9_lightOf_121 rfl hl (by decide) rfl (fun ls hl => ?_)
      obtain ⟨v_9, ev_9⟩ : ∃ y : Int32, y = (nI k) + 1 := ⟨_, rfl⟩
      refine lv_iinc (v := v_9) (lv' := [(4, .int v_9), (3, .int v_8), (5, .int (f23 k - m_abs (dy - (f22 k + f23 k)))), (0, .ref aM), (1, .int (nI sc)), (2, .int (nI rk))]) hx hb dX9_lightOf_122 hl (k := 2) rfl (by rw [ev_9]; rfl) (by decide) rfl (fun ls hl => ?_)
      refine lv_goto (tgt := 28) hx hb dX9_lightOf_125 (by decide) ?_
      obtain rfl : v_9 = nI (k + 1) := ev_9.trans (nI_1 k)
      obtain rfl : v_8 = m_mst (m_abs (m_times (m_turn (fun j => m_pc j - f8 j) (fun j => m_pr j - f9 j) j)) * m_pos (m_mfl (f14 sc) f16 f17 f18 (nI sc) (dy - ((f10 j - f10 j0) * 20 / grw)) nl)) f20 f21 f22 f23 f24 (nI sc) (nI rk) dy (k + 1) := ev_8.trans hst.symm
      exact ih_28 (k + 1, ls) (by first | (dsimp only; omega) | omega) ⟨(by omega), lv_sub hl [0, 1, 3, 4, 5] rfl⟩
    · refine lv_aload_n hx hb dX9_lightOf_82 rfl (lv_at hl 3 rfl) ?_
      refine dz_get hx hb hts (fun _ h => List.mem_cons_of_mem _ (List.mem_append_right _ h)) hown hE hG ha ho rfl 21 (by decide) (hts _ (List.mem_of_getElem? (i := 6) rfl)) (fun _ h9 => h9) rfl dX9_lightOf_83 ?_
      refine lv_iload hx hb dX9_lightOf_86 (lv_at hl 1 rfl) ?_
      refine dz_iald hx hb hE hG rfl h21 (vp_in_nI (by omega) (by decide)) dX9_lightOf_88 ?_
      refine lv_topi (fun v_10 ev_10 => ?_)
      obtain rfl : v_10 = f21 k := ev_10.trans (by rw [nI_clamp (by omega)])
      refine lv_iload_n hx hb dX9_lightOf_89 rfl (lv_at hl 5 rfl) ?_
      refine lv_icmp_ne (tgt := 119) hx hb dX9_lightOf_90 (by decide) (fun c_90 => ?_) (fun c_90 => ?_)
      · have hst : m_mst (m_abs (m_times (m_turn (fun j => m_pc j - f8 j) (fun j => m_pr j - f9 j) j)) * m_pos (m_mfl (f14 sc) f16 f17 f18 (nI sc) (dy - ((f10 j - f10 j0) * 20 / grw)) nl)) f20 f21 f22 f23 f24 (nI sc) (nI rk) dy (k + 1) = m_mst (m_abs (m_times (m_turn (fun j => m_pc j - f8 j) (fun j => m_pr j - f9 j) j)) * m_pos (m_mfl (f14 sc) f16 f17 f18 (nI sc) (dy - ((f10 j - f10 j0) * 20 / grw)) nl)) f20 f21 f22 f23 f24 (nI sc) (nI rk) dy k + 0 := congrArg (fun z => m_mst (m_abs (m_times (m_turn (fun j => m_pc j - f8 j) (fun j => m_pr j - f9 j) j)) * m_pos (m_mfl (f14 sc) f16 f17 f18 (nI sc) (dy - ((f10 j - f10 j0) * 20 / grw)) nl)) f20 f21 f22 f23 f24 (nI sc) (nI rk) dy k + z) (if_neg (fun z => c_90 z.2))
        refine lv_iconst (v := 0) hx hb dX9_lightOf_119 (by decide) ?_
        refine lv_iadd hx hb dX9_lightOf_120 ?_
        refine lv_topi (fun v_11 ev_11 => ?_)
        refine lv_istore_n (lv' := [(3, .int v_11), (5, .int (f23 k - m_abs (dy - (f22 k + f23 k)))), (4, .int (nI k)), (0, .ref aM), (1, .int (nI sc)), (2, .int (nI rk))]) hx hb dX9_lightOf_121 rfl hl (by decide) rfl (fun ls hl => ?_)
        obtain ⟨v_12, ev_12⟩ : ∃ y : Int32, y = (nI k) + 1 := ⟨_, rfl⟩
        refine lv_iinc (v := v_12) (lv' := [(4, .int v_12), (3, .int v_11), (5, .int (f23 k - m_abs (dy - (f22 k + f23 k)))), (0, .ref aM), (1, .int (nI sc)), (2, .int (nI rk))]) hx hb dX9_lightOf_122 hl (k := 2) rfl (by rw [ev_12]; rfl) (by decide) rfl (fun ls hl => ?_)
        refine lv_goto (tgt := 28) hx hb dX9_lightOf_125 (by decide) ?_
        obtain rfl : v_12 = nI (k + 1) := ev_12.trans (nI_1 k)
        obtain rfl : v_11 = m_mst (m_abs (m_times (m_turn (fun j => m_pc j - f8 j) (fun j => m_pr j - f9 j) j)) * m_pos (m_mfl (f14 sc) f16 f17 f18 (nI sc) (dy - ((f10 j - f10 j0) * 20 / grw)) nl)) f20 f21 f22 f23 f24 (nI sc) (nI rk) dy (k + 1) := ev_11.trans hst.symm
        exact ih_28 (k + 1, ls) (by first | (dsimp only; omega) | omega) ⟨(by omega), lv_sub hl [0, 1, 3, 4, 5] rfl⟩
      · refine lv_iload hx hb dX9_lightOf_93 (lv_at hl 0 rfl) ?_
        refine lv_if_le (tgt := 119) hx hb dX9_lightOf_95 (by decide) (fun c_95 => ?_) (fun c_95 => ?_)
        · have hst : m_mst (m_abs (m_times (m_turn (fun j => m_pc j - f8 j) (fun j => m_pr j - f9 j) j)) * m_pos (m_mfl (f14 sc) f16 f17 f18 (nI sc) (dy - ((f10 j - f10 j0) * 20 / grw)) nl)) f20 f21 f22 f23 f24 (nI sc) (nI rk) dy (k + 1) = m_mst (m_abs (m_times (m_turn (fun j => m_pc j - f8 j) (fun j => m_pr j - f9 j) j)) * m_pos (m_mfl (f14 sc) f16 f17 f18 (nI sc) (dy - ((f10 j - f10 j0) * 20 / grw)) nl)) f20 f21 f22 f23 f24 (nI sc) (nI rk) dy k + 0 := congrArg (fun z => m_mst (m_abs (m_times (m_turn (fun j => m_pc j - f8 j) (fun j => m_pr j - f9 j) j)) * m_pos (m_mfl (f14 sc) f16 f17 f18 (nI sc) (dy - ((f10 j - f10 j0) * 20 / grw)) nl)) f20 f21 f22 f23 f24 (nI sc) (nI rk) dy k + z) ((if_pos ⟨c_79, c_90⟩).trans (if_pos c_95))
          refine lv_iconst (v := 0) hx hb dX9_lightOf_119 (by decide) ?_
          refine lv_iadd hx hb dX9_lightOf_120 ?_
          refine lv_topi (fun v_13 ev_13 => ?_)
          refine lv_istore_n (lv' := [(3, .int v_13), (5, .int (f23 k - m_abs (dy - (f22 k + f23 k)))), (4, .int (nI k)), (0, .ref aM), (1, .int (nI sc)), (2, .int (nI rk))]) hx hb dX9_lightOf_121 rfl hl (by decide) rfl (fun ls hl => ?_)
          obtain ⟨v_14, ev_14⟩ : ∃ y : Int32, y = (nI k) + 1 := ⟨_, rfl⟩
          refine lv_iinc (v := v_14) (lv' := [(4, .int v_14), (3, .int v_13), (5, .int (f23 k - m_abs (dy - (f22 k + f23 k)))), (0, .ref aM), (1, .int (nI sc)), (2, .int (nI rk))]) hx hb dX9_lightOf_122 hl (k := 2) rfl (by rw [ev_14]; rfl) (by decide) rfl (fun ls hl => ?_)
          refine lv_goto (tgt := 28) hx hb dX9_lightOf_125 (by decide) ?_
          obtain rfl : v_14 = nI (k + 1) := ev_14.trans (nI_1 k)
          obtain rfl : v_13 = m_mst (m_abs (m_times (m_turn (fun j => m_pc j - f8 j) (fun j => m_pr j - f9 j) j)) * m_pos (m_mfl (f14 sc) f16 f17 f18 (nI sc) (dy - ((f10 j - f10 j0) * 20 / grw)) nl)) f20 f21 f22 f23 f24 (nI sc) (nI rk) dy (k + 1) := ev_13.trans hst.symm
          exact ih_28 (k + 1, ls) (by first | (dsimp only; omega) | omega) ⟨(by omega), lv_sub hl [0, 1, 3, 4, 5] rfl⟩
        · have hst : m_mst (m_abs (m_times (m_turn (fun j => m_pc j - f8 j) (fun j => m_pr j - f9 j) j)) * m_pos (m_mfl (f14 sc) f16 f17 f18 (nI sc) (dy - ((f10 j - f10 j0) * 20 / grw)) nl)) f20 f21 f22 f23 f24 (nI sc) (nI rk) dy (k + 1) = m_mst (m_abs (m_times (m_turn (fun j => m_pc j - f8 j) (fun j => m_pr j - f9 j) j)) * m_pos (m_mfl (f14 sc) f16 f17 f18 (nI sc) (dy - ((f10 j - f10 j0) * 20 / grw)) nl)) f20 f21 f22 f23 f24 (nI sc) (nI rk) dy k + f24 k * (f23 k - m_abs (dy - (f22 k + f23 k))) / f23 k := congrArg (fun z => m_mst (m_abs (m_times (m_turn (fun j => m_pc j - f8 j) (fun j => m_pr j - f9 j) j)) * m_pos (m_mfl (f14 sc) f16 f17 f18 (nI sc) (dy - ((f10 j - f10 j0) * 20 / grw)) nl)) f20 f21 f22 f23 f24 (nI sc) (nI rk) dy k + z) ((if_pos ⟨c_79, c_90⟩).trans (if_neg c_95))
          refine lv_aload_n hx hb dX9_lightOf_98 rfl (lv_at hl 3 rfl) ?_
          refine dz_get hx hb hts (fun _ h => List.mem_cons_of_mem _ (List.mem_append_right _ h)) hown hE hG ha ho rfl 24 (by decide) (hts _ (List.mem_of_getElem? (i := 7) rfl)) (fun _ h9 => h9) rfl dX9_lightOf_99 ?_
          refine lv_iload hx hb dX9_lightOf_102 (lv_at hl 1 rfl) ?_
          refine dz_iald hx hb hE hG rfl h24 (vp_in_nI (by omega) (by decide)) dX9_lightOf_104 ?_
          refine lv_topi (fun v_15 ev_15 => ?_)
          obtain rfl : v_15 = f24 k := ev_15.trans (by rw [nI_clamp (by omega)])
          refine lv_iload hx hb dX9_lightOf_105 (lv_at hl 0 rfl) ?_
          refine lv_imul hx hb dX9_lightOf_107 ?_
          refine lv_aload_n hx hb dX9_lightOf_108 rfl (lv_at hl 3 rfl) ?_
          refine dz_get hx hb hts (fun _ h => List.mem_cons_of_mem _ (List.mem_append_right _ h)) hown hE hG ha ho rfl 23 (by decide) (hts _ (List.mem_of_getElem? (i := 3) rfl)) (fun _ h9 => h9) rfl dX9_lightOf_109 ?_
          refine lv_iload hx hb dX9_lightOf_112 (lv_at hl 1 rfl) ?_
          refine dz_iald hx hb hE hG rfl h23 (vp_in_nI (by omega) (by decide)) dX9_lightOf_114 ?_
          refine lv_topi (fun v_16 ev_16 => ?_)
          obtain rfl : v_16 = f23 k := ev_16.trans (by rw [nI_clamp (by omega)])
          refine lv_idiv hx hb dX9_lightOf_115 (hsw k hltk) ?_
          refine lv_goto (tgt := 120) hx hb dX9_lightOf_116 (by decide) ?_
          refine lv_iadd hx hb dX9_lightOf_120 ?_
          refine lv_topi (fun v_17 ev_17 => ?_)
          refine lv_istore_n (lv' := [(3, .int v_17), (5, .int (f23 k - m_abs (dy - (f22 k + f23 k)))), (4, .int (nI k)), (0, .ref aM), (1, .int (nI sc)), (2, .int (nI rk))]) hx hb dX9_lightOf_121 rfl hl (by decide) rfl (fun ls hl => ?_)
          obtain ⟨v_18, ev_18⟩ : ∃ y : Int32, y = (nI k) + 1 := ⟨_, rfl⟩
          refine lv_iinc (v := v_18) (lv' := [(4, .int v_18), (3, .int v_17), (5, .int (f23 k - m_abs (dy - (f22 k + f23 k)))), (0, .ref aM), (1, .int (nI sc)), (2, .int (nI rk))]) hx hb dX9_lightOf_122 hl (k := 2) rfl (by rw [ev_18]; rfl) (by decide) rfl (fun ls hl => ?_)
          refine lv_goto (tgt := 28) hx hb dX9_lightOf_125 (by decide) ?_
          obtain rfl : v_18 = nI (k + 1) := ev_18.trans (nI_1 k)
          obtain rfl : v_17 = m_mst (m_abs (m_times (m_turn (fun j => m_pc j - f8 j) (fun j => m_pr j - f9 j) j)) * m_pos (m_mfl (f14 sc) f16 f17 f18 (nI sc) (dy - ((f10 j - f10 j0) * 20 / grw)) nl)) f20 f21 f22 f23 f24 (nI sc) (nI rk) dy (k + 1) := ev_17.trans hst.symm
          exact ih_28 (k + 1, ls) (by first | (dsimp only; omega) | omega) ⟨(by omega), lv_sub hl [0, 1, 3, 4, 5] rfl⟩

set_option maxHeartbeats 4000000 in
set_option maxRecDepth 100000 in
theorem c_X9_hitsOf (l : Launch) (Z : dzG) (G : dzW) (ad : dzA) (aM nm ns nl nx nf my : Nat) (th dy td ssf sst cfr grw bkk iop : Int32) (f8 f9 : Nat → Int32) (vc vr : Int32) (ha : ad (39, 0) = aM) (ho : G (39, 0) = some (eO 10 [.int th, .int dy, .int (nI nm), .ref (ad (40, 3)), .ref (ad (40, 4)), .ref (ad (40, 5)), .ref (ad (40, 6)), .int td, .ref (ad (40, 8)), .ref (ad (40, 9)), .ref (ad (40, 10)), .int (nI ns), .ref (ad (40, 12)), .ref (ad (40, 13)), .ref (ad (40, 14)), .int (nI nl), .ref (ad (40, 16)), .ref (ad (40, 17)), .ref (ad (40, 18)), .int (nI nx), .ref (ad (40, 20)), .ref (ad (40, 21)), .ref (ad (40, 22)), .ref (ad (40, 23)), .ref (ad (40, 24)), .int ssf, .int sst, .int cfr, .int grw, .int (nI nf), .ref (ad (40, 30)), .ref (ad (40, 31)), .int bkk, .ref (ad (40, 33)), .ref (ad (40, 34)), .ref (ad (40, 35)), .int iop, .ref (ad (40, 37)), .int (nI my)])) (h8 : G (40, 8) = some (eI Z 484 f8)) (h9 : G (40, 9) = some (eI Z 484 f9)) : dzRd l yX9_hitsOf wsX9_hitsOf 1 21 Z G ad [.ref aM, .int vc, .int vr] (some (.int (m_sg (fun j => dz_b (m_pc j - f8 j = vc ∧ m_pr j - f9 j = vr)) 441))) := by
  refine Met.ofW (cc := cX9_hitsOf) (maxL := 6) (ret := (some .int)) (by decide) rfl ?_
  intro p e s m args below meth c s₁ B hml hv
  obtain ⟨rfl, hG, hE⟩ := hv
  have hx := B.exec
  have hb := B.bytes
  have hrt := B.returns
  have hts := atoms_spec (ws := wsX9_hitsOf) B.pre
  have hown : s.vm.findClass RX9 = some m.cls := findClass_of_methodNamed B.named
  have hlocks := B.notSynchronized
  have hS : va_S (dz_A Z) s.heap s.heap [] := va_S.rf
  have hl := lv_entry ([.ref aM, .int vc, .int vr]) (n := 6) (Nat.le_of_ble_eq_true rfl)
  rw [lg_entry_eq]
  generalize (lg_sl ([.ref aM, .int vc, .int vr]) ++ List.replicate (6 - (lg_sl ([.ref aM, .int vc, .int vr])).length) Slot.unset).toArray = ls at hl ⊢
  have hl : lv_has ls 6 [(0, .ref aM), (1, .int vc), (2, .int vr)] := hl
  refine lv_iconst (v := 0) hx hb dX9_hitsOf_0 (by decide) ?_
  refine lv_istore_n (lv' := [(3, .int 0), (0, .ref aM), (1, .int vc), (2, .int vr)]) hx hb dX9_hitsOf_1 rfl hl (by decide) rfl (fun ls hl => ?_)
  refine lv_iconst (v := 0) hx hb dX9_hitsOf_2 (by decide) ?_
  refine lv_istore (lv' := [(4, .int 0), (3, .int 0), (0, .ref aM), (1, .int vc), (2, .int vr)]) hx hb dX9_hitsOf_3 hl (by decide) rfl (fun ls hl => ?_)
  refine dz_lp (α := Nat × Array Slot) (fun a9 => (fun (k : Nat) (ls : Array Slot) => 441 - k) a9.1 a9.2) (fun a9 => (fun (k : Nat) (ls : Array Slot) => (k ≤ 441) ∧ lv_has ls 6 [(4, .int (nI k)), (3, .int (m_sg (fun j => dz_b (m_pc j - f8 j = vc ∧ m_pr j - f9 j = vr)) k)), (0, .ref aM), (1, .int vc), (2, .int vr)]) a9.1 a9.2) (fun a9 => F0 m 5 a9.2 []) (fun a9 hI ih_5 => ?_) (0, ls) ⟨(Nat.zero_le _), lv_sub hl [0, 1, 2, 3, 4] rfl⟩
  obtain ⟨k, ls⟩ := a9
  obtain ⟨hk, hl⟩ := hI
  have hk : k ≤ 441 := hk
  have hl : lv_has ls 6 [(4, .int (nI k)), (3, .int (m_sg (fun j => dz_b (m_pc j - f8 j = vc ∧ m_pr j - f9 j = vr)) k)), (0, .ref aM), (1, .int vc), (2, .int vr)] := hl
  refine lv_iload hx hb dX9_hitsOf_5 (lv_at hl 0 rfl) ?_
  refine lv_sipush (v := 441) hx hb dX9_hitsOf_7 (by decide) ?_
  refine lv_icmp_ge (tgt := 68) hx hb dX9_hitsOf_10 (by decide) (fun c_10 => ?_) (fun c_10 => ?_)
  · have hk9 : k = 441 := by have := (nI_leI (a := 441) (by omega) (by omega)).mp c_10; omega
    refine lv_iload_n hx hb dX9_hitsOf_68 rfl (lv_at hl 1 rfl) ?_
    refine W.iret hx hb hrt (fun t ht hW => ⟨congrArg (fun x => Outcome.returned (some (Value.int x))) ?_, ht⟩) (fun _ h => by cases h) dX9_hitsOf_69
    rw [hk9]
  · have hltk : k < 441 := by
      rcases Nat.lt_or_ge k (441) with q | q
      · exact q
      · exact absurd ((nI_leI (a := 441) (by omega) (by omega)).mpr q) c_10
    refine lv_iload hx hb dX9_hitsOf_13 (lv_at hl 0 rfl) ?_
    refine lv_bipush (v := 21) hx hb dX9_hitsOf_15 (by decide) ?_
    refine lv_irem hx hb dX9_hitsOf_17 (by decide) ?_
    refine lv_bipush (v := 10) hx hb dX9_hitsOf_18 (by decide) ?_
    refine lv_isub hx hb dX9_hitsOf_20 ?_
    refine lv_iload hx hb dX9_hitsOf_21 (lv_at hl 0 rfl) ?_
    refine lv_bipush (v := 21) hx hb dX9_hitsOf_23 (by decide) ?_
    refine lv_idiv hx hb dX9_hitsOf_25 (by decide) ?_
    refine lv_bipush (v := 10) hx hb dX9_hitsOf_26 (by decide) ?_
    refine lv_isub hx hb dX9_hitsOf_28 ?_
    refine dz_kRi (va_runS (As := [_, _]) ⟨hx, hb, hml, hown, hts⟩ (c_X9_cell l Z _ _ _ _ ) (va_cwS 2 hts gX9_hitsOf_X9_cell rfl rfl rfl (by decide +kernel) ⟨Nat.le_of_ble_eq_true rfl, Nat.le_of_ble_eq_true rfl⟩) (dz_P.pre hE hS hG) rfl rfl hl.1 rfl (lv_room (Nat.le_of_ble_eq_true rfl)) dX9_hitsOf_29 ⟨Nat.le_of_ble_eq_true rfl, Nat.le_of_ble_eq_true rfl⟩) ?_
    refine lv_topi (fun v_1 ev_1 => ?_)
    obtain rfl : v_1 = nI (22 * (k / 21) + k % 21) := ev_1.trans (fl_h k hltk)
    refine lv_istore (lv' := [(5, .int (nI (22 * (k / 21) + k % 21))), (4, .int (nI k)), (3, .int (m_sg (fun j => dz_b (m_pc j - f8 j = vc ∧ m_pr j - f9 j = vr)) k)), (0, .ref aM), (1, .int vc), (2, .int vr)]) hx hb dX9_hitsOf_32 hl (by decide) rfl (fun ls hl => ?_)
    refine lv_iload_n hx hb dX9_hitsOf_34 rfl (lv_at hl 2 rfl) ?_
    refine lv_aload_n hx hb dX9_hitsOf_35 rfl (lv_at hl 3 rfl) ?_
    refine lv_iload hx hb dX9_hitsOf_36 (lv_at hl 0 rfl) ?_
    refine dz_kRi (va_runV (As := [_]) ⟨hx, hb, hml, hown, hts⟩ (c_X9_columnFrom l Z _ _ _ _ _ _ _ _ _ _ _ _ _ _ _ _ _ _ _ _ ha ho h8 (show (22 * (k / 21) + k % 21) < 484 from by omega)) (cwV 1 hts gX9_hitsOf_X9_columnFrom rfl rfl rfl (by decide +kernel) ⟨Nat.le_of_ble_eq_true rfl, Nat.le_of_ble_eq_true rfl⟩) (dz_P.preV hE hS hG ho rfl ha) rfl rfl hl.1 rfl (lv_room (Nat.le_of_ble_eq_true rfl)) dX9_hitsOf_38 ⟨Nat.le_of_ble_eq_true rfl, Nat.le_of_ble_eq_true rfl⟩) ?_
    refine lv_topi (fun v_2 ev_2 => ?_)
    obtain rfl : v_2 = m_pc ((22 * (k / 21) + k % 21)) - f8 ((22 * (k / 21) + k % 21)) := ev_2
    refine lv_iload_n hx hb dX9_hitsOf_41 rfl (lv_at hl 4 rfl) ?_
    refine lv_icmp_ne (tgt := 59) hx hb dX9_hitsOf_42 (by decide) (fun c_42 => ?_) (fun c_42 => ?_)
    · have hst : m_sg (fun j => dz_b (m_pc j - f8 j = vc ∧ m_pr j - f9 j = vr)) (k + 1) = m_sg (fun j => dz_b (m_pc j - f8 j = vc ∧ m_pr j - f9 j = vr)) k + 0 := congrArg (fun z => m_sg (fun j => dz_b (m_pc j - f8 j = vc ∧ m_pr j - f9 j = vr)) k + z) (dz_b0 (fun z => c_42 z.1))
      refine lv_iconst (v := 0) hx hb dX9_hitsOf_59 (by decide) ?_
      refine lv_iadd hx hb dX9_hitsOf_60 ?_
      refine lv_topi (fun v_3 ev_3 => ?_)
      refine lv_istore_n (lv' := [(3, .int v_3), (5, .int (nI (22 * (k / 21) + k % 21))), (4, .int (nI k)), (0, .ref aM), (1, .int vc), (2, .int vr)]) hx hb dX9_hitsOf_61 rfl hl (by decide) rfl (fun ls hl => ?_)
      obtain ⟨v_4, ev_4⟩ : ∃ y : Int32, y = (nI k) + 1 := ⟨_, rfl⟩
      refine lv_iinc (v := v_4) (lv' := [(4, .int v_4), (3, .int v_3), (5, .int (nI (22 * (k / 21) + k % 21))), (0, .ref aM), (1, .int vc), (2, .int vr)]) hx hb dX9_hitsOf_62 hl (k := 2) rfl (by rw [ev_4]; rfl) (by decide) rfl (fun ls hl => ?_)
      refine lv_goto (tgt := 5) hx hb dX9_hitsOf_65 (by decide) ?_
      obtain rfl : v_4 = nI (k + 1) := ev_4.trans (nI_1 k)
      obtain rfl : v_3 = m_sg (fun j => dz_b (m_pc j - f8 j = vc ∧ m_pr j - f9 j = vr)) (k + 1) := ev_3.trans hst.symm
      exact ih_5 (k + 1, ls) (by first | (dsimp only; omega) | omega) ⟨(by omega), lv_sub hl [0, 1, 3, 4, 5] rfl⟩
    · refine lv_aload_n hx hb dX9_hitsOf_45 rfl (lv_at hl 3 rfl) ?_
      refine lv_iload hx hb dX9_hitsOf_46 (lv_at hl 0 rfl) ?_
      refine dz_kRi (va_runV (As := [_]) ⟨hx, hb, hml, hown, hts⟩ (c_X9_rowFrom l Z _ _ _ _ _ _ _ _ _ _ _ _ _ _ _ _ _ _ _ _ ha ho h9 (show (22 * (k / 21) + k % 21) < 484 from by omega)) (cwV 1 hts gX9_hitsOf_X9_rowFrom rfl rfl rfl (by decide +kernel) ⟨Nat.le_of_ble_eq_true rfl, Nat.le_of_ble_eq_true rfl⟩) (dz_P.preV hE hS hG ho rfl ha) rfl rfl hl.1 rfl (lv_room (Nat.le_of_ble_eq_true rfl)) dX9_hitsOf_48 ⟨Nat.le_of_ble_eq_true rfl, Nat.le_of_ble_eq_true rfl⟩) ?_
      refine lv_topi (fun v_5 ev_5 => ?_)
      obtain rfl : v_5 = m_pr ((22 * (k / 21) + k % 21)) - f9 ((22 * (k / 21) + k % 21)) := ev_5
      refine lv_iload_n hx hb dX9_hitsOf_51 rfl (lv_at hl 5 rfl) ?_
      refine lv_icmp_ne (tgt := 59) hx hb dX9_hitsOf_52 (by decide) (fun c_52 => ?_) (fun c_52 => ?_)
      · have hst : m_sg (fun j => dz_b (m_pc j - f8 j = vc ∧ m_pr j - f9 j = vr)) (k + 1) = m_sg (fun j => dz_b (m_pc j - f8 j = vc ∧ m_pr j - f9 j = vr)) k + 0 := congrArg (fun z => m_sg (fun j => dz_b (m_pc j - f8 j = vc ∧ m_pr j - f9 j = vr)) k + z) (dz_b0 (fun z => c_52 z.2))
        refine lv_iconst (v := 0) hx hb dX9_hitsOf_59 (by decide) ?_
        refine lv_iadd hx hb dX9_hitsOf_60 ?_
        refine lv_topi (fun v_6 ev_6 => ?_)
        refine lv_istore_n (lv' := [(3, .int v_6), (5, .int (nI (22 * (k / 21) + k % 21))), (4, .int (nI k)), (0, .ref aM), (1, .int vc), (2, .int vr)]) hx hb dX9_hitsOf_61 rfl hl (by decide) rfl (fun ls hl => ?_)
        obtain ⟨v_7, ev_7⟩ : ∃ y : Int32, y = (nI k) + 1 := ⟨_, rfl⟩
        refine lv_iinc (v := v_7) (lv' := [(4, .int v_7), (3, .int v_6), (5, .int (nI (22 * (k / 21) + k % 21))), (0, .ref aM), (1, .int vc), (2, .int vr)]) hx hb dX9_hitsOf_62 hl (k := 2) rfl (by rw [ev_7]; rfl) (by decide) rfl (fun ls hl => ?_)
        refine lv_goto (tgt := 5) hx hb dX9_hitsOf_65 (by decide) ?_
        obtain rfl : v_7 = nI (k + 1) := ev_7.trans (nI_1 k)
        obtain rfl : v_6 = m_sg (fun j => dz_b (m_pc j - f8 j = vc ∧ m_pr j - f9 j = vr)) (k + 1) := ev_6.trans hst.symm
        exact ih_5 (k + 1, ls) (by first | (dsimp only; omega) | omega) ⟨(by omega), lv_sub hl [0, 1, 3, 4, 5] rfl⟩
      · have hst : m_sg (fun j => dz_b (m_pc j - f8 j = vc ∧ m_pr j - f9 j = vr)) (k + 1) = m_sg (fun j => dz_b (m_pc j - f8 j = vc ∧ m_pr j - f9 j = vr)) k + 1 := congrArg (fun z => m_sg (fun j => dz_b (m_pc j - f8 j = vc ∧ m_pr j - f9 j = vr)) k + z) (dz_b1 ⟨c_42, c_52⟩)
        refine lv_iconst (v := 1) hx hb dX9_hitsOf_55 (by decide) ?_
        refine lv_goto (tgt := 60) hx hb dX9_hitsOf_56 (by decide) ?_
        refine lv_iadd hx hb dX9_hitsOf_60 ?_
        refine lv_topi (fun v_8 ev_8 => ?_)
        refine lv_istore_n (lv' := [(3, .int v_8), (5, .int (nI (22 * (k / 21) + k % 21))), (4, .int (nI k)), (0, .ref aM), (1, .int vc), (2, .int vr)]) hx hb dX9_hitsOf_61 rfl hl (by decide) rfl (fun ls hl => ?_)
        obtain ⟨v_9, ev_9⟩ : ∃ y : Int32, y = (nI k) + 1 := ⟨_, rfl⟩
        refine lv_iinc (v := v_9) (lv' := [(4, .int v_9), (3, .int v_8), (5, .int (nI (22 * (k / 21) + k % 21))), (0, .ref aM), (1, .int vc), (2, .int vr)]) hx hb dX9_hitsOf_62 hl (k := 2) rfl (by rw [ev_9]; rfl) (by decide) rfl (fun ls hl => ?_)
        refine lv_goto (tgt := 5) hx hb dX9_hitsOf_65 (by decide) ?_
        obtain rfl : v_9 = nI (k + 1) := ev_9.trans (nI_1 k)
        obtain rfl : v_8 = m_sg (fun j => dz_b (m_pc j - f8 j = vc ∧ m_pr j - f9 j = vr)) (k + 1) := ev_8.trans hst.symm
        exact ih_5 (k + 1, ls) (by first | (dsimp only; omega) | omega) ⟨(by omega), lv_sub hl [0, 1, 3, 4, 5] rfl⟩

set_option maxHeartbeats 4000000 in
set_option maxRecDepth 100000 in
theorem c_X9_lost (l : Launch) (Z : dzG) (G : dzW) (ad : dzA) (aM nm ns nl nx nf my : Nat) (th dy td ssf sst cfr grw bkk iop : Int32) (f8 f9 : Nat → Int32) (ha : ad (39, 0) = aM) (ho : G (39, 0) = some (eO 10 [.int th, .int dy, .int (nI nm), .ref (ad (40, 3)), .ref (ad (40, 4)), .ref (ad (40, 5)), .ref (ad (40, 6)), .int td, .ref (ad (40, 8)), .ref (ad (40, 9)), .ref (ad (40, 10)), .int (nI ns), .ref (ad (40, 12)), .ref (ad (40, 13)), .ref (ad (40, 14)), .int (nI nl), .ref (ad (40, 16)), .ref (ad (40, 17)), .ref (ad (40, 18)), .int (nI nx), .ref (ad (40, 20)), .ref (ad (40, 21)), .ref (ad (40, 22)), .ref (ad (40, 23)), .ref (ad (40, 24)), .int ssf, .int sst, .int cfr, .int grw, .int (nI nf), .ref (ad (40, 30)), .ref (ad (40, 31)), .int bkk, .ref (ad (40, 33)), .ref (ad (40, 34)), .ref (ad (40, 35)), .int iop, .ref (ad (40, 37)), .int (nI my)])) (h8 : G (40, 8) = some (eI Z 484 f8)) (h9 : G (40, 9) = some (eI Z 484 f9)) : dzWr l yX9_lost wsX9_lost 2 42 0 0 Z G ad [.ref aM] rv_i (fun (x : Int32) G1 ad1 => (∀ r9 : dzR, r9 ≠ (39, 0) → G1 r9 = G r9 ∧ ad1 r9 = ad r9) ∧ ad = ad1 ∧ x = m_sg (fun j => dz_b (¬ (((-10) ≤ m_pc j - f8 j ∧ m_pc j - f8 j ≤ 10) ∧ ((-10) ≤ m_pr j - f9 j ∧ m_pr j - f9 j ≤ 10)))) 441 ∧ G1 (39, 0) = some (eO 10 [.int 0, .int dy, .int (nI nm), .ref (ad (40, 3)), .ref (ad (40, 4)), .ref (ad (40, 5)), .ref (ad (40, 6)), .int td, .ref (ad (40, 8)), .ref (ad (40, 9)), .ref (ad (40, 10)), .int (nI ns), .ref (ad (40, 12)), .ref (ad (40, 13)), .ref (ad (40, 14)), .int (nI nl), .ref (ad (40, 16)), .ref (ad (40, 17)), .ref (ad (40, 18)), .int (nI nx), .ref (ad (40, 20)), .ref (ad (40, 21)), .ref (ad (40, 22)), .ref (ad (40, 23)), .ref (ad (40, 24)), .int ssf, .int sst, .int cfr, .int grw, .int (nI nf), .ref (ad (40, 30)), .ref (ad (40, 31)), .int bkk, .ref (ad (40, 33)), .ref (ad (40, 34)), .ref (ad (40, 35)), .int iop, .ref (ad (40, 37)), .int (nI my)])) := by
  refine Met.ofW (cc := cX9_lost) (maxL := 4) (ret := (some .int)) (by decide) rfl ?_
  intro p e s m args below meth c s₁ B hml hv
  obtain ⟨rfl, hG, hE⟩ := hv
  have hx := B.exec
  have hb := B.bytes
  have hrt := B.returns
  have hts := atoms_spec (ws := wsX9_lost) B.pre
  have hown : s.vm.findClass RX9 = some m.cls := findClass_of_methodNamed B.named
  have hlocks := B.notSynchronized
  have hS : va_S (dz_A Z) s.heap s.heap [] := va_S.rf
  have hl := lv_entry ([.ref aM]) (n := 4) (Nat.le_of_ble_eq_true rfl)
  rw [lg_entry_eq]
  generalize (lg_sl ([.ref aM]) ++ List.replicate (4 - (lg_sl ([.ref aM])).length) Slot.unset).toArray = ls at hl ⊢
  have hl : lv_has ls 4 [(0, .ref aM)] := hl
  refine lv_aload_n hx hb dX9_lost_0 rfl (lv_at hl 0 rfl) ?_
  refine lv_iconst (v := 0) hx hb dX9_lost_1 (by decide) ?_
  refine dz_put hx hb hts (fun _ h => List.mem_cons_of_mem _ (List.mem_append_right _ h)) tyX9 tyX9_ok nmX9 hown hE hG ha hS ho rfl 0 (by decide) (hts _ (List.mem_of_getElem? (i := 1) rfl)) (fun _ h9 => h9) rfl (ty := .int) (by decide +kernel) rfl rfl (fs' := [.int 0, .int dy, .int (nI nm), .ref (ad (40, 3)), .ref (ad (40, 4)), .ref (ad (40, 5)), .ref (ad (40, 6)), .int td, .ref (ad (40, 8)), .ref (ad (40, 9)), .ref (ad (40, 10)), .int (nI ns), .ref (ad (40, 12)), .ref (ad (40, 13)), .ref (ad (40, 14)), .int (nI nl), .ref (ad (40, 16)), .ref (ad (40, 17)), .ref (ad (40, 18)), .int (nI nx), .ref (ad (40, 20)), .ref (ad (40, 21)), .ref (ad (40, 22)), .ref (ad (40, 23)), .ref (ad (40, 24)), .int ssf, .int sst, .int cfr, .int grw, .int (nI nf), .ref (ad (40, 30)), .ref (ad (40, 31)), .int bkk, .ref (ad (40, 33)), .ref (ad (40, 34)), .ref (ad (40, 35)), .int iop, .ref (ad (40, 37)), .int (nI my)]) rfl (Nat.le_of_ble_eq_true rfl) dX9_lost_2 (fun H locs hG hS => ?_)
  obtain ⟨G_1, hG, w_1, o_1⟩ := dz_nm hG
  refine lv_iconst (v := 0) hx hb dX9_lost_5 (by decide) ?_
  refine lv_istore_n (lv' := [(1, .int 0), (0, .ref aM)]) hx hb dX9_lost_6 rfl hl (by decide) rfl (fun ls hl => ?_)
  refine lv_iconst (v := 0) hx hb dX9_lost_7 (by decide) ?_
  refine lv_istore_n (lv' := [(2, .int 0), (1, .int 0), (0, .ref aM)]) hx hb dX9_lost_8 rfl hl (by decide) rfl (fun ls hl => ?_)
  refine dz_lw (α := Nat × dzW × Array Slot) (fun a9 => (fun (k : Nat) (G_L9 : dzW) (ls : Array Slot) => 441 - k) a9.1 a9.2.1 a9.2.2) (fun a9 H locs => (fun (k : Nat) (G_L9 : dzW) (ls : Array Slot) => (k ≤ 441) ∧ (∀ r9 : dzR, G_L9 r9 = G_1 r9 ∧ ad r9 = ad r9) ∧ dz_w Z G_L9 ad H ∧ va_S (dz_A Z) s.heap H locs ∧ lv_has ls 4 [(2, .int (nI k)), (1, .int (m_sg (fun j => dz_b (¬ (((-10) ≤ m_pc j - f8 j ∧ m_pc j - f8 j ≤ 10) ∧ ((-10) ≤ m_pr j - f9 j ∧ m_pr j - f9 j ≤ 10)))) k)), (0, .ref aM)]) a9.1 a9.2.1 a9.2.2) (fun a9 => F0 m 9 a9.2.2 []) (fun a9 H locs hI ih_9 => ?_) (0, G_1, ls) ⟨(Nat.zero_le _), (fun r9 => ⟨rfl, rfl⟩), hG, hS, lv_sub hl [0, 1, 2] rfl⟩
  obtain ⟨k, G_L9, ls⟩ := a9
  obtain ⟨hk, fr_L9, hG, hS, hl⟩ := hI
  have hk : k ≤ 441 := hk
  have fr_L9 : ∀ r9 : dzR, G_L9 r9 = G_1 r9 ∧ ad r9 = ad r9 := fr_L9
  have hG : dz_w Z G_L9 ad H := hG
  have hS : va_S (dz_A Z) s.heap H locs := hS
  have hl : lv_has ls 4 [(2, .int (nI k)), (1, .int (m_sg (fun j => dz_b (¬ (((-10) ≤ m_pc j - f8 j ∧ m_pc j - f8 j ≤ 10) ∧ ((-10) ≤ m_pr j - f9 j ∧ m_pr j - f9 j ≤ 10)))) k)), (0, .ref aM)] := hl
  refine lv_iload_n hx hb dX9_lost_9 rfl (lv_at hl 0 rfl) ?_
  refine lv_sipush (v := 441) hx hb dX9_lost_10 (by decide) ?_
  refine lv_icmp_ge (tgt := 70) hx hb dX9_lost_13 (by decide) (fun c_13 => ?_) (fun c_13 => ?_)
  · have hk9 : k = 441 := by have := (nI_leI (a := 441) (by omega) (by omega)).mp c_13; omega
    refine lv_iload_n hx hb dX9_lost_70 rfl (lv_at hl 1 rfl) ?_
    refine W.widen (k := 0) (n := 0) (by first | omega | decide) (by first | omega | decide) ?_
    refine W.iret hx hb hrt (fun t ht hW => dz_endM (f := rv_i) _ hE hS hG ?_ ht hW) (fun q h => hS.2.2 q h) dX9_lost_71
    refine ⟨fun r9 n_0 => (dz_tr (fr_L9 r9 ) (o_1 r9 n_0)), rfl, ?_⟩
    exact ⟨by rw [hk9], ((fr_L9 _).1.trans w_1)⟩
  · have hltk : k < 441 := by
      rcases Nat.lt_or_ge k (441) with q | q
      · exact q
      · exact absurd ((nI_leI (a := 441) (by omega) (by omega)).mpr q) c_13
    refine lv_iload_n hx hb dX9_lost_16 rfl (lv_at hl 0 rfl) ?_
    refine lv_bipush (v := 21) hx hb dX9_lost_17 (by decide) ?_
    refine lv_irem hx hb dX9_lost_19 (by decide) ?_
    refine lv_bipush (v := 10) hx hb dX9_lost_20 (by decide) ?_
    refine lv_isub hx hb dX9_lost_22 ?_
    refine lv_iload_n hx hb dX9_lost_23 rfl (lv_at hl 0 rfl) ?_
    refine lv_bipush (v := 21) hx hb dX9_lost_24 (by decide) ?_
    refine lv_idiv hx hb dX9_lost_26 (by decide) ?_
    refine lv_bipush (v := 10) hx hb dX9_lost_27 (by decide) ?_
    refine lv_isub hx hb dX9_lost_29 ?_
    refine dz_kRi (va_runS (As := [_, _]) ⟨hx, hb, hml, hown, hts⟩ (c_X9_cell l Z _ _ _ _ ) (va_cwS 2 hts gX9_lost_X9_cell rfl rfl rfl (by decide +kernel) ⟨Nat.le_of_ble_eq_true rfl, Nat.le_of_ble_eq_true rfl⟩) (dz_P.pre hE hS hG) rfl rfl hl.1 rfl (lv_room (Nat.le_of_ble_eq_true rfl)) dX9_lost_30 ⟨Nat.le_of_ble_eq_true rfl, Nat.le_of_ble_eq_true rfl⟩) ?_
    refine lv_topi (fun v_1 ev_1 => ?_)
    obtain rfl : v_1 = nI (22 * (k / 21) + k % 21) := ev_1.trans (fl_h k hltk)
    refine lv_istore_n (lv' := [(3, .int (nI (22 * (k / 21) + k % 21))), (2, .int (nI k)), (1, .int (m_sg (fun j => dz_b (¬ (((-10) ≤ m_pc j - f8 j ∧ m_pc j - f8 j ≤ 10) ∧ ((-10) ≤ m_pr j - f9 j ∧ m_pr j - f9 j ≤ 10)))) k)), (0, .ref aM)]) hx hb dX9_lost_33 rfl hl (by decide) rfl (fun ls hl => ?_)
    refine lv_iload_n hx hb dX9_lost_34 rfl (lv_at hl 2 rfl) ?_
    refine lv_aload_n hx hb dX9_lost_35 rfl (lv_at hl 3 rfl) ?_
    refine lv_iload_n hx hb dX9_lost_36 rfl (lv_at hl 0 rfl) ?_
    refine dz_kRi (va_runV (As := [_]) ⟨hx, hb, hml, hown, hts⟩ (c_X9_columnFrom l Z _ _ _ _ _ _ _ _ _ _ _ _ _ _ _ _ _ _ _ _ ((fr_L9 _).2.trans ha) ((fr_L9 _).1.trans w_1) ((fr_L9 _).1.trans ((o_1 _ (dz_n rfl)).1.trans h8)) (show (22 * (k / 21) + k % 21) < 484 from by omega)) (cwV 1 hts gX9_lost_X9_columnFrom rfl rfl rfl (by decide +kernel) ⟨Nat.le_of_ble_eq_true rfl, Nat.le_of_ble_eq_true rfl⟩) (dz_P.preV hE hS hG ((fr_L9 _).1.trans w_1) rfl ((fr_L9 _).2.trans ha)) rfl rfl hl.1 rfl (lv_room (Nat.le_of_ble_eq_true rfl)) dX9_lost_37 ⟨Nat.le_of_ble_eq_true rfl, Nat.le_of_ble_eq_true rfl⟩) ?_
    refine lv_topi (fun v_2 ev_2 => ?_)
    obtain rfl : v_2 = m_pc ((22 * (k / 21) + k % 21)) - f8 ((22 * (k / 21) + k % 21)) := ev_2
    refine dz_kRi (va_runS (As := [_]) ⟨hx, hb, hml, hown, hts⟩ (c_X9_isOn l Z _ _ _ ) (va_cwS 1 hts gX9_lost_X9_isOn rfl rfl rfl (by decide +kernel) ⟨Nat.le_of_ble_eq_true rfl, Nat.le_of_ble_eq_true rfl⟩) (dz_P.pre hE hS hG) rfl rfl hl.1 rfl (lv_room (Nat.le_of_ble_eq_true rfl)) dX9_lost_40 ⟨Nat.le_of_ble_eq_true rfl, Nat.le_of_ble_eq_true rfl⟩) ?_
    refine lv_if_eq (tgt := 61) hx hb dX9_lost_43 (by decide) (fun c_43 => ?_) (fun c_43 => ?_)
    · have hst : m_sg (fun j => dz_b (¬ (((-10) ≤ m_pc j - f8 j ∧ m_pc j - f8 j ≤ 10) ∧ ((-10) ≤ m_pr j - f9 j ∧ m_pr j - f9 j ≤ 10)))) (k + 1) = m_sg (fun j => dz_b (¬ (((-10) ≤ m_pc j - f8 j ∧ m_pc j - f8 j ≤ 10) ∧ ((-10) ≤ m_pr j - f9 j ∧ m_pr j - f9 j ≤ 10)))) k + 1 := congrArg (fun z => m_sg (fun j => dz_b (¬ (((-10) ≤ m_pc j - f8 j ∧ m_pc j - f8 j ≤ 10) ∧ ((-10) ≤ m_pr j - f9 j ∧ m_pr j - f9 j ≤ 10)))) k + z) (dz_b1 (fun z => dz_bx c_43 z.1))
      refine lv_iconst (v := 1) hx hb dX9_lost_61 (by decide) ?_
      refine lv_iadd hx hb dX9_lost_62 ?_
      refine lv_topi (fun v_3 ev_3 => ?_)
      refine lv_istore_n (lv' := [(1, .int v_3), (3, .int (nI (22 * (k / 21) + k % 21))), (2, .int (nI k)), (0, .ref aM)]) hx hb dX9_lost_63 rfl hl (by decide) rfl (fun ls hl => ?_)
      obtain ⟨v_4, ev_4⟩ : ∃ y : Int32, y = (nI k) + 1 := ⟨_, rfl⟩
      refine lv_iinc (v := v_4) (lv' := [(2, .int v_4), (1, .int v_3), (3, .int (nI (22 * (k / 21) + k % 21))), (0, .ref aM)]) hx hb dX9_lost_64 hl (k := 2) rfl (by rw [ev_4]; rfl) (by decide) rfl (fun ls hl => ?_)
      refine lv_goto (tgt := 9) hx hb dX9_lost_67 (by decide) ?_
      obtain rfl : v_4 = nI (k + 1) := ev_4.trans (nI_1 k)
      obtain rfl : v_3 = m_sg (fun j => dz_b (¬ (((-10) ≤ m_pc j - f8 j ∧ m_pc j - f8 j ≤ 10) ∧ ((-10) ≤ m_pr j - f9 j ∧ m_pr j - f9 j ≤ 10)))) (k + 1) := ev_3.trans hst.symm
      exact ih_9 (k + 1, G_L9, ls) _ _ (by first | (dsimp only; omega) | omega) ⟨(by omega), (fun r9 => (fr_L9 r9 )), hG, hS, lv_sub hl [0, 1, 3] rfl⟩
    · refine lv_aload_n hx hb dX9_lost_46 rfl (lv_at hl 3 rfl) ?_
      refine lv_iload_n hx hb dX9_lost_47 rfl (lv_at hl 0 rfl) ?_
      refine dz_kRi (va_runV (As := [_]) ⟨hx, hb, hml, hown, hts⟩ (c_X9_rowFrom l Z _ _ _ _ _ _ _ _ _ _ _ _ _ _ _ _ _ _ _ _ ((fr_L9 _).2.trans ha) ((fr_L9 _).1.trans w_1) ((fr_L9 _).1.trans ((o_1 _ (dz_n rfl)).1.trans h9)) (show (22 * (k / 21) + k % 21) < 484 from by omega)) (cwV 1 hts gX9_lost_X9_rowFrom rfl rfl rfl (by decide +kernel) ⟨Nat.le_of_ble_eq_true rfl, Nat.le_of_ble_eq_true rfl⟩) (dz_P.preV hE hS hG ((fr_L9 _).1.trans w_1) rfl ((fr_L9 _).2.trans ha)) rfl rfl hl.1 rfl (lv_room (Nat.le_of_ble_eq_true rfl)) dX9_lost_48 ⟨Nat.le_of_ble_eq_true rfl, Nat.le_of_ble_eq_true rfl⟩) ?_
      refine lv_topi (fun v_5 ev_5 => ?_)
      obtain rfl : v_5 = m_pr ((22 * (k / 21) + k % 21)) - f9 ((22 * (k / 21) + k % 21)) := ev_5
      refine dz_kRi (va_runS (As := [_]) ⟨hx, hb, hml, hown, hts⟩ (c_X9_isOn l Z _ _ _ ) (va_cwS 1 hts gX9_lost_X9_isOn rfl rfl rfl (by decide +kernel) ⟨Nat.le_of_ble_eq_true rfl, Nat.le_of_ble_eq_true rfl⟩) (dz_P.pre hE hS hG) rfl rfl hl.1 rfl (lv_room (Nat.le_of_ble_eq_true rfl)) dX9_lost_51 ⟨Nat.le_of_ble_eq_true rfl, Nat.le_of_ble_eq_true rfl⟩) ?_
      refine lv_if_eq (tgt := 61) hx hb dX9_lost_54 (by decide) (fun c_54 => ?_) (fun c_54 => ?_)
      · have hst : m_sg (fun j => dz_b (¬ (((-10) ≤ m_pc j - f8 j ∧ m_pc j - f8 j ≤ 10) ∧ ((-10) ≤ m_pr j - f9 j ∧ m_pr j - f9 j ≤ 10)))) (k + 1) = m_sg (fun j => dz_b (¬ (((-10) ≤ m_pc j - f8 j ∧ m_pc j - f8 j ≤ 10) ∧ ((-10) ≤ m_pr j - f9 j ∧ m_pr j - f9 j ≤ 10)))) k + 1 := congrArg (fun z => m_sg (fun j => dz_b (¬ (((-10) ≤ m_pc j - f8 j ∧ m_pc j - f8 j ≤ 10) ∧ ((-10) ≤ m_pr j - f9 j ∧ m_pr j - f9 j ≤ 10)))) k + z) (dz_b1 (fun z => dz_bx c_54 z.2))
        refine lv_iconst (v := 1) hx hb dX9_lost_61 (by decide) ?_
        refine lv_iadd hx hb dX9_lost_62 ?_
        refine lv_topi (fun v_6 ev_6 => ?_)
        refine lv_istore_n (lv' := [(1, .int v_6), (3, .int (nI (22 * (k / 21) + k % 21))), (2, .int (nI k)), (0, .ref aM)]) hx hb dX9_lost_63 rfl hl (by decide) rfl (fun ls hl => ?_)
        obtain ⟨v_7, ev_7⟩ : ∃ y : Int32, y = (nI k) + 1 := ⟨_, rfl⟩
        refine lv_iinc (v := v_7) (lv' := [(2, .int v_7), (1, .int v_6), (3, .int (nI (22 * (k / 21) + k % 21))), (0, .ref aM)]) hx hb dX9_lost_64 hl (k := 2) rfl (by rw [ev_7]; rfl) (by decide) rfl (fun ls hl => ?_)
        refine lv_goto (tgt := 9) hx hb dX9_lost_67 (by decide) ?_
        obtain rfl : v_7 = nI (k + 1) := ev_7.trans (nI_1 k)
        obtain rfl : v_6 = m_sg (fun j => dz_b (¬ (((-10) ≤ m_pc j - f8 j ∧ m_pc j - f8 j ≤ 10) ∧ ((-10) ≤ m_pr j - f9 j ∧ m_pr j - f9 j ≤ 10)))) (k + 1) := ev_6.trans hst.symm
        exact ih_9 (k + 1, G_L9, ls) _ _ (by first | (dsimp only; omega) | omega) ⟨(by omega), (fun r9 => (fr_L9 r9 )), hG, hS, lv_sub hl [0, 1, 3] rfl⟩
      · have hst : m_sg (fun j => dz_b (¬ (((-10) ≤ m_pc j - f8 j ∧ m_pc j - f8 j ≤ 10) ∧ ((-10) ≤ m_pr j - f9 j ∧ m_pr j - f9 j ≤ 10)))) (k + 1) = m_sg (fun j => dz_b (¬ (((-10) ≤ m_pc j - f8 j ∧ m_pc j - f8 j ≤ 10) ∧ ((-10) ≤ m_pr j - f9 j ∧ m_pr j - f9 j ≤ 10)))) k + 0 := congrArg (fun z => m_sg (fun j => dz_b (¬ (((-10) ≤ m_pc j - f8 j ∧ m_pc j - f8 j ≤ 10) ∧ ((-10) ≤ m_pr j - f9 j ∧ m_pr j - f9 j ≤ 10)))) k + z) (dz_b0 (fun z => z ⟨dz_by c_43, dz_by c_54⟩))
        refine lv_iconst (v := 0) hx hb dX9_lost_57 (by decide) ?_
        refine lv_goto (tgt := 62) hx hb dX9_lost_58 (by decide) ?_
        refine lv_iadd hx hb dX9_lost_62 ?_
        refine lv_topi (fun v_8 ev_8 => ?_)
        refine lv_istore_n (lv' := [(1, .int v_8), (3, .int (nI (22 * (k / 21) + k % 21))), (2, .int (nI k)), (0, .ref aM)]) hx hb dX9_lost_63 rfl hl (by decide) rfl (fun ls hl => ?_)
        obtain ⟨v_9, ev_9⟩ : ∃ y : Int32, y = (nI k) + 1 := ⟨_, rfl⟩
        refine lv_iinc (v := v_9) (lv' := [(2, .int v_9), (1, .int v_8), (3, .int (nI (22 * (k / 21) + k % 21))), (0, .ref aM)]) hx hb dX9_lost_64 hl (k := 2) rfl (by rw [ev_9]; rfl) (by decide) rfl (fun ls hl => ?_)
        refine lv_goto (tgt := 9) hx hb dX9_lost_67 (by decide) ?_
        obtain rfl : v_9 = nI (k + 1) := ev_9.trans (nI_1 k)
        obtain rfl : v_8 = m_sg (fun j => dz_b (¬ (((-10) ≤ m_pc j - f8 j ∧ m_pc j - f8 j ≤ 10) ∧ ((-10) ≤ m_pr j - f9 j ∧ m_pr j - f9 j ≤ 10)))) (k + 1) := ev_8.trans hst.symm
        exact ih_9 (k + 1, G_L9, ls) _ _ (by first | (dsimp only; omega) | omega) ⟨(by omega), (fun r9 => (fr_L9 r9 )), hG, hS, lv_sub hl [0, 1, 3] rfl⟩

set_option maxHeartbeats 4000000 in
set_option maxRecDepth 100000 in
theorem c_X9_shown (l : Launch) (Z : dzG) (G : dzW) (ad : dzA) (aM nm ns nl nx nf my : Nat) (th dy td ssf sst cfr grw bkk iop : Int32) (f31 : Nat → Int32) (i sc rk : Nat) (ha : ad (39, 0) = aM) (ho : G (39, 0) = some (eO 10 [.int th, .int dy, .int (nI nm), .ref (ad (40, 3)), .ref (ad (40, 4)), .ref (ad (40, 5)), .ref (ad (40, 6)), .int td, .ref (ad (40, 8)), .ref (ad (40, 9)), .ref (ad (40, 10)), .int (nI ns), .ref (ad (40, 12)), .ref (ad (40, 13)), .ref (ad (40, 14)), .int (nI nl), .ref (ad (40, 16)), .ref (ad (40, 17)), .ref (ad (40, 18)), .int (nI nx), .ref (ad (40, 20)), .ref (ad (40, 21)), .ref (ad (40, 22)), .ref (ad (40, 23)), .ref (ad (40, 24)), .int ssf, .int sst, .int cfr, .int grw, .int (nI nf), .ref (ad (40, 30)), .ref (ad (40, 31)), .int bkk, .ref (ad (40, 33)), .ref (ad (40, 34)), .ref (ad (40, 35)), .int iop, .ref (ad (40, 37)), .int (nI my)])) (h31 : G (40, 31) = some (eI Z 1800 f31)) (hi : i < 60) (hsc : sc < 5) (hrk : rk < 6) : dzRd l yX9_shown wsX9_shown 0 0 Z G ad [.ref aM, .int (nI i), .int (nI sc), .int (nI rk)] (some (.int (f31 (30 * i + 6 * sc + rk)))) := by
  refine Met.ofW (cc := cX9_shown) (maxL := 4) (ret := (some .int)) (by decide) rfl ?_
  intro p e s m args below meth c s₁ B hml hv
  obtain ⟨rfl, hG, hE⟩ := hv
  have hx := B.exec
  have hb := B.bytes
  have hrt := B.returns
  have hts := atoms_spec (ws := wsX9_shown) B.pre
  have hown : s.vm.findClass RX9 = some m.cls := findClass_of_methodNamed B.named
  have hlocks := B.notSynchronized
  have hS : va_S (dz_A Z) s.heap s.heap [] := va_S.rf
  have hl := lv_entry ([.ref aM, .int (nI i), .int (nI sc), .int (nI rk)]) (n := 4) (Nat.le_of_ble_eq_true rfl)
  rw [lg_entry_eq]
  generalize (lg_sl ([.ref aM, .int (nI i), .int (nI sc), .int (nI rk)]) ++ List.replicate (4 - (lg_sl ([.ref aM, .int (nI i), .int (nI sc), .int (nI rk)])).length) Slot.unset).toArray = ls at hl ⊢
  have hl : lv_has ls 4 [(0, .ref aM), (1, .int (nI i)), (2, .int (nI sc)), (3, .int (nI rk))] := hl
  refine lv_aload_n hx hb dX9_shown_0 rfl (lv_at hl 0 rfl) ?_
  refine dz_get hx hb hts (fun _ h => List.mem_cons_of_mem _ (List.mem_append_right _ h)) hown hE hG ha ho rfl 31 (by decide) (hts _ (List.mem_of_getElem? (i := 1) rfl)) (fun _ h9 => h9) rfl dX9_shown_1 ?_
  refine lv_bipush (v := 6) hx hb dX9_shown_4 (by decide) ?_
  refine lv_iconst (v := 5) hx hb dX9_shown_6 (by decide) ?_
  refine lv_iload_n hx hb dX9_shown_7 rfl (lv_at hl 1 rfl) ?_
  refine lv_imul hx hb dX9_shown_8 ?_
  refine lv_iload_n hx hb dX9_shown_9 rfl (lv_at hl 2 rfl) ?_
  refine lv_iadd hx hb dX9_shown_10 ?_
  refine lv_imul hx hb dX9_shown_11 ?_
  refine lv_iload_n hx hb dX9_shown_12 rfl (lv_at hl 3 rfl) ?_
  refine lv_iadd hx hb dX9_shown_13 ?_
  refine lv_topi (fun v_1 ev_1 => ?_)
  obtain rfl : v_1 = nI (30 * i + 6 * sc + rk) := ev_1.trans (fl_sh i hi sc hsc rk hrk)
  refine dz_iald hx hb hE hG rfl h31 (vp_in_nI (by omega) (by decide)) dX9_shown_14 ?_
  refine lv_topi (fun v_2 ev_2 => ?_)
  obtain rfl : v_2 = f31 (30 * i + 6 * sc + rk) := ev_2.trans (by rw [nI_clamp (by omega)])
  refine W.iret hx hb hrt (fun t ht hW => ⟨congrArg (fun x => Outcome.returned (some (Value.int x))) ?_, ht⟩) (fun _ h => by cases h) dX9_shown_15
  rfl

set_option maxHeartbeats 4000000 in
set_option maxRecDepth 100000 in
theorem c_X9_measure (l : Launch) (Z : dzG) (G : dzW) (ad : dzA) (aM nm ns nl nx nf my : Nat) (th dy td ssf sst cfr grw bkk iop : Int32) (f8 f9 f30 f31 f37 : Nat → Int32) (sc rk ot j jo : Nat) (ha : ad (39, 0) = aM) (ho : G (39, 0) = some (eO 10 [.int th, .int dy, .int (nI nm), .ref (ad (40, 3)), .ref (ad (40, 4)), .ref (ad (40, 5)), .ref (ad (40, 6)), .int td, .ref (ad (40, 8)), .ref (ad (40, 9)), .ref (ad (40, 10)), .int (nI ns), .ref (ad (40, 12)), .ref (ad (40, 13)), .ref (ad (40, 14)), .int (nI nl), .ref (ad (40, 16)), .ref (ad (40, 17)), .ref (ad (40, 18)), .int (nI nx), .ref (ad (40, 20)), .ref (ad (40, 21)), .ref (ad (40, 22)), .ref (ad (40, 23)), .ref (ad (40, 24)), .int ssf, .int sst, .int cfr, .int grw, .int (nI nf), .ref (ad (40, 30)), .ref (ad (40, 31)), .int bkk, .ref (ad (40, 33)), .ref (ad (40, 34)), .ref (ad (40, 35)), .int iop, .ref (ad (40, 37)), .int (nI my)])) (h8 : G (40, 8) = some (eI Z 484 f8)) (h9 : G (40, 9) = some (eI Z 484 f9)) (h30 : G (40, 30) = some (eI Z 60 f30)) (h31 : G (40, 31) = some (eI Z 1800 f31)) (h37 : G (40, 37) = some (eI Z 441 f37)) (hsc : sc < 5) (hnf : nf ≤ 60) (hrk : rk < 6) (hot : ot < 6) (hij : f37 rk = nI j) (hjj : j + 22 < 484) (hijo : f37 ot = nI jo) (hjjo : jo + 22 < 484) : dzRd l yX9_measure wsX9_measure 2 50 Z G ad [.ref aM, .int (nI sc), .int (nI rk), .int (nI ot)] (some (.int (m_nb f30 (fun i => f31 (30 * i + 6 * sc + rk)) (fun i => f31 (30 * i + 6 * sc + ot)) nf (m_abs (m_times (m_turn (fun j => m_pc j - f8 j) (fun j => m_pr j - f9 j) jo))) (m_abs (m_times (m_turn (fun j => m_pc j - f8 j) (fun j => m_pr j - f9 j) j))) 151).1)) := by
  refine Met.ofW (cc := cX9_measure) (maxL := 21) (ret := (some .int)) (by decide) rfl ?_
  intro p e s m args below meth c s₁ B hml hv
  obtain ⟨rfl, hG, hE⟩ := hv
  have hx := B.exec
  have hb := B.bytes
  have hrt := B.returns
  have hts := atoms_spec (ws := wsX9_measure) B.pre
  have hown : s.vm.findClass RX9 = some m.cls := findClass_of_methodNamed B.named
  have hlocks := B.notSynchronized
  have hS : va_S (dz_A Z) s.heap s.heap [] := va_S.rf
  have hl := lv_entry ([.ref aM, .int (nI sc), .int (nI rk), .int (nI ot)]) (n := 21) (Nat.le_of_ble_eq_true rfl)
  rw [lg_entry_eq]
  generalize (lg_sl ([.ref aM, .int (nI sc), .int (nI rk), .int (nI ot)]) ++ List.replicate (21 - (lg_sl ([.ref aM, .int (nI sc), .int (nI rk), .int (nI ot)])).length) Slot.unset).toArray = ls at hl ⊢
  have hl : lv_has ls 21 [(0, .ref aM), (1, .int (nI sc)), (2, .int (nI rk)), (3, .int (nI ot))] := hl
  refine lv_iload_n hx hb dX9_measure_0 rfl (lv_at hl 2 rfl) ?_
  refine lv_bipush (v := 6) hx hb dX9_measure_1 (by decide) ?_
  refine lv_icmp_ge (tgt := 12) hx hb dX9_measure_3 (by decide) (fun c_3 => absurd c_3 (fun z => absurd ((nI_leI (a := 6) (by omega) (by omega)).mp z) (by omega))) (fun c_3 => ?_)
  refine lv_iload_n hx hb dX9_measure_6 rfl (lv_at hl 3 rfl) ?_
  refine lv_bipush (v := 6) hx hb dX9_measure_7 (by decide) ?_
  refine lv_icmp_lt (tgt := 14) hx hb dX9_measure_9 (by decide) (fun c_9 => ?_) (fun c_9 => absurd (nI_lt hot (by decide)) c_9)
  refine lv_aload_n hx hb dX9_measure_14 rfl (lv_at hl 0 rfl) ?_
  refine lv_iload_n hx hb dX9_measure_15 rfl (lv_at hl 2 rfl) ?_
  refine dz_kRi (va_runV (As := [_]) ⟨hx, hb, hml, hown, hts⟩ (c_X9_timesOf l Z _ _ _ _ _ _ _ _ _ _ _ _ _ _ _ _ _ _ _ _ _ _ j ha ho h8 h9 h37 (by omega) hij hjj) (cwV 1 hts gX9_measure_X9_timesOf rfl rfl rfl (by decide +kernel) ⟨Nat.le_of_ble_eq_true rfl, Nat.le_of_ble_eq_true rfl⟩) (dz_P.preV hE hS hG ho rfl ha) rfl rfl hl.1 rfl (lv_room (Nat.le_of_ble_eq_true rfl)) dX9_measure_16 ⟨Nat.le_of_ble_eq_true rfl, Nat.le_of_ble_eq_true rfl⟩) ?_
  refine dz_kRi (va_runS (As := [_]) ⟨hx, hb, hml, hown, hts⟩ (c_X9_size l Z _ _ _ ) (va_cwS 1 hts gX9_measure_X9_size rfl rfl rfl (by decide +kernel) ⟨Nat.le_of_ble_eq_true rfl, Nat.le_of_ble_eq_true rfl⟩) (dz_P.pre hE hS hG) rfl rfl hl.1 rfl (lv_room (Nat.le_of_ble_eq_true rfl)) dX9_measure_19 ⟨Nat.le_of_ble_eq_true rfl, Nat.le_of_ble_eq_true rfl⟩) ?_
  refine lv_topi (fun v_1 ev_1 => ?_)
  obtain rfl : v_1 = (m_abs (m_times (m_turn (fun j => m_pc j - f8 j) (fun j => m_pr j - f9 j) j))) := ev_1
  refine lv_istore (lv' := [(4, .int (m_abs (m_times (m_turn (fun j => m_pc j - f8 j) (fun j => m_pr j - f9 j) j)))), (0, .ref aM), (1, .int (nI sc)), (2, .int (nI rk)), (3, .int (nI ot))]) hx hb dX9_measure_22 hl (by decide) rfl (fun ls hl => ?_)
  refine lv_aload_n hx hb dX9_measure_24 rfl (lv_at hl 1 rfl) ?_
  refine lv_iload_n hx hb dX9_measure_25 rfl (lv_at hl 4 rfl) ?_
  refine dz_kRi (va_runV (As := [_]) ⟨hx, hb, hml, hown, hts⟩ (c_X9_timesOf l Z _ _ _ _ _ _ _ _ _ _ _ _ _ _ _ _ _ _ _ _ _ _ jo ha ho h8 h9 h37 (by omega) hijo hjjo) (cwV 1 hts gX9_measure_X9_timesOf rfl rfl rfl (by decide +kernel) ⟨Nat.le_of_ble_eq_true rfl, Nat.le_of_ble_eq_true rfl⟩) (dz_P.preV hE hS hG ho rfl ha) rfl rfl hl.1 rfl (lv_room (Nat.le_of_ble_eq_true rfl)) dX9_measure_26 ⟨Nat.le_of_ble_eq_true rfl, Nat.le_of_ble_eq_true rfl⟩) ?_
  refine dz_kRi (va_runS (As := [_]) ⟨hx, hb, hml, hown, hts⟩ (c_X9_size l Z _ _ _ ) (va_cwS 1 hts gX9_measure_X9_size rfl rfl rfl (by decide +kernel) ⟨Nat.le_of_ble_eq_true rfl, Nat.le_of_ble_eq_true rfl⟩) (dz_P.pre hE hS hG) rfl rfl hl.1 rfl (lv_room (Nat.le_of_ble_eq_true rfl)) dX9_measure_29 ⟨Nat.le_of_ble_eq_true rfl, Nat.le_of_ble_eq_true rfl⟩) ?_
  refine lv_topi (fun v_2 ev_2 => ?_)
  obtain rfl : v_2 = (m_abs (m_times (m_turn (fun j => m_pc j - f8 j) (fun j => m_pr j - f9 j) jo))) := ev_2
  refine lv_istore (lv' := [(5, .int (m_abs (m_times (m_turn (fun j => m_pc j - f8 j) (fun j => m_pr j - f9 j) jo)))), (4, .int (m_abs (m_times (m_turn (fun j => m_pc j - f8 j) (fun j => m_pr j - f9 j) j)))), (0, .ref aM), (1, .int (nI sc)), (2, .int (nI rk)), (3, .int (nI ot))]) hx hb dX9_measure_32 hl (by decide) rfl (fun ls hl => ?_)
  refine lv_iconst (v := (-1)) hx hb dX9_measure_34 (by decide) ?_
  refine lv_istore (lv' := [(6, .int (-1)), (5, .int (m_abs (m_times (m_turn (fun j => m_pc j - f8 j) (fun j => m_pr j - f9 j) jo)))), (4, .int (m_abs (m_times (m_turn (fun j => m_pc j - f8 j) (fun j => m_pr j - f9 j) j)))), (0, .ref aM), (1, .int (nI sc)), (2, .int (nI rk)), (3, .int (nI ot))]) hx hb dX9_measure_35 hl (by decide) rfl (fun ls hl => ?_)
  refine lv_lconst (v := 0) hx hb dX9_measure_37 (by decide) ?_
  refine lv_lstore (lv' := [(7, .long 0), (6, .int (-1)), (5, .int (m_abs (m_times (m_turn (fun j => m_pc j - f8 j) (fun j => m_pr j - f9 j) jo)))), (4, .int (m_abs (m_times (m_turn (fun j => m_pc j - f8 j) (fun j => m_pr j - f9 j) j)))), (0, .ref aM), (1, .int (nI sc)), (2, .int (nI rk)), (3, .int (nI ot))]) hx hb dX9_measure_38 hl (by decide) rfl (fun ls hl => ?_)
  refine lv_lconst (v := 1) hx hb dX9_measure_40 (by decide) ?_
  refine lv_lstore (lv' := [(9, .long 1), (7, .long 0), (6, .int (-1)), (5, .int (m_abs (m_times (m_turn (fun j => m_pc j - f8 j) (fun j => m_pr j - f9 j) jo)))), (4, .int (m_abs (m_times (m_turn (fun j => m_pc j - f8 j) (fun j => m_pr j - f9 j) j)))), (0, .ref aM), (1, .int (nI sc)), (2, .int (nI rk)), (3, .int (nI ot))]) hx hb dX9_measure_41 hl (by decide) rfl (fun ls hl => ?_)
  refine lv_iconst (v := 0) hx hb dX9_measure_43 (by decide) ?_
  refine lv_istore (lv' := [(11, .int 0), (9, .long 1), (7, .long 0), (6, .int (-1)), (5, .int (m_abs (m_times (m_turn (fun j => m_pc j - f8 j) (fun j => m_pr j - f9 j) jo)))), (4, .int (m_abs (m_times (m_turn (fun j => m_pc j - f8 j) (fun j => m_pr j - f9 j) j)))), (0, .ref aM), (1, .int (nI sc)), (2, .int (nI rk)), (3, .int (nI ot))]) hx hb dX9_measure_44 hl (by decide) rfl (fun ls hl => ?_)
  refine dz_lp (α := Nat × Array Slot) (fun a9 => (fun (d : Nat) (ls : Array Slot) => 151 - d) a9.1 a9.2) (fun a9 => (fun (d : Nat) (ls : Array Slot) => (d ≤ 151) ∧ lv_has ls 21 [(11, .int (nI d)), (9, .long ((m_nb f30 (fun i => f31 (30 * i + 6 * sc + rk)) (fun i => f31 (30 * i + 6 * sc + ot)) nf (m_abs (m_times (m_turn (fun j => m_pc j - f8 j) (fun j => m_pr j - f9 j) jo))) (m_abs (m_times (m_turn (fun j => m_pc j - f8 j) (fun j => m_pr j - f9 j) j))) d).2.2)), (7, .long ((m_nb f30 (fun i => f31 (30 * i + 6 * sc + rk)) (fun i => f31 (30 * i + 6 * sc + ot)) nf (m_abs (m_times (m_turn (fun j => m_pc j - f8 j) (fun j => m_pr j - f9 j) jo))) (m_abs (m_times (m_turn (fun j => m_pc j - f8 j) (fun j => m_pr j - f9 j) j))) d).2.1)), (6, .int ((m_nb f30 (fun i => f31 (30 * i + 6 * sc + rk)) (fun i => f31 (30 * i + 6 * sc + ot)) nf (m_abs (m_times (m_turn (fun j => m_pc j - f8 j) (fun j => m_pr j - f9 j) jo))) (m_abs (m_times (m_turn (fun j => m_pc j - f8 j) (fun j => m_pr j - f9 j) j))) d).1)), (5, .int (m_abs (m_times (m_turn (fun j => m_pc j - f8 j) (fun j => m_pr j - f9 j) jo)))), (4, .int (m_abs (m_times (m_turn (fun j => m_pc j - f8 j) (fun j => m_pr j - f9 j) j)))), (0, .ref aM), (1, .int (nI sc)), (2, .int (nI rk)), (3, .int (nI ot))]) a9.1 a9.2) (fun a9 => F0 m 46 a9.2 []) (fun a9 hI ih_46 => ?_) (0, ls) ⟨(Nat.zero_le _), lv_sub hl [0, 1, 2, 3, 4, 5, 6, 7, 8, 9] rfl⟩
  obtain ⟨d, ls⟩ := a9
  obtain ⟨hd, hl⟩ := hI
  have hd : d ≤ 151 := hd
  have hl : lv_has ls 21 [(11, .int (nI d)), (9, .long ((m_nb f30 (fun i => f31 (30 * i + 6 * sc + rk)) (fun i => f31 (30 * i + 6 * sc + ot)) nf (m_abs (m_times (m_turn (fun j => m_pc j - f8 j) (fun j => m_pr j - f9 j) jo))) (m_abs (m_times (m_turn (fun j => m_pc j - f8 j) (fun j => m_pr j - f9 j) j))) d).2.2)), (7, .long ((m_nb f30 (fun i => f31 (30 * i + 6 * sc + rk)) (fun i => f31 (30 * i + 6 * sc + ot)) nf (m_abs (m_times (m_turn (fun j => m_pc j - f8 j) (fun j => m_pr j - f9 j) jo))) (m_abs (m_times (m_turn (fun j => m_pc j - f8 j) (fun j => m_pr j - f9 j) j))) d).2.1)), (6, .int ((m_nb f30 (fun i => f31 (30 * i + 6 * sc + rk)) (fun i => f31 (30 * i + 6 * sc + ot)) nf (m_abs (m_times (m_turn (fun j => m_pc j - f8 j) (fun j => m_pr j - f9 j) jo))) (m_abs (m_times (m_turn (fun j => m_pc j - f8 j) (fun j => m_pr j - f9 j) j))) d).1)), (5, .int (m_abs (m_times (m_turn (fun j => m_pc j - f8 j) (fun j => m_pr j - f9 j) jo)))), (4, .int (m_abs (m_times (m_turn (fun j => m_pc j - f8 j) (fun j => m_pr j - f9 j) j)))), (0, .ref aM), (1, .int (nI sc)), (2, .int (nI rk)), (3, .int (nI ot))] := hl
  refine lv_iload hx hb dX9_measure_46 (lv_at hl 0 rfl) ?_
  refine lv_sipush (v := 150) hx hb dX9_measure_48 (by decide) ?_
  refine lv_icmp_gt (tgt := 272) hx hb dX9_measure_51 (by decide) (fun c_51 => ?_) (fun c_51 => ?_)
  · have hd9 : d = 151 := by have := (nI_ltI (a := 150) (b := d) (by decide) (by omega)).mp c_51; omega
    refine lv_iload hx hb dX9_measure_272 (lv_at hl 3 rfl) ?_
    refine W.iret hx hb hrt (fun t ht hW => ⟨congrArg (fun x => Outcome.returned (some (Value.int x))) ?_, ht⟩) (fun _ h => by cases h) dX9_measure_274
    rw [hd9]
  · have hltd : d < 151 := by
      rcases Nat.lt_or_ge d 151 with q | q
      · exact q
      · exact absurd ((nI_ltI (a := 150) (b := d) (by decide) (by omega)).mpr (by omega)) c_51
    refine lv_lconst (v := 0) hx hb dX9_measure_54 (by decide) ?_
    refine lv_lstore (lv' := [(12, .long 0), (11, .int (nI d)), (9, .long ((m_nb f30 (fun i => f31 (30 * i + 6 * sc + rk)) (fun i => f31 (30 * i + 6 * sc + ot)) nf (m_abs (m_times (m_turn (fun j => m_pc j - f8 j) (fun j => m_pr j - f9 j) jo))) (m_abs (m_times (m_turn (fun j => m_pc j - f8 j) (fun j => m_pr j - f9 j) j))) d).2.2)), (7, .long ((m_nb f30 (fun i => f31 (30 * i + 6 * sc + rk)) (fun i => f31 (30 * i + 6 * sc + ot)) nf (m_abs (m_times (m_turn (fun j => m_pc j - f8 j) (fun j => m_pr j - f9 j) jo))) (m_abs (m_times (m_turn (fun j => m_pc j - f8 j) (fun j => m_pr j - f9 j) j))) d).2.1)), (6, .int ((m_nb f30 (fun i => f31 (30 * i + 6 * sc + rk)) (fun i => f31 (30 * i + 6 * sc + ot)) nf (m_abs (m_times (m_turn (fun j => m_pc j - f8 j) (fun j => m_pr j - f9 j) jo))) (m_abs (m_times (m_turn (fun j => m_pc j - f8 j) (fun j => m_pr j - f9 j) j))) d).1)), (5, .int (m_abs (m_times (m_turn (fun j => m_pc j - f8 j) (fun j => m_pr j - f9 j) jo)))), (4, .int (m_abs (m_times (m_turn (fun j => m_pc j - f8 j) (fun j => m_pr j - f9 j) j)))), (0, .ref aM), (1, .int (nI sc)), (2, .int (nI rk)), (3, .int (nI ot))]) hx hb dX9_measure_55 hl (by decide) rfl (fun ls hl => ?_)
    refine lv_iconst (v := 0) hx hb dX9_measure_57 (by decide) ?_
    refine lv_istore (lv' := [(14, .int 0), (12, .long 0), (11, .int (nI d)), (9, .long ((m_nb f30 (fun i => f31 (30 * i + 6 * sc + rk)) (fun i => f31 (30 * i + 6 * sc + ot)) nf (m_abs (m_times (m_turn (fun j => m_pc j - f8 j) (fun j => m_pr j - f9 j) jo))) (m_abs (m_times (m_turn (fun j => m_pc j - f8 j) (fun j => m_pr j - f9 j) j))) d).2.2)), (7, .long ((m_nb f30 (fun i => f31 (30 * i + 6 * sc + rk)) (fun i => f31 (30 * i + 6 * sc + ot)) nf (m_abs (m_times (m_turn (fun j => m_pc j - f8 j) (fun j => m_pr j - f9 j) jo))) (m_abs (m_times (m_turn (fun j => m_pc j - f8 j) (fun j => m_pr j - f9 j) j))) d).2.1)), (6, .int ((m_nb f30 (fun i => f31 (30 * i + 6 * sc + rk)) (fun i => f31 (30 * i + 6 * sc + ot)) nf (m_abs (m_times (m_turn (fun j => m_pc j - f8 j) (fun j => m_pr j - f9 j) jo))) (m_abs (m_times (m_turn (fun j => m_pc j - f8 j) (fun j => m_pr j - f9 j) j))) d).1)), (5, .int (m_abs (m_times (m_turn (fun j => m_pc j - f8 j) (fun j => m_pr j - f9 j) jo)))), (4, .int (m_abs (m_times (m_turn (fun j => m_pc j - f8 j) (fun j => m_pr j - f9 j) j)))), (0, .ref aM), (1, .int (nI sc)), (2, .int (nI rk)), (3, .int (nI ot))]) hx hb dX9_measure_58 hl (by decide) rfl (fun ls hl => ?_)
    refine lv_iconst (v := 0) hx hb dX9_measure_60 (by decide) ?_
    refine lv_istore (lv' := [(15, .int 0), (14, .int 0), (12, .long 0), (11, .int (nI d)), (9, .long ((m_nb f30 (fun i => f31 (30 * i + 6 * sc + rk)) (fun i => f31 (30 * i + 6 * sc + ot)) nf (m_abs (m_times (m_turn (fun j => m_pc j - f8 j) (fun j => m_pr j - f9 j) jo))) (m_abs (m_times (m_turn (fun j => m_pc j - f8 j) (fun j => m_pr j - f9 j) j))) d).2.2)), (7, .long ((m_nb f30 (fun i => f31 (30 * i + 6 * sc + rk)) (fun i => f31 (30 * i + 6 * sc + ot)) nf (m_abs (m_times (m_turn (fun j => m_pc j - f8 j) (fun j => m_pr j - f9 j) jo))) (m_abs (m_times (m_turn (fun j => m_pc j - f8 j) (fun j => m_pr j - f9 j) j))) d).2.1)), (6, .int ((m_nb f30 (fun i => f31 (30 * i + 6 * sc + rk)) (fun i => f31 (30 * i + 6 * sc + ot)) nf (m_abs (m_times (m_turn (fun j => m_pc j - f8 j) (fun j => m_pr j - f9 j) jo))) (m_abs (m_times (m_turn (fun j => m_pc j - f8 j) (fun j => m_pr j - f9 j) j))) d).1)), (5, .int (m_abs (m_times (m_turn (fun j => m_pc j - f8 j) (fun j => m_pr j - f9 j) jo)))), (4, .int (m_abs (m_times (m_turn (fun j => m_pc j - f8 j) (fun j => m_pr j - f9 j) j)))), (0, .ref aM), (1, .int (nI sc)), (2, .int (nI rk)), (3, .int (nI ot))]) hx hb dX9_measure_61 hl (by decide) rfl (fun ls hl => ?_)
    refine dz_lp (α := Nat × Array Slot) (fun a9 => (fun (i : Nat) (ls : Array Slot) => nf - i) a9.1 a9.2) (fun a9 => (fun (i : Nat) (ls : Array Slot) => (i ≤ nf) ∧ lv_has ls 21 [(15, .int (nI i)), (14, .int ((m_ni f30 (fun i => f31 (30 * i + 6 * sc + rk)) (fun i => f31 (30 * i + 6 * sc + ot)) nf (m_abs (m_times (m_turn (fun j => m_pc j - f8 j) (fun j => m_pr j - f9 j) jo))) (m_abs (m_times (m_turn (fun j => m_pc j - f8 j) (fun j => m_pr j - f9 j) j))) (nI d) i).2)), (12, .long ((m_ni f30 (fun i => f31 (30 * i + 6 * sc + rk)) (fun i => f31 (30 * i + 6 * sc + ot)) nf (m_abs (m_times (m_turn (fun j => m_pc j - f8 j) (fun j => m_pr j - f9 j) jo))) (m_abs (m_times (m_turn (fun j => m_pc j - f8 j) (fun j => m_pr j - f9 j) j))) (nI d) i).1)), (11, .int (nI d)), (9, .long ((m_nb f30 (fun i => f31 (30 * i + 6 * sc + rk)) (fun i => f31 (30 * i + 6 * sc + ot)) nf (m_abs (m_times (m_turn (fun j => m_pc j - f8 j) (fun j => m_pr j - f9 j) jo))) (m_abs (m_times (m_turn (fun j => m_pc j - f8 j) (fun j => m_pr j - f9 j) j))) d).2.2)), (7, .long ((m_nb f30 (fun i => f31 (30 * i + 6 * sc + rk)) (fun i => f31 (30 * i + 6 * sc + ot)) nf (m_abs (m_times (m_turn (fun j => m_pc j - f8 j) (fun j => m_pr j - f9 j) jo))) (m_abs (m_times (m_turn (fun j => m_pc j - f8 j) (fun j => m_pr j - f9 j) j))) d).2.1)), (6, .int ((m_nb f30 (fun i => f31 (30 * i + 6 * sc + rk)) (fun i => f31 (30 * i + 6 * sc + ot)) nf (m_abs (m_times (m_turn (fun j => m_pc j - f8 j) (fun j => m_pr j - f9 j) jo))) (m_abs (m_times (m_turn (fun j => m_pc j - f8 j) (fun j => m_pr j - f9 j) j))) d).1)), (5, .int (m_abs (m_times (m_turn (fun j => m_pc j - f8 j) (fun j => m_pr j - f9 j) jo)))), (4, .int (m_abs (m_times (m_turn (fun j => m_pc j - f8 j) (fun j => m_pr j - f9 j) j)))), (0, .ref aM), (1, .int (nI sc)), (2, .int (nI rk)), (3, .int (nI ot))]) a9.1 a9.2) (fun a9 => F0 m 63 a9.2 []) (fun a9 hI ih_63 => ?_) (0, ls) ⟨(Nat.zero_le _), lv_sub hl [0, 1, 2, 3, 4, 5, 6, 7, 8, 9, 10, 11, 12] rfl⟩
    obtain ⟨i, ls⟩ := a9
    obtain ⟨hi, hl⟩ := hI
    have hi : i ≤ nf := hi
    have hl : lv_has ls 21 [(15, .int (nI i)), (14, .int ((m_ni f30 (fun i => f31 (30 * i + 6 * sc + rk)) (fun i => f31 (30 * i + 6 * sc + ot)) nf (m_abs (m_times (m_turn (fun j => m_pc j - f8 j) (fun j => m_pr j - f9 j) jo))) (m_abs (m_times (m_turn (fun j => m_pc j - f8 j) (fun j => m_pr j - f9 j) j))) (nI d) i).2)), (12, .long ((m_ni f30 (fun i => f31 (30 * i + 6 * sc + rk)) (fun i => f31 (30 * i + 6 * sc + ot)) nf (m_abs (m_times (m_turn (fun j => m_pc j - f8 j) (fun j => m_pr j - f9 j) jo))) (m_abs (m_times (m_turn (fun j => m_pc j - f8 j) (fun j => m_pr j - f9 j) j))) (nI d) i).1)), (11, .int (nI d)), (9, .long ((m_nb f30 (fun i => f31 (30 * i + 6 * sc + rk)) (fun i => f31 (30 * i + 6 * sc + ot)) nf (m_abs (m_times (m_turn (fun j => m_pc j - f8 j) (fun j => m_pr j - f9 j) jo))) (m_abs (m_times (m_turn (fun j => m_pc j - f8 j) (fun j => m_pr j - f9 j) j))) d).2.2)), (7, .long ((m_nb f30 (fun i => f31 (30 * i + 6 * sc + rk)) (fun i => f31 (30 * i + 6 * sc + ot)) nf (m_abs (m_times (m_turn (fun j => m_pc j - f8 j) (fun j => m_pr j - f9 j) jo))) (m_abs (m_times (m_turn (fun j => m_pc j - f8 j) (fun j => m_pr j - f9 j) j))) d).2.1)), (6, .int ((m_nb f30 (fun i => f31 (30 * i + 6 * sc + rk)) (fun i => f31 (30 * i + 6 * sc + ot)) nf (m_abs (m_times (m_turn (fun j => m_pc j - f8 j) (fun j => m_pr j - f9 j) jo))) (m_abs (m_times (m_turn (fun j => m_pc j - f8 j) (fun j => m_pr j - f9 j) j))) d).1)), (5, .int (m_abs (m_times (m_turn (fun j => m_pc j - f8 j) (fun j => m_pr j - f9 j) jo)))), (4, .int (m_abs (m_times (m_turn (fun j => m_pc j - f8 j) (fun j => m_pr j - f9 j) j)))), (0, .ref aM), (1, .int (nI sc)), (2, .int (nI rk)), (3, .int (nI ot))] := hl
    refine lv_iload hx hb dX9_measure_63 (lv_at hl 0 rfl) ?_
    refine lv_aload_n hx hb dX9_measure_65 rfl (lv_at hl 9 rfl) ?_
    refine dz_get hx hb hts (fun _ h => List.mem_cons_of_mem _ (List.mem_append_right _ h)) hown hE hG ha ho rfl 29 (by decide) (hts _ (List.mem_of_getElem? (i := 1) rfl)) (fun _ h9 => h9) rfl dX9_measure_66 ?_
    refine lv_icmp_ge (tgt := 189) hx hb dX9_measure_69 (by decide) (fun c_69 => ?_) (fun c_69 => ?_)
    · have hi9 : i = nf := by have := (nI_leI (by omega) (by omega)).mp c_69; omega
      refine lv_iload hx hb dX9_measure_189 (lv_at hl 1 rfl) ?_
      refine lv_iconst (v := 3) hx hb dX9_measure_191 (by decide) ?_
      have hQ : m_ni f30 (fun i => f31 (30 * i + 6 * sc + rk)) (fun i => f31 (30 * i + 6 * sc + ot)) nf (m_abs (m_times (m_turn (fun j => m_pc j - f8 j) (fun j => m_pr j - f9 j) jo))) (m_abs (m_times (m_turn (fun j => m_pc j - f8 j) (fun j => m_pr j - f9 j) j))) (nI d) i = (m_ni f30 (fun i => f31 (30 * i + 6 * sc + rk)) (fun i => f31 (30 * i + 6 * sc + ot)) nf (m_abs (m_times (m_turn (fun j => m_pc j - f8 j) (fun j => m_pr j - f9 j) jo))) (m_abs (m_times (m_turn (fun j => m_pc j - f8 j) (fun j => m_pr j - f9 j) j))) (nI d) nf) := by rw [hi9]
      refine lv_icmp_lt (tgt := 220) hx hb dX9_measure_192 (by decide) (fun c_192 => ?_) (fun c_192 => ?_)
      · have hsd : m_nb f30 (fun i => f31 (30 * i + 6 * sc + rk)) (fun i => f31 (30 * i + 6 * sc + ot)) nf (m_abs (m_times (m_turn (fun j => m_pc j - f8 j) (fun j => m_pr j - f9 j) jo))) (m_abs (m_times (m_turn (fun j => m_pc j - f8 j) (fun j => m_pr j - f9 j) j))) (d + 1) = m_nb f30 (fun i => f31 (30 * i + 6 * sc + rk)) (fun i => f31 (30 * i + 6 * sc + ot)) nf (m_abs (m_times (m_turn (fun j => m_pc j - f8 j) (fun j => m_pr j - f9 j) jo))) (m_abs (m_times (m_turn (fun j => m_pc j - f8 j) (fun j => m_pr j - f9 j) j))) d := by
          have h1 := c_192
          rw [hQ] at h1
          exact if_pos h1
        refine lv_iconst (v := 0) hx hb dX9_measure_220 (by decide) ?_
        refine lv_istore (lv' := [(15, .int 0), (14, .int ((m_ni f30 (fun i => f31 (30 * i + 6 * sc + rk)) (fun i => f31 (30 * i + 6 * sc + ot)) nf (m_abs (m_times (m_turn (fun j => m_pc j - f8 j) (fun j => m_pr j - f9 j) jo))) (m_abs (m_times (m_turn (fun j => m_pc j - f8 j) (fun j => m_pr j - f9 j) j))) (nI d) i).2)), (12, .long ((m_ni f30 (fun i => f31 (30 * i + 6 * sc + rk)) (fun i => f31 (30 * i + 6 * sc + ot)) nf (m_abs (m_times (m_turn (fun j => m_pc j - f8 j) (fun j => m_pr j - f9 j) jo))) (m_abs (m_times (m_turn (fun j => m_pc j - f8 j) (fun j => m_pr j - f9 j) j))) (nI d) i).1)), (11, .int (nI d)), (9, .long ((m_nb f30 (fun i => f31 (30 * i + 6 * sc + rk)) (fun i => f31 (30 * i + 6 * sc + ot)) nf (m_abs (m_times (m_turn (fun j => m_pc j - f8 j) (fun j => m_pr j - f9 j) jo))) (m_abs (m_times (m_turn (fun j => m_pc j - f8 j) (fun j => m_pr j - f9 j) j))) d).2.2)), (7, .long ((m_nb f30 (fun i => f31 (30 * i + 6 * sc + rk)) (fun i => f31 (30 * i + 6 * sc + ot)) nf (m_abs (m_times (m_turn (fun j => m_pc j - f8 j) (fun j => m_pr j - f9 j) jo))) (m_abs (m_times (m_turn (fun j => m_pc j - f8 j) (fun j => m_pr j - f9 j) j))) d).2.1)), (6, .int ((m_nb f30 (fun i => f31 (30 * i + 6 * sc + rk)) (fun i => f31 (30 * i + 6 * sc + ot)) nf (m_abs (m_times (m_turn (fun j => m_pc j - f8 j) (fun j => m_pr j - f9 j) jo))) (m_abs (m_times (m_turn (fun j => m_pc j - f8 j) (fun j => m_pr j - f9 j) j))) d).1)), (5, .int (m_abs (m_times (m_turn (fun j => m_pc j - f8 j) (fun j => m_pr j - f9 j) jo)))), (4, .int (m_abs (m_times (m_turn (fun j => m_pc j - f8 j) (fun j => m_pr j - f9 j) j)))), (0, .ref aM), (1, .int (nI sc)), (2, .int (nI rk)), (3, .int (nI ot))]) hx hb dX9_measure_221 hl (by decide) rfl (fun ls hl => ?_)
        refine lv_iload hx hb dX9_measure_223 (lv_at hl 0 rfl) ?_
        refine lv_if_eq (tgt := 233) hx hb dX9_measure_225 (by decide) (fun c_225 => ?_) (fun c_225 => absurd (by decide) c_225)
        refine lv_iload hx hb dX9_measure_233 (lv_at hl 6 rfl) ?_
        refine lv_istore (lv' := [(6, .int ((m_nb f30 (fun i => f31 (30 * i + 6 * sc + rk)) (fun i => f31 (30 * i + 6 * sc + ot)) nf (m_abs (m_times (m_turn (fun j => m_pc j - f8 j) (fun j => m_pr j - f9 j) jo))) (m_abs (m_times (m_turn (fun j => m_pc j - f8 j) (fun j => m_pr j - f9 j) j))) d).1)), (15, .int 0), (14, .int ((m_ni f30 (fun i => f31 (30 * i + 6 * sc + rk)) (fun i => f31 (30 * i + 6 * sc + ot)) nf (m_abs (m_times (m_turn (fun j => m_pc j - f8 j) (fun j => m_pr j - f9 j) jo))) (m_abs (m_times (m_turn (fun j => m_pc j - f8 j) (fun j => m_pr j - f9 j) j))) (nI d) i).2)), (12, .long ((m_ni f30 (fun i => f31 (30 * i + 6 * sc + rk)) (fun i => f31 (30 * i + 6 * sc + ot)) nf (m_abs (m_times (m_turn (fun j => m_pc j - f8 j) (fun j => m_pr j - f9 j) jo))) (m_abs (m_times (m_turn (fun j => m_pc j - f8 j) (fun j => m_pr j - f9 j) j))) (nI d) i).1)), (11, .int (nI d)), (9, .long ((m_nb f30 (fun i => f31 (30 * i + 6 * sc + rk)) (fun i => f31 (30 * i + 6 * sc + ot)) nf (m_abs (m_times (m_turn (fun j => m_pc j - f8 j) (fun j => m_pr j - f9 j) jo))) (m_abs (m_times (m_turn (fun j => m_pc j - f8 j) (fun j => m_pr j - f9 j) j))) d).2.2)), (7, .long ((m_nb f30 (fun i => f31 (30 * i + 6 * sc + rk)) (fun i => f31 (30 * i + 6 * sc + ot)) nf (m_abs (m_times (m_turn (fun j => m_pc j - f8 j) (fun j => m_pr j - f9 j) jo))) (m_abs (m_times (m_turn (fun j => m_pc j - f8 j) (fun j => m_pr j - f9 j) j))) d).2.1)), (5, .int (m_abs (m_times (m_turn (fun j => m_pc j - f8 j) (fun j => m_pr j - f9 j) jo)))), (4, .int (m_abs (m_times (m_turn (fun j => m_pc j - f8 j) (fun j => m_pr j - f9 j) j)))), (0, .ref aM), (1, .int (nI sc)), (2, .int (nI rk)), (3, .int (nI ot))]) hx hb dX9_measure_235 hl (by decide) rfl (fun ls hl => ?_)
        refine lv_iload hx hb dX9_measure_237 (lv_at hl 1 rfl) ?_
        refine lv_if_eq (tgt := 247) hx hb dX9_measure_239 (by decide) (fun c_239 => ?_) (fun c_239 => absurd (by decide) c_239)
        refine lv_lload hx hb dX9_measure_247 (lv_at hl 6 rfl) ?_
        refine lv_lstore (lv' := [(7, .long ((m_nb f30 (fun i => f31 (30 * i + 6 * sc + rk)) (fun i => f31 (30 * i + 6 * sc + ot)) nf (m_abs (m_times (m_turn (fun j => m_pc j - f8 j) (fun j => m_pr j - f9 j) jo))) (m_abs (m_times (m_turn (fun j => m_pc j - f8 j) (fun j => m_pr j - f9 j) j))) d).2.1)), (6, .int ((m_nb f30 (fun i => f31 (30 * i + 6 * sc + rk)) (fun i => f31 (30 * i + 6 * sc + ot)) nf (m_abs (m_times (m_turn (fun j => m_pc j - f8 j) (fun j => m_pr j - f9 j) jo))) (m_abs (m_times (m_turn (fun j => m_pc j - f8 j) (fun j => m_pr j - f9 j) j))) d).1)), (15, .int 0), (14, .int ((m_ni f30 (fun i => f31 (30 * i + 6 * sc + rk)) (fun i => f31 (30 * i + 6 * sc + ot)) nf (m_abs (m_times (m_turn (fun j => m_pc j - f8 j) (fun j => m_pr j - f9 j) jo))) (m_abs (m_times (m_turn (fun j => m_pc j - f8 j) (fun j => m_pr j - f9 j) j))) (nI d) i).2)), (12, .long ((m_ni f30 (fun i => f31 (30 * i + 6 * sc + rk)) (fun i => f31 (30 * i + 6 * sc + ot)) nf (m_abs (m_times (m_turn (fun j => m_pc j - f8 j) (fun j => m_pr j - f9 j) jo))) (m_abs (m_times (m_turn (fun j => m_pc j - f8 j) (fun j => m_pr j - f9 j) j))) (nI d) i).1)), (11, .int (nI d)), (9, .long ((m_nb f30 (fun i => f31 (30 * i + 6 * sc + rk)) (fun i => f31 (30 * i + 6 * sc + ot)) nf (m_abs (m_times (m_turn (fun j => m_pc j - f8 j) (fun j => m_pr j - f9 j) jo))) (m_abs (m_times (m_turn (fun j => m_pc j - f8 j) (fun j => m_pr j - f9 j) j))) d).2.2)), (5, .int (m_abs (m_times (m_turn (fun j => m_pc j - f8 j) (fun j => m_pr j - f9 j) jo)))), (4, .int (m_abs (m_times (m_turn (fun j => m_pc j - f8 j) (fun j => m_pr j - f9 j) j)))), (0, .ref aM), (1, .int (nI sc)), (2, .int (nI rk)), (3, .int (nI ot))]) hx hb dX9_measure_249 hl (by decide) rfl (fun ls hl => ?_)
        refine lv_iload hx hb dX9_measure_251 (lv_at hl 2 rfl) ?_
        refine lv_if_eq (tgt := 262) hx hb dX9_measure_253 (by decide) (fun c_253 => ?_) (fun c_253 => absurd (by decide) c_253)
        refine lv_lload hx hb dX9_measure_262 (lv_at hl 6 rfl) ?_
        refine lv_lstore (lv' := [(9, .long ((m_nb f30 (fun i => f31 (30 * i + 6 * sc + rk)) (fun i => f31 (30 * i + 6 * sc + ot)) nf (m_abs (m_times (m_turn (fun j => m_pc j - f8 j) (fun j => m_pr j - f9 j) jo))) (m_abs (m_times (m_turn (fun j => m_pc j - f8 j) (fun j => m_pr j - f9 j) j))) d).2.2)), (7, .long ((m_nb f30 (fun i => f31 (30 * i + 6 * sc + rk)) (fun i => f31 (30 * i + 6 * sc + ot)) nf (m_abs (m_times (m_turn (fun j => m_pc j - f8 j) (fun j => m_pr j - f9 j) jo))) (m_abs (m_times (m_turn (fun j => m_pc j - f8 j) (fun j => m_pr j - f9 j) j))) d).2.1)), (6, .int ((m_nb f30 (fun i => f31 (30 * i + 6 * sc + rk)) (fun i => f31 (30 * i + 6 * sc + ot)) nf (m_abs (m_times (m_turn (fun j => m_pc j - f8 j) (fun j => m_pr j - f9 j) jo))) (m_abs (m_times (m_turn (fun j => m_pc j - f8 j) (fun j => m_pr j - f9 j) j))) d).1)), (15, .int 0), (14, .int ((m_ni f30 (fun i => f31 (30 * i + 6 * sc + rk)) (fun i => f31 (30 * i + 6 * sc + ot)) nf (m_abs (m_times (m_turn (fun j => m_pc j - f8 j) (fun j => m_pr j - f9 j) jo))) (m_abs (m_times (m_turn (fun j => m_pc j - f8 j) (fun j => m_pr j - f9 j) j))) (nI d) i).2)), (12, .long ((m_ni f30 (fun i => f31 (30 * i + 6 * sc + rk)) (fun i => f31 (30 * i + 6 * sc + ot)) nf (m_abs (m_times (m_turn (fun j => m_pc j - f8 j) (fun j => m_pr j - f9 j) jo))) (m_abs (m_times (m_turn (fun j => m_pc j - f8 j) (fun j => m_pr j - f9 j) j))) (nI d) i).1)), (11, .int (nI d)), (5, .int (m_abs (m_times (m_turn (fun j => m_pc j - f8 j) (fun j => m_pr j - f9 j) jo)))), (4, .int (m_abs (m_times (m_turn (fun j => m_pc j - f8 j) (fun j => m_pr j - f9 j) j)))), (0, .ref aM), (1, .int (nI sc)), (2, .int (nI rk)), (3, .int (nI ot))]) hx hb dX9_measure_264 hl (by decide) rfl (fun ls hl => ?_)
        obtain ⟨v_3, ev_3⟩ : ∃ y : Int32, y = (nI d) + 1 := ⟨_, rfl⟩
        refine lv_iinc (v := v_3) (lv' := [(11, .int v_3), (9, .long ((m_nb f30 (fun i => f31 (30 * i + 6 * sc + rk)) (fun i => f31 (30 * i + 6 * sc + ot)) nf (m_abs (m_times (m_turn (fun j => m_pc j - f8 j) (fun j => m_pr j - f9 j) jo))) (m_abs (m_times (m_turn (fun j => m_pc j - f8 j) (fun j => m_pr j - f9 j) j))) d).2.2)), (7, .long ((m_nb f30 (fun i => f31 (30 * i + 6 * sc + rk)) (fun i => f31 (30 * i + 6 * sc + ot)) nf (m_abs (m_times (m_turn (fun j => m_pc j - f8 j) (fun j => m_pr j - f9 j) jo))) (m_abs (m_times (m_turn (fun j => m_pc j - f8 j) (fun j => m_pr j - f9 j) j))) d).2.1)), (6, .int ((m_nb f30 (fun i => f31 (30 * i + 6 * sc + rk)) (fun i => f31 (30 * i + 6 * sc + ot)) nf (m_abs (m_times (m_turn (fun j => m_pc j - f8 j) (fun j => m_pr j - f9 j) jo))) (m_abs (m_times (m_turn (fun j => m_pc j - f8 j) (fun j => m_pr j - f9 j) j))) d).1)), (15, .int 0), (14, .int ((m_ni f30 (fun i => f31 (30 * i + 6 * sc + rk)) (fun i => f31 (30 * i + 6 * sc + ot)) nf (m_abs (m_times (m_turn (fun j => m_pc j - f8 j) (fun j => m_pr j - f9 j) jo))) (m_abs (m_times (m_turn (fun j => m_pc j - f8 j) (fun j => m_pr j - f9 j) j))) (nI d) i).2)), (12, .long ((m_ni f30 (fun i => f31 (30 * i + 6 * sc + rk)) (fun i => f31 (30 * i + 6 * sc + ot)) nf (m_abs (m_times (m_turn (fun j => m_pc j - f8 j) (fun j => m_pr j - f9 j) jo))) (m_abs (m_times (m_turn (fun j => m_pc j - f8 j) (fun j => m_pr j - f9 j) j))) (nI d) i).1)), (5, .int (m_abs (m_times (m_turn (fun j => m_pc j - f8 j) (fun j => m_pr j - f9 j) jo)))), (4, .int (m_abs (m_times (m_turn (fun j => m_pc j - f8 j) (fun j => m_pr j - f9 j) j)))), (0, .ref aM), (1, .int (nI sc)), (2, .int (nI rk)), (3, .int (nI ot))]) hx hb dX9_measure_266 hl (k := 6) rfl (by rw [ev_3]; rfl) (by decide) rfl (fun ls hl => ?_)
        refine lv_goto (tgt := 46) hx hb dX9_measure_269 (by decide) ?_
        obtain rfl : v_3 = nI (d + 1) := ev_3.trans (nI_1 d)
        rw [show (m_nb f30 (fun i => f31 (30 * i + 6 * sc + rk)) (fun i => f31 (30 * i + 6 * sc + ot)) nf (m_abs (m_times (m_turn (fun j => m_pc j - f8 j) (fun j => m_pr j - f9 j) jo))) (m_abs (m_times (m_turn (fun j => m_pc j - f8 j) (fun j => m_pr j - f9 j) j))) d).2.1 = (m_nb f30 (fun i => f31 (30 * i + 6 * sc + rk)) (fun i => f31 (30 * i + 6 * sc + ot)) nf (m_abs (m_times (m_turn (fun j => m_pc j - f8 j) (fun j => m_pr j - f9 j) jo))) (m_abs (m_times (m_turn (fun j => m_pc j - f8 j) (fun j => m_pr j - f9 j) j))) (d + 1)).2.1 from by rw [hsd]] at hl
        rw [show (m_nb f30 (fun i => f31 (30 * i + 6 * sc + rk)) (fun i => f31 (30 * i + 6 * sc + ot)) nf (m_abs (m_times (m_turn (fun j => m_pc j - f8 j) (fun j => m_pr j - f9 j) jo))) (m_abs (m_times (m_turn (fun j => m_pc j - f8 j) (fun j => m_pr j - f9 j) j))) d).2.2 = (m_nb f30 (fun i => f31 (30 * i + 6 * sc + rk)) (fun i => f31 (30 * i + 6 * sc + ot)) nf (m_abs (m_times (m_turn (fun j => m_pc j - f8 j) (fun j => m_pr j - f9 j) jo))) (m_abs (m_times (m_turn (fun j => m_pc j - f8 j) (fun j => m_pr j - f9 j) j))) (d + 1)).2.2 from by rw [hsd]] at hl
        rw [show (m_nb f30 (fun i => f31 (30 * i + 6 * sc + rk)) (fun i => f31 (30 * i + 6 * sc + ot)) nf (m_abs (m_times (m_turn (fun j => m_pc j - f8 j) (fun j => m_pr j - f9 j) jo))) (m_abs (m_times (m_turn (fun j => m_pc j - f8 j) (fun j => m_pr j - f9 j) j))) d).1 = (m_nb f30 (fun i => f31 (30 * i + 6 * sc + rk)) (fun i => f31 (30 * i + 6 * sc + ot)) nf (m_abs (m_times (m_turn (fun j => m_pc j - f8 j) (fun j => m_pr j - f9 j) jo))) (m_abs (m_times (m_turn (fun j => m_pc j - f8 j) (fun j => m_pr j - f9 j) j))) (d + 1)).1 from by rw [hsd]] at hl
        exact ih_46 (d + 1, ls) (by first | (dsimp only; omega) | omega) ⟨(by omega), lv_sub hl [0, 1, 2, 3, 7, 8, 9, 10, 11, 12] rfl⟩
      · have h1 := c_192
        rw [hQ] at h1
        refine lv_iload hx hb dX9_measure_195 (lv_at hl 6 rfl) ?_
        refine lv_iconst (v := (-1)) hx hb dX9_measure_197 (by decide) ?_
        refine lv_icmp_eq (tgt := 216) hx hb dX9_measure_198 (by decide) (fun c_198 => ?_) (fun c_198 => ?_)
        · have hsd : m_nb f30 (fun i => f31 (30 * i + 6 * sc + rk)) (fun i => f31 (30 * i + 6 * sc + ot)) nf (m_abs (m_times (m_turn (fun j => m_pc j - f8 j) (fun j => m_pr j - f9 j) jo))) (m_abs (m_times (m_turn (fun j => m_pc j - f8 j) (fun j => m_pr j - f9 j) j))) (d + 1) = (nI d, (m_ni f30 (fun i => f31 (30 * i + 6 * sc + rk)) (fun i => f31 (30 * i + 6 * sc + ot)) nf (m_abs (m_times (m_turn (fun j => m_pc j - f8 j) (fun j => m_pr j - f9 j) jo))) (m_abs (m_times (m_turn (fun j => m_pc j - f8 j) (fun j => m_pr j - f9 j) j))) (nI d) i).1, (m_ni f30 (fun i => f31 (30 * i + 6 * sc + rk)) (fun i => f31 (30 * i + 6 * sc + ot)) nf (m_abs (m_times (m_turn (fun j => m_pc j - f8 j) (fun j => m_pr j - f9 j) jo))) (m_abs (m_times (m_turn (fun j => m_pc j - f8 j) (fun j => m_pr j - f9 j) j))) (nI d) i).2.toInt64) := by
            rw [hQ]
            exact (if_neg h1).trans (if_pos (Or.inl c_198))
          refine lv_iconst (v := 1) hx hb dX9_measure_216 (by decide) ?_
          refine lv_goto (tgt := 221) hx hb dX9_measure_217 (by decide) ?_
          refine lv_istore (lv' := [(15, .int 1), (14, .int ((m_ni f30 (fun i => f31 (30 * i + 6 * sc + rk)) (fun i => f31 (30 * i + 6 * sc + ot)) nf (m_abs (m_times (m_turn (fun j => m_pc j - f8 j) (fun j => m_pr j - f9 j) jo))) (m_abs (m_times (m_turn (fun j => m_pc j - f8 j) (fun j => m_pr j - f9 j) j))) (nI d) i).2)), (12, .long ((m_ni f30 (fun i => f31 (30 * i + 6 * sc + rk)) (fun i => f31 (30 * i + 6 * sc + ot)) nf (m_abs (m_times (m_turn (fun j => m_pc j - f8 j) (fun j => m_pr j - f9 j) jo))) (m_abs (m_times (m_turn (fun j => m_pc j - f8 j) (fun j => m_pr j - f9 j) j))) (nI d) i).1)), (11, .int (nI d)), (9, .long ((m_nb f30 (fun i => f31 (30 * i + 6 * sc + rk)) (fun i => f31 (30 * i + 6 * sc + ot)) nf (m_abs (m_times (m_turn (fun j => m_pc j - f8 j) (fun j => m_pr j - f9 j) jo))) (m_abs (m_times (m_turn (fun j => m_pc j - f8 j) (fun j => m_pr j - f9 j) j))) d).2.2)), (7, .long ((m_nb f30 (fun i => f31 (30 * i + 6 * sc + rk)) (fun i => f31 (30 * i + 6 * sc + ot)) nf (m_abs (m_times (m_turn (fun j => m_pc j - f8 j) (fun j => m_pr j - f9 j) jo))) (m_abs (m_times (m_turn (fun j => m_pc j - f8 j) (fun j => m_pr j - f9 j) j))) d).2.1)), (6, .int ((m_nb f30 (fun i => f31 (30 * i + 6 * sc + rk)) (fun i => f31 (30 * i + 6 * sc + ot)) nf (m_abs (m_times (m_turn (fun j => m_pc j - f8 j) (fun j => m_pr j - f9 j) jo))) (m_abs (m_times (m_turn (fun j => m_pc j - f8 j) (fun j => m_pr j - f9 j) j))) d).1)), (5, .int (m_abs (m_times (m_turn (fun j => m_pc j - f8 j) (fun j => m_pr j - f9 j) jo)))), (4, .int (m_abs (m_times (m_turn (fun j => m_pc j - f8 j) (fun j => m_pr j - f9 j) j)))), (0, .ref aM), (1, .int (nI sc)), (2, .int (nI rk)), (3, .int (nI ot))]) hx hb dX9_measure_221 hl (by decide) rfl (fun ls hl => ?_)
          refine lv_iload hx hb dX9_measure_223 (lv_at hl 0 rfl) ?_
          refine lv_if_eq (tgt := 233) hx hb dX9_measure_225 (by decide) (fun c_225 => absurd c_225 (by decide)) (fun c_225 => ?_)
          refine lv_iload hx hb dX9_measure_228 (lv_at hl 3 rfl) ?_
          refine lv_goto (tgt := 235) hx hb dX9_measure_230 (by decide) ?_
          refine lv_istore (lv' := [(6, .int (nI d)), (15, .int 1), (14, .int ((m_ni f30 (fun i => f31 (30 * i + 6 * sc + rk)) (fun i => f31 (30 * i + 6 * sc + ot)) nf (m_abs (m_times (m_turn (fun j => m_pc j - f8 j) (fun j => m_pr j - f9 j) jo))) (m_abs (m_times (m_turn (fun j => m_pc j - f8 j) (fun j => m_pr j - f9 j) j))) (nI d) i).2)), (12, .long ((m_ni f30 (fun i => f31 (30 * i + 6 * sc + rk)) (fun i => f31 (30 * i + 6 * sc + ot)) nf (m_abs (m_times (m_turn (fun j => m_pc j - f8 j) (fun j => m_pr j - f9 j) jo))) (m_abs (m_times (m_turn (fun j => m_pc j - f8 j) (fun j => m_pr j - f9 j) j))) (nI d) i).1)), (11, .int (nI d)), (9, .long ((m_nb f30 (fun i => f31 (30 * i + 6 * sc + rk)) (fun i => f31 (30 * i + 6 * sc + ot)) nf (m_abs (m_times (m_turn (fun j => m_pc j - f8 j) (fun j => m_pr j - f9 j) jo))) (m_abs (m_times (m_turn (fun j => m_pc j - f8 j) (fun j => m_pr j - f9 j) j))) d).2.2)), (7, .long ((m_nb f30 (fun i => f31 (30 * i + 6 * sc + rk)) (fun i => f31 (30 * i + 6 * sc + ot)) nf (m_abs (m_times (m_turn (fun j => m_pc j - f8 j) (fun j => m_pr j - f9 j) jo))) (m_abs (m_times (m_turn (fun j => m_pc j - f8 j) (fun j => m_pr j - f9 j) j))) d).2.1)), (5, .int (m_abs (m_times (m_turn (fun j => m_pc j - f8 j) (fun j => m_pr j - f9 j) jo)))), (4, .int (m_abs (m_times (m_turn (fun j => m_pc j - f8 j) (fun j => m_pr j - f9 j) j)))), (0, .ref aM), (1, .int (nI sc)), (2, .int (nI rk)), (3, .int (nI ot))]) hx hb dX9_measure_235 hl (by decide) rfl (fun ls hl => ?_)
          refine lv_iload hx hb dX9_measure_237 (lv_at hl 1 rfl) ?_
          refine lv_if_eq (tgt := 247) hx hb dX9_measure_239 (by decide) (fun c_239 => absurd c_239 (by decide)) (fun c_239 => ?_)
          refine lv_lload hx hb dX9_measure_242 (lv_at hl 3 rfl) ?_
          refine lv_goto (tgt := 249) hx hb dX9_measure_244 (by decide) ?_
          refine lv_lstore (lv' := [(7, .long ((m_ni f30 (fun i => f31 (30 * i + 6 * sc + rk)) (fun i => f31 (30 * i + 6 * sc + ot)) nf (m_abs (m_times (m_turn (fun j => m_pc j - f8 j) (fun j => m_pr j - f9 j) jo))) (m_abs (m_times (m_turn (fun j => m_pc j - f8 j) (fun j => m_pr j - f9 j) j))) (nI d) i).1)), (6, .int (nI d)), (15, .int 1), (14, .int ((m_ni f30 (fun i => f31 (30 * i + 6 * sc + rk)) (fun i => f31 (30 * i + 6 * sc + ot)) nf (m_abs (m_times (m_turn (fun j => m_pc j - f8 j) (fun j => m_pr j - f9 j) jo))) (m_abs (m_times (m_turn (fun j => m_pc j - f8 j) (fun j => m_pr j - f9 j) j))) (nI d) i).2)), (12, .long ((m_ni f30 (fun i => f31 (30 * i + 6 * sc + rk)) (fun i => f31 (30 * i + 6 * sc + ot)) nf (m_abs (m_times (m_turn (fun j => m_pc j - f8 j) (fun j => m_pr j - f9 j) jo))) (m_abs (m_times (m_turn (fun j => m_pc j - f8 j) (fun j => m_pr j - f9 j) j))) (nI d) i).1)), (11, .int (nI d)), (9, .long ((m_nb f30 (fun i => f31 (30 * i + 6 * sc + rk)) (fun i => f31 (30 * i + 6 * sc + ot)) nf (m_abs (m_times (m_turn (fun j => m_pc j - f8 j) (fun j => m_pr j - f9 j) jo))) (m_abs (m_times (m_turn (fun j => m_pc j - f8 j) (fun j => m_pr j - f9 j) j))) d).2.2)), (5, .int (m_abs (m_times (m_turn (fun j => m_pc j - f8 j) (fun j => m_pr j - f9 j) jo)))), (4, .int (m_abs (m_times (m_turn (fun j => m_pc j - f8 j) (fun j => m_pr j - f9 j) j)))), (0, .ref aM), (1, .int (nI sc)), (2, .int (nI rk)), (3, .int (nI ot))]) hx hb dX9_measure_249 hl (by decide) rfl (fun ls hl => ?_)
          refine lv_iload hx hb dX9_measure_251 (lv_at hl 2 rfl) ?_
          refine lv_if_eq (tgt := 262) hx hb dX9_measure_253 (by decide) (fun c_253 => absurd c_253 (by decide)) (fun c_253 => ?_)
          refine lv_iload hx hb dX9_measure_256 (lv_at hl 3 rfl) ?_
          refine lv_i2l hx hb dX9_measure_258 rfl ?_
          refine lv_goto (tgt := 264) hx hb dX9_measure_259 (by decide) ?_
          refine lv_topl (fun v_4 ev_4 => ?_)
          refine lv_lstore (lv' := [(9, .long v_4), (7, .long ((m_ni f30 (fun i => f31 (30 * i + 6 * sc + rk)) (fun i => f31 (30 * i + 6 * sc + ot)) nf (m_abs (m_times (m_turn (fun j => m_pc j - f8 j) (fun j => m_pr j - f9 j) jo))) (m_abs (m_times (m_turn (fun j => m_pc j - f8 j) (fun j => m_pr j - f9 j) j))) (nI d) i).1)), (6, .int (nI d)), (15, .int 1), (14, .int ((m_ni f30 (fun i => f31 (30 * i + 6 * sc + rk)) (fun i => f31 (30 * i + 6 * sc + ot)) nf (m_abs (m_times (m_turn (fun j => m_pc j - f8 j) (fun j => m_pr j - f9 j) jo))) (m_abs (m_times (m_turn (fun j => m_pc j - f8 j) (fun j => m_pr j - f9 j) j))) (nI d) i).2)), (12, .long ((m_ni f30 (fun i => f31 (30 * i + 6 * sc + rk)) (fun i => f31 (30 * i + 6 * sc + ot)) nf (m_abs (m_times (m_turn (fun j => m_pc j - f8 j) (fun j => m_pr j - f9 j) jo))) (m_abs (m_times (m_turn (fun j => m_pc j - f8 j) (fun j => m_pr j - f9 j) j))) (nI d) i).1)), (11, .int (nI d)), (5, .int (m_abs (m_times (m_turn (fun j => m_pc j - f8 j) (fun j => m_pr j - f9 j) jo)))), (4, .int (m_abs (m_times (m_turn (fun j => m_pc j - f8 j) (fun j => m_pr j - f9 j) j)))), (0, .ref aM), (1, .int (nI sc)), (2, .int (nI rk)), (3, .int (nI ot))]) hx hb dX9_measure_264 hl (by decide) rfl (fun ls hl => ?_)
          obtain ⟨v_5, ev_5⟩ : ∃ y : Int32, y = (nI d) + 1 := ⟨_, rfl⟩
          refine lv_iinc (v := v_5) (lv' := [(11, .int v_5), (9, .long v_4), (7, .long ((m_ni f30 (fun i => f31 (30 * i + 6 * sc + rk)) (fun i => f31 (30 * i + 6 * sc + ot)) nf (m_abs (m_times (m_turn (fun j => m_pc j - f8 j) (fun j => m_pr j - f9 j) jo))) (m_abs (m_times (m_turn (fun j => m_pc j - f8 j) (fun j => m_pr j - f9 j) j))) (nI d) i).1)), (6, .int (nI d)), (15, .int 1), (14, .int ((m_ni f30 (fun i => f31 (30 * i + 6 * sc + rk)) (fun i => f31 (30 * i + 6 * sc + ot)) nf (m_abs (m_times (m_turn (fun j => m_pc j - f8 j) (fun j => m_pr j - f9 j) jo))) (m_abs (m_times (m_turn (fun j => m_pc j - f8 j) (fun j => m_pr j - f9 j) j))) (nI d) i).2)), (12, .long ((m_ni f30 (fun i => f31 (30 * i + 6 * sc + rk)) (fun i => f31 (30 * i + 6 * sc + ot)) nf (m_abs (m_times (m_turn (fun j => m_pc j - f8 j) (fun j => m_pr j - f9 j) jo))) (m_abs (m_times (m_turn (fun j => m_pc j - f8 j) (fun j => m_pr j - f9 j) j))) (nI d) i).1)), (5, .int (m_abs (m_times (m_turn (fun j => m_pc j - f8 j) (fun j => m_pr j - f9 j) jo)))), (4, .int (m_abs (m_times (m_turn (fun j => m_pc j - f8 j) (fun j => m_pr j - f9 j) j)))), (0, .ref aM), (1, .int (nI sc)), (2, .int (nI rk)), (3, .int (nI ot))]) hx hb dX9_measure_266 hl (k := 6) rfl (by rw [ev_5]; rfl) (by decide) rfl (fun ls hl => ?_)
          refine lv_goto (tgt := 46) hx hb dX9_measure_269 (by decide) ?_
          obtain rfl : v_5 = nI (d + 1) := ev_5.trans (nI_1 d)
          rw [show (m_ni f30 (fun i => f31 (30 * i + 6 * sc + rk)) (fun i => f31 (30 * i + 6 * sc + ot)) nf (m_abs (m_times (m_turn (fun j => m_pc j - f8 j) (fun j => m_pr j - f9 j) jo))) (m_abs (m_times (m_turn (fun j => m_pc j - f8 j) (fun j => m_pr j - f9 j) j))) (nI d) i).1 = (m_nb f30 (fun i => f31 (30 * i + 6 * sc + rk)) (fun i => f31 (30 * i + 6 * sc + ot)) nf (m_abs (m_times (m_turn (fun j => m_pc j - f8 j) (fun j => m_pr j - f9 j) jo))) (m_abs (m_times (m_turn (fun j => m_pc j - f8 j) (fun j => m_pr j - f9 j) j))) (d + 1)).2.1 from by rw [hsd]] at hl
          obtain rfl : v_4 = (m_nb f30 (fun i => f31 (30 * i + 6 * sc + rk)) (fun i => f31 (30 * i + 6 * sc + ot)) nf (m_abs (m_times (m_turn (fun j => m_pc j - f8 j) (fun j => m_pr j - f9 j) jo))) (m_abs (m_times (m_turn (fun j => m_pc j - f8 j) (fun j => m_pr j - f9 j) j))) (d + 1)).2.2 := ev_4.trans (by rw [hsd])
          rw [show (nI d) = (m_nb f30 (fun i => f31 (30 * i + 6 * sc + rk)) (fun i => f31 (30 * i + 6 * sc + ot)) nf (m_abs (m_times (m_turn (fun j => m_pc j - f8 j) (fun j => m_pr j - f9 j) jo))) (m_abs (m_times (m_turn (fun j => m_pc j - f8 j) (fun j => m_pr j - f9 j) j))) (d + 1)).1 from by rw [hsd]] at hl
          exact ih_46 (d + 1, ls) (by first | (dsimp only; omega) | omega) ⟨(by omega), lv_sub hl [0, 1, 2, 3, 7, 8, 9, 10, 11, 12] rfl⟩
        · refine lv_lload hx hb dX9_measure_201 (lv_at hl 2 rfl) ?_
          refine lv_lload hx hb dX9_measure_203 (lv_at hl 4 rfl) ?_
          refine lv_lmul hx hb dX9_measure_205 ?_
          refine lv_lload hx hb dX9_measure_206 (lv_at hl 5 rfl) ?_
          refine lv_iload hx hb dX9_measure_208 (lv_at hl 1 rfl) ?_
          refine lv_i2l hx hb dX9_measure_210 rfl ?_
          refine lv_lmul hx hb dX9_measure_211 ?_
          refine W.lcmp hx hb dX9_measure_212 ?_
          refine lv_if_ge (tgt := 220) hx hb dX9_measure_213 (by decide) (fun c_213 => ?_) (fun c_213 => ?_)
          · have hsd : m_nb f30 (fun i => f31 (30 * i + 6 * sc + rk)) (fun i => f31 (30 * i + 6 * sc + ot)) nf (m_abs (m_times (m_turn (fun j => m_pc j - f8 j) (fun j => m_pr j - f9 j) jo))) (m_abs (m_times (m_turn (fun j => m_pc j - f8 j) (fun j => m_pr j - f9 j) j))) (d + 1) = m_nb f30 (fun i => f31 (30 * i + 6 * sc + rk)) (fun i => f31 (30 * i + 6 * sc + ot)) nf (m_abs (m_times (m_turn (fun j => m_pc j - f8 j) (fun j => m_pr j - f9 j) jo))) (m_abs (m_times (m_turn (fun j => m_pc j - f8 j) (fun j => m_pr j - f9 j) j))) d := by
              have h2 := c_213
              rw [hQ] at h2
              exact (if_neg h1).trans (if_neg (fun z => z.elim c_198 (Int64.not_lt.mpr ((lg_cmp_ge _ _).mp h2))))
            refine lv_iconst (v := 0) hx hb dX9_measure_220 (by decide) ?_
            refine lv_istore (lv' := [(15, .int 0), (14, .int ((m_ni f30 (fun i => f31 (30 * i + 6 * sc + rk)) (fun i => f31 (30 * i + 6 * sc + ot)) nf (m_abs (m_times (m_turn (fun j => m_pc j - f8 j) (fun j => m_pr j - f9 j) jo))) (m_abs (m_times (m_turn (fun j => m_pc j - f8 j) (fun j => m_pr j - f9 j) j))) (nI d) i).2)), (12, .long ((m_ni f30 (fun i => f31 (30 * i + 6 * sc + rk)) (fun i => f31 (30 * i + 6 * sc + ot)) nf (m_abs (m_times (m_turn (fun j => m_pc j - f8 j) (fun j => m_pr j - f9 j) jo))) (m_abs (m_times (m_turn (fun j => m_pc j - f8 j) (fun j => m_pr j - f9 j) j))) (nI d) i).1)), (11, .int (nI d)), (9, .long ((m_nb f30 (fun i => f31 (30 * i + 6 * sc + rk)) (fun i => f31 (30 * i + 6 * sc + ot)) nf (m_abs (m_times (m_turn (fun j => m_pc j - f8 j) (fun j => m_pr j - f9 j) jo))) (m_abs (m_times (m_turn (fun j => m_pc j - f8 j) (fun j => m_pr j - f9 j) j))) d).2.2)), (7, .long ((m_nb f30 (fun i => f31 (30 * i + 6 * sc + rk)) (fun i => f31 (30 * i + 6 * sc + ot)) nf (m_abs (m_times (m_turn (fun j => m_pc j - f8 j) (fun j => m_pr j - f9 j) jo))) (m_abs (m_times (m_turn (fun j => m_pc j - f8 j) (fun j => m_pr j - f9 j) j))) d).2.1)), (6, .int ((m_nb f30 (fun i => f31 (30 * i + 6 * sc + rk)) (fun i => f31 (30 * i + 6 * sc + ot)) nf (m_abs (m_times (m_turn (fun j => m_pc j - f8 j) (fun j => m_pr j - f9 j) jo))) (m_abs (m_times (m_turn (fun j => m_pc j - f8 j) (fun j => m_pr j - f9 j) j))) d).1)), (5, .int (m_abs (m_times (m_turn (fun j => m_pc j - f8 j) (fun j => m_pr j - f9 j) jo)))), (4, .int (m_abs (m_times (m_turn (fun j => m_pc j - f8 j) (fun j => m_pr j - f9 j) j)))), (0, .ref aM), (1, .int (nI sc)), (2, .int (nI rk)), (3, .int (nI ot))]) hx hb dX9_measure_221 hl (by decide) rfl (fun ls hl => ?_)
            refine lv_iload hx hb dX9_measure_223 (lv_at hl 0 rfl) ?_
            refine lv_if_eq (tgt := 233) hx hb dX9_measure_225 (by decide) (fun c_225 => ?_) (fun c_225 => absurd (by decide) c_225)
            refine lv_iload hx hb dX9_measure_233 (lv_at hl 6 rfl) ?_
            refine lv_istore (lv' := [(6, .int ((m_nb f30 (fun i => f31 (30 * i + 6 * sc + rk)) (fun i => f31 (30 * i + 6 * sc + ot)) nf (m_abs (m_times (m_turn (fun j => m_pc j - f8 j) (fun j => m_pr j - f9 j) jo))) (m_abs (m_times (m_turn (fun j => m_pc j - f8 j) (fun j => m_pr j - f9 j) j))) d).1)), (15, .int 0), (14, .int ((m_ni f30 (fun i => f31 (30 * i + 6 * sc + rk)) (fun i => f31 (30 * i + 6 * sc + ot)) nf (m_abs (m_times (m_turn (fun j => m_pc j - f8 j) (fun j => m_pr j - f9 j) jo))) (m_abs (m_times (m_turn (fun j => m_pc j - f8 j) (fun j => m_pr j - f9 j) j))) (nI d) i).2)), (12, .long ((m_ni f30 (fun i => f31 (30 * i + 6 * sc + rk)) (fun i => f31 (30 * i + 6 * sc + ot)) nf (m_abs (m_times (m_turn (fun j => m_pc j - f8 j) (fun j => m_pr j - f9 j) jo))) (m_abs (m_times (m_turn (fun j => m_pc j - f8 j) (fun j => m_pr j - f9 j) j))) (nI d) i).1)), (11, .int (nI d)), (9, .long ((m_nb f30 (fun i => f31 (30 * i + 6 * sc + rk)) (fun i => f31 (30 * i + 6 * sc + ot)) nf (m_abs (m_times (m_turn (fun j => m_pc j - f8 j) (fun j => m_pr j - f9 j) jo))) (m_abs (m_times (m_turn (fun j => m_pc j - f8 j) (fun j => m_pr j - f9 j) j))) d).2.2)), (7, .long ((m_nb f30 (fun i => f31 (30 * i + 6 * sc + rk)) (fun i => f31 (30 * i + 6 * sc + ot)) nf (m_abs (m_times (m_turn (fun j => m_pc j - f8 j) (fun j => m_pr j - f9 j) jo))) (m_abs (m_times (m_turn (fun j => m_pc j - f8 j) (fun j => m_pr j - f9 j) j))) d).2.1)), (5, .int (m_abs (m_times (m_turn (fun j => m_pc j - f8 j) (fun j => m_pr j - f9 j) jo)))), (4, .int (m_abs (m_times (m_turn (fun j => m_pc j - f8 j) (fun j => m_pr j - f9 j) j)))), (0, .ref aM), (1, .int (nI sc)), (2, .int (nI rk)), (3, .int (nI ot))]) hx hb dX9_measure_235 hl (by decide) rfl (fun ls hl => ?_)
            refine lv_iload hx hb dX9_measure_237 (lv_at hl 1 rfl) ?_
            refine lv_if_eq (tgt := 247) hx hb dX9_measure_239 (by decide) (fun c_239 => ?_) (fun c_239 => absurd (by decide) c_239)
            refine lv_lload hx hb dX9_measure_247 (lv_at hl 6 rfl) ?_
            refine lv_lstore (lv' := [(7, .long ((m_nb f30 (fun i => f31 (30 * i + 6 * sc + rk)) (fun i => f31 (30 * i + 6 * sc + ot)) nf (m_abs (m_times (m_turn (fun j => m_pc j - f8 j) (fun j => m_pr j - f9 j) jo))) (m_abs (m_times (m_turn (fun j => m_pc j - f8 j) (fun j => m_pr j - f9 j) j))) d).2.1)), (6, .int ((m_nb f30 (fun i => f31 (30 * i + 6 * sc + rk)) (fun i => f31 (30 * i + 6 * sc + ot)) nf (m_abs (m_times (m_turn (fun j => m_pc j - f8 j) (fun j => m_pr j - f9 j) jo))) (m_abs (m_times (m_turn (fun j => m_pc j - f8 j) (fun j => m_pr j - f9 j) j))) d).1)), (15, .int 0), (14, .int ((m_ni f30 (fun i => f31 (30 * i + 6 * sc + rk)) (fun i => f31 (30 * i + 6 * sc + ot)) nf (m_abs (m_times (m_turn (fun j => m_pc j - f8 j) (fun j => m_pr j - f9 j) jo))) (m_abs (m_times (m_turn (fun j => m_pc j - f8 j) (fun j => m_pr j - f9 j) j))) (nI d) i).2)), (12, .long ((m_ni f30 (fun i => f31 (30 * i + 6 * sc + rk)) (fun i => f31 (30 * i + 6 * sc + ot)) nf (m_abs (m_times (m_turn (fun j => m_pc j - f8 j) (fun j => m_pr j - f9 j) jo))) (m_abs (m_times (m_turn (fun j => m_pc j - f8 j) (fun j => m_pr j - f9 j) j))) (nI d) i).1)), (11, .int (nI d)), (9, .long ((m_nb f30 (fun i => f31 (30 * i + 6 * sc + rk)) (fun i => f31 (30 * i + 6 * sc + ot)) nf (m_abs (m_times (m_turn (fun j => m_pc j - f8 j) (fun j => m_pr j - f9 j) jo))) (m_abs (m_times (m_turn (fun j => m_pc j - f8 j) (fun j => m_pr j - f9 j) j))) d).2.2)), (5, .int (m_abs (m_times (m_turn (fun j => m_pc j - f8 j) (fun j => m_pr j - f9 j) jo)))), (4, .int (m_abs (m_times (m_turn (fun j => m_pc j - f8 j) (fun j => m_pr j - f9 j) j)))), (0, .ref aM), (1, .int (nI sc)), (2, .int (nI rk)), (3, .int (nI ot))]) hx hb dX9_measure_249 hl (by decide) rfl (fun ls hl => ?_)
            refine lv_iload hx hb dX9_measure_251 (lv_at hl 2 rfl) ?_
            refine lv_if_eq (tgt := 262) hx hb dX9_measure_253 (by decide) (fun c_253 => ?_) (fun c_253 => absurd (by decide) c_253)
            refine lv_lload hx hb dX9_measure_262 (lv_at hl 6 rfl) ?_
            refine lv_lstore (lv' := [(9, .long ((m_nb f30 (fun i => f31 (30 * i + 6 * sc + rk)) (fun i => f31 (30 * i + 6 * sc + ot)) nf (m_abs (m_times (m_turn (fun j => m_pc j - f8 j) (fun j => m_pr j - f9 j) jo))) (m_abs (m_times (m_turn (fun j => m_pc j - f8 j) (fun j => m_pr j - f9 j) j))) d).2.2)), (7, .long ((m_nb f30 (fun i => f31 (30 * i + 6 * sc + rk)) (fun i => f31 (30 * i + 6 * sc + ot)) nf (m_abs (m_times (m_turn (fun j => m_pc j - f8 j) (fun j => m_pr j - f9 j) jo))) (m_abs (m_times (m_turn (fun j => m_pc j - f8 j) (fun j => m_pr j - f9 j) j))) d).2.1)), (6, .int ((m_nb f30 (fun i => f31 (30 * i + 6 * sc + rk)) (fun i => f31 (30 * i + 6 * sc + ot)) nf (m_abs (m_times (m_turn (fun j => m_pc j - f8 j) (fun j => m_pr j - f9 j) jo))) (m_abs (m_times (m_turn (fun j => m_pc j - f8 j) (fun j => m_pr j - f9 j) j))) d).1)), (15, .int 0), (14, .int ((m_ni f30 (fun i => f31 (30 * i + 6 * sc + rk)) (fun i => f31 (30 * i + 6 * sc + ot)) nf (m_abs (m_times (m_turn (fun j => m_pc j - f8 j) (fun j => m_pr j - f9 j) jo))) (m_abs (m_times (m_turn (fun j => m_pc j - f8 j) (fun j => m_pr j - f9 j) j))) (nI d) i).2)), (12, .long ((m_ni f30 (fun i => f31 (30 * i + 6 * sc + rk)) (fun i => f31 (30 * i + 6 * sc + ot)) nf (m_abs (m_times (m_turn (fun j => m_pc j - f8 j) (fun j => m_pr j - f9 j) jo))) (m_abs (m_times (m_turn (fun j => m_pc j - f8 j) (fun j => m_pr j - f9 j) j))) (nI d) i).1)), (11, .int (nI d)), (5, .int (m_abs (m_times (m_turn (fun j => m_pc j - f8 j) (fun j => m_pr j - f9 j) jo)))), (4, .int (m_abs (m_times (m_turn (fun j => m_pc j - f8 j) (fun j => m_pr j - f9 j) j)))), (0, .ref aM), (1, .int (nI sc)), (2, .int (nI rk)), (3, .int (nI ot))]) hx hb dX9_measure_264 hl (by decide) rfl (fun ls hl => ?_)
            obtain ⟨v_6, ev_6⟩ : ∃ y : Int32, y = (nI d) + 1 := ⟨_, rfl⟩
            refine lv_iinc (v := v_6) (lv' := [(11, .int v_6), (9, .long ((m_nb f30 (fun i => f31 (30 * i + 6 * sc + rk)) (fun i => f31 (30 * i + 6 * sc + ot)) nf (m_abs (m_times (m_turn (fun j => m_pc j - f8 j) (fun j => m_pr j - f9 j) jo))) (m_abs (m_times (m_turn (fun j => m_pc j - f8 j) (fun j => m_pr j - f9 j) j))) d).2.2)), (7, .long ((m_nb f30 (fun i => f31 (30 * i + 6 * sc + rk)) (fun i => f31 (30 * i + 6 * sc + ot)) nf (m_abs (m_times (m_turn (fun j => m_pc j - f8 j) (fun j => m_pr j - f9 j) jo))) (m_abs (m_times (m_turn (fun j => m_pc j - f8 j) (fun j => m_pr j - f9 j) j))) d).2.1)), (6, .int ((m_nb f30 (fun i => f31 (30 * i + 6 * sc + rk)) (fun i => f31 (30 * i + 6 * sc + ot)) nf (m_abs (m_times (m_turn (fun j => m_pc j - f8 j) (fun j => m_pr j - f9 j) jo))) (m_abs (m_times (m_turn (fun j => m_pc j - f8 j) (fun j => m_pr j - f9 j) j))) d).1)), (15, .int 0), (14, .int ((m_ni f30 (fun i => f31 (30 * i + 6 * sc + rk)) (fun i => f31 (30 * i + 6 * sc + ot)) nf (m_abs (m_times (m_turn (fun j => m_pc j - f8 j) (fun j => m_pr j - f9 j) jo))) (m_abs (m_times (m_turn (fun j => m_pc j - f8 j) (fun j => m_pr j - f9 j) j))) (nI d) i).2)), (12, .long ((m_ni f30 (fun i => f31 (30 * i + 6 * sc + rk)) (fun i => f31 (30 * i + 6 * sc + ot)) nf (m_abs (m_times (m_turn (fun j => m_pc j - f8 j) (fun j => m_pr j - f9 j) jo))) (m_abs (m_times (m_turn (fun j => m_pc j - f8 j) (fun j => m_pr j - f9 j) j))) (nI d) i).1)), (5, .int (m_abs (m_times (m_turn (fun j => m_pc j - f8 j) (fun j => m_pr j - f9 j) jo)))), (4, .int (m_abs (m_times (m_turn (fun j => m_pc j - f8 j) (fun j => m_pr j - f9 j) j)))), (0, .ref aM), (1, .int (nI sc)), (2, .int (nI rk)), (3, .int (nI ot))]) hx hb dX9_measure_266 hl (k := 6) rfl (by rw [ev_6]; rfl) (by decide) rfl (fun ls hl => ?_)
            refine lv_goto (tgt := 46) hx hb dX9_measure_269 (by decide) ?_
            obtain rfl : v_6 = nI (d + 1) := ev_6.trans (nI_1 d)
            rw [show (m_nb f30 (fun i => f31 (30 * i + 6 * sc + rk)) (fun i => f31 (30 * i + 6 * sc + ot)) nf (m_abs (m_times (m_turn (fun j => m_pc j - f8 j) (fun j => m_pr j - f9 j) jo))) (m_abs (m_times (m_turn (fun j => m_pc j - f8 j) (fun j => m_pr j - f9 j) j))) d).2.1 = (m_nb f30 (fun i => f31 (30 * i + 6 * sc + rk)) (fun i => f31 (30 * i + 6 * sc + ot)) nf (m_abs (m_times (m_turn (fun j => m_pc j - f8 j) (fun j => m_pr j - f9 j) jo))) (m_abs (m_times (m_turn (fun j => m_pc j - f8 j) (fun j => m_pr j - f9 j) j))) (d + 1)).2.1 from by rw [hsd]] at hl
            rw [show (m_nb f30 (fun i => f31 (30 * i + 6 * sc + rk)) (fun i => f31 (30 * i + 6 * sc + ot)) nf (m_abs (m_times (m_turn (fun j => m_pc j - f8 j) (fun j => m_pr j - f9 j) jo))) (m_abs (m_times (m_turn (fun j => m_pc j - f8 j) (fun j => m_pr j - f9 j) j))) d).2.2 = (m_nb f30 (fun i => f31 (30 * i + 6 * sc + rk)) (fun i => f31 (30 * i + 6 * sc + ot)) nf (m_abs (m_times (m_turn (fun j => m_pc j - f8 j) (fun j => m_pr j - f9 j) jo))) (m_abs (m_times (m_turn (fun j => m_pc j - f8 j) (fun j => m_pr j - f9 j) j))) (d + 1)).2.2 from by rw [hsd]] at hl
            rw [show (m_nb f30 (fun i => f31 (30 * i + 6 * sc + rk)) (fun i => f31 (30 * i + 6 * sc + ot)) nf (m_abs (m_times (m_turn (fun j => m_pc j - f8 j) (fun j => m_pr j - f9 j) jo))) (m_abs (m_times (m_turn (fun j => m_pc j - f8 j) (fun j => m_pr j - f9 j) j))) d).1 = (m_nb f30 (fun i => f31 (30 * i + 6 * sc + rk)) (fun i => f31 (30 * i + 6 * sc + ot)) nf (m_abs (m_times (m_turn (fun j => m_pc j - f8 j) (fun j => m_pr j - f9 j) jo))) (m_abs (m_times (m_turn (fun j => m_pc j - f8 j) (fun j => m_pr j - f9 j) j))) (d + 1)).1 from by rw [hsd]] at hl
            exact ih_46 (d + 1, ls) (by first | (dsimp only; omega) | omega) ⟨(by omega), lv_sub hl [0, 1, 2, 3, 7, 8, 9, 10, 11, 12] rfl⟩
          · have hsd : m_nb f30 (fun i => f31 (30 * i + 6 * sc + rk)) (fun i => f31 (30 * i + 6 * sc + ot)) nf (m_abs (m_times (m_turn (fun j => m_pc j - f8 j) (fun j => m_pr j - f9 j) jo))) (m_abs (m_times (m_turn (fun j => m_pc j - f8 j) (fun j => m_pr j - f9 j) j))) (d + 1) = (nI d, (m_ni f30 (fun i => f31 (30 * i + 6 * sc + rk)) (fun i => f31 (30 * i + 6 * sc + ot)) nf (m_abs (m_times (m_turn (fun j => m_pc j - f8 j) (fun j => m_pr j - f9 j) jo))) (m_abs (m_times (m_turn (fun j => m_pc j - f8 j) (fun j => m_pr j - f9 j) j))) (nI d) i).1, (m_ni f30 (fun i => f31 (30 * i + 6 * sc + rk)) (fun i => f31 (30 * i + 6 * sc + ot)) nf (m_abs (m_times (m_turn (fun j => m_pc j - f8 j) (fun j => m_pr j - f9 j) jo))) (m_abs (m_times (m_turn (fun j => m_pc j - f8 j) (fun j => m_pr j - f9 j) j))) (nI d) i).2.toInt64) := by
              have h2 := c_213
              rw [hQ] at h2 ⊢
              exact (if_neg h1).trans (if_pos (Or.inr (Int64.not_le.mp (fun z => h2 ((lg_cmp_ge _ _).mpr z)))))
            refine lv_iconst (v := 1) hx hb dX9_measure_216 (by decide) ?_
            refine lv_goto (tgt := 221) hx hb dX9_measure_217 (by decide) ?_
            refine lv_istore (lv' := [(15, .int 1), (14, .int ((m_ni f30 (fun i => f31 (30 * i + 6 * sc + rk)) (fun i => f31 (30 * i + 6 * sc + ot)) nf (m_abs (m_times (m_turn (fun j => m_pc j - f8 j) (fun j => m_pr j - f9 j) jo))) (m_abs (m_times (m_turn (fun j => m_pc j - f8 j) (fun j => m_pr j - f9 j) j))) (nI d) i).2)), (12, .long ((m_ni f30 (fun i => f31 (30 * i + 6 * sc + rk)) (fun i => f31 (30 * i + 6 * sc + ot)) nf (m_abs (m_times (m_turn (fun j => m_pc j - f8 j) (fun j => m_pr j - f9 j) jo))) (m_abs (m_times (m_turn (fun j => m_pc j - f8 j) (fun j => m_pr j - f9 j) j))) (nI d) i).1)), (11, .int (nI d)), (9, .long ((m_nb f30 (fun i => f31 (30 * i + 6 * sc + rk)) (fun i => f31 (30 * i + 6 * sc + ot)) nf (m_abs (m_times (m_turn (fun j => m_pc j - f8 j) (fun j => m_pr j - f9 j) jo))) (m_abs (m_times (m_turn (fun j => m_pc j - f8 j) (fun j => m_pr j - f9 j) j))) d).2.2)), (7, .long ((m_nb f30 (fun i => f31 (30 * i + 6 * sc + rk)) (fun i => f31 (30 * i + 6 * sc + ot)) nf (m_abs (m_times (m_turn (fun j => m_pc j - f8 j) (fun j => m_pr j - f9 j) jo))) (m_abs (m_times (m_turn (fun j => m_pc j - f8 j) (fun j => m_pr j - f9 j) j))) d).2.1)), (6, .int ((m_nb f30 (fun i => f31 (30 * i + 6 * sc + rk)) (fun i => f31 (30 * i + 6 * sc + ot)) nf (m_abs (m_times (m_turn (fun j => m_pc j - f8 j) (fun j => m_pr j - f9 j) jo))) (m_abs (m_times (m_turn (fun j => m_pc j - f8 j) (fun j => m_pr j - f9 j) j))) d).1)), (5, .int (m_abs (m_times (m_turn (fun j => m_pc j - f8 j) (fun j => m_pr j - f9 j) jo)))), (4, .int (m_abs (m_times (m_turn (fun j => m_pc j - f8 j) (fun j => m_pr j - f9 j) j)))), (0, .ref aM), (1, .int (nI sc)), (2, .int (nI rk)), (3, .int (nI ot))]) hx hb dX9_measure_221 hl (by decide) rfl (fun ls hl => ?_)
            refine lv_iload hx hb dX9_measure_223 (lv_at hl 0 rfl) ?_
            refine lv_if_eq (tgt := 233) hx hb dX9_measure_225 (by decide) (fun c_225 => absurd c_225 (by decide)) (fun c_225 => ?_)
            refine lv_iload hx hb dX9_measure_228 (lv_at hl 3 rfl) ?_
            refine lv_goto (tgt := 235) hx hb dX9_measure_230 (by decide) ?_
            refine lv_istore (lv' := [(6, .int (nI d)), (15, .int 1), (14, .int ((m_ni f30 (fun i => f31 (30 * i + 6 * sc + rk)) (fun i => f31 (30 * i + 6 * sc + ot)) nf (m_abs (m_times (m_turn (fun j => m_pc j - f8 j) (fun j => m_pr j - f9 j) jo))) (m_abs (m_times (m_turn (fun j => m_pc j - f8 j) (fun j => m_pr j - f9 j) j))) (nI d) i).2)), (12, .long ((m_ni f30 (fun i => f31 (30 * i + 6 * sc + rk)) (fun i => f31 (30 * i + 6 * sc + ot)) nf (m_abs (m_times (m_turn (fun j => m_pc j - f8 j) (fun j => m_pr j - f9 j) jo))) (m_abs (m_times (m_turn (fun j => m_pc j - f8 j) (fun j => m_pr j - f9 j) j))) (nI d) i).1)), (11, .int (nI d)), (9, .long ((m_nb f30 (fun i => f31 (30 * i + 6 * sc + rk)) (fun i => f31 (30 * i + 6 * sc + ot)) nf (m_abs (m_times (m_turn (fun j => m_pc j - f8 j) (fun j => m_pr j - f9 j) jo))) (m_abs (m_times (m_turn (fun j => m_pc j - f8 j) (fun j => m_pr j - f9 j) j))) d).2.2)), (7, .long ((m_nb f30 (fun i => f31 (30 * i + 6 * sc + rk)) (fun i => f31 (30 * i + 6 * sc + ot)) nf (m_abs (m_times (m_turn (fun j => m_pc j - f8 j) (fun j => m_pr j - f9 j) jo))) (m_abs (m_times (m_turn (fun j => m_pc j - f8 j) (fun j => m_pr j - f9 j) j))) d).2.1)), (5, .int (m_abs (m_times (m_turn (fun j => m_pc j - f8 j) (fun j => m_pr j - f9 j) jo)))), (4, .int (m_abs (m_times (m_turn (fun j => m_pc j - f8 j) (fun j => m_pr j - f9 j) j)))), (0, .ref aM), (1, .int (nI sc)), (2, .int (nI rk)), (3, .int (nI ot))]) hx hb dX9_measure_235 hl (by decide) rfl (fun ls hl => ?_)
            refine lv_iload hx hb dX9_measure_237 (lv_at hl 1 rfl) ?_
            refine lv_if_eq (tgt := 247) hx hb dX9_measure_239 (by decide) (fun c_239 => absurd c_239 (by decide)) (fun c_239 => ?_)
            refine lv_lload hx hb dX9_measure_242 (lv_at hl 3 rfl) ?_
            refine lv_goto (tgt := 249) hx hb dX9_measure_244 (by decide) ?_
            refine lv_lstore (lv' := [(7, .long ((m_ni f30 (fun i => f31 (30 * i + 6 * sc + rk)) (fun i => f31 (30 * i + 6 * sc + ot)) nf (m_abs (m_times (m_turn (fun j => m_pc j - f8 j) (fun j => m_pr j - f9 j) jo))) (m_abs (m_times (m_turn (fun j => m_pc j - f8 j) (fun j => m_pr j - f9 j) j))) (nI d) i).1)), (6, .int (nI d)), (15, .int 1), (14, .int ((m_ni f30 (fun i => f31 (30 * i + 6 * sc + rk)) (fun i => f31 (30 * i + 6 * sc + ot)) nf (m_abs (m_times (m_turn (fun j => m_pc j - f8 j) (fun j => m_pr j - f9 j) jo))) (m_abs (m_times (m_turn (fun j => m_pc j - f8 j) (fun j => m_pr j - f9 j) j))) (nI d) i).2)), (12, .long ((m_ni f30 (fun i => f31 (30 * i + 6 * sc + rk)) (fun i => f31 (30 * i + 6 * sc + ot)) nf (m_abs (m_times (m_turn (fun j => m_pc j - f8 j) (fun j => m_pr j - f9 j) jo))) (m_abs (m_times (m_turn (fun j => m_pc j - f8 j) (fun j => m_pr j - f9 j) j))) (nI d) i).1)), (11, .int (nI d)), (9, .long ((m_nb f30 (fun i => f31 (30 * i + 6 * sc + rk)) (fun i => f31 (30 * i + 6 * sc + ot)) nf (m_abs (m_times (m_turn (fun j => m_pc j - f8 j) (fun j => m_pr j - f9 j) jo))) (m_abs (m_times (m_turn (fun j => m_pc j - f8 j) (fun j => m_pr j - f9 j) j))) d).2.2)), (5, .int (m_abs (m_times (m_turn (fun j => m_pc j - f8 j) (fun j => m_pr j - f9 j) jo)))), (4, .int (m_abs (m_times (m_turn (fun j => m_pc j - f8 j) (fun j => m_pr j - f9 j) j)))), (0, .ref aM), (1, .int (nI sc)), (2, .int (nI rk)), (3, .int (nI ot))]) hx hb dX9_measure_249 hl (by decide) rfl (fun ls hl => ?_)
            refine lv_iload hx hb dX9_measure_251 (lv_at hl 2 rfl) ?_
            refine lv_if_eq (tgt := 262) hx hb dX9_measure_253 (by decide) (fun c_253 => absurd c_253 (by decide)) (fun c_253 => ?_)
            refine lv_iload hx hb dX9_measure_256 (lv_at hl 3 rfl) ?_
            refine lv_i2l hx hb dX9_measure_258 rfl ?_
            refine lv_goto (tgt := 264) hx hb dX9_measure_259 (by decide) ?_
            refine lv_topl (fun v_7 ev_7 => ?_)
            refine lv_lstore (lv' := [(9, .long v_7), (7, .long ((m_ni f30 (fun i => f31 (30 * i + 6 * sc + rk)) (fun i => f31 (30 * i + 6 * sc + ot)) nf (m_abs (m_times (m_turn (fun j => m_pc j - f8 j) (fun j => m_pr j - f9 j) jo))) (m_abs (m_times (m_turn (fun j => m_pc j - f8 j) (fun j => m_pr j - f9 j) j))) (nI d) i).1)), (6, .int (nI d)), (15, .int 1), (14, .int ((m_ni f30 (fun i => f31 (30 * i + 6 * sc + rk)) (fun i => f31 (30 * i + 6 * sc + ot)) nf (m_abs (m_times (m_turn (fun j => m_pc j - f8 j) (fun j => m_pr j - f9 j) jo))) (m_abs (m_times (m_turn (fun j => m_pc j - f8 j) (fun j => m_pr j - f9 j) j))) (nI d) i).2)), (12, .long ((m_ni f30 (fun i => f31 (30 * i + 6 * sc + rk)) (fun i => f31 (30 * i + 6 * sc + ot)) nf (m_abs (m_times (m_turn (fun j => m_pc j - f8 j) (fun j => m_pr j - f9 j) jo))) (m_abs (m_times (m_turn (fun j => m_pc j - f8 j) (fun j => m_pr j - f9 j) j))) (nI d) i).1)), (11, .int (nI d)), (5, .int (m_abs (m_times (m_turn (fun j => m_pc j - f8 j) (fun j => m_pr j - f9 j) jo)))), (4, .int (m_abs (m_times (m_turn (fun j => m_pc j - f8 j) (fun j => m_pr j - f9 j) j)))), (0, .ref aM), (1, .int (nI sc)), (2, .int (nI rk)), (3, .int (nI ot))]) hx hb dX9_measure_264 hl (by decide) rfl (fun ls hl => ?_)
            obtain ⟨v_8, ev_8⟩ : ∃ y : Int32, y = (nI d) + 1 := ⟨_, rfl⟩
            refine lv_iinc (v := v_8) (lv' := [(11, .int v_8), (9, .long v_7), (7, .long ((m_ni f30 (fun i => f31 (30 * i + 6 * sc + rk)) (fun i => f31 (30 * i + 6 * sc + ot)) nf (m_abs (m_times (m_turn (fun j => m_pc j - f8 j) (fun j => m_pr j - f9 j) jo))) (m_abs (m_times (m_turn (fun j => m_pc j - f8 j) (fun j => m_pr j - f9 j) j))) (nI d) i).1)), (6, .int (nI d)), (15, .int 1), (14, .int ((m_ni f30 (fun i => f31 (30 * i + 6 * sc + rk)) (fun i => f31 (30 * i + 6 * sc + ot)) nf (m_abs (m_times (m_turn (fun j => m_pc j - f8 j) (fun j => m_pr j - f9 j) jo))) (m_abs (m_times (m_turn (fun j => m_pc j - f8 j) (fun j => m_pr j - f9 j) j))) (nI d) i).2)), (12, .long ((m_ni f30 (fun i => f31 (30 * i + 6 * sc + rk)) (fun i => f31 (30 * i + 6 * sc + ot)) nf (m_abs (m_times (m_turn (fun j => m_pc j - f8 j) (fun j => m_pr j - f9 j) jo))) (m_abs (m_times (m_turn (fun j => m_pc j - f8 j) (fun j => m_pr j - f9 j) j))) (nI d) i).1)), (5, .int (m_abs (m_times (m_turn (fun j => m_pc j - f8 j) (fun j => m_pr j - f9 j) jo)))), (4, .int (m_abs (m_times (m_turn (fun j => m_pc j - f8 j) (fun j => m_pr j - f9 j) j)))), (0, .ref aM), (1, .int (nI sc)), (2, .int (nI rk)), (3, .int (nI ot))]) hx hb dX9_measure_266 hl (k := 6) rfl (by rw [ev_8]; rfl) (by decide) rfl (fun ls hl => ?_)
            refine lv_goto (tgt := 46) hx hb dX9_measure_269 (by decide) ?_
            obtain rfl : v_8 = nI (d + 1) := ev_8.trans (nI_1 d)
            rw [show (m_ni f30 (fun i => f31 (30 * i + 6 * sc + rk)) (fun i => f31 (30 * i + 6 * sc + ot)) nf (m_abs (m_times (m_turn (fun j => m_pc j - f8 j) (fun j => m_pr j - f9 j) jo))) (m_abs (m_times (m_turn (fun j => m_pc j - f8 j) (fun j => m_pr j - f9 j) j))) (nI d) i).1 = (m_nb f30 (fun i => f31 (30 * i + 6 * sc + rk)) (fun i => f31 (30 * i + 6 * sc + ot)) nf (m_abs (m_times (m_turn (fun j => m_pc j - f8 j) (fun j => m_pr j - f9 j) jo))) (m_abs (m_times (m_turn (fun j => m_pc j - f8 j) (fun j => m_pr j - f9 j) j))) (d + 1)).2.1 from by rw [hsd]] at hl
            obtain rfl : v_7 = (m_nb f30 (fun i => f31 (30 * i + 6 * sc + rk)) (fun i => f31 (30 * i + 6 * sc + ot)) nf (m_abs (m_times (m_turn (fun j => m_pc j - f8 j) (fun j => m_pr j - f9 j) jo))) (m_abs (m_times (m_turn (fun j => m_pc j - f8 j) (fun j => m_pr j - f9 j) j))) (d + 1)).2.2 := ev_7.trans (by rw [hsd])
            rw [show (nI d) = (m_nb f30 (fun i => f31 (30 * i + 6 * sc + rk)) (fun i => f31 (30 * i + 6 * sc + ot)) nf (m_abs (m_times (m_turn (fun j => m_pc j - f8 j) (fun j => m_pr j - f9 j) jo))) (m_abs (m_times (m_turn (fun j => m_pc j - f8 j) (fun j => m_pr j - f9 j) j))) (d + 1)).1 from by rw [hsd]] at hl
            exact ih_46 (d + 1, ls) (by first | (dsimp only; omega) | omega) ⟨(by omega), lv_sub hl [0, 1, 2, 3, 7, 8, 9, 10, 11, 12] rfl⟩
    · have hlti : i < nf := by
        rcases Nat.lt_or_ge i (nf) with q | q
        · exact q
        · exact absurd ((nI_leI (by omega) (by omega)).mpr q) c_69
      refine lv_iload hx hb dX9_measure_72 (lv_at hl 0 rfl) ?_
      refine lv_istore (lv' := [(16, .int (nI i)), (15, .int (nI i)), (14, .int ((m_ni f30 (fun i => f31 (30 * i + 6 * sc + rk)) (fun i => f31 (30 * i + 6 * sc + ot)) nf (m_abs (m_times (m_turn (fun j => m_pc j - f8 j) (fun j => m_pr j - f9 j) jo))) (m_abs (m_times (m_turn (fun j => m_pc j - f8 j) (fun j => m_pr j - f9 j) j))) (nI d) i).2)), (12, .long ((m_ni f30 (fun i => f31 (30 * i + 6 * sc + rk)) (fun i => f31 (30 * i + 6 * sc + ot)) nf (m_abs (m_times (m_turn (fun j => m_pc j - f8 j) (fun j => m_pr j - f9 j) jo))) (m_abs (m_times (m_turn (fun j => m_pc j - f8 j) (fun j => m_pr j - f9 j) j))) (nI d) i).1)), (11, .int (nI d)), (9, .long ((m_nb f30 (fun i => f31 (30 * i + 6 * sc + rk)) (fun i => f31 (30 * i + 6 * sc + ot)) nf (m_abs (m_times (m_turn (fun j => m_pc j - f8 j) (fun j => m_pr j - f9 j) jo))) (m_abs (m_times (m_turn (fun j => m_pc j - f8 j) (fun j => m_pr j - f9 j) j))) d).2.2)), (7, .long ((m_nb f30 (fun i => f31 (30 * i + 6 * sc + rk)) (fun i => f31 (30 * i + 6 * sc + ot)) nf (m_abs (m_times (m_turn (fun j => m_pc j - f8 j) (fun j => m_pr j - f9 j) jo))) (m_abs (m_times (m_turn (fun j => m_pc j - f8 j) (fun j => m_pr j - f9 j) j))) d).2.1)), (6, .int ((m_nb f30 (fun i => f31 (30 * i + 6 * sc + rk)) (fun i => f31 (30 * i + 6 * sc + ot)) nf (m_abs (m_times (m_turn (fun j => m_pc j - f8 j) (fun j => m_pr j - f9 j) jo))) (m_abs (m_times (m_turn (fun j => m_pc j - f8 j) (fun j => m_pr j - f9 j) j))) d).1)), (5, .int (m_abs (m_times (m_turn (fun j => m_pc j - f8 j) (fun j => m_pr j - f9 j) jo)))), (4, .int (m_abs (m_times (m_turn (fun j => m_pc j - f8 j) (fun j => m_pr j - f9 j) j)))), (0, .ref aM), (1, .int (nI sc)), (2, .int (nI rk)), (3, .int (nI ot))]) hx hb dX9_measure_74 hl (by decide) rfl (fun ls hl => ?_)
      refine dz_lp (α := Nat × Array Slot) (fun a9 => (fun (t : Nat) (ls : Array Slot) => nf - (i + t)) a9.1 a9.2) (fun a9 => (fun (t : Nat) (ls : Array Slot) => (i + t ≤ nf) ∧ lv_has ls 21 [(16, .int (nI (i + t))), (15, .int (nI i)), (14, .int ((m_nj f30 (fun i => f31 (30 * i + 6 * sc + ot)) (f31 (30 * i + 6 * sc + rk)) i (m_abs (m_times (m_turn (fun j => m_pc j - f8 j) (fun j => m_pr j - f9 j) jo))) (m_abs (m_times (m_turn (fun j => m_pc j - f8 j) (fun j => m_pr j - f9 j) j))) (nI d) (m_ni f30 (fun i => f31 (30 * i + 6 * sc + rk)) (fun i => f31 (30 * i + 6 * sc + ot)) nf (m_abs (m_times (m_turn (fun j => m_pc j - f8 j) (fun j => m_pr j - f9 j) jo))) (m_abs (m_times (m_turn (fun j => m_pc j - f8 j) (fun j => m_pr j - f9 j) j))) (nI d) i) t).2)), (12, .long ((m_nj f30 (fun i => f31 (30 * i + 6 * sc + ot)) (f31 (30 * i + 6 * sc + rk)) i (m_abs (m_times (m_turn (fun j => m_pc j - f8 j) (fun j => m_pr j - f9 j) jo))) (m_abs (m_times (m_turn (fun j => m_pc j - f8 j) (fun j => m_pr j - f9 j) j))) (nI d) (m_ni f30 (fun i => f31 (30 * i + 6 * sc + rk)) (fun i => f31 (30 * i + 6 * sc + ot)) nf (m_abs (m_times (m_turn (fun j => m_pc j - f8 j) (fun j => m_pr j - f9 j) jo))) (m_abs (m_times (m_turn (fun j => m_pc j - f8 j) (fun j => m_pr j - f9 j) j))) (nI d) i) t).1)), (11, .int (nI d)), (9, .long ((m_nb f30 (fun i => f31 (30 * i + 6 * sc + rk)) (fun i => f31 (30 * i + 6 * sc + ot)) nf (m_abs (m_times (m_turn (fun j => m_pc j - f8 j) (fun j => m_pr j - f9 j) jo))) (m_abs (m_times (m_turn (fun j => m_pc j - f8 j) (fun j => m_pr j - f9 j) j))) d).2.2)), (7, .long ((m_nb f30 (fun i => f31 (30 * i + 6 * sc + rk)) (fun i => f31 (30 * i + 6 * sc + ot)) nf (m_abs (m_times (m_turn (fun j => m_pc j - f8 j) (fun j => m_pr j - f9 j) jo))) (m_abs (m_times (m_turn (fun j => m_pc j - f8 j) (fun j => m_pr j - f9 j) j))) d).2.1)), (6, .int ((m_nb f30 (fun i => f31 (30 * i + 6 * sc + rk)) (fun i => f31 (30 * i + 6 * sc + ot)) nf (m_abs (m_times (m_turn (fun j => m_pc j - f8 j) (fun j => m_pr j - f9 j) jo))) (m_abs (m_times (m_turn (fun j => m_pc j - f8 j) (fun j => m_pr j - f9 j) j))) d).1)), (5, .int (m_abs (m_times (m_turn (fun j => m_pc j - f8 j) (fun j => m_pr j - f9 j) jo)))), (4, .int (m_abs (m_times (m_turn (fun j => m_pc j - f8 j) (fun j => m_pr j - f9 j) j)))), (0, .ref aM), (1, .int (nI sc)), (2, .int (nI rk)), (3, .int (nI ot))]) a9.1 a9.2) (fun a9 => F0 m 76 a9.2 []) (fun a9 hI ih_76 => ?_) (0, ls) ⟨(by omega), lv_sub hl [0, 1, 2, 3, 4, 5, 6, 7, 8, 9, 10, 11, 12, 13] rfl⟩
      obtain ⟨t, ls⟩ := a9
      obtain ⟨ht9, hl⟩ := hI
      have ht9 : i + t ≤ nf := ht9
      have hl : lv_has ls 21 [(16, .int (nI (i + t))), (15, .int (nI i)), (14, .int ((m_nj f30 (fun i => f31 (30 * i + 6 * sc + ot)) (f31 (30 * i + 6 * sc + rk)) i (m_abs (m_times (m_turn (fun j => m_pc j - f8 j) (fun j => m_pr j - f9 j) jo))) (m_abs (m_times (m_turn (fun j => m_pc j - f8 j) (fun j => m_pr j - f9 j) j))) (nI d) (m_ni f30 (fun i => f31 (30 * i + 6 * sc + rk)) (fun i => f31 (30 * i + 6 * sc + ot)) nf (m_abs (m_times (m_turn (fun j => m_pc j - f8 j) (fun j => m_pr j - f9 j) jo))) (m_abs (m_times (m_turn (fun j => m_pc j - f8 j) (fun j => m_pr j - f9 j) j))) (nI d) i) t).2)), (12, .long ((m_nj f30 (fun i => f31 (30 * i + 6 * sc + ot)) (f31 (30 * i + 6 * sc + rk)) i (m_abs (m_times (m_turn (fun j => m_pc j - f8 j) (fun j => m_pr j - f9 j) jo))) (m_abs (m_times (m_turn (fun j => m_pc j - f8 j) (fun j => m_pr j - f9 j) j))) (nI d) (m_ni f30 (fun i => f31 (30 * i + 6 * sc + rk)) (fun i => f31 (30 * i + 6 * sc + ot)) nf (m_abs (m_times (m_turn (fun j => m_pc j - f8 j) (fun j => m_pr j - f9 j) jo))) (m_abs (m_times (m_turn (fun j => m_pc j - f8 j) (fun j => m_pr j - f9 j) j))) (nI d) i) t).1)), (11, .int (nI d)), (9, .long ((m_nb f30 (fun i => f31 (30 * i + 6 * sc + rk)) (fun i => f31 (30 * i + 6 * sc + ot)) nf (m_abs (m_times (m_turn (fun j => m_pc j - f8 j) (fun j => m_pr j - f9 j) jo))) (m_abs (m_times (m_turn (fun j => m_pc j - f8 j) (fun j => m_pr j - f9 j) j))) d).2.2)), (7, .long ((m_nb f30 (fun i => f31 (30 * i + 6 * sc + rk)) (fun i => f31 (30 * i + 6 * sc + ot)) nf (m_abs (m_times (m_turn (fun j => m_pc j - f8 j) (fun j => m_pr j - f9 j) jo))) (m_abs (m_times (m_turn (fun j => m_pc j - f8 j) (fun j => m_pr j - f9 j) j))) d).2.1)), (6, .int ((m_nb f30 (fun i => f31 (30 * i + 6 * sc + rk)) (fun i => f31 (30 * i + 6 * sc + ot)) nf (m_abs (m_times (m_turn (fun j => m_pc j - f8 j) (fun j => m_pr j - f9 j) jo))) (m_abs (m_times (m_turn (fun j => m_pc j - f8 j) (fun j => m_pr j - f9 j) j))) d).1)), (5, .int (m_abs (m_times (m_turn (fun j => m_pc j - f8 j) (fun j => m_pr j - f9 j) jo)))), (4, .int (m_abs (m_times (m_turn (fun j => m_pc j - f8 j) (fun j => m_pr j - f9 j) j)))), (0, .ref aM), (1, .int (nI sc)), (2, .int (nI rk)), (3, .int (nI ot))] := hl
      refine lv_iload hx hb dX9_measure_76 (lv_at hl 0 rfl) ?_
      refine lv_aload_n hx hb dX9_measure_78 rfl (lv_at hl 10 rfl) ?_
      refine dz_get hx hb hts (fun _ h => List.mem_cons_of_mem _ (List.mem_append_right _ h)) hown hE hG ha ho rfl 29 (by decide) (hts _ (List.mem_of_getElem? (i := 1) rfl)) (fun _ h9 => h9) rfl dX9_measure_79 ?_
      refine lv_icmp_ge (tgt := 183) hx hb dX9_measure_82 (by decide) (fun c_82 => ?_) (fun c_82 => ?_)
      · have hit : i + t = nf := by have := (nI_leI (by omega) (by omega)).mp c_82; omega
        have hsi : m_ni f30 (fun i => f31 (30 * i + 6 * sc + rk)) (fun i => f31 (30 * i + 6 * sc + ot)) nf (m_abs (m_times (m_turn (fun j => m_pc j - f8 j) (fun j => m_pr j - f9 j) jo))) (m_abs (m_times (m_turn (fun j => m_pc j - f8 j) (fun j => m_pr j - f9 j) j))) (nI d) (i + 1) = m_nj f30 (fun i => f31 (30 * i + 6 * sc + ot)) (f31 (30 * i + 6 * sc + rk)) i (m_abs (m_times (m_turn (fun j => m_pc j - f8 j) (fun j => m_pr j - f9 j) jo))) (m_abs (m_times (m_turn (fun j => m_pc j - f8 j) (fun j => m_pr j - f9 j) j))) (nI d) (m_ni f30 (fun i => f31 (30 * i + 6 * sc + rk)) (fun i => f31 (30 * i + 6 * sc + ot)) nf (m_abs (m_times (m_turn (fun j => m_pc j - f8 j) (fun j => m_pr j - f9 j) jo))) (m_abs (m_times (m_turn (fun j => m_pc j - f8 j) (fun j => m_pr j - f9 j) j))) (nI d) i) t := by
          rw [show t = nf - i by omega]
          rfl
        obtain ⟨v_9, ev_9⟩ : ∃ y : Int32, y = (nI i) + 1 := ⟨_, rfl⟩
        refine lv_iinc (v := v_9) (lv' := [(15, .int v_9), (16, .int (nI (i + t))), (14, .int ((m_nj f30 (fun i => f31 (30 * i + 6 * sc + ot)) (f31 (30 * i + 6 * sc + rk)) i (m_abs (m_times (m_turn (fun j => m_pc j - f8 j) (fun j => m_pr j - f9 j) jo))) (m_abs (m_times (m_turn (fun j => m_pc j - f8 j) (fun j => m_pr j - f9 j) j))) (nI d) (m_ni f30 (fun i => f31 (30 * i + 6 * sc + rk)) (fun i => f31 (30 * i + 6 * sc + ot)) nf (m_abs (m_times (m_turn (fun j => m_pc j - f8 j) (fun j => m_pr j - f9 j) jo))) (m_abs (m_times (m_turn (fun j => m_pc j - f8 j) (fun j => m_pr j - f9 j) j))) (nI d) i) t).2)), (12, .long ((m_nj f30 (fun i => f31 (30 * i + 6 * sc + ot)) (f31 (30 * i + 6 * sc + rk)) i (m_abs (m_times (m_turn (fun j => m_pc j - f8 j) (fun j => m_pr j - f9 j) jo))) (m_abs (m_times (m_turn (fun j => m_pc j - f8 j) (fun j => m_pr j - f9 j) j))) (nI d) (m_ni f30 (fun i => f31 (30 * i + 6 * sc + rk)) (fun i => f31 (30 * i + 6 * sc + ot)) nf (m_abs (m_times (m_turn (fun j => m_pc j - f8 j) (fun j => m_pr j - f9 j) jo))) (m_abs (m_times (m_turn (fun j => m_pc j - f8 j) (fun j => m_pr j - f9 j) j))) (nI d) i) t).1)), (11, .int (nI d)), (9, .long ((m_nb f30 (fun i => f31 (30 * i + 6 * sc + rk)) (fun i => f31 (30 * i + 6 * sc + ot)) nf (m_abs (m_times (m_turn (fun j => m_pc j - f8 j) (fun j => m_pr j - f9 j) jo))) (m_abs (m_times (m_turn (fun j => m_pc j - f8 j) (fun j => m_pr j - f9 j) j))) d).2.2)), (7, .long ((m_nb f30 (fun i => f31 (30 * i + 6 * sc + rk)) (fun i => f31 (30 * i + 6 * sc + ot)) nf (m_abs (m_times (m_turn (fun j => m_pc j - f8 j) (fun j => m_pr j - f9 j) jo))) (m_abs (m_times (m_turn (fun j => m_pc j - f8 j) (fun j => m_pr j - f9 j) j))) d).2.1)), (6, .int ((m_nb f30 (fun i => f31 (30 * i + 6 * sc + rk)) (fun i => f31 (30 * i + 6 * sc + ot)) nf (m_abs (m_times (m_turn (fun j => m_pc j - f8 j) (fun j => m_pr j - f9 j) jo))) (m_abs (m_times (m_turn (fun j => m_pc j - f8 j) (fun j => m_pr j - f9 j) j))) d).1)), (5, .int (m_abs (m_times (m_turn (fun j => m_pc j - f8 j) (fun j => m_pr j - f9 j) jo)))), (4, .int (m_abs (m_times (m_turn (fun j => m_pc j - f8 j) (fun j => m_pr j - f9 j) j)))), (0, .ref aM), (1, .int (nI sc)), (2, .int (nI rk)), (3, .int (nI ot))]) hx hb dX9_measure_183 hl (k := 1) rfl (by rw [ev_9]; rfl) (by decide) rfl (fun ls hl => ?_)
        refine lv_goto (tgt := 63) hx hb dX9_measure_186 (by decide) ?_
        obtain rfl : v_9 = nI (i + 1) := ev_9.trans (nI_1 i)
        rw [show (m_nj f30 (fun i => f31 (30 * i + 6 * sc + ot)) (f31 (30 * i + 6 * sc + rk)) i (m_abs (m_times (m_turn (fun j => m_pc j - f8 j) (fun j => m_pr j - f9 j) jo))) (m_abs (m_times (m_turn (fun j => m_pc j - f8 j) (fun j => m_pr j - f9 j) j))) (nI d) (m_ni f30 (fun i => f31 (30 * i + 6 * sc + rk)) (fun i => f31 (30 * i + 6 * sc + ot)) nf (m_abs (m_times (m_turn (fun j => m_pc j - f8 j) (fun j => m_pr j - f9 j) jo))) (m_abs (m_times (m_turn (fun j => m_pc j - f8 j) (fun j => m_pr j - f9 j) j))) (nI d) i) t).1 = (m_ni f30 (fun i => f31 (30 * i + 6 * sc + rk)) (fun i => f31 (30 * i + 6 * sc + ot)) nf (m_abs (m_times (m_turn (fun j => m_pc j - f8 j) (fun j => m_pr j - f9 j) jo))) (m_abs (m_times (m_turn (fun j => m_pc j - f8 j) (fun j => m_pr j - f9 j) j))) (nI d) (i + 1)).1 from by rw [hsi]] at hl
        rw [show (m_nj f30 (fun i => f31 (30 * i + 6 * sc + ot)) (f31 (30 * i + 6 * sc + rk)) i (m_abs (m_times (m_turn (fun j => m_pc j - f8 j) (fun j => m_pr j - f9 j) jo))) (m_abs (m_times (m_turn (fun j => m_pc j - f8 j) (fun j => m_pr j - f9 j) j))) (nI d) (m_ni f30 (fun i => f31 (30 * i + 6 * sc + rk)) (fun i => f31 (30 * i + 6 * sc + ot)) nf (m_abs (m_times (m_turn (fun j => m_pc j - f8 j) (fun j => m_pr j - f9 j) jo))) (m_abs (m_times (m_turn (fun j => m_pc j - f8 j) (fun j => m_pr j - f9 j) j))) (nI d) i) t).2 = (m_ni f30 (fun i => f31 (30 * i + 6 * sc + rk)) (fun i => f31 (30 * i + 6 * sc + ot)) nf (m_abs (m_times (m_turn (fun j => m_pc j - f8 j) (fun j => m_pr j - f9 j) jo))) (m_abs (m_times (m_turn (fun j => m_pc j - f8 j) (fun j => m_pr j - f9 j) j))) (nI d) (i + 1)).2 from by rw [hsi]] at hl
        exact ih_63 (i + 1, ls) (by first | (dsimp only; omega) | omega) ⟨(by omega), lv_sub hl [0, 2, 3, 4, 5, 6, 7, 8, 9, 10, 11, 12, 13] rfl⟩
      · have hlt2 : i + t < nf := by
          rcases Nat.lt_or_ge (i + t) nf with q | q
          · exact q
          · exact absurd ((nI_leI (by omega) (by omega)).mpr q) c_82
        refine lv_aload_n hx hb dX9_measure_85 rfl (lv_at hl 10 rfl) ?_
        refine lv_iload hx hb dX9_measure_86 (lv_at hl 1 rfl) ?_
        refine lv_iload_n hx hb dX9_measure_88 rfl (lv_at hl 11 rfl) ?_
        refine lv_iload_n hx hb dX9_measure_89 rfl (lv_at hl 12 rfl) ?_
        refine dz_kRi (va_runV (As := [_, _, _]) ⟨hx, hb, hml, hown, hts⟩ (c_X9_shown l Z _ _ _ _ _ _ _ _ _ _ _ _ _ _ _ _ _ _ _ _ _ _ ha ho h31 (by omega) hsc hrk) (cwV 3 hts gX9_measure_X9_shown rfl rfl rfl (by decide +kernel) ⟨Nat.le_of_ble_eq_true rfl, Nat.le_of_ble_eq_true rfl⟩) (dz_P.preV hE hS hG ho rfl ha) rfl rfl hl.1 rfl (lv_room (Nat.le_of_ble_eq_true rfl)) dX9_measure_90 ⟨Nat.le_of_ble_eq_true rfl, Nat.le_of_ble_eq_true rfl⟩) ?_
        refine lv_topi (fun v_10 ev_10 => ?_)
        obtain rfl : v_10 = (f31 (30 * i + 6 * sc + rk)) := ev_10
        refine lv_istore (lv' := [(17, .int (f31 (30 * i + 6 * sc + rk))), (16, .int (nI (i + t))), (15, .int (nI i)), (14, .int ((m_nj f30 (fun i => f31 (30 * i + 6 * sc + ot)) (f31 (30 * i + 6 * sc + rk)) i (m_abs (m_times (m_turn (fun j => m_pc j - f8 j) (fun j => m_pr j - f9 j) jo))) (m_abs (m_times (m_turn (fun j => m_pc j - f8 j) (fun j => m_pr j - f9 j) j))) (nI d) (m_ni f30 (fun i => f31 (30 * i + 6 * sc + rk)) (fun i => f31 (30 * i + 6 * sc + ot)) nf (m_abs (m_times (m_turn (fun j => m_pc j - f8 j) (fun j => m_pr j - f9 j) jo))) (m_abs (m_times (m_turn (fun j => m_pc j - f8 j) (fun j => m_pr j - f9 j) j))) (nI d) i) t).2)), (12, .long ((m_nj f30 (fun i => f31 (30 * i + 6 * sc + ot)) (f31 (30 * i + 6 * sc + rk)) i (m_abs (m_times (m_turn (fun j => m_pc j - f8 j) (fun j => m_pr j - f9 j) jo))) (m_abs (m_times (m_turn (fun j => m_pc j - f8 j) (fun j => m_pr j - f9 j) j))) (nI d) (m_ni f30 (fun i => f31 (30 * i + 6 * sc + rk)) (fun i => f31 (30 * i + 6 * sc + ot)) nf (m_abs (m_times (m_turn (fun j => m_pc j - f8 j) (fun j => m_pr j - f9 j) jo))) (m_abs (m_times (m_turn (fun j => m_pc j - f8 j) (fun j => m_pr j - f9 j) j))) (nI d) i) t).1)), (11, .int (nI d)), (9, .long ((m_nb f30 (fun i => f31 (30 * i + 6 * sc + rk)) (fun i => f31 (30 * i + 6 * sc + ot)) nf (m_abs (m_times (m_turn (fun j => m_pc j - f8 j) (fun j => m_pr j - f9 j) jo))) (m_abs (m_times (m_turn (fun j => m_pc j - f8 j) (fun j => m_pr j - f9 j) j))) d).2.2)), (7, .long ((m_nb f30 (fun i => f31 (30 * i + 6 * sc + rk)) (fun i => f31 (30 * i + 6 * sc + ot)) nf (m_abs (m_times (m_turn (fun j => m_pc j - f8 j) (fun j => m_pr j - f9 j) jo))) (m_abs (m_times (m_turn (fun j => m_pc j - f8 j) (fun j => m_pr j - f9 j) j))) d).2.1)), (6, .int ((m_nb f30 (fun i => f31 (30 * i + 6 * sc + rk)) (fun i => f31 (30 * i + 6 * sc + ot)) nf (m_abs (m_times (m_turn (fun j => m_pc j - f8 j) (fun j => m_pr j - f9 j) jo))) (m_abs (m_times (m_turn (fun j => m_pc j - f8 j) (fun j => m_pr j - f9 j) j))) d).1)), (5, .int (m_abs (m_times (m_turn (fun j => m_pc j - f8 j) (fun j => m_pr j - f9 j) jo)))), (4, .int (m_abs (m_times (m_turn (fun j => m_pc j - f8 j) (fun j => m_pr j - f9 j) j)))), (0, .ref aM), (1, .int (nI sc)), (2, .int (nI rk)), (3, .int (nI ot))]) hx hb dX9_measure_93 hl (by decide) rfl (fun ls hl => ?_)
        refine lv_aload_n hx hb dX9_measure_95 rfl (lv_at hl 11 rfl) ?_
        refine lv_iload hx hb dX9_measure_96 (lv_at hl 1 rfl) ?_
        refine lv_iload_n hx hb dX9_measure_98 rfl (lv_at hl 12 rfl) ?_
        refine lv_iload_n hx hb dX9_measure_99 rfl (lv_at hl 14 rfl) ?_
        refine dz_kRi (va_runV (As := [_, _, _]) ⟨hx, hb, hml, hown, hts⟩ (c_X9_shown l Z _ _ _ _ _ _ _ _ _ _ _ _ _ _ _ _ _ _ _ _ _ _ ha ho h31 (by omega) hsc hot) (cwV 3 hts gX9_measure_X9_shown rfl rfl rfl (by decide +kernel) ⟨Nat.le_of_ble_eq_true rfl, Nat.le_of_ble_eq_true rfl⟩) (dz_P.preV hE hS hG ho rfl ha) rfl rfl hl.1 rfl (lv_room (Nat.le_of_ble_eq_true rfl)) dX9_measure_100 ⟨Nat.le_of_ble_eq_true rfl, Nat.le_of_ble_eq_true rfl⟩) ?_
        refine lv_topi (fun v_11 ev_11 => ?_)
        obtain rfl : v_11 = (f31 (30 * (i + t) + 6 * sc + ot)) := ev_11
        refine lv_istore (lv' := [(18, .int (f31 (30 * (i + t) + 6 * sc + ot))), (17, .int (f31 (30 * i + 6 * sc + rk))), (16, .int (nI (i + t))), (15, .int (nI i)), (14, .int ((m_nj f30 (fun i => f31 (30 * i + 6 * sc + ot)) (f31 (30 * i + 6 * sc + rk)) i (m_abs (m_times (m_turn (fun j => m_pc j - f8 j) (fun j => m_pr j - f9 j) jo))) (m_abs (m_times (m_turn (fun j => m_pc j - f8 j) (fun j => m_pr j - f9 j) j))) (nI d) (m_ni f30 (fun i => f31 (30 * i + 6 * sc + rk)) (fun i => f31 (30 * i + 6 * sc + ot)) nf (m_abs (m_times (m_turn (fun j => m_pc j - f8 j) (fun j => m_pr j - f9 j) jo))) (m_abs (m_times (m_turn (fun j => m_pc j - f8 j) (fun j => m_pr j - f9 j) j))) (nI d) i) t).2)), (12, .long ((m_nj f30 (fun i => f31 (30 * i + 6 * sc + ot)) (f31 (30 * i + 6 * sc + rk)) i (m_abs (m_times (m_turn (fun j => m_pc j - f8 j) (fun j => m_pr j - f9 j) jo))) (m_abs (m_times (m_turn (fun j => m_pc j - f8 j) (fun j => m_pr j - f9 j) j))) (nI d) (m_ni f30 (fun i => f31 (30 * i + 6 * sc + rk)) (fun i => f31 (30 * i + 6 * sc + ot)) nf (m_abs (m_times (m_turn (fun j => m_pc j - f8 j) (fun j => m_pr j - f9 j) jo))) (m_abs (m_times (m_turn (fun j => m_pc j - f8 j) (fun j => m_pr j - f9 j) j))) (nI d) i) t).1)), (11, .int (nI d)), (9, .long ((m_nb f30 (fun i => f31 (30 * i + 6 * sc + rk)) (fun i => f31 (30 * i + 6 * sc + ot)) nf (m_abs (m_times (m_turn (fun j => m_pc j - f8 j) (fun j => m_pr j - f9 j) jo))) (m_abs (m_times (m_turn (fun j => m_pc j - f8 j) (fun j => m_pr j - f9 j) j))) d).2.2)), (7, .long ((m_nb f30 (fun i => f31 (30 * i + 6 * sc + rk)) (fun i => f31 (30 * i + 6 * sc + ot)) nf (m_abs (m_times (m_turn (fun j => m_pc j - f8 j) (fun j => m_pr j - f9 j) jo))) (m_abs (m_times (m_turn (fun j => m_pc j - f8 j) (fun j => m_pr j - f9 j) j))) d).2.1)), (6, .int ((m_nb f30 (fun i => f31 (30 * i + 6 * sc + rk)) (fun i => f31 (30 * i + 6 * sc + ot)) nf (m_abs (m_times (m_turn (fun j => m_pc j - f8 j) (fun j => m_pr j - f9 j) jo))) (m_abs (m_times (m_turn (fun j => m_pc j - f8 j) (fun j => m_pr j - f9 j) j))) d).1)), (5, .int (m_abs (m_times (m_turn (fun j => m_pc j - f8 j) (fun j => m_pr j - f9 j) jo)))), (4, .int (m_abs (m_times (m_turn (fun j => m_pc j - f8 j) (fun j => m_pr j - f9 j) j)))), (0, .ref aM), (1, .int (nI sc)), (2, .int (nI rk)), (3, .int (nI ot))]) hx hb dX9_measure_103 hl (by decide) rfl (fun ls hl => ?_)
        refine lv_aload_n hx hb dX9_measure_105 rfl (lv_at hl 12 rfl) ?_
        refine dz_get hx hb hts (fun _ h => List.mem_cons_of_mem _ (List.mem_append_right _ h)) hown hE hG ha ho rfl 30 (by decide) (hts _ (List.mem_of_getElem? (i := 2) rfl)) (fun _ h9 => h9) rfl dX9_measure_106 ?_
        refine lv_iload hx hb dX9_measure_109 (lv_at hl 2 rfl) ?_
        refine dz_iald hx hb hE hG rfl h30 (vp_in_nI (by omega) (by decide)) dX9_measure_111 ?_
        refine lv_topi (fun v_12 ev_12 => ?_)
        obtain rfl : v_12 = f30 (i + t) := ev_12.trans (by rw [nI_clamp (by omega)])
        refine lv_aload_n hx hb dX9_measure_112 rfl (lv_at hl 12 rfl) ?_
        refine dz_get hx hb hts (fun _ h => List.mem_cons_of_mem _ (List.mem_append_right _ h)) hown hE hG ha ho rfl 30 (by decide) (hts _ (List.mem_of_getElem? (i := 2) rfl)) (fun _ h9 => h9) rfl dX9_measure_113 ?_
        refine lv_iload hx hb dX9_measure_116 (lv_at hl 3 rfl) ?_
        refine dz_iald hx hb hE hG rfl h30 (vp_in_nI (by omega) (by decide)) dX9_measure_118 ?_
        refine lv_topi (fun v_13 ev_13 => ?_)
        obtain rfl : v_13 = f30 i := ev_13.trans (by rw [nI_clamp (by omega)])
        refine lv_isub hx hb dX9_measure_119 ?_
        refine lv_iload hx hb dX9_measure_120 (lv_at hl 6 rfl) ?_
        refine lv_icmp_ne (tgt := 177) hx hb dX9_measure_122 (by decide) (fun c_122 => ?_) (fun c_122 => ?_)
        · have hst : m_nj f30 (fun i => f31 (30 * i + 6 * sc + ot)) (f31 (30 * i + 6 * sc + rk)) i (m_abs (m_times (m_turn (fun j => m_pc j - f8 j) (fun j => m_pr j - f9 j) jo))) (m_abs (m_times (m_turn (fun j => m_pc j - f8 j) (fun j => m_pr j - f9 j) j))) (nI d) (m_ni f30 (fun i => f31 (30 * i + 6 * sc + rk)) (fun i => f31 (30 * i + 6 * sc + ot)) nf (m_abs (m_times (m_turn (fun j => m_pc j - f8 j) (fun j => m_pr j - f9 j) jo))) (m_abs (m_times (m_turn (fun j => m_pc j - f8 j) (fun j => m_pr j - f9 j) j))) (nI d) i) (t + 1) = m_nj f30 (fun i => f31 (30 * i + 6 * sc + ot)) (f31 (30 * i + 6 * sc + rk)) i (m_abs (m_times (m_turn (fun j => m_pc j - f8 j) (fun j => m_pr j - f9 j) jo))) (m_abs (m_times (m_turn (fun j => m_pc j - f8 j) (fun j => m_pr j - f9 j) j))) (nI d) (m_ni f30 (fun i => f31 (30 * i + 6 * sc + rk)) (fun i => f31 (30 * i + 6 * sc + ot)) nf (m_abs (m_times (m_turn (fun j => m_pc j - f8 j) (fun j => m_pr j - f9 j) jo))) (m_abs (m_times (m_turn (fun j => m_pc j - f8 j) (fun j => m_pr j - f9 j) j))) (nI d) i) t := if_neg (fun z => c_122 z.1)
          obtain ⟨v_14, ev_14⟩ : ∃ y : Int32, y = (nI (i + t)) + 1 := ⟨_, rfl⟩
          refine lv_iinc (v := v_14) (lv' := [(16, .int v_14), (18, .int (f31 (30 * (i + t) + 6 * sc + ot))), (17, .int (f31 (30 * i + 6 * sc + rk))), (15, .int (nI i)), (14, .int ((m_nj f30 (fun i => f31 (30 * i + 6 * sc + ot)) (f31 (30 * i + 6 * sc + rk)) i (m_abs (m_times (m_turn (fun j => m_pc j - f8 j) (fun j => m_pr j - f9 j) jo))) (m_abs (m_times (m_turn (fun j => m_pc j - f8 j) (fun j => m_pr j - f9 j) j))) (nI d) (m_ni f30 (fun i => f31 (30 * i + 6 * sc + rk)) (fun i => f31 (30 * i + 6 * sc + ot)) nf (m_abs (m_times (m_turn (fun j => m_pc j - f8 j) (fun j => m_pr j - f9 j) jo))) (m_abs (m_times (m_turn (fun j => m_pc j - f8 j) (fun j => m_pr j - f9 j) j))) (nI d) i) t).2)), (12, .long ((m_nj f30 (fun i => f31 (30 * i + 6 * sc + ot)) (f31 (30 * i + 6 * sc + rk)) i (m_abs (m_times (m_turn (fun j => m_pc j - f8 j) (fun j => m_pr j - f9 j) jo))) (m_abs (m_times (m_turn (fun j => m_pc j - f8 j) (fun j => m_pr j - f9 j) j))) (nI d) (m_ni f30 (fun i => f31 (30 * i + 6 * sc + rk)) (fun i => f31 (30 * i + 6 * sc + ot)) nf (m_abs (m_times (m_turn (fun j => m_pc j - f8 j) (fun j => m_pr j - f9 j) jo))) (m_abs (m_times (m_turn (fun j => m_pc j - f8 j) (fun j => m_pr j - f9 j) j))) (nI d) i) t).1)), (11, .int (nI d)), (9, .long ((m_nb f30 (fun i => f31 (30 * i + 6 * sc + rk)) (fun i => f31 (30 * i + 6 * sc + ot)) nf (m_abs (m_times (m_turn (fun j => m_pc j - f8 j) (fun j => m_pr j - f9 j) jo))) (m_abs (m_times (m_turn (fun j => m_pc j - f8 j) (fun j => m_pr j - f9 j) j))) d).2.2)), (7, .long ((m_nb f30 (fun i => f31 (30 * i + 6 * sc + rk)) (fun i => f31 (30 * i + 6 * sc + ot)) nf (m_abs (m_times (m_turn (fun j => m_pc j - f8 j) (fun j => m_pr j - f9 j) jo))) (m_abs (m_times (m_turn (fun j => m_pc j - f8 j) (fun j => m_pr j - f9 j) j))) d).2.1)), (6, .int ((m_nb f30 (fun i => f31 (30 * i + 6 * sc + rk)) (fun i => f31 (30 * i + 6 * sc + ot)) nf (m_abs (m_times (m_turn (fun j => m_pc j - f8 j) (fun j => m_pr j - f9 j) jo))) (m_abs (m_times (m_turn (fun j => m_pc j - f8 j) (fun j => m_pr j - f9 j) j))) d).1)), (5, .int (m_abs (m_times (m_turn (fun j => m_pc j - f8 j) (fun j => m_pr j - f9 j) jo)))), (4, .int (m_abs (m_times (m_turn (fun j => m_pc j - f8 j) (fun j => m_pr j - f9 j) j)))), (0, .ref aM), (1, .int (nI sc)), (2, .int (nI rk)), (3, .int (nI ot))]) hx hb dX9_measure_177 hl (k := 2) rfl (by rw [ev_14]; rfl) (by decide) rfl (fun ls hl => ?_)
          refine lv_goto (tgt := 76) hx hb dX9_measure_180 (by decide) ?_
          obtain rfl : v_14 = nI (i + (t + 1)) := ev_14.trans (nI_1 (i + t))
          rw [show (m_nj f30 (fun i => f31 (30 * i + 6 * sc + ot)) (f31 (30 * i + 6 * sc + rk)) i (m_abs (m_times (m_turn (fun j => m_pc j - f8 j) (fun j => m_pr j - f9 j) jo))) (m_abs (m_times (m_turn (fun j => m_pc j - f8 j) (fun j => m_pr j - f9 j) j))) (nI d) (m_ni f30 (fun i => f31 (30 * i + 6 * sc + rk)) (fun i => f31 (30 * i + 6 * sc + ot)) nf (m_abs (m_times (m_turn (fun j => m_pc j - f8 j) (fun j => m_pr j - f9 j) jo))) (m_abs (m_times (m_turn (fun j => m_pc j - f8 j) (fun j => m_pr j - f9 j) j))) (nI d) i) t).1 = (m_nj f30 (fun i => f31 (30 * i + 6 * sc + ot)) (f31 (30 * i + 6 * sc + rk)) i (m_abs (m_times (m_turn (fun j => m_pc j - f8 j) (fun j => m_pr j - f9 j) jo))) (m_abs (m_times (m_turn (fun j => m_pc j - f8 j) (fun j => m_pr j - f9 j) j))) (nI d) (m_ni f30 (fun i => f31 (30 * i + 6 * sc + rk)) (fun i => f31 (30 * i + 6 * sc + ot)) nf (m_abs (m_times (m_turn (fun j => m_pc j - f8 j) (fun j => m_pr j - f9 j) jo))) (m_abs (m_times (m_turn (fun j => m_pc j - f8 j) (fun j => m_pr j - f9 j) j))) (nI d) i) (t + 1)).1 from by rw [hst]] at hl
          rw [show (m_nj f30 (fun i => f31 (30 * i + 6 * sc + ot)) (f31 (30 * i + 6 * sc + rk)) i (m_abs (m_times (m_turn (fun j => m_pc j - f8 j) (fun j => m_pr j - f9 j) jo))) (m_abs (m_times (m_turn (fun j => m_pc j - f8 j) (fun j => m_pr j - f9 j) j))) (nI d) (m_ni f30 (fun i => f31 (30 * i + 6 * sc + rk)) (fun i => f31 (30 * i + 6 * sc + ot)) nf (m_abs (m_times (m_turn (fun j => m_pc j - f8 j) (fun j => m_pr j - f9 j) jo))) (m_abs (m_times (m_turn (fun j => m_pc j - f8 j) (fun j => m_pr j - f9 j) j))) (nI d) i) t).2 = (m_nj f30 (fun i => f31 (30 * i + 6 * sc + ot)) (f31 (30 * i + 6 * sc + rk)) i (m_abs (m_times (m_turn (fun j => m_pc j - f8 j) (fun j => m_pr j - f9 j) jo))) (m_abs (m_times (m_turn (fun j => m_pc j - f8 j) (fun j => m_pr j - f9 j) j))) (nI d) (m_ni f30 (fun i => f31 (30 * i + 6 * sc + rk)) (fun i => f31 (30 * i + 6 * sc + ot)) nf (m_abs (m_times (m_turn (fun j => m_pc j - f8 j) (fun j => m_pr j - f9 j) jo))) (m_abs (m_times (m_turn (fun j => m_pc j - f8 j) (fun j => m_pr j - f9 j) j))) (nI d) i) (t + 1)).2 from by rw [hst]] at hl
          exact ih_76 (t + 1, ls) (by first | (dsimp only; omega) | omega) ⟨(by omega), lv_sub hl [0, 3, 4, 5, 6, 7, 8, 9, 10, 11, 12, 13, 14, 15] rfl⟩
        · refine lv_iload hx hb dX9_measure_125 (lv_at hl 1 rfl) ?_
          refine lv_iconst (v := (-1)) hx hb dX9_measure_127 (by decide) ?_
          refine lv_icmp_eq (tgt := 177) hx hb dX9_measure_128 (by decide) (fun c_128 => ?_) (fun c_128 => ?_)
          · have hst : m_nj f30 (fun i => f31 (30 * i + 6 * sc + ot)) (f31 (30 * i + 6 * sc + rk)) i (m_abs (m_times (m_turn (fun j => m_pc j - f8 j) (fun j => m_pr j - f9 j) jo))) (m_abs (m_times (m_turn (fun j => m_pc j - f8 j) (fun j => m_pr j - f9 j) j))) (nI d) (m_ni f30 (fun i => f31 (30 * i + 6 * sc + rk)) (fun i => f31 (30 * i + 6 * sc + ot)) nf (m_abs (m_times (m_turn (fun j => m_pc j - f8 j) (fun j => m_pr j - f9 j) jo))) (m_abs (m_times (m_turn (fun j => m_pc j - f8 j) (fun j => m_pr j - f9 j) j))) (nI d) i) (t + 1) = m_nj f30 (fun i => f31 (30 * i + 6 * sc + ot)) (f31 (30 * i + 6 * sc + rk)) i (m_abs (m_times (m_turn (fun j => m_pc j - f8 j) (fun j => m_pr j - f9 j) jo))) (m_abs (m_times (m_turn (fun j => m_pc j - f8 j) (fun j => m_pr j - f9 j) j))) (nI d) (m_ni f30 (fun i => f31 (30 * i + 6 * sc + rk)) (fun i => f31 (30 * i + 6 * sc + ot)) nf (m_abs (m_times (m_turn (fun j => m_pc j - f8 j) (fun j => m_pr j - f9 j) jo))) (m_abs (m_times (m_turn (fun j => m_pc j - f8 j) (fun j => m_pr j - f9 j) j))) (nI d) i) t := if_neg (fun z => z.2.1 c_128)
            obtain ⟨v_15, ev_15⟩ : ∃ y : Int32, y = (nI (i + t)) + 1 := ⟨_, rfl⟩
            refine lv_iinc (v := v_15) (lv' := [(16, .int v_15), (18, .int (f31 (30 * (i + t) + 6 * sc + ot))), (17, .int (f31 (30 * i + 6 * sc + rk))), (15, .int (nI i)), (14, .int ((m_nj f30 (fun i => f31 (30 * i + 6 * sc + ot)) (f31 (30 * i + 6 * sc + rk)) i (m_abs (m_times (m_turn (fun j => m_pc j - f8 j) (fun j => m_pr j - f9 j) jo))) (m_abs (m_times (m_turn (fun j => m_pc j - f8 j) (fun j => m_pr j - f9 j) j))) (nI d) (m_ni f30 (fun i => f31 (30 * i + 6 * sc + rk)) (fun i => f31 (30 * i + 6 * sc + ot)) nf (m_abs (m_times (m_turn (fun j => m_pc j - f8 j) (fun j => m_pr j - f9 j) jo))) (m_abs (m_times (m_turn (fun j => m_pc j - f8 j) (fun j => m_pr j - f9 j) j))) (nI d) i) t).2)), (12, .long ((m_nj f30 (fun i => f31 (30 * i + 6 * sc + ot)) (f31 (30 * i + 6 * sc + rk)) i (m_abs (m_times (m_turn (fun j => m_pc j - f8 j) (fun j => m_pr j - f9 j) jo))) (m_abs (m_times (m_turn (fun j => m_pc j - f8 j) (fun j => m_pr j - f9 j) j))) (nI d) (m_ni f30 (fun i => f31 (30 * i + 6 * sc + rk)) (fun i => f31 (30 * i + 6 * sc + ot)) nf (m_abs (m_times (m_turn (fun j => m_pc j - f8 j) (fun j => m_pr j - f9 j) jo))) (m_abs (m_times (m_turn (fun j => m_pc j - f8 j) (fun j => m_pr j - f9 j) j))) (nI d) i) t).1)), (11, .int (nI d)), (9, .long ((m_nb f30 (fun i => f31 (30 * i + 6 * sc + rk)) (fun i => f31 (30 * i + 6 * sc + ot)) nf (m_abs (m_times (m_turn (fun j => m_pc j - f8 j) (fun j => m_pr j - f9 j) jo))) (m_abs (m_times (m_turn (fun j => m_pc j - f8 j) (fun j => m_pr j - f9 j) j))) d).2.2)), (7, .long ((m_nb f30 (fun i => f31 (30 * i + 6 * sc + rk)) (fun i => f31 (30 * i + 6 * sc + ot)) nf (m_abs (m_times (m_turn (fun j => m_pc j - f8 j) (fun j => m_pr j - f9 j) jo))) (m_abs (m_times (m_turn (fun j => m_pc j - f8 j) (fun j => m_pr j - f9 j) j))) d).2.1)), (6, .int ((m_nb f30 (fun i => f31 (30 * i + 6 * sc + rk)) (fun i => f31 (30 * i + 6 * sc + ot)) nf (m_abs (m_times (m_turn (fun j => m_pc j - f8 j) (fun j => m_pr j - f9 j) jo))) (m_abs (m_times (m_turn (fun j => m_pc j - f8 j) (fun j => m_pr j - f9 j) j))) d).1)), (5, .int (m_abs (m_times (m_turn (fun j => m_pc j - f8 j) (fun j => m_pr j - f9 j) jo)))), (4, .int (m_abs (m_times (m_turn (fun j => m_pc j - f8 j) (fun j => m_pr j - f9 j) j)))), (0, .ref aM), (1, .int (nI sc)), (2, .int (nI rk)), (3, .int (nI ot))]) hx hb dX9_measure_177 hl (k := 2) rfl (by rw [ev_15]; rfl) (by decide) rfl (fun ls hl => ?_)
            refine lv_goto (tgt := 76) hx hb dX9_measure_180 (by decide) ?_
            obtain rfl : v_15 = nI (i + (t + 1)) := ev_15.trans (nI_1 (i + t))
            rw [show (m_nj f30 (fun i => f31 (30 * i + 6 * sc + ot)) (f31 (30 * i + 6 * sc + rk)) i (m_abs (m_times (m_turn (fun j => m_pc j - f8 j) (fun j => m_pr j - f9 j) jo))) (m_abs (m_times (m_turn (fun j => m_pc j - f8 j) (fun j => m_pr j - f9 j) j))) (nI d) (m_ni f30 (fun i => f31 (30 * i + 6 * sc + rk)) (fun i => f31 (30 * i + 6 * sc + ot)) nf (m_abs (m_times (m_turn (fun j => m_pc j - f8 j) (fun j => m_pr j - f9 j) jo))) (m_abs (m_times (m_turn (fun j => m_pc j - f8 j) (fun j => m_pr j - f9 j) j))) (nI d) i) t).1 = (m_nj f30 (fun i => f31 (30 * i + 6 * sc + ot)) (f31 (30 * i + 6 * sc + rk)) i (m_abs (m_times (m_turn (fun j => m_pc j - f8 j) (fun j => m_pr j - f9 j) jo))) (m_abs (m_times (m_turn (fun j => m_pc j - f8 j) (fun j => m_pr j - f9 j) j))) (nI d) (m_ni f30 (fun i => f31 (30 * i + 6 * sc + rk)) (fun i => f31 (30 * i + 6 * sc + ot)) nf (m_abs (m_times (m_turn (fun j => m_pc j - f8 j) (fun j => m_pr j - f9 j) jo))) (m_abs (m_times (m_turn (fun j => m_pc j - f8 j) (fun j => m_pr j - f9 j) j))) (nI d) i) (t + 1)).1 from by rw [hst]] at hl
            rw [show (m_nj f30 (fun i => f31 (30 * i + 6 * sc + ot)) (f31 (30 * i + 6 * sc + rk)) i (m_abs (m_times (m_turn (fun j => m_pc j - f8 j) (fun j => m_pr j - f9 j) jo))) (m_abs (m_times (m_turn (fun j => m_pc j - f8 j) (fun j => m_pr j - f9 j) j))) (nI d) (m_ni f30 (fun i => f31 (30 * i + 6 * sc + rk)) (fun i => f31 (30 * i + 6 * sc + ot)) nf (m_abs (m_times (m_turn (fun j => m_pc j - f8 j) (fun j => m_pr j - f9 j) jo))) (m_abs (m_times (m_turn (fun j => m_pc j - f8 j) (fun j => m_pr j - f9 j) j))) (nI d) i) t).2 = (m_nj f30 (fun i => f31 (30 * i + 6 * sc + ot)) (f31 (30 * i + 6 * sc + rk)) i (m_abs (m_times (m_turn (fun j => m_pc j - f8 j) (fun j => m_pr j - f9 j) jo))) (m_abs (m_times (m_turn (fun j => m_pc j - f8 j) (fun j => m_pr j - f9 j) j))) (nI d) (m_ni f30 (fun i => f31 (30 * i + 6 * sc + rk)) (fun i => f31 (30 * i + 6 * sc + ot)) nf (m_abs (m_times (m_turn (fun j => m_pc j - f8 j) (fun j => m_pr j - f9 j) jo))) (m_abs (m_times (m_turn (fun j => m_pc j - f8 j) (fun j => m_pr j - f9 j) j))) (nI d) i) (t + 1)).2 from by rw [hst]] at hl
            exact ih_76 (t + 1, ls) (by first | (dsimp only; omega) | omega) ⟨(by omega), lv_sub hl [0, 3, 4, 5, 6, 7, 8, 9, 10, 11, 12, 13, 14, 15] rfl⟩
          · refine lv_iload hx hb dX9_measure_131 (lv_at hl 0 rfl) ?_
            refine lv_iconst (v := (-1)) hx hb dX9_measure_133 (by decide) ?_
            refine lv_icmp_eq (tgt := 177) hx hb dX9_measure_134 (by decide) (fun c_134 => ?_) (fun c_134 => ?_)
            · have hst : m_nj f30 (fun i => f31 (30 * i + 6 * sc + ot)) (f31 (30 * i + 6 * sc + rk)) i (m_abs (m_times (m_turn (fun j => m_pc j - f8 j) (fun j => m_pr j - f9 j) jo))) (m_abs (m_times (m_turn (fun j => m_pc j - f8 j) (fun j => m_pr j - f9 j) j))) (nI d) (m_ni f30 (fun i => f31 (30 * i + 6 * sc + rk)) (fun i => f31 (30 * i + 6 * sc + ot)) nf (m_abs (m_times (m_turn (fun j => m_pc j - f8 j) (fun j => m_pr j - f9 j) jo))) (m_abs (m_times (m_turn (fun j => m_pc j - f8 j) (fun j => m_pr j - f9 j) j))) (nI d) i) (t + 1) = m_nj f30 (fun i => f31 (30 * i + 6 * sc + ot)) (f31 (30 * i + 6 * sc + rk)) i (m_abs (m_times (m_turn (fun j => m_pc j - f8 j) (fun j => m_pr j - f9 j) jo))) (m_abs (m_times (m_turn (fun j => m_pc j - f8 j) (fun j => m_pr j - f9 j) j))) (nI d) (m_ni f30 (fun i => f31 (30 * i + 6 * sc + rk)) (fun i => f31 (30 * i + 6 * sc + ot)) nf (m_abs (m_times (m_turn (fun j => m_pc j - f8 j) (fun j => m_pr j - f9 j) jo))) (m_abs (m_times (m_turn (fun j => m_pc j - f8 j) (fun j => m_pr j - f9 j) j))) (nI d) i) t := if_neg (fun z => z.2.2 c_134)
              obtain ⟨v_16, ev_16⟩ : ∃ y : Int32, y = (nI (i + t)) + 1 := ⟨_, rfl⟩
              refine lv_iinc (v := v_16) (lv' := [(16, .int v_16), (18, .int (f31 (30 * (i + t) + 6 * sc + ot))), (17, .int (f31 (30 * i + 6 * sc + rk))), (15, .int (nI i)), (14, .int ((m_nj f30 (fun i => f31 (30 * i + 6 * sc + ot)) (f31 (30 * i + 6 * sc + rk)) i (m_abs (m_times (m_turn (fun j => m_pc j - f8 j) (fun j => m_pr j - f9 j) jo))) (m_abs (m_times (m_turn (fun j => m_pc j - f8 j) (fun j => m_pr j - f9 j) j))) (nI d) (m_ni f30 (fun i => f31 (30 * i + 6 * sc + rk)) (fun i => f31 (30 * i + 6 * sc + ot)) nf (m_abs (m_times (m_turn (fun j => m_pc j - f8 j) (fun j => m_pr j - f9 j) jo))) (m_abs (m_times (m_turn (fun j => m_pc j - f8 j) (fun j => m_pr j - f9 j) j))) (nI d) i) t).2)), (12, .long ((m_nj f30 (fun i => f31 (30 * i + 6 * sc + ot)) (f31 (30 * i + 6 * sc + rk)) i (m_abs (m_times (m_turn (fun j => m_pc j - f8 j) (fun j => m_pr j - f9 j) jo))) (m_abs (m_times (m_turn (fun j => m_pc j - f8 j) (fun j => m_pr j - f9 j) j))) (nI d) (m_ni f30 (fun i => f31 (30 * i + 6 * sc + rk)) (fun i => f31 (30 * i + 6 * sc + ot)) nf (m_abs (m_times (m_turn (fun j => m_pc j - f8 j) (fun j => m_pr j - f9 j) jo))) (m_abs (m_times (m_turn (fun j => m_pc j - f8 j) (fun j => m_pr j - f9 j) j))) (nI d) i) t).1)), (11, .int (nI d)), (9, .long ((m_nb f30 (fun i => f31 (30 * i + 6 * sc + rk)) (fun i => f31 (30 * i + 6 * sc + ot)) nf (m_abs (m_times (m_turn (fun j => m_pc j - f8 j) (fun j => m_pr j - f9 j) jo))) (m_abs (m_times (m_turn (fun j => m_pc j - f8 j) (fun j => m_pr j - f9 j) j))) d).2.2)), (7, .long ((m_nb f30 (fun i => f31 (30 * i + 6 * sc + rk)) (fun i => f31 (30 * i + 6 * sc + ot)) nf (m_abs (m_times (m_turn (fun j => m_pc j - f8 j) (fun j => m_pr j - f9 j) jo))) (m_abs (m_times (m_turn (fun j => m_pc j - f8 j) (fun j => m_pr j - f9 j) j))) d).2.1)), (6, .int ((m_nb f30 (fun i => f31 (30 * i + 6 * sc + rk)) (fun i => f31 (30 * i + 6 * sc + ot)) nf (m_abs (m_times (m_turn (fun j => m_pc j - f8 j) (fun j => m_pr j - f9 j) jo))) (m_abs (m_times (m_turn (fun j => m_pc j - f8 j) (fun j => m_pr j - f9 j) j))) d).1)), (5, .int (m_abs (m_times (m_turn (fun j => m_pc j - f8 j) (fun j => m_pr j - f9 j) jo)))), (4, .int (m_abs (m_times (m_turn (fun j => m_pc j - f8 j) (fun j => m_pr j - f9 j) j)))), (0, .ref aM), (1, .int (nI sc)), (2, .int (nI rk)), (3, .int (nI ot))]) hx hb dX9_measure_177 hl (k := 2) rfl (by rw [ev_16]; rfl) (by decide) rfl (fun ls hl => ?_)
              refine lv_goto (tgt := 76) hx hb dX9_measure_180 (by decide) ?_
              obtain rfl : v_16 = nI (i + (t + 1)) := ev_16.trans (nI_1 (i + t))
              rw [show (m_nj f30 (fun i => f31 (30 * i + 6 * sc + ot)) (f31 (30 * i + 6 * sc + rk)) i (m_abs (m_times (m_turn (fun j => m_pc j - f8 j) (fun j => m_pr j - f9 j) jo))) (m_abs (m_times (m_turn (fun j => m_pc j - f8 j) (fun j => m_pr j - f9 j) j))) (nI d) (m_ni f30 (fun i => f31 (30 * i + 6 * sc + rk)) (fun i => f31 (30 * i + 6 * sc + ot)) nf (m_abs (m_times (m_turn (fun j => m_pc j - f8 j) (fun j => m_pr j - f9 j) jo))) (m_abs (m_times (m_turn (fun j => m_pc j - f8 j) (fun j => m_pr j - f9 j) j))) (nI d) i) t).1 = (m_nj f30 (fun i => f31 (30 * i + 6 * sc + ot)) (f31 (30 * i + 6 * sc + rk)) i (m_abs (m_times (m_turn (fun j => m_pc j - f8 j) (fun j => m_pr j - f9 j) jo))) (m_abs (m_times (m_turn (fun j => m_pc j - f8 j) (fun j => m_pr j - f9 j) j))) (nI d) (m_ni f30 (fun i => f31 (30 * i + 6 * sc + rk)) (fun i => f31 (30 * i + 6 * sc + ot)) nf (m_abs (m_times (m_turn (fun j => m_pc j - f8 j) (fun j => m_pr j - f9 j) jo))) (m_abs (m_times (m_turn (fun j => m_pc j - f8 j) (fun j => m_pr j - f9 j) j))) (nI d) i) (t + 1)).1 from by rw [hst]] at hl
              rw [show (m_nj f30 (fun i => f31 (30 * i + 6 * sc + ot)) (f31 (30 * i + 6 * sc + rk)) i (m_abs (m_times (m_turn (fun j => m_pc j - f8 j) (fun j => m_pr j - f9 j) jo))) (m_abs (m_times (m_turn (fun j => m_pc j - f8 j) (fun j => m_pr j - f9 j) j))) (nI d) (m_ni f30 (fun i => f31 (30 * i + 6 * sc + rk)) (fun i => f31 (30 * i + 6 * sc + ot)) nf (m_abs (m_times (m_turn (fun j => m_pc j - f8 j) (fun j => m_pr j - f9 j) jo))) (m_abs (m_times (m_turn (fun j => m_pc j - f8 j) (fun j => m_pr j - f9 j) j))) (nI d) i) t).2 = (m_nj f30 (fun i => f31 (30 * i + 6 * sc + ot)) (f31 (30 * i + 6 * sc + rk)) i (m_abs (m_times (m_turn (fun j => m_pc j - f8 j) (fun j => m_pr j - f9 j) jo))) (m_abs (m_times (m_turn (fun j => m_pc j - f8 j) (fun j => m_pr j - f9 j) j))) (nI d) (m_ni f30 (fun i => f31 (30 * i + 6 * sc + rk)) (fun i => f31 (30 * i + 6 * sc + ot)) nf (m_abs (m_times (m_turn (fun j => m_pc j - f8 j) (fun j => m_pr j - f9 j) jo))) (m_abs (m_times (m_turn (fun j => m_pc j - f8 j) (fun j => m_pr j - f9 j) j))) (nI d) i) (t + 1)).2 from by rw [hst]] at hl
              exact ih_76 (t + 1, ls) (by first | (dsimp only; omega) | omega) ⟨(by omega), lv_sub hl [0, 3, 4, 5, 6, 7, 8, 9, 10, 11, 12, 13, 14, 15] rfl⟩
            · refine lv_iload hx hb dX9_measure_137 (lv_at hl 1 rfl) ?_
              refine lv_i2l hx hb dX9_measure_139 rfl ?_
              refine lv_iload hx hb dX9_measure_140 (lv_at hl 10 rfl) ?_
              refine lv_i2l hx hb dX9_measure_142 rfl ?_
              refine lv_lmul hx hb dX9_measure_143 ?_
              refine lv_iload hx hb dX9_measure_144 (lv_at hl 0 rfl) ?_
              refine lv_i2l hx hb dX9_measure_146 rfl ?_
              refine lv_iload hx hb dX9_measure_147 (lv_at hl 11 rfl) ?_
              refine lv_i2l hx hb dX9_measure_149 rfl ?_
              refine lv_lmul hx hb dX9_measure_150 ?_
              refine lv_lsub hx hb dX9_measure_151 ?_
              refine lv_topl (fun vo evo => ?_)
              refine lv_lstore (lv' := [(19, .long vo), (18, .int (f31 (30 * (i + t) + 6 * sc + ot))), (17, .int (f31 (30 * i + 6 * sc + rk))), (16, .int (nI (i + t))), (15, .int (nI i)), (14, .int ((m_nj f30 (fun i => f31 (30 * i + 6 * sc + ot)) (f31 (30 * i + 6 * sc + rk)) i (m_abs (m_times (m_turn (fun j => m_pc j - f8 j) (fun j => m_pr j - f9 j) jo))) (m_abs (m_times (m_turn (fun j => m_pc j - f8 j) (fun j => m_pr j - f9 j) j))) (nI d) (m_ni f30 (fun i => f31 (30 * i + 6 * sc + rk)) (fun i => f31 (30 * i + 6 * sc + ot)) nf (m_abs (m_times (m_turn (fun j => m_pc j - f8 j) (fun j => m_pr j - f9 j) jo))) (m_abs (m_times (m_turn (fun j => m_pc j - f8 j) (fun j => m_pr j - f9 j) j))) (nI d) i) t).2)), (12, .long ((m_nj f30 (fun i => f31 (30 * i + 6 * sc + ot)) (f31 (30 * i + 6 * sc + rk)) i (m_abs (m_times (m_turn (fun j => m_pc j - f8 j) (fun j => m_pr j - f9 j) jo))) (m_abs (m_times (m_turn (fun j => m_pc j - f8 j) (fun j => m_pr j - f9 j) j))) (nI d) (m_ni f30 (fun i => f31 (30 * i + 6 * sc + rk)) (fun i => f31 (30 * i + 6 * sc + ot)) nf (m_abs (m_times (m_turn (fun j => m_pc j - f8 j) (fun j => m_pr j - f9 j) jo))) (m_abs (m_times (m_turn (fun j => m_pc j - f8 j) (fun j => m_pr j - f9 j) j))) (nI d) i) t).1)), (11, .int (nI d)), (9, .long ((m_nb f30 (fun i => f31 (30 * i + 6 * sc + rk)) (fun i => f31 (30 * i + 6 * sc + ot)) nf (m_abs (m_times (m_turn (fun j => m_pc j - f8 j) (fun j => m_pr j - f9 j) jo))) (m_abs (m_times (m_turn (fun j => m_pc j - f8 j) (fun j => m_pr j - f9 j) j))) d).2.2)), (7, .long ((m_nb f30 (fun i => f31 (30 * i + 6 * sc + rk)) (fun i => f31 (30 * i + 6 * sc + ot)) nf (m_abs (m_times (m_turn (fun j => m_pc j - f8 j) (fun j => m_pr j - f9 j) jo))) (m_abs (m_times (m_turn (fun j => m_pc j - f8 j) (fun j => m_pr j - f9 j) j))) d).2.1)), (6, .int ((m_nb f30 (fun i => f31 (30 * i + 6 * sc + rk)) (fun i => f31 (30 * i + 6 * sc + ot)) nf (m_abs (m_times (m_turn (fun j => m_pc j - f8 j) (fun j => m_pr j - f9 j) jo))) (m_abs (m_times (m_turn (fun j => m_pc j - f8 j) (fun j => m_pr j - f9 j) j))) d).1)), (5, .int (m_abs (m_times (m_turn (fun j => m_pc j - f8 j) (fun j => m_pr j - f9 j) jo)))), (4, .int (m_abs (m_times (m_turn (fun j => m_pc j - f8 j) (fun j => m_pr j - f9 j) j)))), (0, .ref aM), (1, .int (nI sc)), (2, .int (nI rk)), (3, .int (nI ot))]) hx hb dX9_measure_152 hl (by decide) rfl (fun ls hl => ?_)
              refine lv_lload hx hb dX9_measure_154 (lv_at hl 6 rfl) ?_
              refine lv_lload hx hb dX9_measure_156 (lv_at hl 0 rfl) ?_
              refine lv_lconst (v := 0) hx hb dX9_measure_158 (by decide) ?_
              refine W.lcmp hx hb dX9_measure_159 ?_
              refine lv_if_ge (tgt := 169) hx hb dX9_measure_160 (by decide) (fun c_160 => ?_) (fun c_160 => ?_)
              · have hof : m_off (f31 (30 * i + 6 * sc + rk)) (f31 (30 * (i + t) + 6 * sc + ot)) (m_abs (m_times (m_turn (fun j => m_pc j - f8 j) (fun j => m_pr j - f9 j) jo))) (m_abs (m_times (m_turn (fun j => m_pc j - f8 j) (fun j => m_pr j - f9 j) j))) = vo := by
                  unfold m_off m_abl
                  rw [← evo]
                  exact if_neg (Int64.not_lt.mpr ((lg_cmp_ge _ _).mp c_160))
                have hst : m_nj f30 (fun i => f31 (30 * i + 6 * sc + ot)) (f31 (30 * i + 6 * sc + rk)) i (m_abs (m_times (m_turn (fun j => m_pc j - f8 j) (fun j => m_pr j - f9 j) jo))) (m_abs (m_times (m_turn (fun j => m_pc j - f8 j) (fun j => m_pr j - f9 j) j))) (nI d) (m_ni f30 (fun i => f31 (30 * i + 6 * sc + rk)) (fun i => f31 (30 * i + 6 * sc + ot)) nf (m_abs (m_times (m_turn (fun j => m_pc j - f8 j) (fun j => m_pr j - f9 j) jo))) (m_abs (m_times (m_turn (fun j => m_pc j - f8 j) (fun j => m_pr j - f9 j) j))) (nI d) i) (t + 1) = ((m_nj f30 (fun i => f31 (30 * i + 6 * sc + ot)) (f31 (30 * i + 6 * sc + rk)) i (m_abs (m_times (m_turn (fun j => m_pc j - f8 j) (fun j => m_pr j - f9 j) jo))) (m_abs (m_times (m_turn (fun j => m_pc j - f8 j) (fun j => m_pr j - f9 j) j))) (nI d) (m_ni f30 (fun i => f31 (30 * i + 6 * sc + rk)) (fun i => f31 (30 * i + 6 * sc + ot)) nf (m_abs (m_times (m_turn (fun j => m_pc j - f8 j) (fun j => m_pr j - f9 j) jo))) (m_abs (m_times (m_turn (fun j => m_pc j - f8 j) (fun j => m_pr j - f9 j) j))) (nI d) i) t).1 + vo, (m_nj f30 (fun i => f31 (30 * i + 6 * sc + ot)) (f31 (30 * i + 6 * sc + rk)) i (m_abs (m_times (m_turn (fun j => m_pc j - f8 j) (fun j => m_pr j - f9 j) jo))) (m_abs (m_times (m_turn (fun j => m_pc j - f8 j) (fun j => m_pr j - f9 j) j))) (nI d) (m_ni f30 (fun i => f31 (30 * i + 6 * sc + rk)) (fun i => f31 (30 * i + 6 * sc + ot)) nf (m_abs (m_times (m_turn (fun j => m_pc j - f8 j) (fun j => m_pr j - f9 j) jo))) (m_abs (m_times (m_turn (fun j => m_pc j - f8 j) (fun j => m_pr j - f9 j) j))) (nI d) i) t).2 + 1) := (if_pos ⟨c_122, c_128, c_134⟩).trans (by rw [← hof])
                refine lv_lload hx hb dX9_measure_169 (lv_at hl 0 rfl) ?_
                refine lv_ladd hx hb dX9_measure_171 ?_
                refine lv_topl (fun v_17 ev_17 => ?_)
                refine lv_lstore (lv' := [(12, .long v_17), (19, .long vo), (18, .int (f31 (30 * (i + t) + 6 * sc + ot))), (17, .int (f31 (30 * i + 6 * sc + rk))), (16, .int (nI (i + t))), (15, .int (nI i)), (14, .int ((m_nj f30 (fun i => f31 (30 * i + 6 * sc + ot)) (f31 (30 * i + 6 * sc + rk)) i (m_abs (m_times (m_turn (fun j => m_pc j - f8 j) (fun j => m_pr j - f9 j) jo))) (m_abs (m_times (m_turn (fun j => m_pc j - f8 j) (fun j => m_pr j - f9 j) j))) (nI d) (m_ni f30 (fun i => f31 (30 * i + 6 * sc + rk)) (fun i => f31 (30 * i + 6 * sc + ot)) nf (m_abs (m_times (m_turn (fun j => m_pc j - f8 j) (fun j => m_pr j - f9 j) jo))) (m_abs (m_times (m_turn (fun j => m_pc j - f8 j) (fun j => m_pr j - f9 j) j))) (nI d) i) t).2)), (11, .int (nI d)), (9, .long ((m_nb f30 (fun i => f31 (30 * i + 6 * sc + rk)) (fun i => f31 (30 * i + 6 * sc + ot)) nf (m_abs (m_times (m_turn (fun j => m_pc j - f8 j) (fun j => m_pr j - f9 j) jo))) (m_abs (m_times (m_turn (fun j => m_pc j - f8 j) (fun j => m_pr j - f9 j) j))) d).2.2)), (7, .long ((m_nb f30 (fun i => f31 (30 * i + 6 * sc + rk)) (fun i => f31 (30 * i + 6 * sc + ot)) nf (m_abs (m_times (m_turn (fun j => m_pc j - f8 j) (fun j => m_pr j - f9 j) jo))) (m_abs (m_times (m_turn (fun j => m_pc j - f8 j) (fun j => m_pr j - f9 j) j))) d).2.1)), (6, .int ((m_nb f30 (fun i => f31 (30 * i + 6 * sc + rk)) (fun i => f31 (30 * i + 6 * sc + ot)) nf (m_abs (m_times (m_turn (fun j => m_pc j - f8 j) (fun j => m_pr j - f9 j) jo))) (m_abs (m_times (m_turn (fun j => m_pc j - f8 j) (fun j => m_pr j - f9 j) j))) d).1)), (5, .int (m_abs (m_times (m_turn (fun j => m_pc j - f8 j) (fun j => m_pr j - f9 j) jo)))), (4, .int (m_abs (m_times (m_turn (fun j => m_pc j - f8 j) (fun j => m_pr j - f9 j) j)))), (0, .ref aM), (1, .int (nI sc)), (2, .int (nI rk)), (3, .int (nI ot))]) hx hb dX9_measure_172 hl (by decide) rfl (fun ls hl => ?_)
                obtain ⟨v_18, ev_18⟩ : ∃ y : Int32, y = (m_nj f30 (fun i => f31 (30 * i + 6 * sc + ot)) (f31 (30 * i + 6 * sc + rk)) i (m_abs (m_times (m_turn (fun j => m_pc j - f8 j) (fun j => m_pr j - f9 j) jo))) (m_abs (m_times (m_turn (fun j => m_pc j - f8 j) (fun j => m_pr j - f9 j) j))) (nI d) (m_ni f30 (fun i => f31 (30 * i + 6 * sc + rk)) (fun i => f31 (30 * i + 6 * sc + ot)) nf (m_abs (m_times (m_turn (fun j => m_pc j - f8 j) (fun j => m_pr j - f9 j) jo))) (m_abs (m_times (m_turn (fun j => m_pc j - f8 j) (fun j => m_pr j - f9 j) j))) (nI d) i) t).2 + 1 := ⟨_, rfl⟩
                refine lv_iinc (v := v_18) (lv' := [(14, .int v_18), (12, .long v_17), (19, .long vo), (18, .int (f31 (30 * (i + t) + 6 * sc + ot))), (17, .int (f31 (30 * i + 6 * sc + rk))), (16, .int (nI (i + t))), (15, .int (nI i)), (11, .int (nI d)), (9, .long ((m_nb f30 (fun i => f31 (30 * i + 6 * sc + rk)) (fun i => f31 (30 * i + 6 * sc + ot)) nf (m_abs (m_times (m_turn (fun j => m_pc j - f8 j) (fun j => m_pr j - f9 j) jo))) (m_abs (m_times (m_turn (fun j => m_pc j - f8 j) (fun j => m_pr j - f9 j) j))) d).2.2)), (7, .long ((m_nb f30 (fun i => f31 (30 * i + 6 * sc + rk)) (fun i => f31 (30 * i + 6 * sc + ot)) nf (m_abs (m_times (m_turn (fun j => m_pc j - f8 j) (fun j => m_pr j - f9 j) jo))) (m_abs (m_times (m_turn (fun j => m_pc j - f8 j) (fun j => m_pr j - f9 j) j))) d).2.1)), (6, .int ((m_nb f30 (fun i => f31 (30 * i + 6 * sc + rk)) (fun i => f31 (30 * i + 6 * sc + ot)) nf (m_abs (m_times (m_turn (fun j => m_pc j - f8 j) (fun j => m_pr j - f9 j) jo))) (m_abs (m_times (m_turn (fun j => m_pc j - f8 j) (fun j => m_pr j - f9 j) j))) d).1)), (5, .int (m_abs (m_times (m_turn (fun j => m_pc j - f8 j) (fun j => m_pr j - f9 j) jo)))), (4, .int (m_abs (m_times (m_turn (fun j => m_pc j - f8 j) (fun j => m_pr j - f9 j) j)))), (0, .ref aM), (1, .int (nI sc)), (2, .int (nI rk)), (3, .int (nI ot))]) hx hb dX9_measure_174 hl (k := 6) rfl (by rw [ev_18]; rfl) (by decide) rfl (fun ls hl => ?_)
                obtain ⟨v_19, ev_19⟩ : ∃ y : Int32, y = (nI (i + t)) + 1 := ⟨_, rfl⟩
                refine lv_iinc (v := v_19) (lv' := [(16, .int v_19), (14, .int v_18), (12, .long v_17), (19, .long vo), (18, .int (f31 (30 * (i + t) + 6 * sc + ot))), (17, .int (f31 (30 * i + 6 * sc + rk))), (15, .int (nI i)), (11, .int (nI d)), (9, .long ((m_nb f30 (fun i => f31 (30 * i + 6 * sc + rk)) (fun i => f31 (30 * i + 6 * sc + ot)) nf (m_abs (m_times (m_turn (fun j => m_pc j - f8 j) (fun j => m_pr j - f9 j) jo))) (m_abs (m_times (m_turn (fun j => m_pc j - f8 j) (fun j => m_pr j - f9 j) j))) d).2.2)), (7, .long ((m_nb f30 (fun i => f31 (30 * i + 6 * sc + rk)) (fun i => f31 (30 * i + 6 * sc + ot)) nf (m_abs (m_times (m_turn (fun j => m_pc j - f8 j) (fun j => m_pr j - f9 j) jo))) (m_abs (m_times (m_turn (fun j => m_pc j - f8 j) (fun j => m_pr j - f9 j) j))) d).2.1)), (6, .int ((m_nb f30 (fun i => f31 (30 * i + 6 * sc + rk)) (fun i => f31 (30 * i + 6 * sc + ot)) nf (m_abs (m_times (m_turn (fun j => m_pc j - f8 j) (fun j => m_pr j - f9 j) jo))) (m_abs (m_times (m_turn (fun j => m_pc j - f8 j) (fun j => m_pr j - f9 j) j))) d).1)), (5, .int (m_abs (m_times (m_turn (fun j => m_pc j - f8 j) (fun j => m_pr j - f9 j) jo)))), (4, .int (m_abs (m_times (m_turn (fun j => m_pc j - f8 j) (fun j => m_pr j - f9 j) j)))), (0, .ref aM), (1, .int (nI sc)), (2, .int (nI rk)), (3, .int (nI ot))]) hx hb dX9_measure_177 hl (k := 5) rfl (by rw [ev_19]; rfl) (by decide) rfl (fun ls hl => ?_)
                refine lv_goto (tgt := 76) hx hb dX9_measure_180 (by decide) ?_
                obtain rfl : v_19 = nI (i + (t + 1)) := ev_19.trans (nI_1 (i + t))
                obtain rfl : v_17 = (m_nj f30 (fun i => f31 (30 * i + 6 * sc + ot)) (f31 (30 * i + 6 * sc + rk)) i (m_abs (m_times (m_turn (fun j => m_pc j - f8 j) (fun j => m_pr j - f9 j) jo))) (m_abs (m_times (m_turn (fun j => m_pc j - f8 j) (fun j => m_pr j - f9 j) j))) (nI d) (m_ni f30 (fun i => f31 (30 * i + 6 * sc + rk)) (fun i => f31 (30 * i + 6 * sc + ot)) nf (m_abs (m_times (m_turn (fun j => m_pc j - f8 j) (fun j => m_pr j - f9 j) jo))) (m_abs (m_times (m_turn (fun j => m_pc j - f8 j) (fun j => m_pr j - f9 j) j))) (nI d) i) (t + 1)).1 := ev_17.trans (by rw [hst])
                obtain rfl : v_18 = (m_nj f30 (fun i => f31 (30 * i + 6 * sc + ot)) (f31 (30 * i + 6 * sc + rk)) i (m_abs (m_times (m_turn (fun j => m_pc j - f8 j) (fun j => m_pr j - f9 j) jo))) (m_abs (m_times (m_turn (fun j => m_pc j - f8 j) (fun j => m_pr j - f9 j) j))) (nI d) (m_ni f30 (fun i => f31 (30 * i + 6 * sc + rk)) (fun i => f31 (30 * i + 6 * sc + ot)) nf (m_abs (m_times (m_turn (fun j => m_pc j - f8 j) (fun j => m_pr j - f9 j) jo))) (m_abs (m_times (m_turn (fun j => m_pc j - f8 j) (fun j => m_pr j - f9 j) j))) (nI d) i) (t + 1)).2 := ev_18.trans (by rw [hst])
                exact ih_76 (t + 1, ls) (by first | (dsimp only; omega) | omega) ⟨(by omega), lv_sub hl [0, 6, 1, 2, 7, 8, 9, 10, 11, 12, 13, 14, 15, 16] rfl⟩
              · have hof : m_off (f31 (30 * i + 6 * sc + rk)) (f31 (30 * (i + t) + 6 * sc + ot)) (m_abs (m_times (m_turn (fun j => m_pc j - f8 j) (fun j => m_pr j - f9 j) jo))) (m_abs (m_times (m_turn (fun j => m_pc j - f8 j) (fun j => m_pr j - f9 j) j))) = -vo := by
                  unfold m_off m_abl
                  rw [← evo]
                  exact if_pos (Int64.not_le.mp (fun z => c_160 ((lg_cmp_ge _ _).mpr z)))
                have hst : m_nj f30 (fun i => f31 (30 * i + 6 * sc + ot)) (f31 (30 * i + 6 * sc + rk)) i (m_abs (m_times (m_turn (fun j => m_pc j - f8 j) (fun j => m_pr j - f9 j) jo))) (m_abs (m_times (m_turn (fun j => m_pc j - f8 j) (fun j => m_pr j - f9 j) j))) (nI d) (m_ni f30 (fun i => f31 (30 * i + 6 * sc + rk)) (fun i => f31 (30 * i + 6 * sc + ot)) nf (m_abs (m_times (m_turn (fun j => m_pc j - f8 j) (fun j => m_pr j - f9 j) jo))) (m_abs (m_times (m_turn (fun j => m_pc j - f8 j) (fun j => m_pr j - f9 j) j))) (nI d) i) (t + 1) = ((m_nj f30 (fun i => f31 (30 * i + 6 * sc + ot)) (f31 (30 * i + 6 * sc + rk)) i (m_abs (m_times (m_turn (fun j => m_pc j - f8 j) (fun j => m_pr j - f9 j) jo))) (m_abs (m_times (m_turn (fun j => m_pc j - f8 j) (fun j => m_pr j - f9 j) j))) (nI d) (m_ni f30 (fun i => f31 (30 * i + 6 * sc + rk)) (fun i => f31 (30 * i + 6 * sc + ot)) nf (m_abs (m_times (m_turn (fun j => m_pc j - f8 j) (fun j => m_pr j - f9 j) jo))) (m_abs (m_times (m_turn (fun j => m_pc j - f8 j) (fun j => m_pr j - f9 j) j))) (nI d) i) t).1 + -vo, (m_nj f30 (fun i => f31 (30 * i + 6 * sc + ot)) (f31 (30 * i + 6 * sc + rk)) i (m_abs (m_times (m_turn (fun j => m_pc j - f8 j) (fun j => m_pr j - f9 j) jo))) (m_abs (m_times (m_turn (fun j => m_pc j - f8 j) (fun j => m_pr j - f9 j) j))) (nI d) (m_ni f30 (fun i => f31 (30 * i + 6 * sc + rk)) (fun i => f31 (30 * i + 6 * sc + ot)) nf (m_abs (m_times (m_turn (fun j => m_pc j - f8 j) (fun j => m_pr j - f9 j) jo))) (m_abs (m_times (m_turn (fun j => m_pc j - f8 j) (fun j => m_pr j - f9 j) j))) (nI d) i) t).2 + 1) := (if_pos ⟨c_122, c_128, c_134⟩).trans (by rw [← hof])
                refine lv_lload hx hb dX9_measure_163 (lv_at hl 0 rfl) ?_
                refine lv_lneg hx hb dX9_measure_165 ?_
                refine lv_goto (tgt := 171) hx hb dX9_measure_166 (by decide) ?_
                refine lv_ladd hx hb dX9_measure_171 ?_
                refine lv_topl (fun v_20 ev_20 => ?_)
                refine lv_lstore (lv' := [(12, .long v_20), (19, .long vo), (18, .int (f31 (30 * (i + t) + 6 * sc + ot))), (17, .int (f31 (30 * i + 6 * sc + rk))), (16, .int (nI (i + t))), (15, .int (nI i)), (14, .int ((m_nj f30 (fun i => f31 (30 * i + 6 * sc + ot)) (f31 (30 * i + 6 * sc + rk)) i (m_abs (m_times (m_turn (fun j => m_pc j - f8 j) (fun j => m_pr j - f9 j) jo))) (m_abs (m_times (m_turn (fun j => m_pc j - f8 j) (fun j => m_pr j - f9 j) j))) (nI d) (m_ni f30 (fun i => f31 (30 * i + 6 * sc + rk)) (fun i => f31 (30 * i + 6 * sc + ot)) nf (m_abs (m_times (m_turn (fun j => m_pc j - f8 j) (fun j => m_pr j - f9 j) jo))) (m_abs (m_times (m_turn (fun j => m_pc j - f8 j) (fun j => m_pr j - f9 j) j))) (nI d) i) t).2)), (11, .int (nI d)), (9, .long ((m_nb f30 (fun i => f31 (30 * i + 6 * sc + rk)) (fun i => f31 (30 * i + 6 * sc + ot)) nf (m_abs (m_times (m_turn (fun j => m_pc j - f8 j) (fun j => m_pr j - f9 j) jo))) (m_abs (m_times (m_turn (fun j => m_pc j - f8 j) (fun j => m_pr j - f9 j) j))) d).2.2)), (7, .long ((m_nb f30 (fun i => f31 (30 * i + 6 * sc + rk)) (fun i => f31 (30 * i + 6 * sc + ot)) nf (m_abs (m_times (m_turn (fun j => m_pc j - f8 j) (fun j => m_pr j - f9 j) jo))) (m_abs (m_times (m_turn (fun j => m_pc j - f8 j) (fun j => m_pr j - f9 j) j))) d).2.1)), (6, .int ((m_nb f30 (fun i => f31 (30 * i + 6 * sc + rk)) (fun i => f31 (30 * i + 6 * sc + ot)) nf (m_abs (m_times (m_turn (fun j => m_pc j - f8 j) (fun j => m_pr j - f9 j) jo))) (m_abs (m_times (m_turn (fun j => m_pc j - f8 j) (fun j => m_pr j - f9 j) j))) d).1)), (5, .int (m_abs (m_times (m_turn (fun j => m_pc j - f8 j) (fun j => m_pr j - f9 j) jo)))), (4, .int (m_abs (m_times (m_turn (fun j => m_pc j - f8 j) (fun j => m_pr j - f9 j) j)))), (0, .ref aM), (1, .int (nI sc)), (2, .int (nI rk)), (3, .int (nI ot))]) hx hb dX9_measure_172 hl (by decide) rfl (fun ls hl => ?_)
                obtain ⟨v_21, ev_21⟩ : ∃ y : Int32, y = (m_nj f30 (fun i => f31 (30 * i + 6 * sc + ot)) (f31 (30 * i + 6 * sc + rk)) i (m_abs (m_times (m_turn (fun j => m_pc j - f8 j) (fun j => m_pr j - f9 j) jo))) (m_abs (m_times (m_turn (fun j => m_pc j - f8 j) (fun j => m_pr j - f9 j) j))) (nI d) (m_ni f30 (fun i => f31 (30 * i + 6 * sc + rk)) (fun i => f31 (30 * i + 6 * sc + ot)) nf (m_abs (m_times (m_turn (fun j => m_pc j - f8 j) (fun j => m_pr j - f9 j) jo))) (m_abs (m_times (m_turn (fun j => m_pc j - f8 j) (fun j => m_pr j - f9 j) j))) (nI d) i) t).2 + 1 := ⟨_, rfl⟩
                refine lv_iinc (v := v_21) (lv' := [(14, .int v_21), (12, .long v_20), (19, .long vo), (18, .int (f31 (30 * (i + t) + 6 * sc + ot))), (17, .int (f31 (30 * i + 6 * sc + rk))), (16, .int (nI (i + t))), (15, .int (nI i)), (11, .int (nI d)), (9, .long ((m_nb f30 (fun i => f31 (30 * i + 6 * sc + rk)) (fun i => f31 (30 * i + 6 * sc + ot)) nf (m_abs (m_times (m_turn (fun j => m_pc j - f8 j) (fun j => m_pr j - f9 j) jo))) (m_abs (m_times (m_turn (fun j => m_pc j - f8 j) (fun j => m_pr j - f9 j) j))) d).2.2)), (7, .long ((m_nb f30 (fun i => f31 (30 * i + 6 * sc + rk)) (fun i => f31 (30 * i + 6 * sc + ot)) nf (m_abs (m_times (m_turn (fun j => m_pc j - f8 j) (fun j => m_pr j - f9 j) jo))) (m_abs (m_times (m_turn (fun j => m_pc j - f8 j) (fun j => m_pr j - f9 j) j))) d).2.1)), (6, .int ((m_nb f30 (fun i => f31 (30 * i + 6 * sc + rk)) (fun i => f31 (30 * i + 6 * sc + ot)) nf (m_abs (m_times (m_turn (fun j => m_pc j - f8 j) (fun j => m_pr j - f9 j) jo))) (m_abs (m_times (m_turn (fun j => m_pc j - f8 j) (fun j => m_pr j - f9 j) j))) d).1)), (5, .int (m_abs (m_times (m_turn (fun j => m_pc j - f8 j) (fun j => m_pr j - f9 j) jo)))), (4, .int (m_abs (m_times (m_turn (fun j => m_pc j - f8 j) (fun j => m_pr j - f9 j) j)))), (0, .ref aM), (1, .int (nI sc)), (2, .int (nI rk)), (3, .int (nI ot))]) hx hb dX9_measure_174 hl (k := 6) rfl (by rw [ev_21]; rfl) (by decide) rfl (fun ls hl => ?_)
                obtain ⟨v_22, ev_22⟩ : ∃ y : Int32, y = (nI (i + t)) + 1 := ⟨_, rfl⟩
                refine lv_iinc (v := v_22) (lv' := [(16, .int v_22), (14, .int v_21), (12, .long v_20), (19, .long vo), (18, .int (f31 (30 * (i + t) + 6 * sc + ot))), (17, .int (f31 (30 * i + 6 * sc + rk))), (15, .int (nI i)), (11, .int (nI d)), (9, .long ((m_nb f30 (fun i => f31 (30 * i + 6 * sc + rk)) (fun i => f31 (30 * i + 6 * sc + ot)) nf (m_abs (m_times (m_turn (fun j => m_pc j - f8 j) (fun j => m_pr j - f9 j) jo))) (m_abs (m_times (m_turn (fun j => m_pc j - f8 j) (fun j => m_pr j - f9 j) j))) d).2.2)), (7, .long ((m_nb f30 (fun i => f31 (30 * i + 6 * sc + rk)) (fun i => f31 (30 * i + 6 * sc + ot)) nf (m_abs (m_times (m_turn (fun j => m_pc j - f8 j) (fun j => m_pr j - f9 j) jo))) (m_abs (m_times (m_turn (fun j => m_pc j - f8 j) (fun j => m_pr j - f9 j) j))) d).2.1)), (6, .int ((m_nb f30 (fun i => f31 (30 * i + 6 * sc + rk)) (fun i => f31 (30 * i + 6 * sc + ot)) nf (m_abs (m_times (m_turn (fun j => m_pc j - f8 j) (fun j => m_pr j - f9 j) jo))) (m_abs (m_times (m_turn (fun j => m_pc j - f8 j) (fun j => m_pr j - f9 j) j))) d).1)), (5, .int (m_abs (m_times (m_turn (fun j => m_pc j - f8 j) (fun j => m_pr j - f9 j) jo)))), (4, .int (m_abs (m_times (m_turn (fun j => m_pc j - f8 j) (fun j => m_pr j - f9 j) j)))), (0, .ref aM), (1, .int (nI sc)), (2, .int (nI rk)), (3, .int (nI ot))]) hx hb dX9_measure_177 hl (k := 5) rfl (by rw [ev_22]; rfl) (by decide) rfl (fun ls hl => ?_)
                refine lv_goto (tgt := 76) hx hb dX9_measure_180 (by decide) ?_
                obtain rfl : v_22 = nI (i + (t + 1)) := ev_22.trans (nI_1 (i + t))
                obtain rfl : v_20 = (m_nj f30 (fun i => f31 (30 * i + 6 * sc + ot)) (f31 (30 * i + 6 * sc + rk)) i (m_abs (m_times (m_turn (fun j => m_pc j - f8 j) (fun j => m_pr j - f9 j) jo))) (m_abs (m_times (m_turn (fun j => m_pc j - f8 j) (fun j => m_pr j - f9 j) j))) (nI d) (m_ni f30 (fun i => f31 (30 * i + 6 * sc + rk)) (fun i => f31 (30 * i + 6 * sc + ot)) nf (m_abs (m_times (m_turn (fun j => m_pc j - f8 j) (fun j => m_pr j - f9 j) jo))) (m_abs (m_times (m_turn (fun j => m_pc j - f8 j) (fun j => m_pr j - f9 j) j))) (nI d) i) (t + 1)).1 := ev_20.trans (by rw [hst])
                obtain rfl : v_21 = (m_nj f30 (fun i => f31 (30 * i + 6 * sc + ot)) (f31 (30 * i + 6 * sc + rk)) i (m_abs (m_times (m_turn (fun j => m_pc j - f8 j) (fun j => m_pr j - f9 j) jo))) (m_abs (m_times (m_turn (fun j => m_pc j - f8 j) (fun j => m_pr j - f9 j) j))) (nI d) (m_ni f30 (fun i => f31 (30 * i + 6 * sc + rk)) (fun i => f31 (30 * i + 6 * sc + ot)) nf (m_abs (m_times (m_turn (fun j => m_pc j - f8 j) (fun j => m_pr j - f9 j) jo))) (m_abs (m_times (m_turn (fun j => m_pc j - f8 j) (fun j => m_pr j - f9 j) j))) (nI d) i) (t + 1)).2 := ev_21.trans (by rw [hst])
                exact ih_76 (t + 1, ls) (by first | (dsimp only; omega) | omega) ⟨(by omega), lv_sub hl [0, 6, 1, 2, 7, 8, 9, 10, 11, 12, 13, 14, 15, 16] rfl⟩

set_option maxHeartbeats 4000000 in
set_option maxRecDepth 100000 in
theorem c_measureOut (l : Launch) (Z : dzG) (G : dzW) (ad : dzA) (aM nm ns nl nx nf my : Nat) (th dy td ssf sst cfr grw bkk iop : Int32) (sc rk ot : Nat) (ha : ad (39, 0) = aM) (ho : G (39, 0) = some (eO 10 [.int th, .int dy, .int (nI nm), .ref (ad (40, 3)), .ref (ad (40, 4)), .ref (ad (40, 5)), .ref (ad (40, 6)), .int td, .ref (ad (40, 8)), .ref (ad (40, 9)), .ref (ad (40, 10)), .int (nI ns), .ref (ad (40, 12)), .ref (ad (40, 13)), .ref (ad (40, 14)), .int (nI nl), .ref (ad (40, 16)), .ref (ad (40, 17)), .ref (ad (40, 18)), .int (nI nx), .ref (ad (40, 20)), .ref (ad (40, 21)), .ref (ad (40, 22)), .ref (ad (40, 23)), .ref (ad (40, 24)), .int ssf, .int sst, .int cfr, .int grw, .int (nI nf), .ref (ad (40, 30)), .ref (ad (40, 31)), .int bkk, .ref (ad (40, 33)), .ref (ad (40, 34)), .ref (ad (40, 35)), .int iop, .ref (ad (40, 37)), .int (nI my)])) (h6 : 6 ≤ rk ∨ 6 ≤ ot) (hrk : rk < 441) (hot : ot < 441) : dzRd l yX9_measure wsX9_measure 0 0 Z G ad [.ref aM, .int (nI sc), .int (nI rk), .int (nI ot)] (some (.int (-1))) := by
  refine Met.ofW (cc := cX9_measure) (maxL := 21) (ret := (some .int)) (by decide) rfl ?_
  intro p e s m args below meth c s₁ B hml hv
  obtain ⟨rfl, hG, hE⟩ := hv
  have hx := B.exec
  have hb := B.bytes
  have hrt := B.returns
  have hts := atoms_spec (ws := wsX9_measure) B.pre
  have hown : s.vm.findClass RX9 = some m.cls := findClass_of_methodNamed B.named
  have hlocks := B.notSynchronized
  have hS : va_S (dz_A Z) s.heap s.heap [] := va_S.rf
  have hl := lv_entry ([.ref aM, .int (nI sc), .int (nI rk), .int (nI ot)]) (n := 21) (Nat.le_of_ble_eq_true rfl)
  rw [lg_entry_eq]
  generalize (lg_sl ([.ref aM, .int (nI sc), .int (nI rk), .int (nI ot)]) ++ List.replicate (21 - (lg_sl ([.ref aM, .int (nI sc), .int (nI rk), .int (nI ot)])).length) Slot.unset).toArray = ls at hl ⊢
  have hl : lv_has ls 21 [(0, .ref aM), (1, .int (nI sc)), (2, .int (nI rk)), (3, .int (nI ot))] := hl
  refine lv_iload_n hx hb dX9_measure_0 rfl (lv_at hl 2 rfl) ?_
  refine lv_bipush (v := 6) hx hb dX9_measure_1 (by decide) ?_
  refine lv_icmp_ge (tgt := 12) hx hb dX9_measure_3 (by decide) (fun c_3 => ?_) (fun c_3 => ?_)
  · refine lv_iconst (v := (-1)) hx hb dX9_measure_12 (by decide) ?_
    refine W.iret hx hb hrt (fun t ht hW => ⟨congrArg (fun x => Outcome.returned (some (Value.int x))) ?_, ht⟩) (fun _ h => by cases h) dX9_measure_13
    rfl
  · have hr6 : ¬ 6 ≤ rk := fun z => c_3 ((nI_leI (a := 6) (by omega) (by omega)).mpr z)
    refine lv_iload_n hx hb dX9_measure_6 rfl (lv_at hl 3 rfl) ?_
    refine lv_bipush (v := 6) hx hb dX9_measure_7 (by decide) ?_
    refine lv_icmp_lt (tgt := 14) hx hb dX9_measure_9 (by decide) (fun c_9 => absurd c_9 (fun z => absurd ((nI_leI (a := 6) (by omega) (by omega)).mpr (h6.resolve_left hr6)) (Int32.not_le.mpr z))) (fun c_9 => ?_)
    refine lv_iconst (v := (-1)) hx hb dX9_measure_12 (by decide) ?_
    refine W.iret hx hb hrt (fun t ht hW => ⟨congrArg (fun x => Outcome.returned (some (Value.int x))) ?_, ht⟩) (fun _ h => by cases h) dX9_measure_13
    rfl
