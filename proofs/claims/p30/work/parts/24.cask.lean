set_option maxHeartbeats 4000000 in
set_option maxRecDepth 100000 in
theorem c_D_day (l : Launch) (Z : dzG) (G : dzW) (ad : dzA) (aX nl nx : Nat) (dy ssf sst cfr grw : Int32) (ha : ad (1, 0) = aX) (hco : G (1, 0) = some (eO 9 [.ref (ad (2, 0)), .ref (ad (9, 0)), .int (nI nl), .int (nI nx), .ref (ad (19, 0)), .ref (ad (26, 0)), .int dy, .int ssf, .int sst, .int cfr, .int grw])) : dzRd l yX8_day wsX8_day 0 0 Z G ad [.ref aX] (some (.int dy)) := by
  refine Met.ofW (cc := cX8_day) (maxL := 1) (ret := (some .int)) (by decide) rfl ?_
  intro p e s m args below meth c s₁ B hml hv
  obtain ⟨rfl, hG, hE⟩ := hv
  have hx := B.exec
  have hb := B.bytes
  have hrt := B.returns
  have hts := atoms_spec (ws := wsX8_day) B.pre
  have hown : s.vm.findClass RX8 = some m.cls := findClass_of_methodNamed B.named
  have hlocks := B.notSynchronized
  have hS : va_S (dz_A Z) s.heap s.heap [] := va_S.rf
  have hl := lv_entry ([.ref aX]) (n := 1) (Nat.le_of_ble_eq_true rfl)
  rw [lg_entry_eq]
  generalize (lg_sl ([.ref aX]) ++ List.replicate (1 - (lg_sl ([.ref aX])).length) Slot.unset).toArray = ls at hl ⊢
  have hl : lv_has ls 1 [(0, .ref aX)] := hl
  refine lv_aload_n hx hb dX8_day_0 rfl (lv_at hl 0 rfl) ?_
  refine dz_get hx hb hts (fun _ h => List.mem_cons_of_mem _ (List.mem_append_right _ h)) hown hE hG ha hco rfl 6 (by decide) (hts _ (List.mem_of_getElem? (i := 1) rfl)) (fun _ h9 => h9) rfl dX8_day_1 ?_
  refine W.iret hx hb hrt (fun t ht hW => ⟨congrArg (fun x => Outcome.returned (some (Value.int x))) ?_, ht⟩) (fun _ h => by cases h) dX8_day_4
  rfl

set_option maxHeartbeats 4000000 in
set_option maxRecDepth 100000 in
theorem c_D_hits_bad (l : Launch) (hst : l.stackTraces = false) (Z : dzG) (G : dzW) (ad : dzA) (aX nl nx : Nat) (dy ssf sst cfr grw : Int32) (v1 v2 : Int32) (ha : ad (1, 0) = aX) (hco : G (1, 0) = some (eO 9 [.ref (ad (2, 0)), .ref (ad (9, 0)), .int (nI nl), .int (nI nx), .ref (ad (19, 0)), .ref (ad (26, 0)), .int dy, .int ssf, .int sst, .int cfr, .int grw])) (hbad : ¬ ((((-10) : Int32) ≤ v1 ∧ v1 ≤ 10) ∧ ((-10) ≤ v2 ∧ v2 ≤ 10))) : vx_Met l yX8_hits wsX8_hits (dz_rm 6 82 1 6) (dz_P Z G ad [.ref aX, .int v1, .int v2]) (fun _ _ _ _ => False) (dz_XC Z G ad (fun E => E = "java/lang/IllegalArgumentException")) 1 6 (dz_A Z) := by
  refine vx_ofW (cc := cX8_hits) (maxL := 3) (ret := (some .int)) (by decide) rfl ?_
  intro p e s m args below meth c s₁ B hml hxt hv
  obtain ⟨rfl, hG, hE⟩ := hv
  have hx := B.exec
  have hb := B.bytes
  have hrt := B.returns
  have hts := atoms_spec (ws := wsX8_hits) B.pre
  have hown : s.vm.findClass RX8 = some m.cls := findClass_of_methodNamed B.named
  have hlocks := B.notSynchronized
  have hS : va_S (dz_A Z) s.heap s.heap [] := va_S.rf
  have hl := lv_entry ([.ref aX, .int v1, .int v2]) (n := 3) (Nat.le_of_ble_eq_true rfl)
  rw [lg_entry_eq]
  generalize (lg_sl ([.ref aX, .int v1, .int v2]) ++ List.replicate (3 - (lg_sl ([.ref aX, .int v1, .int v2])).length) Slot.unset).toArray = ls at hl ⊢
  have hl : lv_has ls 3 [(0, .ref aX), (1, .int v1), (2, .int v2)] := hl
  refine lv_iload_n hx hb dX8_hits_0 rfl (lv_at hl 1 rfl) ?_
  refine lv_iload_n hx hb dX8_hits_1 rfl (lv_at hl 2 rfl) ?_
  refine dz_kRi (va_runS (As := [_, _]) ⟨hx, hb, hml, hown, hts⟩ (c_X8_isInField l Z _ _ _ _ ) (va_cwS 2 hts gX8_hits_X8_isInField rfl rfl rfl (by decide +kernel) ⟨Nat.le_of_ble_eq_true rfl, Nat.le_of_ble_eq_true rfl⟩) (dz_P.pre hE hS hG) rfl rfl hl.1 rfl (lv_room (Nat.le_of_ble_eq_true rfl)) dX8_hits_2 ⟨Nat.le_of_ble_eq_true rfl, Nat.le_of_ble_eq_true rfl⟩) ?_
  refine lv_topi (fun v_1 ev_1 => ?_)
  obtain rfl : v_1 = 0 := ev_1.trans (dz_b0 hbad)
  refine lv_if_ne (tgt := 18) hx hb dX8_hits_5 (by decide) (fun c_5 => absurd (by decide) c_5) (fun c_5 => ?_)
  obtain ⟨sa9, hstr9⟩ := hE.2.2.2.2.2.2.2.2.1 (104, "no cell of the field") (by decide +kernel)
  refine vx_throwS (own := RX8) (cls := "java/lang/IllegalArgumentException") (text := "no cell of the field") (names := ["java/lang/RuntimeException", "java/lang/Exception"]) (ik := 67) (is := 104) (ic := 71) (sa := sa9) (A := dz_A Z) hx hb hst hown (by decide +kernel) (by decide +kernel) (hts _ (List.mem_of_getElem? (i := 1) rfl)) (hts _ (List.mem_of_getElem? (i := 2) rfl)) hstr9 (vx_hat (B := [.castable "java/lang/IllegalArgumentException" "java/lang/IllegalArgumentException", .declares (Bundle.initS "java/lang/RuntimeException"), .declares (Bundle.initS "java/lang/Exception"), .declares (Bundle.initS Bundle.tN)]) (fun w h => hts w (List.mem_cons_of_mem _ (List.mem_append_right _ h))) (by decide +kernel) (vx_c (va_Nw.use rfl (hE.2.2.2.2.2.2.1 ("java/lang/IllegalArgumentException", "java/lang/IllegalArgumentException") (by decide +kernel))) (vx_c (va_Nw.use rfl (hE.2.2.2.2.2.2.2.2.2.2.2.2 _ (List.mem_cons_self))) (vx_c (va_Nw.use rfl (hE.2.2.2.2.2.2.2.2.2.2.2.2 _ (List.mem_cons_of_mem _ List.mem_cons_self))) (vx_c (va_Nw.use rfl (hE.2.2.2.2.2.2.2.2.2.2.2.2 _ (List.mem_cons_of_mem _ (List.mem_cons_of_mem _ List.mem_cons_self)))) vx_n))))) (by decide +kernel) hE.2.2.2.2.1.1 hE.2.2.2.2.1.2 hS (hl.1.trans hml.symm) dX8_hits_8 dX8_hits_11 dX8_hits_12 dX8_hits_14 dX8_hits_17 (fun x h => (hxt x h).elim) (Nat.le_of_ble_eq_true rfl) (Nat.le_of_ble_eq_true rfl) (Nat.le_of_ble_eq_true rfl) (Nat.le_of_ble_eq_true rfl) hlocks (fun t _ h1 h2 => dz_xc hG hS h1 h2) (fun z h => hS.2.2 z h) (Nat.le_of_ble_eq_true rfl) (Nat.le_of_ble_eq_true rfl)

set_option maxHeartbeats 4000000 in
set_option maxRecDepth 100000 in
theorem c_D_hits_ok (l : Launch) (Z : dzG) (G : dzW) (ad : dzA) (aX nl nx : Nat) (dy ssf sst cfr grw : Int32) (fc fr : Nat → Int32) (v1 v2 : Int32) (ha : ad (1, 0) = aX) (hco : G (1, 0) = some (eO 9 [.ref (ad (2, 0)), .ref (ad (9, 0)), .int (nI nl), .int (nI nx), .ref (ad (19, 0)), .ref (ad (26, 0)), .int dy, .int ssf, .int sst, .int cfr, .int grw])) (hro : G (2, 0) = some (eO 6 [.ref (ad (3, 0)), .ref (ad (5, 0)), .ref (ad (6, 0)), .ref (ad (7, 0))])) (hc : G (5, 0) = some (eI Z 484 fc)) (hr : G (6, 0) = some (eI Z 484 fr)) (hg : ((((-10) : Int32) ≤ v1 ∧ v1 ≤ 10) ∧ ((-10) ≤ v2 ∧ v2 ≤ 10))) : dzRd l yX8_hits wsX8_hits 3 69 Z G ad [.ref aX, .int v1, .int v2] (some (.int (m_all (fun j => dz_b (fc j = v1 ∧ fr j = v2)) 21))) := by
  refine Met.ofW (cc := cX8_hits) (maxL := 3) (ret := (some .int)) (by decide) rfl ?_
  intro p e s m args below meth c s₁ B hml hv
  obtain ⟨rfl, hG, hE⟩ := hv
  have hx := B.exec
  have hb := B.bytes
  have hrt := B.returns
  have hts := atoms_spec (ws := wsX8_hits) B.pre
  have hown : s.vm.findClass RX8 = some m.cls := findClass_of_methodNamed B.named
  have hlocks := B.notSynchronized
  have hS : va_S (dz_A Z) s.heap s.heap [] := va_S.rf
  have hl := lv_entry ([.ref aX, .int v1, .int v2]) (n := 3) (Nat.le_of_ble_eq_true rfl)
  rw [lg_entry_eq]
  generalize (lg_sl ([.ref aX, .int v1, .int v2]) ++ List.replicate (3 - (lg_sl ([.ref aX, .int v1, .int v2])).length) Slot.unset).toArray = ls at hl ⊢
  have hl : lv_has ls 3 [(0, .ref aX), (1, .int v1), (2, .int v2)] := hl
  refine lv_iload_n hx hb dX8_hits_0 rfl (lv_at hl 1 rfl) ?_
  refine lv_iload_n hx hb dX8_hits_1 rfl (lv_at hl 2 rfl) ?_
  refine dz_kRi (va_runS (As := [_, _]) ⟨hx, hb, hml, hown, hts⟩ (c_X8_isInField l Z _ _ _ _ ) (va_cwS 2 hts gX8_hits_X8_isInField rfl rfl rfl (by decide +kernel) ⟨Nat.le_of_ble_eq_true rfl, Nat.le_of_ble_eq_true rfl⟩) (dz_P.pre hE hS hG) rfl rfl hl.1 rfl (lv_room (Nat.le_of_ble_eq_true rfl)) dX8_hits_2 ⟨Nat.le_of_ble_eq_true rfl, Nat.le_of_ble_eq_true rfl⟩) ?_
  refine lv_topi (fun v_1 ev_1 => ?_)
  obtain rfl : v_1 = 1 := ev_1.trans (dz_b1 hg)
  refine lv_if_ne (tgt := 18) hx hb dX8_hits_5 (by decide) (fun c_5 => ?_) (fun c_5 => absurd c_5 (by decide))
  refine lv_aload_n hx hb dX8_hits_18 rfl (lv_at hl 0 rfl) ?_
  refine dz_get hx hb hts (fun _ h => List.mem_cons_of_mem _ (List.mem_append_left _ (List.mem_append_left _ (List.mem_append_right _ h)))) hown hE hG ha hco rfl 0 (by decide) (hts _ (List.mem_of_getElem? (i := 3) rfl)) (fun _ h9 => h9) rfl dX8_hits_19 ?_
  refine lv_iload_n hx hb dX8_hits_22 rfl (lv_at hl 1 rfl) ?_
  refine lv_iload_n hx hb dX8_hits_23 rfl (lv_at hl 2 rfl) ?_
  refine dz_kRi (va_runV (As := [_, _]) ⟨hx, hb, hml, hown, hts⟩ (c_X5_countFrom l Z _ _ _ _ _ _ _ rfl hro hc hr) (cwV 2 hts gX8_hits_X5_countFrom rfl rfl rfl (by decide +kernel) ⟨Nat.le_of_ble_eq_true rfl, Nat.le_of_ble_eq_true rfl⟩) (dz_P.preV hE hS hG hro rfl rfl) rfl rfl hl.1 rfl (lv_room (Nat.le_of_ble_eq_true rfl)) dX8_hits_24 ⟨Nat.le_of_ble_eq_true rfl, Nat.le_of_ble_eq_true rfl⟩) ?_
  refine W.iret hx hb hrt (fun t ht hW => ⟨congrArg (fun x => Outcome.returned (some (Value.int x))) ?_, ht⟩) (fun _ h => by cases h) dX8_hits_27
  rfl

set_option maxHeartbeats 4000000 in
set_option maxRecDepth 100000 in
theorem c_D_lost (l : Launch) (Z : dzG) (G : dzW) (ad : dzA) (aX nl nx : Nat) (dy ssf sst cfr grw : Int32) (fc fr : Nat → Int32) (ha : ad (1, 0) = aX) (hco : G (1, 0) = some (eO 9 [.ref (ad (2, 0)), .ref (ad (9, 0)), .int (nI nl), .int (nI nx), .ref (ad (19, 0)), .ref (ad (26, 0)), .int dy, .int ssf, .int sst, .int cfr, .int grw])) (hro : G (2, 0) = some (eO 6 [.ref (ad (3, 0)), .ref (ad (5, 0)), .ref (ad (6, 0)), .ref (ad (7, 0))])) (hc : G (5, 0) = some (eI Z 484 fc)) (hr : G (6, 0) = some (eI Z 484 fr)) : dzRd l yX8_lost wsX8_lost 3 67 Z G ad [.ref aX] (some (.int (m_all (fun j => dz_b (¬ (((-10) ≤ fc j ∧ fc j ≤ 10) ∧ ((-10) ≤ fr j ∧ fr j ≤ 10)))) 21))) := by
  refine Met.ofW (cc := cX8_lost) (maxL := 1) (ret := (some .int)) (by decide) rfl ?_
  intro p e s m args below meth c s₁ B hml hv
  obtain ⟨rfl, hG, hE⟩ := hv
  have hx := B.exec
  have hb := B.bytes
  have hrt := B.returns
  have hts := atoms_spec (ws := wsX8_lost) B.pre
  have hown : s.vm.findClass RX8 = some m.cls := findClass_of_methodNamed B.named
  have hlocks := B.notSynchronized
  have hS : va_S (dz_A Z) s.heap s.heap [] := va_S.rf
  have hl := lv_entry ([.ref aX]) (n := 1) (Nat.le_of_ble_eq_true rfl)
  rw [lg_entry_eq]
  generalize (lg_sl ([.ref aX]) ++ List.replicate (1 - (lg_sl ([.ref aX])).length) Slot.unset).toArray = ls at hl ⊢
  have hl : lv_has ls 1 [(0, .ref aX)] := hl
  refine lv_aload_n hx hb dX8_lost_0 rfl (lv_at hl 0 rfl) ?_
  refine dz_get hx hb hts (fun _ h => List.mem_cons_of_mem _ (List.mem_append_left _ (List.mem_append_right _ h))) hown hE hG ha hco rfl 0 (by decide) (hts _ (List.mem_of_getElem? (i := 1) rfl)) (fun _ h9 => h9) rfl dX8_lost_1 ?_
  refine dz_kRi (va_runV (As := []) ⟨hx, hb, hml, hown, hts⟩ (c_X5_countFromBeyond l Z _ _ _ _ _ rfl hro hc hr) (cwV 0 hts gX8_lost_X5_countFromBeyond rfl rfl rfl (by decide +kernel) ⟨Nat.le_of_ble_eq_true rfl, Nat.le_of_ble_eq_true rfl⟩) (dz_P.preV hE hS hG hro rfl rfl) rfl rfl hl.1 rfl (lv_room (Nat.le_of_ble_eq_true rfl)) dX8_lost_4 ⟨Nat.le_of_ble_eq_true rfl, Nat.le_of_ble_eq_true rfl⟩) ?_
  refine W.iret hx hb hrt (fun t ht hW => ⟨congrArg (fun x => Outcome.returned (some (Value.int x))) ?_, ht⟩) (fun _ h => by cases h) dX8_lost_7
  rfl

set_option maxHeartbeats 4000000 in
set_option maxRecDepth 100000 in
theorem c_D_frames (l : Launch) (Z : dzG) (G : dzW) (ad : dzA) (aX nl nx : Nat) (dy ssf sst cfr grw : Int32) (nf : Nat) (fdy : Nat → Int32) (lg : Nat → Nat → Int32) (ha : ad (1, 0) = aX) (hco : G (1, 0) = some (eO 9 [.ref (ad (2, 0)), .ref (ad (9, 0)), .int (nI nl), .int (nI nx), .ref (ad (19, 0)), .ref (ad (26, 0)), .int dy, .int ssf, .int sst, .int cfr, .int grw])) (hF : dz_Fr Z G ad nf fdy lg) (hnf : nf ≤ 60) : dzRd l yX8_frames wsX8_frames 2 40 Z G ad [.ref aX] (some (.int (nI nf))) := by
  refine Met.ofW (cc := cX8_frames) (maxL := 1) (ret := (some .int)) (by decide) rfl ?_
  intro p e s m args below meth c s₁ B hml hv
  obtain ⟨rfl, hG, hE⟩ := hv
  have hx := B.exec
  have hb := B.bytes
  have hrt := B.returns
  have hts := atoms_spec (ws := wsX8_frames) B.pre
  have hown : s.vm.findClass RX8 = some m.cls := findClass_of_methodNamed B.named
  have hlocks := B.notSynchronized
  have hS : va_S (dz_A Z) s.heap s.heap [] := va_S.rf
  have hl := lv_entry ([.ref aX]) (n := 1) (Nat.le_of_ble_eq_true rfl)
  rw [lg_entry_eq]
  generalize (lg_sl ([.ref aX]) ++ List.replicate (1 - (lg_sl ([.ref aX])).length) Slot.unset).toArray = ls at hl ⊢
  have hl : lv_has ls 1 [(0, .ref aX)] := hl
  refine lv_aload_n hx hb dX8_frames_0 rfl (lv_at hl 0 rfl) ?_
  refine dz_get hx hb hts (fun _ h => List.mem_cons_of_mem _ (List.mem_append_left _ (List.mem_append_left _ (List.mem_append_right _ h)))) hown hE hG ha hco rfl 4 (by decide) (hts _ (List.mem_of_getElem? (i := 1) rfl)) (fun _ h9 => h9) rfl dX8_frames_1 ?_
  refine dz_kRi (va_runV (As := []) ⟨hx, hb, hml, hown, hts⟩ (c_X0_count l Z _ _ _ _ _ _ rfl hF hnf) (cwV 0 hts gX8_frames_X0_count rfl rfl rfl (by decide +kernel) ⟨Nat.le_of_ble_eq_true rfl, Nat.le_of_ble_eq_true rfl⟩) (dz_P.preV hE hS hG hF.1 rfl rfl) rfl rfl hl.1 rfl (lv_room (Nat.le_of_ble_eq_true rfl)) dX8_frames_4 ⟨Nat.le_of_ble_eq_true rfl, Nat.le_of_ble_eq_true rfl⟩) ?_
  refine W.iret hx hb hrt (fun t ht hW => ⟨congrArg (fun x => Outcome.returned (some (Value.int x))) ?_, ht⟩) (fun _ h => by cases h) dX8_frames_7
  rfl

set_option maxHeartbeats 4000000 in
set_option maxRecDepth 100000 in
theorem c_D_from_bad (l : Launch) (hst : l.stackTraces = false) (Z : dzG) (G : dzW) (ad : dzA) (aX nl nx : Nat) (dy ssf sst cfr grw : Int32) (v1 v2 v3 : Int32) (ha : ad (1, 0) = aX) (hco : G (1, 0) = some (eO 9 [.ref (ad (2, 0)), .ref (ad (9, 0)), .int (nI nl), .int (nI nx), .ref (ad (19, 0)), .ref (ad (26, 0)), .int dy, .int ssf, .int sst, .int cfr, .int grw])) (hbad : ¬ ((((-10) : Int32) ≤ v1 ∧ v1 ≤ 10) ∧ ((-10) ≤ v2 ∧ v2 ≤ 10))) : vx_Met l yX8_from wsX8_from (dz_rm 6 82 1 6) (dz_P Z G ad [.ref aX, .int v1, .int v2, .int v3]) (fun _ _ _ _ => False) (dz_XC Z G ad (fun E => E = "java/lang/IllegalArgumentException")) 1 6 (dz_A Z) := by
  refine vx_ofW (cc := cX8_from) (maxL := 5) (ret := (some .int)) (by decide) rfl ?_
  intro p e s m args below meth c s₁ B hml hxt hv
  obtain ⟨rfl, hG, hE⟩ := hv
  have hx := B.exec
  have hb := B.bytes
  have hrt := B.returns
  have hts := atoms_spec (ws := wsX8_from) B.pre
  have hown : s.vm.findClass RX8 = some m.cls := findClass_of_methodNamed B.named
  have hlocks := B.notSynchronized
  have hS : va_S (dz_A Z) s.heap s.heap [] := va_S.rf
  have hl := lv_entry ([.ref aX, .int v1, .int v2, .int v3]) (n := 5) (Nat.le_of_ble_eq_true rfl)
  rw [lg_entry_eq]
  generalize (lg_sl ([.ref aX, .int v1, .int v2, .int v3]) ++ List.replicate (5 - (lg_sl ([.ref aX, .int v1, .int v2, .int v3])).length) Slot.unset).toArray = ls at hl ⊢
  have hl : lv_has ls 5 [(0, .ref aX), (1, .int v1), (2, .int v2), (3, .int v3)] := hl
  refine lv_iload_n hx hb dX8_from_0 rfl (lv_at hl 1 rfl) ?_
  refine lv_iload_n hx hb dX8_from_1 rfl (lv_at hl 2 rfl) ?_
  refine dz_kRi (va_runS (As := [_, _]) ⟨hx, hb, hml, hown, hts⟩ (c_X8_isInField l Z _ _ _ _ ) (va_cwS 2 hts gX8_from_X8_isInField rfl rfl rfl (by decide +kernel) ⟨Nat.le_of_ble_eq_true rfl, Nat.le_of_ble_eq_true rfl⟩) (dz_P.pre hE hS hG) rfl rfl hl.1 rfl (lv_room (Nat.le_of_ble_eq_true rfl)) dX8_from_2 ⟨Nat.le_of_ble_eq_true rfl, Nat.le_of_ble_eq_true rfl⟩) ?_
  refine lv_topi (fun v_1 ev_1 => ?_)
  obtain rfl : v_1 = 0 := ev_1.trans (dz_b0 hbad)
  refine lv_if_ne (tgt := 18) hx hb dX8_from_5 (by decide) (fun c_5 => absurd (by decide) c_5) (fun c_5 => ?_)
  obtain ⟨sa9, hstr9⟩ := hE.2.2.2.2.2.2.2.2.1 (104, "no cell of the field") (by decide +kernel)
  refine vx_throwS (own := RX8) (cls := "java/lang/IllegalArgumentException") (text := "no cell of the field") (names := ["java/lang/RuntimeException", "java/lang/Exception"]) (ik := 67) (is := 104) (ic := 71) (sa := sa9) (A := dz_A Z) hx hb hst hown (by decide +kernel) (by decide +kernel) (hts _ (List.mem_of_getElem? (i := 1) rfl)) (hts _ (List.mem_of_getElem? (i := 2) rfl)) hstr9 (vx_hat (B := [.castable "java/lang/IllegalArgumentException" "java/lang/IllegalArgumentException", .declares (Bundle.initS "java/lang/RuntimeException"), .declares (Bundle.initS "java/lang/Exception"), .declares (Bundle.initS Bundle.tN)]) (fun w h => hts w (List.mem_cons_of_mem _ (List.mem_append_right _ h))) (by decide +kernel) (vx_c (va_Nw.use rfl (hE.2.2.2.2.2.2.1 ("java/lang/IllegalArgumentException", "java/lang/IllegalArgumentException") (by decide +kernel))) (vx_c (va_Nw.use rfl (hE.2.2.2.2.2.2.2.2.2.2.2.2 _ (List.mem_cons_self))) (vx_c (va_Nw.use rfl (hE.2.2.2.2.2.2.2.2.2.2.2.2 _ (List.mem_cons_of_mem _ List.mem_cons_self))) (vx_c (va_Nw.use rfl (hE.2.2.2.2.2.2.2.2.2.2.2.2 _ (List.mem_cons_of_mem _ (List.mem_cons_of_mem _ List.mem_cons_self)))) vx_n))))) (by decide +kernel) hE.2.2.2.2.1.1 hE.2.2.2.2.1.2 hS (hl.1.trans hml.symm) dX8_from_8 dX8_from_11 dX8_from_12 dX8_from_14 dX8_from_17 (fun x h => (hxt x h).elim) (Nat.le_of_ble_eq_true rfl) (Nat.le_of_ble_eq_true rfl) (Nat.le_of_ble_eq_true rfl) (Nat.le_of_ble_eq_true rfl) hlocks (fun t _ h1 h2 => dz_xc hG hS h1 h2) (fun z h => hS.2.2 z h) (Nat.le_of_ble_eq_true rfl) (Nat.le_of_ble_eq_true rfl)

set_option maxHeartbeats 4000000 in
set_option maxRecDepth 100000 in
theorem c_D_from_ok (l : Launch) (Z : dzG) (G : dzW) (ad : dzA) (aX nl nx : Nat) (dy ssf sst cfr grw : Int32) (fc fr : Nat → Int32) (a b : Nat) (v3 : Int32) (ha : ad (1, 0) = aX) (hco : G (1, 0) = some (eO 9 [.ref (ad (2, 0)), .ref (ad (9, 0)), .int (nI nl), .int (nI nx), .ref (ad (19, 0)), .ref (ad (26, 0)), .int dy, .int ssf, .int sst, .int cfr, .int grw])) (hro : G (2, 0) = some (eO 6 [.ref (ad (3, 0)), .ref (ad (5, 0)), .ref (ad (6, 0)), .ref (ad (7, 0))])) (hc : G (5, 0) = some (eI Z 484 fc)) (hr : G (6, 0) = some (eI Z 484 fr)) (ha21 : a < 21) (hb21 : b < 21) : dzRd l yX8_from wsX8_from 2 43 Z G ad [.ref aX, .int (nI a - 10), .int (nI b - 10), .int v3] (some (.int (if v3 = 0 then fc (22 * b + a) else fr (22 * b + a)))) := by
  refine Met.ofW (cc := cX8_from) (maxL := 5) (ret := (some .int)) (by decide) rfl ?_
  intro p e s m args below meth c s₁ B hml hv
  obtain ⟨rfl, hG, hE⟩ := hv
  have hx := B.exec
  have hb := B.bytes
  have hrt := B.returns
  have hts := atoms_spec (ws := wsX8_from) B.pre
  have hown : s.vm.findClass RX8 = some m.cls := findClass_of_methodNamed B.named
  have hlocks := B.notSynchronized
  have hS : va_S (dz_A Z) s.heap s.heap [] := va_S.rf
  have hl := lv_entry ([.ref aX, .int (nI a - 10), .int (nI b - 10), .int v3]) (n := 5) (Nat.le_of_ble_eq_true rfl)
  rw [lg_entry_eq]
  generalize (lg_sl ([.ref aX, .int (nI a - 10), .int (nI b - 10), .int v3]) ++ List.replicate (5 - (lg_sl ([.ref aX, .int (nI a - 10), .int (nI b - 10), .int v3])).length) Slot.unset).toArray = ls at hl ⊢
  have hl : lv_has ls 5 [(0, .ref aX), (1, .int (nI a - 10)), (2, .int (nI b - 10)), (3, .int v3)] := hl
  refine lv_iload_n hx hb dX8_from_0 rfl (lv_at hl 1 rfl) ?_
  refine lv_iload_n hx hb dX8_from_1 rfl (lv_at hl 2 rfl) ?_
  refine dz_kRi (va_runS (As := [_, _]) ⟨hx, hb, hml, hown, hts⟩ (c_X8_isInField l Z _ _ _ _ ) (va_cwS 2 hts gX8_from_X8_isInField rfl rfl rfl (by decide +kernel) ⟨Nat.le_of_ble_eq_true rfl, Nat.le_of_ble_eq_true rfl⟩) (dz_P.pre hE hS hG) rfl rfl hl.1 rfl (lv_room (Nat.le_of_ble_eq_true rfl)) dX8_from_2 ⟨Nat.le_of_ble_eq_true rfl, Nat.le_of_ble_eq_true rfl⟩) ?_
  refine lv_topi (fun v_1 ev_1 => ?_)
  obtain rfl : v_1 = 1 := ev_1.trans (dz_b1 ⟨fl_on a ha21, fl_on b hb21⟩)
  refine lv_if_ne (tgt := 18) hx hb dX8_from_5 (by decide) (fun c_5 => ?_) (fun c_5 => absurd c_5 (by decide))
  refine lv_iload_n hx hb dX8_from_18 rfl (lv_at hl 1 rfl) ?_
  refine lv_iload_n hx hb dX8_from_19 rfl (lv_at hl 2 rfl) ?_
  refine dz_kRi (va_runS (As := [_, _]) ⟨hx, hb, hml, hown, hts⟩ (c_X5_placeOf l Z _ _ _ _ ) (va_cwS 2 hts gX8_from_X5_placeOf rfl rfl rfl (by decide +kernel) ⟨Nat.le_of_ble_eq_true rfl, Nat.le_of_ble_eq_true rfl⟩) (dz_P.pre hE hS hG) rfl rfl hl.1 rfl (lv_room (Nat.le_of_ble_eq_true rfl)) dX8_from_20 ⟨Nat.le_of_ble_eq_true rfl, Nat.le_of_ble_eq_true rfl⟩) ?_
  refine lv_topi (fun v_2 ev_2 => ?_)
  obtain rfl : v_2 = nI (22 * b + a) := ev_2.trans (fl_pl b (by omega) a (by omega))
  refine lv_istore (lv' := [(4, .int (nI (22 * b + a))), (0, .ref aX), (1, .int (nI a - 10)), (2, .int (nI b - 10)), (3, .int v3)]) hx hb dX8_from_23 hl (by decide) rfl (fun ls hl => ?_)
  refine lv_iload_n hx hb dX8_from_25 rfl (lv_at hl 4 rfl) ?_
  refine lv_if_eq (tgt := 41) hx hb dX8_from_26 (by decide) (fun c_26 => ?_) (fun c_26 => ?_)
  · refine lv_aload_n hx hb dX8_from_41 rfl (lv_at hl 1 rfl) ?_
    refine dz_get hx hb hts (fun _ h => List.mem_cons_of_mem _ (List.mem_append_left _ (List.mem_append_left _ (List.mem_append_right _ h)))) hown hE hG ha hco rfl 0 (by decide) (hts _ (List.mem_of_getElem? (i := 3) rfl)) (fun _ h9 => h9) rfl dX8_from_42 ?_
    refine lv_iload hx hb dX8_from_45 (lv_at hl 0 rfl) ?_
    refine dz_kRi (va_runV (As := [_]) ⟨hx, hb, hml, hown, hts⟩ (c_X5_comesFromColumn l Z _ _ _ _ _ rfl hro hc (show (22 * b + a) < 484 from by omega)) (cwV 1 hts gX8_from_X5_comesFromColumn rfl rfl rfl (by decide +kernel) ⟨Nat.le_of_ble_eq_true rfl, Nat.le_of_ble_eq_true rfl⟩) (dz_P.preV hE hS hG hro rfl rfl) rfl rfl hl.1 rfl (lv_room (Nat.le_of_ble_eq_true rfl)) dX8_from_47 ⟨Nat.le_of_ble_eq_true rfl, Nat.le_of_ble_eq_true rfl⟩) ?_
    refine W.iret hx hb hrt (fun t ht hW => ⟨congrArg (fun x => Outcome.returned (some (Value.int x))) ?_, ht⟩) (fun _ h => by cases h) dX8_from_50
    first | exact (if_pos c_26).symm | exact (if_neg c_26).symm
  · refine lv_aload_n hx hb dX8_from_29 rfl (lv_at hl 1 rfl) ?_
    refine dz_get hx hb hts (fun _ h => List.mem_cons_of_mem _ (List.mem_append_left _ (List.mem_append_left _ (List.mem_append_right _ h)))) hown hE hG ha hco rfl 0 (by decide) (hts _ (List.mem_of_getElem? (i := 3) rfl)) (fun _ h9 => h9) rfl dX8_from_30 ?_
    refine lv_iload hx hb dX8_from_33 (lv_at hl 0 rfl) ?_
    refine dz_kRi (va_runV (As := [_]) ⟨hx, hb, hml, hown, hts⟩ (c_X5_comesFromRow l Z _ _ _ _ _ _ rfl hro hc hr (show (22 * b + a) < 484 from by omega)) (cwV 1 hts gX8_from_X5_comesFromRow rfl rfl rfl (by decide +kernel) ⟨Nat.le_of_ble_eq_true rfl, Nat.le_of_ble_eq_true rfl⟩) (dz_P.preV hE hS hG hro rfl rfl) rfl rfl hl.1 rfl (lv_room (Nat.le_of_ble_eq_true rfl)) dX8_from_35 ⟨Nat.le_of_ble_eq_true rfl, Nat.le_of_ble_eq_true rfl⟩) ?_
    refine lv_goto (tgt := 50) hx hb dX8_from_38 (by decide) ?_
    refine W.iret hx hb hrt (fun t ht hW => ⟨congrArg (fun x => Outcome.returned (some (Value.int x))) ?_, ht⟩) (fun _ h => by cases h) dX8_from_50
    first | exact (if_pos c_26).symm | exact (if_neg c_26).symm

set_option maxHeartbeats 4000000 in
set_option maxRecDepth 100000 in
theorem c_D_images_no (l : Launch) (hst : l.stackTraces = false) (Z : dzG) (G : dzW) (ad : dzA) (aX nl nx : Nat) (dy ssf sst cfr grw : Int32) (ns : Nat) (v1 : Int32) (ha : ad (1, 0) = aX) (hco : G (1, 0) = some (eO 9 [.ref (ad (2, 0)), .ref (ad (9, 0)), .int (nI nl), .int (nI nx), .ref (ad (19, 0)), .ref (ad (26, 0)), .int dy, .int ssf, .int sst, .int cfr, .int grw])) (hls : dz_L Z G ad (9, 0) (10, 0) ns (fun i => ad (11, i))) (hv : v1 < 0 ∨ nI ns ≤ v1) : vx_Met l yX8_images wsX8_images (dz_rm 6 82 1 6) (dz_P Z G ad [.ref aX, .int v1]) (fun _ _ _ _ => False) (dz_XC Z G ad (fun E => E = "java/lang/IndexOutOfBoundsException")) 1 6 (dz_A Z) := by
  refine vx_ofW (cc := cX8_images) (maxL := 3) (ret := (some .int)) (by decide) rfl ?_
  intro p e s m args below meth c s₁ B hml hxt hv
  obtain ⟨rfl, hG, hE⟩ := hv
  have hx := B.exec
  have hb := B.bytes
  have hrt := B.returns
  have hts := atoms_spec (ws := wsX8_images) B.pre
  have hown : s.vm.findClass RX8 = some m.cls := findClass_of_methodNamed B.named
  have hlocks := B.notSynchronized
  have hS : va_S (dz_A Z) s.heap s.heap [] := va_S.rf
  have hl := lv_entry ([.ref aX, .int v1]) (n := 3) (Nat.le_of_ble_eq_true rfl)
  rw [lg_entry_eq]
  generalize (lg_sl ([.ref aX, .int v1]) ++ List.replicate (3 - (lg_sl ([.ref aX, .int v1])).length) Slot.unset).toArray = ls at hl ⊢
  have hl : lv_has ls 3 [(0, .ref aX), (1, .int v1)] := hl
  refine lv_aload_n hx hb dX8_images_0 rfl (lv_at hl 0 rfl) ?_
  refine lv_iload_n hx hb dX8_images_1 rfl (lv_at hl 1 rfl) ?_
  refine dz_kRn (va_runV (As := [_]) ⟨hx, hb, hml, hown, hts⟩ (c_sourceOut l Z _ _ _ _ _ _ _ _ _ _ _ _ ha hco hls hv) (cwV 1 hts gX8_images_X8_sourceAt rfl rfl rfl (by decide +kernel) ⟨Nat.le_of_ble_eq_true rfl, Nat.le_of_ble_eq_true rfl⟩) (dz_P.preV hE hS hG hco rfl ha) rfl rfl hl.1 rfl (lv_room (Nat.le_of_ble_eq_true rfl)) dX8_images_2 ⟨Nat.le_of_ble_eq_true rfl, Nat.le_of_ble_eq_true rfl⟩) ?_
  refine lv_astore_nN (lv' := [(2, .null), (0, .ref aX), (1, .int v1)]) hx hb dX8_images_5 rfl hl (by decide) rfl (fun ls hl => ?_)
  refine lv_aload_nN hx hb dX8_images_6 rfl (lv_at hl 0 rfl) ?_
  refine lv_ifnonnullN hx hb dX8_images_7 ?_
  obtain ⟨sa9, hstr9⟩ := hE.2.2.2.2.2.2.2.2.1 (142, "no such source") (by decide +kernel)
  refine vx_throwS (own := RX8) (cls := "java/lang/IndexOutOfBoundsException") (text := "no such source") (names := ["java/lang/RuntimeException", "java/lang/Exception"]) (ik := 99) (is := 142) (ic := 103) (sa := sa9) (A := dz_A Z) hx hb hst hown (by decide +kernel) (by decide +kernel) (hts _ (List.mem_of_getElem? (i := 1) rfl)) (hts _ (List.mem_of_getElem? (i := 2) rfl)) hstr9 (vx_hat (B := [.castable "java/lang/IndexOutOfBoundsException" "java/lang/IndexOutOfBoundsException", .declares (Bundle.initS "java/lang/RuntimeException"), .declares (Bundle.initS "java/lang/Exception"), .declares (Bundle.initS Bundle.tN)]) (fun w h => hts w (List.mem_cons_of_mem _ (List.mem_append_right _ h))) (by decide +kernel) (vx_c (va_Nw.use rfl (hE.2.2.2.2.2.2.1 ("java/lang/IndexOutOfBoundsException", "java/lang/IndexOutOfBoundsException") (by decide +kernel))) (vx_c (va_Nw.use rfl (hE.2.2.2.2.2.2.2.2.2.2.2.2 _ (List.mem_cons_self))) (vx_c (va_Nw.use rfl (hE.2.2.2.2.2.2.2.2.2.2.2.2 _ (List.mem_cons_of_mem _ List.mem_cons_self))) (vx_c (va_Nw.use rfl (hE.2.2.2.2.2.2.2.2.2.2.2.2 _ (List.mem_cons_of_mem _ (List.mem_cons_of_mem _ List.mem_cons_self)))) vx_n))))) (by decide +kernel) hE.2.2.2.2.1.1 hE.2.2.2.2.1.2 hS (hl.1.trans hml.symm) dX8_images_10 dX8_images_13 dX8_images_14 dX8_images_16 dX8_images_19 (fun x h => (hxt x h).elim) (Nat.le_of_ble_eq_true rfl) (Nat.le_of_ble_eq_true rfl) (Nat.le_of_ble_eq_true rfl) (Nat.le_of_ble_eq_true rfl) hlocks (fun t _ h1 h2 => dz_xc hG hS h1 h2) (fun z h => hS.2.2 z h) (Nat.le_of_ble_eq_true rfl) (Nat.le_of_ble_eq_true rfl)

set_option maxHeartbeats 4000000 in
set_option maxRecDepth 100000 in
theorem c_D_images_ok (l : Launch) (Z : dzG) (G : dzW) (ad : dzA) (aX nl nx : Nat) (dy ssf sst cfr grw : Int32) (ns sc : Nat) (cnt : Nat → Nat) (col row fl : Nat → Int32) (ha : ad (1, 0) = aX) (hco : G (1, 0) = some (eO 9 [.ref (ad (2, 0)), .ref (ad (9, 0)), .int (nI nl), .int (nI nx), .ref (ad (19, 0)), .ref (ad (26, 0)), .int dy, .int ssf, .int sst, .int cfr, .int grw])) (hls : dz_L Z G ad (9, 0) (10, 0) ns (fun i => ad (11, i))) (hsc : sc < ns) (hns : ns ≤ 5) (hso : G (11, sc) = some (eO 7 [.int (col sc), .int (row sc), .int (fl sc), .ref (ad (12, sc)), .int (nI (cnt sc)), .ref (ad (13, sc)), .ref (ad (15, sc))])) : dzRd l yX8_images wsX8_images 4 85 Z G ad [.ref aX, .int (nI sc)] (some (.int (nI (cnt sc)))) := by
  refine Met.ofW (cc := cX8_images) (maxL := 3) (ret := (some .int)) (by decide) rfl ?_
  intro p e s m args below meth c s₁ B hml hv
  obtain ⟨rfl, hG, hE⟩ := hv
  have hx := B.exec
  have hb := B.bytes
  have hrt := B.returns
  have hts := atoms_spec (ws := wsX8_images) B.pre
  have hown : s.vm.findClass RX8 = some m.cls := findClass_of_methodNamed B.named
  have hlocks := B.notSynchronized
  have hS : va_S (dz_A Z) s.heap s.heap [] := va_S.rf
  have hl := lv_entry ([.ref aX, .int (nI sc)]) (n := 3) (Nat.le_of_ble_eq_true rfl)
  rw [lg_entry_eq]
  generalize (lg_sl ([.ref aX, .int (nI sc)]) ++ List.replicate (3 - (lg_sl ([.ref aX, .int (nI sc)])).length) Slot.unset).toArray = ls at hl ⊢
  have hl : lv_has ls 3 [(0, .ref aX), (1, .int (nI sc))] := hl
  refine lv_aload_n hx hb dX8_images_0 rfl (lv_at hl 0 rfl) ?_
  refine lv_iload_n hx hb dX8_images_1 rfl (lv_at hl 1 rfl) ?_
  refine dz_kRr (va_runV (As := [_]) ⟨hx, hb, hml, hown, hts⟩ (c_sourceIn l Z _ _ _ _ _ _ _ _ _ _ _ _ _ _ _ _ ha hco hls hsc hns hso) (cwV 1 hts gX8_images_X8_sourceAt rfl rfl rfl (by decide +kernel) ⟨Nat.le_of_ble_eq_true rfl, Nat.le_of_ble_eq_true rfl⟩) (dz_P.preV hE hS hG hco rfl ha) rfl rfl hl.1 rfl (lv_room (Nat.le_of_ble_eq_true rfl)) dX8_images_2 ⟨Nat.le_of_ble_eq_true rfl, Nat.le_of_ble_eq_true rfl⟩) ?_
  refine lv_astore_n (lv' := [(2, .ref (ad (11, sc))), (0, .ref aX), (1, .int (nI sc))]) hx hb dX8_images_5 rfl hl (by decide) rfl (fun ls hl => ?_)
  refine lv_aload_n hx hb dX8_images_6 rfl (lv_at hl 0 rfl) ?_
  refine lv_ifnonnull (tgt := 20) hx hb dX8_images_7 (by decide) ?_
  refine lv_aload_n hx hb dX8_images_20 rfl (lv_at hl 0 rfl) ?_
  refine dz_kRi (va_runV (As := []) ⟨hx, hb, hml, hown, hts⟩ (c_X6_imageCount l Z _ _ _ _ _ _ _ _ _ _ rfl hso) (cwV 0 hts gX8_images_X6_imageCount rfl rfl rfl (by decide +kernel) ⟨Nat.le_of_ble_eq_true rfl, Nat.le_of_ble_eq_true rfl⟩) (dz_P.preV hE hS hG hso rfl rfl) rfl rfl hl.1 rfl (lv_room (Nat.le_of_ble_eq_true rfl)) dX8_images_21 ⟨Nat.le_of_ble_eq_true rfl, Nat.le_of_ble_eq_true rfl⟩) ?_
  refine W.iret hx hb hrt (fun t ht hW => ⟨congrArg (fun x => Outcome.returned (some (Value.int x))) ?_, ht⟩) (fun _ h => by cases h) dX8_images_24
  rfl

set_option maxHeartbeats 4000000 in
set_option maxRecDepth 100000 in
theorem c_D_anew_no (l : Launch) (hst : l.stackTraces = false) (Z : dzG) (G : dzW) (ad : dzA) (aX nl nx : Nat) (dy ssf sst cfr grw : Int32) (ns : Nat) (v1 : Int32) (ha : ad (1, 0) = aX) (hco : G (1, 0) = some (eO 9 [.ref (ad (2, 0)), .ref (ad (9, 0)), .int (nI nl), .int (nI nx), .ref (ad (19, 0)), .ref (ad (26, 0)), .int dy, .int ssf, .int sst, .int cfr, .int grw])) (hls : dz_L Z G ad (9, 0) (10, 0) ns (fun i => ad (11, i))) (hv : v1 < 0 ∨ nI ns ≤ v1) : vx_Met l yX8_imagesAnew wsX8_imagesAnew (dz_rm 6 82 1 6) (dz_P Z G ad [.ref aX, .int v1]) (fun _ _ _ _ => False) (dz_XC Z G ad (fun E => E = "java/lang/IndexOutOfBoundsException")) 1 6 (dz_A Z) := by
  refine vx_ofW (cc := cX8_imagesAnew) (maxL := 3) (ret := (some .int)) (by decide) rfl ?_
  intro p e s m args below meth c s₁ B hml hxt hv
  obtain ⟨rfl, hG, hE⟩ := hv
  have hx := B.exec
  have hb := B.bytes
  have hrt := B.returns
  have hts := atoms_spec (ws := wsX8_imagesAnew) B.pre
  have hown : s.vm.findClass RX8 = some m.cls := findClass_of_methodNamed B.named
  have hlocks := B.notSynchronized
  have hS : va_S (dz_A Z) s.heap s.heap [] := va_S.rf
  have hl := lv_entry ([.ref aX, .int v1]) (n := 3) (Nat.le_of_ble_eq_true rfl)
  rw [lg_entry_eq]
  generalize (lg_sl ([.ref aX, .int v1]) ++ List.replicate (3 - (lg_sl ([.ref aX, .int v1])).length) Slot.unset).toArray = ls at hl ⊢
  have hl : lv_has ls 3 [(0, .ref aX), (1, .int v1)] := hl
  refine lv_aload_n hx hb dX8_imagesAnew_0 rfl (lv_at hl 0 rfl) ?_
  refine lv_iload_n hx hb dX8_imagesAnew_1 rfl (lv_at hl 1 rfl) ?_
  refine dz_kRn (va_runV (As := [_]) ⟨hx, hb, hml, hown, hts⟩ (c_sourceOut l Z _ _ _ _ _ _ _ _ _ _ _ _ ha hco hls hv) (cwV 1 hts gX8_imagesAnew_X8_sourceAt rfl rfl rfl (by decide +kernel) ⟨Nat.le_of_ble_eq_true rfl, Nat.le_of_ble_eq_true rfl⟩) (dz_P.preV hE hS hG hco rfl ha) rfl rfl hl.1 rfl (lv_room (Nat.le_of_ble_eq_true rfl)) dX8_imagesAnew_2 ⟨Nat.le_of_ble_eq_true rfl, Nat.le_of_ble_eq_true rfl⟩) ?_
  refine lv_astore_nN (lv' := [(2, .null), (0, .ref aX), (1, .int v1)]) hx hb dX8_imagesAnew_5 rfl hl (by decide) rfl (fun ls hl => ?_)
  refine lv_aload_nN hx hb dX8_imagesAnew_6 rfl (lv_at hl 0 rfl) ?_
  refine lv_ifnonnullN hx hb dX8_imagesAnew_7 ?_
  obtain ⟨sa9, hstr9⟩ := hE.2.2.2.2.2.2.2.2.1 (142, "no such source") (by decide +kernel)
  refine vx_throwS (own := RX8) (cls := "java/lang/IndexOutOfBoundsException") (text := "no such source") (names := ["java/lang/RuntimeException", "java/lang/Exception"]) (ik := 99) (is := 142) (ic := 103) (sa := sa9) (A := dz_A Z) hx hb hst hown (by decide +kernel) (by decide +kernel) (hts _ (List.mem_of_getElem? (i := 1) rfl)) (hts _ (List.mem_of_getElem? (i := 2) rfl)) hstr9 (vx_hat (B := [.castable "java/lang/IndexOutOfBoundsException" "java/lang/IndexOutOfBoundsException", .declares (Bundle.initS "java/lang/RuntimeException"), .declares (Bundle.initS "java/lang/Exception"), .declares (Bundle.initS Bundle.tN)]) (fun w h => hts w (List.mem_cons_of_mem _ (List.mem_append_right _ h))) (by decide +kernel) (vx_c (va_Nw.use rfl (hE.2.2.2.2.2.2.1 ("java/lang/IndexOutOfBoundsException", "java/lang/IndexOutOfBoundsException") (by decide +kernel))) (vx_c (va_Nw.use rfl (hE.2.2.2.2.2.2.2.2.2.2.2.2 _ (List.mem_cons_self))) (vx_c (va_Nw.use rfl (hE.2.2.2.2.2.2.2.2.2.2.2.2 _ (List.mem_cons_of_mem _ List.mem_cons_self))) (vx_c (va_Nw.use rfl (hE.2.2.2.2.2.2.2.2.2.2.2.2 _ (List.mem_cons_of_mem _ (List.mem_cons_of_mem _ List.mem_cons_self)))) vx_n))))) (by decide +kernel) hE.2.2.2.2.1.1 hE.2.2.2.2.1.2 hS (hl.1.trans hml.symm) dX8_imagesAnew_10 dX8_imagesAnew_13 dX8_imagesAnew_14 dX8_imagesAnew_16 dX8_imagesAnew_19 (fun x h => (hxt x h).elim) (Nat.le_of_ble_eq_true rfl) (Nat.le_of_ble_eq_true rfl) (Nat.le_of_ble_eq_true rfl) (Nat.le_of_ble_eq_true rfl) hlocks (fun t _ h1 h2 => dz_xc hG hS h1 h2) (fun z h => hS.2.2 z h) (Nat.le_of_ble_eq_true rfl) (Nat.le_of_ble_eq_true rfl)

set_option maxHeartbeats 4000000 in
set_option maxRecDepth 100000 in
theorem c_D_imageOf_no (l : Launch) (hst : l.stackTraces = false) (Z : dzG) (G : dzW) (ad : dzA) (aX nl nx : Nat) (dy ssf sst cfr grw : Int32) (ns : Nat) (v1 v2 v3 : Int32) (ha : ad (1, 0) = aX) (hco : G (1, 0) = some (eO 9 [.ref (ad (2, 0)), .ref (ad (9, 0)), .int (nI nl), .int (nI nx), .ref (ad (19, 0)), .ref (ad (26, 0)), .int dy, .int ssf, .int sst, .int cfr, .int grw])) (hls : dz_L Z G ad (9, 0) (10, 0) ns (fun i => ad (11, i))) (hv : v1 < 0 ∨ nI ns ≤ v1) : vx_Met l yX8_imageOf wsX8_imageOf (dz_rm 6 82 1 6) (dz_P Z G ad [.ref aX, .int v1, .int v2, .int v3]) (fun _ _ _ _ => False) (dz_XC Z G ad (fun E => E = "java/lang/IndexOutOfBoundsException")) 1 6 (dz_A Z) := by
  refine vx_ofW (cc := cX8_imageOf) (maxL := 5) (ret := (some .int)) (by decide) rfl ?_
  intro p e s m args below meth c s₁ B hml hxt hv
  obtain ⟨rfl, hG, hE⟩ := hv
  have hx := B.exec
  have hb := B.bytes
  have hrt := B.returns
  have hts := atoms_spec (ws := wsX8_imageOf) B.pre
  have hown : s.vm.findClass RX8 = some m.cls := findClass_of_methodNamed B.named
  have hlocks := B.notSynchronized
  have hS : va_S (dz_A Z) s.heap s.heap [] := va_S.rf
  have hl := lv_entry ([.ref aX, .int v1, .int v2, .int v3]) (n := 5) (Nat.le_of_ble_eq_true rfl)
  rw [lg_entry_eq]
  generalize (lg_sl ([.ref aX, .int v1, .int v2, .int v3]) ++ List.replicate (5 - (lg_sl ([.ref aX, .int v1, .int v2, .int v3])).length) Slot.unset).toArray = ls at hl ⊢
  have hl : lv_has ls 5 [(0, .ref aX), (1, .int v1), (2, .int v2), (3, .int v3)] := hl
  refine lv_aload_n hx hb dX8_imageOf_0 rfl (lv_at hl 0 rfl) ?_
  refine lv_iload_n hx hb dX8_imageOf_1 rfl (lv_at hl 1 rfl) ?_
  refine dz_kRn (va_runV (As := [_]) ⟨hx, hb, hml, hown, hts⟩ (c_sourceOut l Z _ _ _ _ _ _ _ _ _ _ _ _ ha hco hls hv) (cwV 1 hts gX8_imageOf_X8_sourceAt rfl rfl rfl (by decide +kernel) ⟨Nat.le_of_ble_eq_true rfl, Nat.le_of_ble_eq_true rfl⟩) (dz_P.preV hE hS hG hco rfl ha) rfl rfl hl.1 rfl (lv_room (Nat.le_of_ble_eq_true rfl)) dX8_imageOf_2 ⟨Nat.le_of_ble_eq_true rfl, Nat.le_of_ble_eq_true rfl⟩) ?_
  refine lv_astoreN (lv' := [(4, .null), (0, .ref aX), (1, .int v1), (2, .int v2), (3, .int v3)]) hx hb dX8_imageOf_5 hl (by decide) rfl (fun ls hl => ?_)
  refine lv_aloadN hx hb dX8_imageOf_7 (lv_at hl 0 rfl) ?_
  refine lv_ifnullN (tgt := 21) hx hb dX8_imageOf_9 (by decide) ?_
  obtain ⟨sa9, hstr9⟩ := hE.2.2.2.2.2.2.2.2.1 (165, "no such source or image") (by decide +kernel)
  refine vx_throwS (own := RX8) (cls := "java/lang/IndexOutOfBoundsException") (text := "no such source or image") (names := ["java/lang/RuntimeException", "java/lang/Exception"]) (ik := 99) (is := 165) (ic := 103) (sa := sa9) (A := dz_A Z) hx hb hst hown (by decide +kernel) (by decide +kernel) (hts _ (List.mem_of_getElem? (i := 1) rfl)) (hts _ (List.mem_of_getElem? (i := 2) rfl)) hstr9 (vx_hat (B := [.castable "java/lang/IndexOutOfBoundsException" "java/lang/IndexOutOfBoundsException", .declares (Bundle.initS "java/lang/RuntimeException"), .declares (Bundle.initS "java/lang/Exception"), .declares (Bundle.initS Bundle.tN)]) (fun w h => hts w (List.mem_cons_of_mem _ (List.mem_append_left _ (List.mem_append_right _ h)))) (by decide +kernel) (vx_c (va_Nw.use rfl (hE.2.2.2.2.2.2.1 ("java/lang/IndexOutOfBoundsException", "java/lang/IndexOutOfBoundsException") (by decide +kernel))) (vx_c (va_Nw.use rfl (hE.2.2.2.2.2.2.2.2.2.2.2.2 _ (List.mem_cons_self))) (vx_c (va_Nw.use rfl (hE.2.2.2.2.2.2.2.2.2.2.2.2 _ (List.mem_cons_of_mem _ List.mem_cons_self))) (vx_c (va_Nw.use rfl (hE.2.2.2.2.2.2.2.2.2.2.2.2 _ (List.mem_cons_of_mem _ (List.mem_cons_of_mem _ List.mem_cons_self)))) vx_n))))) (by decide +kernel) hE.2.2.2.2.1.1 hE.2.2.2.2.1.2 hS (hl.1.trans hml.symm) dX8_imageOf_21 dX8_imageOf_24 dX8_imageOf_25 dX8_imageOf_27 dX8_imageOf_30 (fun x h => (hxt x h).elim) (Nat.le_of_ble_eq_true rfl) (Nat.le_of_ble_eq_true rfl) (Nat.le_of_ble_eq_true rfl) (Nat.le_of_ble_eq_true rfl) hlocks (fun t _ h1 h2 => dz_xc hG hS h1 h2) (fun z h => hS.2.2 z h) (Nat.le_of_ble_eq_true rfl) (Nat.le_of_ble_eq_true rfl)

set_option maxHeartbeats 4000000 in
set_option maxRecDepth 100000 in
theorem c_D_imageOf_out (l : Launch) (hst : l.stackTraces = false) (Z : dzG) (G : dzW) (ad : dzA) (aX nl nx : Nat) (dy ssf sst cfr grw : Int32) (ns sc : Nat) (cnt : Nat → Nat) (col row fl : Nat → Int32) (v2 v3 : Int32) (ha : ad (1, 0) = aX) (hco : G (1, 0) = some (eO 9 [.ref (ad (2, 0)), .ref (ad (9, 0)), .int (nI nl), .int (nI nx), .ref (ad (19, 0)), .ref (ad (26, 0)), .int dy, .int ssf, .int sst, .int cfr, .int grw])) (hls : dz_L Z G ad (9, 0) (10, 0) ns (fun i => ad (11, i))) (hsc : sc < ns) (hns : ns ≤ 5) (hso : G (11, sc) = some (eO 7 [.int (col sc), .int (row sc), .int (fl sc), .ref (ad (12, sc)), .int (nI (cnt sc)), .ref (ad (13, sc)), .ref (ad (15, sc))])) (hro : v2 < 0 ∨ nI (cnt sc) ≤ v2) : vx_Met l yX8_imageOf wsX8_imageOf (dz_rm 6 85 1 6) (dz_P Z G ad [.ref aX, .int (nI sc), .int v2, .int v3]) (fun _ _ _ _ => False) (dz_XC Z G ad (fun E => E = "java/lang/IndexOutOfBoundsException")) 1 6 (dz_A Z) := by
  refine vx_ofW (cc := cX8_imageOf) (maxL := 5) (ret := (some .int)) (by decide) rfl ?_
  intro p e s m args below meth c s₁ B hml hxt hv
  obtain ⟨rfl, hG, hE⟩ := hv
  have hx := B.exec
  have hb := B.bytes
  have hrt := B.returns
  have hts := atoms_spec (ws := wsX8_imageOf) B.pre
  have hown : s.vm.findClass RX8 = some m.cls := findClass_of_methodNamed B.named
  have hlocks := B.notSynchronized
  have hS : va_S (dz_A Z) s.heap s.heap [] := va_S.rf
  have hl := lv_entry ([.ref aX, .int (nI sc), .int v2, .int v3]) (n := 5) (Nat.le_of_ble_eq_true rfl)
  rw [lg_entry_eq]
  generalize (lg_sl ([.ref aX, .int (nI sc), .int v2, .int v3]) ++ List.replicate (5 - (lg_sl ([.ref aX, .int (nI sc), .int v2, .int v3])).length) Slot.unset).toArray = ls at hl ⊢
  have hl : lv_has ls 5 [(0, .ref aX), (1, .int (nI sc)), (2, .int v2), (3, .int v3)] := hl
  refine lv_aload_n hx hb dX8_imageOf_0 rfl (lv_at hl 0 rfl) ?_
  refine lv_iload_n hx hb dX8_imageOf_1 rfl (lv_at hl 1 rfl) ?_
  refine dz_kRr (va_runV (As := [_]) ⟨hx, hb, hml, hown, hts⟩ (c_sourceIn l Z _ _ _ _ _ _ _ _ _ _ _ _ _ _ _ _ ha hco hls hsc hns hso) (cwV 1 hts gX8_imageOf_X8_sourceAt rfl rfl rfl (by decide +kernel) ⟨Nat.le_of_ble_eq_true rfl, Nat.le_of_ble_eq_true rfl⟩) (dz_P.preV hE hS hG hco rfl ha) rfl rfl hl.1 rfl (lv_room (Nat.le_of_ble_eq_true rfl)) dX8_imageOf_2 ⟨Nat.le_of_ble_eq_true rfl, Nat.le_of_ble_eq_true rfl⟩) ?_
  refine lv_astore (lv' := [(4, .ref (ad (11, sc))), (0, .ref aX), (1, .int (nI sc)), (2, .int v2), (3, .int v3)]) hx hb dX8_imageOf_5 hl (by decide) rfl (fun ls hl => ?_)
  refine lv_aload hx hb dX8_imageOf_7 (lv_at hl 0 rfl) ?_
  refine lv_ifnull hx hb dX8_imageOf_9 ?_
  refine lv_aload hx hb dX8_imageOf_12 (lv_at hl 0 rfl) ?_
  refine lv_iload_n hx hb dX8_imageOf_14 rfl (lv_at hl 3 rfl) ?_
  refine dz_kRi (va_runV (As := [_]) ⟨hx, hb, hml, hown, hts⟩ (c_X6_hasImage l Z _ _ _ _ _ _ _ _ _ _ _ rfl hso) (cwV 1 hts gX8_imageOf_X6_hasImage rfl rfl rfl (by decide +kernel) ⟨Nat.le_of_ble_eq_true rfl, Nat.le_of_ble_eq_true rfl⟩) (dz_P.preV hE hS hG hso rfl rfl) rfl rfl hl.1 rfl (lv_room (Nat.le_of_ble_eq_true rfl)) dX8_imageOf_15 ⟨Nat.le_of_ble_eq_true rfl, Nat.le_of_ble_eq_true rfl⟩) ?_
  refine lv_topi (fun v_1 ev_1 => ?_)
  obtain rfl : v_1 = 0 := ev_1.trans (dz_b0 (fun z => hro.elim (Int32.not_lt.mpr z.1) (Int32.not_le.mpr z.2)))
  refine lv_if_ne (tgt := 31) hx hb dX8_imageOf_18 (by decide) (fun c_18 => absurd (by decide) c_18) (fun c_18 => ?_)
  obtain ⟨sa9, hstr9⟩ := hE.2.2.2.2.2.2.2.2.1 (165, "no such source or image") (by decide +kernel)
  refine vx_throwS (own := RX8) (cls := "java/lang/IndexOutOfBoundsException") (text := "no such source or image") (names := ["java/lang/RuntimeException", "java/lang/Exception"]) (ik := 99) (is := 165) (ic := 103) (sa := sa9) (A := dz_A Z) hx hb hst hown (by decide +kernel) (by decide +kernel) (hts _ (List.mem_of_getElem? (i := 1) rfl)) (hts _ (List.mem_of_getElem? (i := 2) rfl)) hstr9 (vx_hat (B := [.castable "java/lang/IndexOutOfBoundsException" "java/lang/IndexOutOfBoundsException", .declares (Bundle.initS "java/lang/RuntimeException"), .declares (Bundle.initS "java/lang/Exception"), .declares (Bundle.initS Bundle.tN)]) (fun w h => hts w (List.mem_cons_of_mem _ (List.mem_append_left _ (List.mem_append_right _ h)))) (by decide +kernel) (vx_c (va_Nw.use rfl (hE.2.2.2.2.2.2.1 ("java/lang/IndexOutOfBoundsException", "java/lang/IndexOutOfBoundsException") (by decide +kernel))) (vx_c (va_Nw.use rfl (hE.2.2.2.2.2.2.2.2.2.2.2.2 _ (List.mem_cons_self))) (vx_c (va_Nw.use rfl (hE.2.2.2.2.2.2.2.2.2.2.2.2 _ (List.mem_cons_of_mem _ List.mem_cons_self))) (vx_c (va_Nw.use rfl (hE.2.2.2.2.2.2.2.2.2.2.2.2 _ (List.mem_cons_of_mem _ (List.mem_cons_of_mem _ List.mem_cons_self)))) vx_n))))) (by decide +kernel) hE.2.2.2.2.1.1 hE.2.2.2.2.1.2 hS (hl.1.trans hml.symm) dX8_imageOf_21 dX8_imageOf_24 dX8_imageOf_25 dX8_imageOf_27 dX8_imageOf_30 (fun x h => (hxt x h).elim) (Nat.le_of_ble_eq_true rfl) (Nat.le_of_ble_eq_true rfl) (Nat.le_of_ble_eq_true rfl) (Nat.le_of_ble_eq_true rfl) hlocks (fun t _ h1 h2 => dz_xc hG hS h1 h2) (fun z h => hS.2.2 z h) (Nat.le_of_ble_eq_true rfl) (Nat.le_of_ble_eq_true rfl)

set_option maxHeartbeats 4000000 in
set_option maxRecDepth 100000 in
theorem c_D_light_no (l : Launch) (hst : l.stackTraces = false) (Z : dzG) (G : dzW) (ad : dzA) (aX nl nx : Nat) (dy ssf sst cfr grw : Int32) (ns : Nat) (v1 v2 : Int32) (ha : ad (1, 0) = aX) (hco : G (1, 0) = some (eO 9 [.ref (ad (2, 0)), .ref (ad (9, 0)), .int (nI nl), .int (nI nx), .ref (ad (19, 0)), .ref (ad (26, 0)), .int dy, .int ssf, .int sst, .int cfr, .int grw])) (hls : dz_L Z G ad (9, 0) (10, 0) ns (fun i => ad (11, i))) (hv : v1 < 0 ∨ nI ns ≤ v1) : vx_Met l yX8_light wsX8_light (dz_rm 6 82 1 6) (dz_P Z G ad [.ref aX, .int v1, .int v2]) (fun _ _ _ _ => False) (dz_XC Z G ad (fun E => E = "java/lang/IndexOutOfBoundsException")) 1 6 (dz_A Z) := by
  refine vx_ofW (cc := cX8_light) (maxL := 4) (ret := (some .int)) (by decide) rfl ?_
  intro p e s m args below meth c s₁ B hml hxt hv
  obtain ⟨rfl, hG, hE⟩ := hv
  have hx := B.exec
  have hb := B.bytes
  have hrt := B.returns
  have hts := atoms_spec (ws := wsX8_light) B.pre
  have hown : s.vm.findClass RX8 = some m.cls := findClass_of_methodNamed B.named
  have hlocks := B.notSynchronized
  have hS : va_S (dz_A Z) s.heap s.heap [] := va_S.rf
  have hl := lv_entry ([.ref aX, .int v1, .int v2]) (n := 4) (Nat.le_of_ble_eq_true rfl)
  rw [lg_entry_eq]
  generalize (lg_sl ([.ref aX, .int v1, .int v2]) ++ List.replicate (4 - (lg_sl ([.ref aX, .int v1, .int v2])).length) Slot.unset).toArray = ls at hl ⊢
  have hl : lv_has ls 4 [(0, .ref aX), (1, .int v1), (2, .int v2)] := hl
  refine lv_aload_n hx hb dX8_light_0 rfl (lv_at hl 0 rfl) ?_
  refine lv_iload_n hx hb dX8_light_1 rfl (lv_at hl 1 rfl) ?_
  refine dz_kRn (va_runV (As := [_]) ⟨hx, hb, hml, hown, hts⟩ (c_sourceOut l Z _ _ _ _ _ _ _ _ _ _ _ _ ha hco hls hv) (cwV 1 hts gX8_light_X8_sourceAt rfl rfl rfl (by decide +kernel) ⟨Nat.le_of_ble_eq_true rfl, Nat.le_of_ble_eq_true rfl⟩) (dz_P.preV hE hS hG hco rfl ha) rfl rfl hl.1 rfl (lv_room (Nat.le_of_ble_eq_true rfl)) dX8_light_2 ⟨Nat.le_of_ble_eq_true rfl, Nat.le_of_ble_eq_true rfl⟩) ?_
  refine lv_astore_nN (lv' := [(3, .null), (0, .ref aX), (1, .int v1), (2, .int v2)]) hx hb dX8_light_5 rfl hl (by decide) rfl (fun ls hl => ?_)
  refine lv_aload_nN hx hb dX8_light_6 rfl (lv_at hl 0 rfl) ?_
  refine lv_ifnullN (tgt := 18) hx hb dX8_light_7 (by decide) ?_
  obtain ⟨sa9, hstr9⟩ := hE.2.2.2.2.2.2.2.2.1 (165, "no such source or image") (by decide +kernel)
  refine vx_throwS (own := RX8) (cls := "java/lang/IndexOutOfBoundsException") (text := "no such source or image") (names := ["java/lang/RuntimeException", "java/lang/Exception"]) (ik := 99) (is := 165) (ic := 103) (sa := sa9) (A := dz_A Z) hx hb hst hown (by decide +kernel) (by decide +kernel) (hts _ (List.mem_of_getElem? (i := 1) rfl)) (hts _ (List.mem_of_getElem? (i := 2) rfl)) hstr9 (vx_hat (B := [.castable "java/lang/IndexOutOfBoundsException" "java/lang/IndexOutOfBoundsException", .declares (Bundle.initS "java/lang/RuntimeException"), .declares (Bundle.initS "java/lang/Exception"), .declares (Bundle.initS Bundle.tN)]) (fun w h => hts w (List.mem_cons_of_mem _ (List.mem_append_right _ h))) (by decide +kernel) (vx_c (va_Nw.use rfl (hE.2.2.2.2.2.2.1 ("java/lang/IndexOutOfBoundsException", "java/lang/IndexOutOfBoundsException") (by decide +kernel))) (vx_c (va_Nw.use rfl (hE.2.2.2.2.2.2.2.2.2.2.2.2 _ (List.mem_cons_self))) (vx_c (va_Nw.use rfl (hE.2.2.2.2.2.2.2.2.2.2.2.2 _ (List.mem_cons_of_mem _ List.mem_cons_self))) (vx_c (va_Nw.use rfl (hE.2.2.2.2.2.2.2.2.2.2.2.2 _ (List.mem_cons_of_mem _ (List.mem_cons_of_mem _ List.mem_cons_self)))) vx_n))))) (by decide +kernel) hE.2.2.2.2.1.1 hE.2.2.2.2.1.2 hS (hl.1.trans hml.symm) dX8_light_18 dX8_light_21 dX8_light_22 dX8_light_24 dX8_light_27 (fun x h => (hxt x h).elim) (Nat.le_of_ble_eq_true rfl) (Nat.le_of_ble_eq_true rfl) (Nat.le_of_ble_eq_true rfl) (Nat.le_of_ble_eq_true rfl) hlocks (fun t _ h1 h2 => dz_xc hG hS h1 h2) (fun z h => hS.2.2 z h) (Nat.le_of_ble_eq_true rfl) (Nat.le_of_ble_eq_true rfl)

set_option maxHeartbeats 4000000 in
set_option maxRecDepth 100000 in
theorem c_D_light_out (l : Launch) (hst : l.stackTraces = false) (Z : dzG) (G : dzW) (ad : dzA) (aX nl nx : Nat) (dy ssf sst cfr grw : Int32) (ns sc : Nat) (cnt : Nat → Nat) (col row fl : Nat → Int32) (v2 : Int32) (ha : ad (1, 0) = aX) (hco : G (1, 0) = some (eO 9 [.ref (ad (2, 0)), .ref (ad (9, 0)), .int (nI nl), .int (nI nx), .ref (ad (19, 0)), .ref (ad (26, 0)), .int dy, .int ssf, .int sst, .int cfr, .int grw])) (hls : dz_L Z G ad (9, 0) (10, 0) ns (fun i => ad (11, i))) (hsc : sc < ns) (hns : ns ≤ 5) (hso : G (11, sc) = some (eO 7 [.int (col sc), .int (row sc), .int (fl sc), .ref (ad (12, sc)), .int (nI (cnt sc)), .ref (ad (13, sc)), .ref (ad (15, sc))])) (hro : v2 < 0 ∨ nI (cnt sc) ≤ v2) : vx_Met l yX8_light wsX8_light (dz_rm 6 85 1 6) (dz_P Z G ad [.ref aX, .int (nI sc), .int v2]) (fun _ _ _ _ => False) (dz_XC Z G ad (fun E => E = "java/lang/IndexOutOfBoundsException")) 1 6 (dz_A Z) := by
  refine vx_ofW (cc := cX8_light) (maxL := 4) (ret := (some .int)) (by decide) rfl ?_
  intro p e s m args below meth c s₁ B hml hxt hv
  obtain ⟨rfl, hG, hE⟩ := hv
  have hx := B.exec
  have hb := B.bytes
  have hrt := B.returns
  have hts := atoms_spec (ws := wsX8_light) B.pre
  have hown : s.vm.findClass RX8 = some m.cls := findClass_of_methodNamed B.named
  have hlocks := B.notSynchronized
  have hS : va_S (dz_A Z) s.heap s.heap [] := va_S.rf
  have hl := lv_entry ([.ref aX, .int (nI sc), .int v2]) (n := 4) (Nat.le_of_ble_eq_true rfl)
  rw [lg_entry_eq]
  generalize (lg_sl ([.ref aX, .int (nI sc), .int v2]) ++ List.replicate (4 - (lg_sl ([.ref aX, .int (nI sc), .int v2])).length) Slot.unset).toArray = ls at hl ⊢
  have hl : lv_has ls 4 [(0, .ref aX), (1, .int (nI sc)), (2, .int v2)] := hl
  refine lv_aload_n hx hb dX8_light_0 rfl (lv_at hl 0 rfl) ?_
  refine lv_iload_n hx hb dX8_light_1 rfl (lv_at hl 1 rfl) ?_
  refine dz_kRr (va_runV (As := [_]) ⟨hx, hb, hml, hown, hts⟩ (c_sourceIn l Z _ _ _ _ _ _ _ _ _ _ _ _ _ _ _ _ ha hco hls hsc hns hso) (cwV 1 hts gX8_light_X8_sourceAt rfl rfl rfl (by decide +kernel) ⟨Nat.le_of_ble_eq_true rfl, Nat.le_of_ble_eq_true rfl⟩) (dz_P.preV hE hS hG hco rfl ha) rfl rfl hl.1 rfl (lv_room (Nat.le_of_ble_eq_true rfl)) dX8_light_2 ⟨Nat.le_of_ble_eq_true rfl, Nat.le_of_ble_eq_true rfl⟩) ?_
  refine lv_astore_n (lv' := [(3, .ref (ad (11, sc))), (0, .ref aX), (1, .int (nI sc)), (2, .int v2)]) hx hb dX8_light_5 rfl hl (by decide) rfl (fun ls hl => ?_)
  refine lv_aload_n hx hb dX8_light_6 rfl (lv_at hl 0 rfl) ?_
  refine lv_ifnull hx hb dX8_light_7 ?_
  refine lv_aload_n hx hb dX8_light_10 rfl (lv_at hl 0 rfl) ?_
  refine lv_iload_n hx hb dX8_light_11 rfl (lv_at hl 3 rfl) ?_
  refine dz_kRi (va_runV (As := [_]) ⟨hx, hb, hml, hown, hts⟩ (c_X6_hasImage l Z _ _ _ _ _ _ _ _ _ _ _ rfl hso) (cwV 1 hts gX8_light_X6_hasImage rfl rfl rfl (by decide +kernel) ⟨Nat.le_of_ble_eq_true rfl, Nat.le_of_ble_eq_true rfl⟩) (dz_P.preV hE hS hG hso rfl rfl) rfl rfl hl.1 rfl (lv_room (Nat.le_of_ble_eq_true rfl)) dX8_light_12 ⟨Nat.le_of_ble_eq_true rfl, Nat.le_of_ble_eq_true rfl⟩) ?_
  refine lv_topi (fun v_1 ev_1 => ?_)
  obtain rfl : v_1 = 0 := ev_1.trans (dz_b0 (fun z => hro.elim (Int32.not_lt.mpr z.1) (Int32.not_le.mpr z.2)))
  refine lv_if_ne (tgt := 28) hx hb dX8_light_15 (by decide) (fun c_15 => absurd (by decide) c_15) (fun c_15 => ?_)
  obtain ⟨sa9, hstr9⟩ := hE.2.2.2.2.2.2.2.2.1 (165, "no such source or image") (by decide +kernel)
  refine vx_throwS (own := RX8) (cls := "java/lang/IndexOutOfBoundsException") (text := "no such source or image") (names := ["java/lang/RuntimeException", "java/lang/Exception"]) (ik := 99) (is := 165) (ic := 103) (sa := sa9) (A := dz_A Z) hx hb hst hown (by decide +kernel) (by decide +kernel) (hts _ (List.mem_of_getElem? (i := 1) rfl)) (hts _ (List.mem_of_getElem? (i := 2) rfl)) hstr9 (vx_hat (B := [.castable "java/lang/IndexOutOfBoundsException" "java/lang/IndexOutOfBoundsException", .declares (Bundle.initS "java/lang/RuntimeException"), .declares (Bundle.initS "java/lang/Exception"), .declares (Bundle.initS Bundle.tN)]) (fun w h => hts w (List.mem_cons_of_mem _ (List.mem_append_right _ h))) (by decide +kernel) (vx_c (va_Nw.use rfl (hE.2.2.2.2.2.2.1 ("java/lang/IndexOutOfBoundsException", "java/lang/IndexOutOfBoundsException") (by decide +kernel))) (vx_c (va_Nw.use rfl (hE.2.2.2.2.2.2.2.2.2.2.2.2 _ (List.mem_cons_self))) (vx_c (va_Nw.use rfl (hE.2.2.2.2.2.2.2.2.2.2.2.2 _ (List.mem_cons_of_mem _ List.mem_cons_self))) (vx_c (va_Nw.use rfl (hE.2.2.2.2.2.2.2.2.2.2.2.2 _ (List.mem_cons_of_mem _ (List.mem_cons_of_mem _ List.mem_cons_self)))) vx_n))))) (by decide +kernel) hE.2.2.2.2.1.1 hE.2.2.2.2.1.2 hS (hl.1.trans hml.symm) dX8_light_18 dX8_light_21 dX8_light_22 dX8_light_24 dX8_light_27 (fun x h => (hxt x h).elim) (Nat.le_of_ble_eq_true rfl) (Nat.le_of_ble_eq_true rfl) (Nat.le_of_ble_eq_true rfl) (Nat.le_of_ble_eq_true rfl) hlocks (fun t _ h1 h2 => dz_xc hG hS h1 h2) (fun z h => hS.2.2 z h) (Nat.le_of_ble_eq_true rfl) (Nat.le_of_ble_eq_true rfl)

set_option maxHeartbeats 4000000 in
set_option maxRecDepth 100000 in
theorem c_D_delay_no (l : Launch) (hst : l.stackTraces = false) (Z : dzG) (G : dzW) (ad : dzA) (aX nl nx : Nat) (dy ssf sst cfr grw : Int32) (ns : Nat) (v1 v2 v3 : Int32) (ha : ad (1, 0) = aX) (hco : G (1, 0) = some (eO 9 [.ref (ad (2, 0)), .ref (ad (9, 0)), .int (nI nl), .int (nI nx), .ref (ad (19, 0)), .ref (ad (26, 0)), .int dy, .int ssf, .int sst, .int cfr, .int grw])) (hls : dz_L Z G ad (9, 0) (10, 0) ns (fun i => ad (11, i))) (hv : v1 < 0 ∨ nI ns ≤ v1) : vx_Met l yX8_delay wsX8_delay (dz_rm 6 82 1 6) (dz_P Z G ad [.ref aX, .int v1, .int v2, .int v3]) (fun _ _ _ _ => False) (dz_XC Z G ad (fun E => E = "java/lang/IndexOutOfBoundsException")) 1 6 (dz_A Z) := by
  refine vx_ofW (cc := cX8_delay) (maxL := 5) (ret := (some .int)) (by decide) rfl ?_
  intro p e s m args below meth c s₁ B hml hxt hv
  obtain ⟨rfl, hG, hE⟩ := hv
  have hx := B.exec
  have hb := B.bytes
  have hrt := B.returns
  have hts := atoms_spec (ws := wsX8_delay) B.pre
  have hown : s.vm.findClass RX8 = some m.cls := findClass_of_methodNamed B.named
  have hlocks := B.notSynchronized
  have hS : va_S (dz_A Z) s.heap s.heap [] := va_S.rf
  have hl := lv_entry ([.ref aX, .int v1, .int v2, .int v3]) (n := 5) (Nat.le_of_ble_eq_true rfl)
  rw [lg_entry_eq]
  generalize (lg_sl ([.ref aX, .int v1, .int v2, .int v3]) ++ List.replicate (5 - (lg_sl ([.ref aX, .int v1, .int v2, .int v3])).length) Slot.unset).toArray = ls at hl ⊢
  have hl : lv_has ls 5 [(0, .ref aX), (1, .int v1), (2, .int v2), (3, .int v3)] := hl
  refine lv_aload_n hx hb dX8_delay_0 rfl (lv_at hl 0 rfl) ?_
  refine lv_iload_n hx hb dX8_delay_1 rfl (lv_at hl 1 rfl) ?_
  refine dz_kRn (va_runV (As := [_]) ⟨hx, hb, hml, hown, hts⟩ (c_sourceOut l Z _ _ _ _ _ _ _ _ _ _ _ _ ha hco hls hv) (cwV 1 hts gX8_delay_X8_sourceAt rfl rfl rfl (by decide +kernel) ⟨Nat.le_of_ble_eq_true rfl, Nat.le_of_ble_eq_true rfl⟩) (dz_P.preV hE hS hG hco rfl ha) rfl rfl hl.1 rfl (lv_room (Nat.le_of_ble_eq_true rfl)) dX8_delay_2 ⟨Nat.le_of_ble_eq_true rfl, Nat.le_of_ble_eq_true rfl⟩) ?_
  refine lv_astoreN (lv' := [(4, .null), (0, .ref aX), (1, .int v1), (2, .int v2), (3, .int v3)]) hx hb dX8_delay_5 hl (by decide) rfl (fun ls hl => ?_)
  refine lv_aloadN hx hb dX8_delay_7 (lv_at hl 0 rfl) ?_
  refine lv_iload_n hx hb dX8_delay_9 rfl (lv_at hl 3 rfl) ?_
  refine lv_iload_n hx hb dX8_delay_10 rfl (lv_at hl 4 rfl) ?_
  refine dz_kRi (va_runS (As := [_, _, _]) ⟨hx, hb, hml, hown, hts⟩ (c_areN l Z _ _ _ _ ) (va_cwS 3 hts gX8_delay_X8_areImages rfl rfl rfl (by decide +kernel) ⟨Nat.le_of_ble_eq_true rfl, Nat.le_of_ble_eq_true rfl⟩) (dz_P.pre hE hS hG) rfl rfl hl.1 rfl (lv_room (Nat.le_of_ble_eq_true rfl)) dX8_delay_11 ⟨Nat.le_of_ble_eq_true rfl, Nat.le_of_ble_eq_true rfl⟩) ?_
  refine lv_topi (fun v_1 ev_1 => ?_)
  obtain rfl : v_1 = 0 := ev_1
  refine lv_if_ne (tgt := 27) hx hb dX8_delay_14 (by decide) (fun c_14 => absurd (by decide) c_14) (fun c_14 => ?_)
  obtain ⟨sa9, hstr9⟩ := hE.2.2.2.2.2.2.2.2.1 (165, "no such source or image") (by decide +kernel)
  refine vx_throwS (own := RX8) (cls := "java/lang/IndexOutOfBoundsException") (text := "no such source or image") (names := ["java/lang/RuntimeException", "java/lang/Exception"]) (ik := 99) (is := 165) (ic := 103) (sa := sa9) (A := dz_A Z) hx hb hst hown (by decide +kernel) (by decide +kernel) (hts _ (List.mem_of_getElem? (i := 1) rfl)) (hts _ (List.mem_of_getElem? (i := 2) rfl)) hstr9 (vx_hat (B := [.castable "java/lang/IndexOutOfBoundsException" "java/lang/IndexOutOfBoundsException", .declares (Bundle.initS "java/lang/RuntimeException"), .declares (Bundle.initS "java/lang/Exception"), .declares (Bundle.initS Bundle.tN)]) (fun w h => hts w (List.mem_cons_of_mem _ (List.mem_append_right _ h))) (by decide +kernel) (vx_c (va_Nw.use rfl (hE.2.2.2.2.2.2.1 ("java/lang/IndexOutOfBoundsException", "java/lang/IndexOutOfBoundsException") (by decide +kernel))) (vx_c (va_Nw.use rfl (hE.2.2.2.2.2.2.2.2.2.2.2.2 _ (List.mem_cons_self))) (vx_c (va_Nw.use rfl (hE.2.2.2.2.2.2.2.2.2.2.2.2 _ (List.mem_cons_of_mem _ List.mem_cons_self))) (vx_c (va_Nw.use rfl (hE.2.2.2.2.2.2.2.2.2.2.2.2 _ (List.mem_cons_of_mem _ (List.mem_cons_of_mem _ List.mem_cons_self)))) vx_n))))) (by decide +kernel) hE.2.2.2.2.1.1 hE.2.2.2.2.1.2 hS (hl.1.trans hml.symm) dX8_delay_17 dX8_delay_20 dX8_delay_21 dX8_delay_23 dX8_delay_26 (fun x h => (hxt x h).elim) (Nat.le_of_ble_eq_true rfl) (Nat.le_of_ble_eq_true rfl) (Nat.le_of_ble_eq_true rfl) (Nat.le_of_ble_eq_true rfl) hlocks (fun t _ h1 h2 => dz_xc hG hS h1 h2) (fun z h => hS.2.2 z h) (Nat.le_of_ble_eq_true rfl) (Nat.le_of_ble_eq_true rfl)

set_option maxHeartbeats 4000000 in
set_option maxRecDepth 100000 in
theorem c_D_flare_no (l : Launch) (hst : l.stackTraces = false) (Z : dzG) (G : dzW) (ad : dzA) (aX nl nx : Nat) (dy ssf sst cfr grw : Int32) (ns : Nat) (v1 v2 : Int32) (ha : ad (1, 0) = aX) (hco : G (1, 0) = some (eO 9 [.ref (ad (2, 0)), .ref (ad (9, 0)), .int (nI nl), .int (nI nx), .ref (ad (19, 0)), .ref (ad (26, 0)), .int dy, .int ssf, .int sst, .int cfr, .int grw])) (hls : dz_L Z G ad (9, 0) (10, 0) ns (fun i => ad (11, i))) (hv : v1 < 0 ∨ nI ns ≤ v1) : vx_Met l yX8_flare wsX8_flare (dz_rm 6 82 1 6) (dz_P Z G ad [.ref aX, .int v1, .int v2]) (fun _ _ _ _ => False) (dz_XC Z G ad (fun E => E = "java/lang/IndexOutOfBoundsException")) 1 6 (dz_A Z) := by
  refine vx_ofW (cc := cX8_flare) (maxL := 4) (ret := (some .int)) (by decide) rfl ?_
  intro p e s m args below meth c s₁ B hml hxt hv
  obtain ⟨rfl, hG, hE⟩ := hv
  have hx := B.exec
  have hb := B.bytes
  have hrt := B.returns
  have hts := atoms_spec (ws := wsX8_flare) B.pre
  have hown : s.vm.findClass RX8 = some m.cls := findClass_of_methodNamed B.named
  have hlocks := B.notSynchronized
  have hS : va_S (dz_A Z) s.heap s.heap [] := va_S.rf
  have hl := lv_entry ([.ref aX, .int v1, .int v2]) (n := 4) (Nat.le_of_ble_eq_true rfl)
  rw [lg_entry_eq]
  generalize (lg_sl ([.ref aX, .int v1, .int v2]) ++ List.replicate (4 - (lg_sl ([.ref aX, .int v1, .int v2])).length) Slot.unset).toArray = ls at hl ⊢
  have hl : lv_has ls 4 [(0, .ref aX), (1, .int v1), (2, .int v2)] := hl
  refine lv_aload_n hx hb dX8_flare_0 rfl (lv_at hl 0 rfl) ?_
  refine lv_iload_n hx hb dX8_flare_1 rfl (lv_at hl 1 rfl) ?_
  refine dz_kRn (va_runV (As := [_]) ⟨hx, hb, hml, hown, hts⟩ (c_sourceOut l Z _ _ _ _ _ _ _ _ _ _ _ _ ha hco hls hv) (cwV 1 hts gX8_flare_X8_sourceAt rfl rfl rfl (by decide +kernel) ⟨Nat.le_of_ble_eq_true rfl, Nat.le_of_ble_eq_true rfl⟩) (dz_P.preV hE hS hG hco rfl ha) rfl rfl hl.1 rfl (lv_room (Nat.le_of_ble_eq_true rfl)) dX8_flare_2 ⟨Nat.le_of_ble_eq_true rfl, Nat.le_of_ble_eq_true rfl⟩) ?_
  refine lv_astore_nN (lv' := [(3, .null), (0, .ref aX), (1, .int v1), (2, .int v2)]) hx hb dX8_flare_5 rfl hl (by decide) rfl (fun ls hl => ?_)
  refine lv_aload_nN hx hb dX8_flare_6 rfl (lv_at hl 0 rfl) ?_
  refine lv_ifnonnullN hx hb dX8_flare_7 ?_
  obtain ⟨sa9, hstr9⟩ := hE.2.2.2.2.2.2.2.2.1 (142, "no such source") (by decide +kernel)
  refine vx_throwS (own := RX8) (cls := "java/lang/IndexOutOfBoundsException") (text := "no such source") (names := ["java/lang/RuntimeException", "java/lang/Exception"]) (ik := 99) (is := 142) (ic := 103) (sa := sa9) (A := dz_A Z) hx hb hst hown (by decide +kernel) (by decide +kernel) (hts _ (List.mem_of_getElem? (i := 1) rfl)) (hts _ (List.mem_of_getElem? (i := 2) rfl)) hstr9 (vx_hat (B := [.castable "java/lang/IndexOutOfBoundsException" "java/lang/IndexOutOfBoundsException", .declares (Bundle.initS "java/lang/RuntimeException"), .declares (Bundle.initS "java/lang/Exception"), .declares (Bundle.initS Bundle.tN)]) (fun w h => hts w (List.mem_cons_of_mem _ (List.mem_append_left _ (List.mem_append_left _ (List.mem_append_right _ h))))) (by decide +kernel) (vx_c (va_Nw.use rfl (hE.2.2.2.2.2.2.1 ("java/lang/IndexOutOfBoundsException", "java/lang/IndexOutOfBoundsException") (by decide +kernel))) (vx_c (va_Nw.use rfl (hE.2.2.2.2.2.2.2.2.2.2.2.2 _ (List.mem_cons_self))) (vx_c (va_Nw.use rfl (hE.2.2.2.2.2.2.2.2.2.2.2.2 _ (List.mem_cons_of_mem _ List.mem_cons_self))) (vx_c (va_Nw.use rfl (hE.2.2.2.2.2.2.2.2.2.2.2.2 _ (List.mem_cons_of_mem _ (List.mem_cons_of_mem _ List.mem_cons_self)))) vx_n))))) (by decide +kernel) hE.2.2.2.2.1.1 hE.2.2.2.2.1.2 hS (hl.1.trans hml.symm) dX8_flare_10 dX8_flare_13 dX8_flare_14 dX8_flare_16 dX8_flare_19 (fun x h => (hxt x h).elim) (Nat.le_of_ble_eq_true rfl) (Nat.le_of_ble_eq_true rfl) (Nat.le_of_ble_eq_true rfl) (Nat.le_of_ble_eq_true rfl) hlocks (fun t _ h1 h2 => dz_xc hG hS h1 h2) (fun z h => hS.2.2 z h) (Nat.le_of_ble_eq_true rfl) (Nat.le_of_ble_eq_true rfl)

set_option maxHeartbeats 4000000 in
set_option maxRecDepth 100000 in
theorem c_D_flare_bad (l : Launch) (hst : l.stackTraces = false) (Z : dzG) (G : dzW) (ad : dzA) (aX nl nx : Nat) (dy ssf sst cfr grw : Int32) (ns sc : Nat) (cnt : Nat → Nat) (col row fl : Nat → Int32) (v2 : Int32) (ha : ad (1, 0) = aX) (hco : G (1, 0) = some (eO 9 [.ref (ad (2, 0)), .ref (ad (9, 0)), .int (nI nl), .int (nI nx), .ref (ad (19, 0)), .ref (ad (26, 0)), .int dy, .int ssf, .int sst, .int cfr, .int grw])) (hls : dz_L Z G ad (9, 0) (10, 0) ns (fun i => ad (11, i))) (hsc : sc < ns) (hns : ns ≤ 5) (hso : G (11, sc) = some (eO 7 [.int (col sc), .int (row sc), .int (fl sc), .ref (ad (12, sc)), .int (nI (cnt sc)), .ref (ad (13, sc)), .ref (ad (15, sc))])) (hbad : ¬ (((-100) : Int32) ≤ v2 ∧ v2 ≤ 100)) : vx_Met l yX8_flare wsX8_flare (dz_rm 6 85 1 6) (dz_P Z G ad [.ref aX, .int (nI sc), .int v2]) (fun _ _ _ _ => False) (dz_XC Z G ad (fun E => E = "java/lang/IllegalArgumentException")) 1 6 (dz_A Z) := by
  refine vx_ofW (cc := cX8_flare) (maxL := 4) (ret := (some .int)) (by decide) rfl ?_
  intro p e s m args below meth c s₁ B hml hxt hv
  obtain ⟨rfl, hG, hE⟩ := hv
  have hx := B.exec
  have hb := B.bytes
  have hrt := B.returns
  have hts := atoms_spec (ws := wsX8_flare) B.pre
  have hown : s.vm.findClass RX8 = some m.cls := findClass_of_methodNamed B.named
  have hlocks := B.notSynchronized
  have hS : va_S (dz_A Z) s.heap s.heap [] := va_S.rf
  have hl := lv_entry ([.ref aX, .int (nI sc), .int v2]) (n := 4) (Nat.le_of_ble_eq_true rfl)
  rw [lg_entry_eq]
  generalize (lg_sl ([.ref aX, .int (nI sc), .int v2]) ++ List.replicate (4 - (lg_sl ([.ref aX, .int (nI sc), .int v2])).length) Slot.unset).toArray = ls at hl ⊢
  have hl : lv_has ls 4 [(0, .ref aX), (1, .int (nI sc)), (2, .int v2)] := hl
  refine lv_aload_n hx hb dX8_flare_0 rfl (lv_at hl 0 rfl) ?_
  refine lv_iload_n hx hb dX8_flare_1 rfl (lv_at hl 1 rfl) ?_
  refine dz_kRr (va_runV (As := [_]) ⟨hx, hb, hml, hown, hts⟩ (c_sourceIn l Z _ _ _ _ _ _ _ _ _ _ _ _ _ _ _ _ ha hco hls hsc hns hso) (cwV 1 hts gX8_flare_X8_sourceAt rfl rfl rfl (by decide +kernel) ⟨Nat.le_of_ble_eq_true rfl, Nat.le_of_ble_eq_true rfl⟩) (dz_P.preV hE hS hG hco rfl ha) rfl rfl hl.1 rfl (lv_room (Nat.le_of_ble_eq_true rfl)) dX8_flare_2 ⟨Nat.le_of_ble_eq_true rfl, Nat.le_of_ble_eq_true rfl⟩) ?_
  refine lv_astore_n (lv' := [(3, .ref (ad (11, sc))), (0, .ref aX), (1, .int (nI sc)), (2, .int v2)]) hx hb dX8_flare_5 rfl hl (by decide) rfl (fun ls hl => ?_)
  refine lv_aload_n hx hb dX8_flare_6 rfl (lv_at hl 0 rfl) ?_
  refine lv_ifnonnull (tgt := 20) hx hb dX8_flare_7 (by decide) ?_
  refine lv_iload_n hx hb dX8_flare_20 rfl (lv_at hl 3 rfl) ?_
  refine lv_bipush (v := (-100)) hx hb dX8_flare_21 (by decide) ?_
  refine lv_bipush (v := 100) hx hb dX8_flare_23 (by decide) ?_
  refine dz_kRi (va_runS (As := [_, _, _]) ⟨hx, hb, hml, hown, hts⟩ (c_X8_isWithin l Z _ _ _ _ _ ) (va_cwS 3 hts gX8_flare_X8_isWithin rfl rfl rfl (by decide +kernel) ⟨Nat.le_of_ble_eq_true rfl, Nat.le_of_ble_eq_true rfl⟩) (dz_P.pre hE hS hG) rfl rfl hl.1 rfl (lv_room (Nat.le_of_ble_eq_true rfl)) dX8_flare_25 ⟨Nat.le_of_ble_eq_true rfl, Nat.le_of_ble_eq_true rfl⟩) ?_
  refine lv_topi (fun v_1 ev_1 => ?_)
  obtain rfl : v_1 = 0 := ev_1.trans (dz_b0 hbad)
  refine lv_if_ne (tgt := 41) hx hb dX8_flare_28 (by decide) (fun c_28 => absurd (by decide) c_28) (fun c_28 => ?_)
  obtain ⟨sa9, hstr9⟩ := hE.2.2.2.2.2.2.2.2.1 (144, "too much more or less light") (by decide +kernel)
  refine vx_throwS (own := RX8) (cls := "java/lang/IllegalArgumentException") (text := "too much more or less light") (names := ["java/lang/RuntimeException", "java/lang/Exception"]) (ik := 67) (is := 144) (ic := 71) (sa := sa9) (A := dz_A Z) hx hb hst hown (by decide +kernel) (by decide +kernel) (hts _ (List.mem_of_getElem? (i := 3) rfl)) (hts _ (List.mem_of_getElem? (i := 4) rfl)) hstr9 (vx_hat (B := [.castable "java/lang/IllegalArgumentException" "java/lang/IllegalArgumentException", .declares (Bundle.initS "java/lang/RuntimeException"), .declares (Bundle.initS "java/lang/Exception"), .declares (Bundle.initS Bundle.tN)]) (fun w h => hts w (List.mem_cons_of_mem _ (List.mem_append_left _ (List.mem_append_right _ h)))) (by decide +kernel) (vx_c (va_Nw.use rfl (hE.2.2.2.2.2.2.1 ("java/lang/IllegalArgumentException", "java/lang/IllegalArgumentException") (by decide +kernel))) (vx_c (va_Nw.use rfl (hE.2.2.2.2.2.2.2.2.2.2.2.2 _ (List.mem_cons_self))) (vx_c (va_Nw.use rfl (hE.2.2.2.2.2.2.2.2.2.2.2.2 _ (List.mem_cons_of_mem _ List.mem_cons_self))) (vx_c (va_Nw.use rfl (hE.2.2.2.2.2.2.2.2.2.2.2.2 _ (List.mem_cons_of_mem _ (List.mem_cons_of_mem _ List.mem_cons_self)))) vx_n))))) (by decide +kernel) hE.2.2.2.2.1.1 hE.2.2.2.2.1.2 hS (hl.1.trans hml.symm) dX8_flare_31 dX8_flare_34 dX8_flare_35 dX8_flare_37 dX8_flare_40 (fun x h => (hxt x h).elim) (Nat.le_of_ble_eq_true rfl) (Nat.le_of_ble_eq_true rfl) (Nat.le_of_ble_eq_true rfl) (Nat.le_of_ble_eq_true rfl) hlocks (fun t _ h1 h2 => dz_xc hG hS h1 h2) (fun z h => hS.2.2 z h) (Nat.le_of_ble_eq_true rfl) (Nat.le_of_ble_eq_true rfl)

set_option maxHeartbeats 4000000 in
set_option maxRecDepth 100000 in
theorem c_D_flare_full (l : Launch) (hst : l.stackTraces = false) (Z : dzG) (G : dzW) (ad : dzA) (aX nl nx : Nat) (dy ssf sst cfr grw : Int32) (ns sc : Nat) (cnt : Nat → Nat) (col row fl : Nat → Int32) (v2 : Int32) (ha : ad (1, 0) = aX) (hco : G (1, 0) = some (eO 9 [.ref (ad (2, 0)), .ref (ad (9, 0)), .int (nI nl), .int (nI nx), .ref (ad (19, 0)), .ref (ad (26, 0)), .int dy, .int ssf, .int sst, .int cfr, .int grw])) (hls : dz_L Z G ad (9, 0) (10, 0) ns (fun i => ad (11, i))) (hsc : sc < ns) (hns : ns ≤ 5) (hso : G (11, sc) = some (eO 7 [.int (col sc), .int (row sc), .int (fl sc), .ref (ad (12, sc)), .int (nI (cnt sc)), .ref (ad (13, sc)), .ref (ad (15, sc))])) (hg : (((-100) : Int32) ≤ v2 ∧ v2 ≤ 100)) (hnl : nl = 40) : vx_Met l yX8_flare wsX8_flare (dz_rm 6 85 1 6) (dz_P Z G ad [.ref aX, .int (nI sc), .int v2]) (fun _ _ _ _ => False) (dz_XC Z G ad (fun E => E = "java/lang/IllegalStateException")) 1 6 (dz_A Z) := by
  refine vx_ofW (cc := cX8_flare) (maxL := 4) (ret := (some .int)) (by decide) rfl ?_
  intro p e s m args below meth c s₁ B hml hxt hv
  obtain ⟨rfl, hG, hE⟩ := hv
  have hx := B.exec
  have hb := B.bytes
  have hrt := B.returns
  have hts := atoms_spec (ws := wsX8_flare) B.pre
  have hown : s.vm.findClass RX8 = some m.cls := findClass_of_methodNamed B.named
  have hlocks := B.notSynchronized
  have hS : va_S (dz_A Z) s.heap s.heap [] := va_S.rf
  have hl := lv_entry ([.ref aX, .int (nI sc), .int v2]) (n := 4) (Nat.le_of_ble_eq_true rfl)
  rw [lg_entry_eq]
  generalize (lg_sl ([.ref aX, .int (nI sc), .int v2]) ++ List.replicate (4 - (lg_sl ([.ref aX, .int (nI sc), .int v2])).length) Slot.unset).toArray = ls at hl ⊢
  have hl : lv_has ls 4 [(0, .ref aX), (1, .int (nI sc)), (2, .int v2)] := hl
  refine lv_aload_n hx hb dX8_flare_0 rfl (lv_at hl 0 rfl) ?_
  refine lv_iload_n hx hb dX8_flare_1 rfl (lv_at hl 1 rfl) ?_
  refine dz_kRr (va_runV (As := [_]) ⟨hx, hb, hml, hown, hts⟩ (c_sourceIn l Z _ _ _ _ _ _ _ _ _ _ _ _ _ _ _ _ ha hco hls hsc hns hso) (cwV 1 hts gX8_flare_X8_sourceAt rfl rfl rfl (by decide +kernel) ⟨Nat.le_of_ble_eq_true rfl, Nat.le_of_ble_eq_true rfl⟩) (dz_P.preV hE hS hG hco rfl ha) rfl rfl hl.1 rfl (lv_room (Nat.le_of_ble_eq_true rfl)) dX8_flare_2 ⟨Nat.le_of_ble_eq_true rfl, Nat.le_of_ble_eq_true rfl⟩) ?_
  refine lv_astore_n (lv' := [(3, .ref (ad (11, sc))), (0, .ref aX), (1, .int (nI sc)), (2, .int v2)]) hx hb dX8_flare_5 rfl hl (by decide) rfl (fun ls hl => ?_)
  refine lv_aload_n hx hb dX8_flare_6 rfl (lv_at hl 0 rfl) ?_
  refine lv_ifnonnull (tgt := 20) hx hb dX8_flare_7 (by decide) ?_
  refine lv_iload_n hx hb dX8_flare_20 rfl (lv_at hl 3 rfl) ?_
  refine lv_bipush (v := (-100)) hx hb dX8_flare_21 (by decide) ?_
  refine lv_bipush (v := 100) hx hb dX8_flare_23 (by decide) ?_
  refine dz_kRi (va_runS (As := [_, _, _]) ⟨hx, hb, hml, hown, hts⟩ (c_X8_isWithin l Z _ _ _ _ _ ) (va_cwS 3 hts gX8_flare_X8_isWithin rfl rfl rfl (by decide +kernel) ⟨Nat.le_of_ble_eq_true rfl, Nat.le_of_ble_eq_true rfl⟩) (dz_P.pre hE hS hG) rfl rfl hl.1 rfl (lv_room (Nat.le_of_ble_eq_true rfl)) dX8_flare_25 ⟨Nat.le_of_ble_eq_true rfl, Nat.le_of_ble_eq_true rfl⟩) ?_
  refine lv_topi (fun v_1 ev_1 => ?_)
  obtain rfl : v_1 = 1 := ev_1.trans (dz_b1 hg)
  refine lv_if_ne (tgt := 41) hx hb dX8_flare_28 (by decide) (fun c_28 => ?_) (fun c_28 => absurd c_28 (by decide))
  refine lv_aload_n hx hb dX8_flare_41 rfl (lv_at hl 1 rfl) ?_
  refine dz_get hx hb hts (fun _ h => List.mem_cons_of_mem _ (List.mem_append_left _ (List.mem_append_left _ (List.mem_append_left _ (List.mem_append_left _ (List.mem_append_left _ (List.mem_append_left _ (List.mem_append_right _ h)))))))) hown hE hG ha hco rfl 2 (by decide) (hts _ (List.mem_of_getElem? (i := 7) rfl)) (fun _ h9 => h9) rfl dX8_flare_42 ?_
  refine lv_bipush (v := 40) hx hb dX8_flare_45 (by decide) ?_
  refine lv_icmp_lt (tgt := 60) hx hb dX8_flare_47 (by decide) (fun c_47 => absurd c_47 (by rw [hnl]; decide)) (fun c_47 => ?_)
  obtain ⟨sa9, hstr9⟩ := hE.2.2.2.2.2.2.2.2.1 (146, "there were 40 flares") (by decide +kernel)
  refine vx_throwS (own := RX8) (cls := "java/lang/IllegalStateException") (text := "there were 40 flares") (names := ["java/lang/RuntimeException", "java/lang/Exception"]) (ik := 78) (is := 146) (ic := 82) (sa := sa9) (A := dz_A Z) hx hb hst hown (by decide +kernel) (by decide +kernel) (hts _ (List.mem_of_getElem? (i := 5) rfl)) (hts _ (List.mem_of_getElem? (i := 6) rfl)) hstr9 (vx_hat (B := [.castable "java/lang/IllegalStateException" "java/lang/IllegalStateException", .declares (Bundle.initS "java/lang/RuntimeException"), .declares (Bundle.initS "java/lang/Exception"), .declares (Bundle.initS Bundle.tN)]) (fun w h => hts w (List.mem_cons_of_mem _ (List.mem_append_right _ h))) (by decide +kernel) (vx_c (va_Nw.use rfl (hE.2.2.2.2.2.2.1 ("java/lang/IllegalStateException", "java/lang/IllegalStateException") (by decide +kernel))) (vx_c (va_Nw.use rfl (hE.2.2.2.2.2.2.2.2.2.2.2.2 _ (List.mem_cons_self))) (vx_c (va_Nw.use rfl (hE.2.2.2.2.2.2.2.2.2.2.2.2 _ (List.mem_cons_of_mem _ List.mem_cons_self))) (vx_c (va_Nw.use rfl (hE.2.2.2.2.2.2.2.2.2.2.2.2 _ (List.mem_cons_of_mem _ (List.mem_cons_of_mem _ List.mem_cons_self)))) vx_n))))) (by decide +kernel) hE.2.2.2.2.1.1 hE.2.2.2.2.1.2 hS (hl.1.trans hml.symm) dX8_flare_50 dX8_flare_53 dX8_flare_54 dX8_flare_56 dX8_flare_59 (fun x h => (hxt x h).elim) (Nat.le_of_ble_eq_true rfl) (Nat.le_of_ble_eq_true rfl) (Nat.le_of_ble_eq_true rfl) (Nat.le_of_ble_eq_true rfl) hlocks (fun t _ h1 h2 => dz_xc hG hS h1 h2) (fun z h => hS.2.2 z h) (Nat.le_of_ble_eq_true rfl) (Nat.le_of_ble_eq_true rfl)

set_option maxHeartbeats 4000000 in
set_option maxRecDepth 100000 in
theorem c_D_booked_no (l : Launch) (hst : l.stackTraces = false) (Z : dzG) (G : dzW) (ad : dzA) (aX nl nx : Nat) (dy ssf sst cfr grw : Int32) (bkk iop : Int32) (v1 : Int32) (ha : ad (1, 0) = aX) (hco : G (1, 0) = some (eO 9 [.ref (ad (2, 0)), .ref (ad (9, 0)), .int (nI nl), .int (nI nx), .ref (ad (19, 0)), .ref (ad (26, 0)), .int dy, .int ssf, .int sst, .int cfr, .int grw])) (hbo : G (26, 0) = some (eO 2 [.ref (ad (27, 0)), .ref (ad (28, 0)), .int bkk, .ref (ad (29, 0)), .int iop])) (hbad : ¬ ((0 : Int32) ≤ v1 ∧ v1 < 2)) : vx_Met l yX8_booked wsX8_booked (dz_rm 6 82 1 6) (dz_P Z G ad [.ref aX, .int v1]) (fun _ _ _ _ => False) (dz_XC Z G ad (fun E => E = "java/lang/IndexOutOfBoundsException")) 1 6 (dz_A Z) := by
  refine vx_ofW (cc := cX8_booked) (maxL := 2) (ret := (some .int)) (by decide) rfl ?_
  intro p e s m args below meth c s₁ B hml hxt hv
  obtain ⟨rfl, hG, hE⟩ := hv
  have hx := B.exec
  have hb := B.bytes
  have hrt := B.returns
  have hts := atoms_spec (ws := wsX8_booked) B.pre
  have hown : s.vm.findClass RX8 = some m.cls := findClass_of_methodNamed B.named
  have hlocks := B.notSynchronized
  have hS : va_S (dz_A Z) s.heap s.heap [] := va_S.rf
  have hl := lv_entry ([.ref aX, .int v1]) (n := 2) (Nat.le_of_ble_eq_true rfl)
  rw [lg_entry_eq]
  generalize (lg_sl ([.ref aX, .int v1]) ++ List.replicate (2 - (lg_sl ([.ref aX, .int v1])).length) Slot.unset).toArray = ls at hl ⊢
  have hl : lv_has ls 2 [(0, .ref aX), (1, .int v1)] := hl
  refine lv_aload_n hx hb dX8_booked_0 rfl (lv_at hl 0 rfl) ?_
  refine dz_get hx hb hts (fun _ h => List.mem_cons_of_mem _ (List.mem_append_left _ (List.mem_append_left _ (List.mem_append_left _ (List.mem_append_right _ h))))) hown hE hG ha hco rfl 5 (by decide) (hts _ (List.mem_of_getElem? (i := 5) rfl)) (fun _ h9 => h9) rfl dX8_booked_1 ?_
  refine lv_iload_n hx hb dX8_booked_4 rfl (lv_at hl 1 rfl) ?_
  refine dz_kRi (va_runV (As := [_]) ⟨hx, hb, hml, hown, hts⟩ (c_X1_hasHouse l Z _ _ _ _ _ _ rfl hbo) (cwV 1 hts gX8_booked_X1_hasHouse rfl rfl rfl (by decide +kernel) ⟨Nat.le_of_ble_eq_true rfl, Nat.le_of_ble_eq_true rfl⟩) (dz_P.preV hE hS hG hbo rfl rfl) rfl rfl hl.1 rfl (lv_room (Nat.le_of_ble_eq_true rfl)) dX8_booked_5 ⟨Nat.le_of_ble_eq_true rfl, Nat.le_of_ble_eq_true rfl⟩) ?_
  refine lv_topi (fun v_1 ev_1 => ?_)
  obtain rfl : v_1 = 0 := ev_1.trans (dz_b0 hbad)
  refine lv_if_ne (tgt := 22) hx hb dX8_booked_8 (by decide) (fun c_8 => absurd (by decide) c_8) (fun c_8 => ?_)
  obtain ⟨sa9, hstr9⟩ := hE.2.2.2.2.2.2.2.2.1 (304, "no such house") (by decide +kernel)
  refine vx_throwSW (own := RX8) (cls := "java/lang/IndexOutOfBoundsException") (text := "no such house") (names := ["java/lang/RuntimeException", "java/lang/Exception"]) (ik := 99) (is := 304) (ic := 103) (sa := sa9) (A := dz_A Z) hx hb hst hown (by decide +kernel) (by decide +kernel) (hts _ (List.mem_of_getElem? (i := 1) rfl)) (hts _ (List.mem_of_getElem? (i := 2) rfl)) hstr9 (vx_hat (B := [.castable "java/lang/IndexOutOfBoundsException" "java/lang/IndexOutOfBoundsException", .declares (Bundle.initS "java/lang/RuntimeException"), .declares (Bundle.initS "java/lang/Exception"), .declares (Bundle.initS Bundle.tN)]) (fun w h => hts w (List.mem_cons_of_mem _ (List.mem_append_left _ (List.mem_append_right _ h)))) (by decide +kernel) (vx_c (va_Nw.use rfl (hE.2.2.2.2.2.2.1 ("java/lang/IndexOutOfBoundsException", "java/lang/IndexOutOfBoundsException") (by decide +kernel))) (vx_c (va_Nw.use rfl (hE.2.2.2.2.2.2.2.2.2.2.2.2 _ (List.mem_cons_self))) (vx_c (va_Nw.use rfl (hE.2.2.2.2.2.2.2.2.2.2.2.2 _ (List.mem_cons_of_mem _ List.mem_cons_self))) (vx_c (va_Nw.use rfl (hE.2.2.2.2.2.2.2.2.2.2.2.2 _ (List.mem_cons_of_mem _ (List.mem_cons_of_mem _ List.mem_cons_self)))) vx_n))))) (by decide +kernel) hE.2.2.2.2.1.1 hE.2.2.2.2.1.2 hS (hl.1.trans hml.symm) dX8_booked_11 dX8_booked_14 dX8_booked_15 dX8_booked_18 dX8_booked_21 (fun x h => (hxt x h).elim) (Nat.le_of_ble_eq_true rfl) (Nat.le_of_ble_eq_true rfl) (Nat.le_of_ble_eq_true rfl) (Nat.le_of_ble_eq_true rfl) hlocks (fun t _ h1 h2 => dz_xc hG hS h1 h2) (fun z h => hS.2.2 z h) (Nat.le_of_ble_eq_true rfl) (Nat.le_of_ble_eq_true rfl)

set_option maxHeartbeats 4000000 in
set_option maxRecDepth 100000 in
theorem c_D_booked_blind (l : Launch) (hst : l.stackTraces = false) (Z : dzG) (G : dzW) (ad : dzA) (aX nl nx : Nat) (dy ssf sst cfr grw : Int32) (bkk iop : Int32) (k : Nat) (ha : ad (1, 0) = aX) (hco : G (1, 0) = some (eO 9 [.ref (ad (2, 0)), .ref (ad (9, 0)), .int (nI nl), .int (nI nx), .ref (ad (19, 0)), .ref (ad (26, 0)), .int dy, .int ssf, .int sst, .int cfr, .int grw])) (hbo : G (26, 0) = some (eO 2 [.ref (ad (27, 0)), .ref (ad (28, 0)), .int bkk, .ref (ad (29, 0)), .int iop])) (hk : k < 2) (hi : iop = 0) (hio : m_bl iop) : vx_Met l yX8_booked wsX8_booked (dz_rm 6 82 1 6) (dz_P Z G ad [.ref aX, .int (nI k)]) (fun _ _ _ _ => False) (dz_XC Z G ad (fun E => E = "java/lang/IllegalStateException")) 1 6 (dz_A Z) := by
  refine vx_ofW (cc := cX8_booked) (maxL := 2) (ret := (some .int)) (by decide) rfl ?_
  intro p e s m args below meth c s₁ B hml hxt hv
  obtain ⟨rfl, hG, hE⟩ := hv
  have hx := B.exec
  have hb := B.bytes
  have hrt := B.returns
  have hts := atoms_spec (ws := wsX8_booked) B.pre
  have hown : s.vm.findClass RX8 = some m.cls := findClass_of_methodNamed B.named
  have hlocks := B.notSynchronized
  have hS : va_S (dz_A Z) s.heap s.heap [] := va_S.rf
  have hl := lv_entry ([.ref aX, .int (nI k)]) (n := 2) (Nat.le_of_ble_eq_true rfl)
  rw [lg_entry_eq]
  generalize (lg_sl ([.ref aX, .int (nI k)]) ++ List.replicate (2 - (lg_sl ([.ref aX, .int (nI k)])).length) Slot.unset).toArray = ls at hl ⊢
  have hl : lv_has ls 2 [(0, .ref aX), (1, .int (nI k))] := hl
  refine lv_aload_n hx hb dX8_booked_0 rfl (lv_at hl 0 rfl) ?_
  refine dz_get hx hb hts (fun _ h => List.mem_cons_of_mem _ (List.mem_append_left _ (List.mem_append_left _ (List.mem_append_left _ (List.mem_append_right _ h))))) hown hE hG ha hco rfl 5 (by decide) (hts _ (List.mem_of_getElem? (i := 5) rfl)) (fun _ h9 => h9) rfl dX8_booked_1 ?_
  refine lv_iload_n hx hb dX8_booked_4 rfl (lv_at hl 1 rfl) ?_
  refine dz_kRi (va_runV (As := [_]) ⟨hx, hb, hml, hown, hts⟩ (c_X1_hasHouse l Z _ _ _ _ _ _ rfl hbo) (cwV 1 hts gX8_booked_X1_hasHouse rfl rfl rfl (by decide +kernel) ⟨Nat.le_of_ble_eq_true rfl, Nat.le_of_ble_eq_true rfl⟩) (dz_P.preV hE hS hG hbo rfl rfl) rfl rfl hl.1 rfl (lv_room (Nat.le_of_ble_eq_true rfl)) dX8_booked_5 ⟨Nat.le_of_ble_eq_true rfl, Nat.le_of_ble_eq_true rfl⟩) ?_
  refine lv_topi (fun v_1 ev_1 => ?_)
  obtain rfl : v_1 = 1 := ev_1.trans (dz_b1 ⟨nI_pos' (by omega), nI_lt hk (by decide)⟩)
  refine lv_if_ne (tgt := 22) hx hb dX8_booked_8 (by decide) (fun c_8 => ?_) (fun c_8 => absurd c_8 (by decide))
  refine lv_aload_n hx hb dX8_booked_22 rfl (lv_at hl 0 rfl) ?_
  refine dz_get hx hb hts (fun _ h => List.mem_cons_of_mem _ (List.mem_append_left _ (List.mem_append_left _ (List.mem_append_left _ (List.mem_append_right _ h))))) hown hE hG ha hco rfl 5 (by decide) (hts _ (List.mem_of_getElem? (i := 5) rfl)) (fun _ h9 => h9) rfl dX8_booked_23 ?_
  refine dz_kRi (va_runV (As := []) ⟨hx, hb, hml, hown, hts⟩ (c_X1_areOpen l Z _ _ _ _ _ rfl hbo hio) (cwV 0 hts gX8_booked_X1_areOpen rfl rfl rfl (by decide +kernel) ⟨Nat.le_of_ble_eq_true rfl, Nat.le_of_ble_eq_true rfl⟩) (dz_P.preV hE hS hG hbo rfl rfl) rfl rfl hl.1 rfl (lv_room (Nat.le_of_ble_eq_true rfl)) dX8_booked_26 ⟨Nat.le_of_ble_eq_true rfl, Nat.le_of_ble_eq_true rfl⟩) ?_
  refine lv_topi (fun v_2 ev_2 => ?_)
  obtain rfl : v_2 = 0 := ev_2.trans hi
  refine lv_if_ne (tgt := 43) hx hb dX8_booked_29 (by decide) (fun c_29 => absurd (by decide) c_29) (fun c_29 => ?_)
  obtain ⟨sa9, hstr9⟩ := hE.2.2.2.2.2.2.2.2.1 (306, "the books are blind") (by decide +kernel)
  refine vx_throwSW (own := RX8) (cls := "java/lang/IllegalStateException") (text := "the books are blind") (names := ["java/lang/RuntimeException", "java/lang/Exception"]) (ik := 78) (is := 306) (ic := 82) (sa := sa9) (A := dz_A Z) hx hb hst hown (by decide +kernel) (by decide +kernel) (hts _ (List.mem_of_getElem? (i := 3) rfl)) (hts _ (List.mem_of_getElem? (i := 4) rfl)) hstr9 (vx_hat (B := [.castable "java/lang/IllegalStateException" "java/lang/IllegalStateException", .declares (Bundle.initS "java/lang/RuntimeException"), .declares (Bundle.initS "java/lang/Exception"), .declares (Bundle.initS Bundle.tN)]) (fun w h => hts w (List.mem_cons_of_mem _ (List.mem_append_right _ h))) (by decide +kernel) (vx_c (va_Nw.use rfl (hE.2.2.2.2.2.2.1 ("java/lang/IllegalStateException", "java/lang/IllegalStateException") (by decide +kernel))) (vx_c (va_Nw.use rfl (hE.2.2.2.2.2.2.2.2.2.2.2.2 _ (List.mem_cons_self))) (vx_c (va_Nw.use rfl (hE.2.2.2.2.2.2.2.2.2.2.2.2 _ (List.mem_cons_of_mem _ List.mem_cons_self))) (vx_c (va_Nw.use rfl (hE.2.2.2.2.2.2.2.2.2.2.2.2 _ (List.mem_cons_of_mem _ (List.mem_cons_of_mem _ List.mem_cons_self)))) vx_n))))) (by decide +kernel) hE.2.2.2.2.1.1 hE.2.2.2.2.1.2 hS (hl.1.trans hml.symm) dX8_booked_32 dX8_booked_35 dX8_booked_36 dX8_booked_39 dX8_booked_42 (fun x h => (hxt x h).elim) (Nat.le_of_ble_eq_true rfl) (Nat.le_of_ble_eq_true rfl) (Nat.le_of_ble_eq_true rfl) (Nat.le_of_ble_eq_true rfl) hlocks (fun t _ h1 h2 => dz_xc hG hS h1 h2) (fun z h => hS.2.2 z h) (Nat.le_of_ble_eq_true rfl) (Nat.le_of_ble_eq_true rfl)

set_option maxHeartbeats 4000000 in
set_option maxRecDepth 100000 in
theorem c_D_booked_ok (l : Launch) (Z : dzG) (G : dzW) (ad : dzA) (aX nl nx : Nat) (dy ssf sst cfr grw : Int32) (bkk iop : Int32) (k : Nat) (gr : Nat → Int32) (ha : ad (1, 0) = aX) (hco : G (1, 0) = some (eO 9 [.ref (ad (2, 0)), .ref (ad (9, 0)), .int (nI nl), .int (nI nx), .ref (ad (19, 0)), .ref (ad (26, 0)), .int dy, .int ssf, .int sst, .int cfr, .int grw])) (hbo : G (26, 0) = some (eO 2 [.ref (ad (27, 0)), .ref (ad (28, 0)), .int bkk, .ref (ad (29, 0)), .int iop])) (hgr : G (27, 0) = some (eI Z 2 gr)) (hk : k < 2) (hi : ¬ iop = 0) (hio : m_bl iop) : dzRd l yX8_booked wsX8_booked 2 42 Z G ad [.ref aX, .int (nI k)] (some (.int (gr k))) := by
  refine Met.ofW (cc := cX8_booked) (maxL := 2) (ret := (some .int)) (by decide) rfl ?_
  intro p e s m args below meth c s₁ B hml hv
  obtain ⟨rfl, hG, hE⟩ := hv
  have hx := B.exec
  have hb := B.bytes
  have hrt := B.returns
  have hts := atoms_spec (ws := wsX8_booked) B.pre
  have hown : s.vm.findClass RX8 = some m.cls := findClass_of_methodNamed B.named
  have hlocks := B.notSynchronized
  have hS : va_S (dz_A Z) s.heap s.heap [] := va_S.rf
  have hl := lv_entry ([.ref aX, .int (nI k)]) (n := 2) (Nat.le_of_ble_eq_true rfl)
  rw [lg_entry_eq]
  generalize (lg_sl ([.ref aX, .int (nI k)]) ++ List.replicate (2 - (lg_sl ([.ref aX, .int (nI k)])).length) Slot.unset).toArray = ls at hl ⊢
  have hl : lv_has ls 2 [(0, .ref aX), (1, .int (nI k))] := hl
  refine lv_aload_n hx hb dX8_booked_0 rfl (lv_at hl 0 rfl) ?_
  refine dz_get hx hb hts (fun _ h => List.mem_cons_of_mem _ (List.mem_append_left _ (List.mem_append_left _ (List.mem_append_left _ (List.mem_append_right _ h))))) hown hE hG ha hco rfl 5 (by decide) (hts _ (List.mem_of_getElem? (i := 5) rfl)) (fun _ h9 => h9) rfl dX8_booked_1 ?_
  refine lv_iload_n hx hb dX8_booked_4 rfl (lv_at hl 1 rfl) ?_
  refine dz_kRi (va_runV (As := [_]) ⟨hx, hb, hml, hown, hts⟩ (c_X1_hasHouse l Z _ _ _ _ _ _ rfl hbo) (cwV 1 hts gX8_booked_X1_hasHouse rfl rfl rfl (by decide +kernel) ⟨Nat.le_of_ble_eq_true rfl, Nat.le_of_ble_eq_true rfl⟩) (dz_P.preV hE hS hG hbo rfl rfl) rfl rfl hl.1 rfl (lv_room (Nat.le_of_ble_eq_true rfl)) dX8_booked_5 ⟨Nat.le_of_ble_eq_true rfl, Nat.le_of_ble_eq_true rfl⟩) ?_
  refine lv_topi (fun v_1 ev_1 => ?_)
  obtain rfl : v_1 = 1 := ev_1.trans (dz_b1 ⟨nI_pos' (by omega), nI_lt hk (by decide)⟩)
  refine lv_if_ne (tgt := 22) hx hb dX8_booked_8 (by decide) (fun c_8 => ?_) (fun c_8 => absurd c_8 (by decide))
  refine lv_aload_n hx hb dX8_booked_22 rfl (lv_at hl 0 rfl) ?_
  refine dz_get hx hb hts (fun _ h => List.mem_cons_of_mem _ (List.mem_append_left _ (List.mem_append_left _ (List.mem_append_left _ (List.mem_append_right _ h))))) hown hE hG ha hco rfl 5 (by decide) (hts _ (List.mem_of_getElem? (i := 5) rfl)) (fun _ h9 => h9) rfl dX8_booked_23 ?_
  refine dz_kRi (va_runV (As := []) ⟨hx, hb, hml, hown, hts⟩ (c_X1_areOpen l Z _ _ _ _ _ rfl hbo hio) (cwV 0 hts gX8_booked_X1_areOpen rfl rfl rfl (by decide +kernel) ⟨Nat.le_of_ble_eq_true rfl, Nat.le_of_ble_eq_true rfl⟩) (dz_P.preV hE hS hG hbo rfl rfl) rfl rfl hl.1 rfl (lv_room (Nat.le_of_ble_eq_true rfl)) dX8_booked_26 ⟨Nat.le_of_ble_eq_true rfl, Nat.le_of_ble_eq_true rfl⟩) ?_
  refine lv_topi (fun v_2 ev_2 => ?_)
  obtain rfl : v_2 = iop := ev_2
  refine lv_if_ne (tgt := 43) hx hb dX8_booked_29 (by decide) (fun c_29 => ?_) (fun c_29 => absurd c_29 hi)
  refine lv_aload_n hx hb dX8_booked_43 rfl (lv_at hl 0 rfl) ?_
  refine dz_get hx hb hts (fun _ h => List.mem_cons_of_mem _ (List.mem_append_left _ (List.mem_append_left _ (List.mem_append_left _ (List.mem_append_right _ h))))) hown hE hG ha hco rfl 5 (by decide) (hts _ (List.mem_of_getElem? (i := 5) rfl)) (fun _ h9 => h9) rfl dX8_booked_44 ?_
  refine lv_iload_n hx hb dX8_booked_47 rfl (lv_at hl 1 rfl) ?_
  refine dz_kRi (va_runV (As := [_]) ⟨hx, hb, hml, hown, hts⟩ (c_X1_growthBy l Z _ _ _ _ _ _ _ rfl hbo hgr hk) (cwV 1 hts gX8_booked_X1_growthBy rfl rfl rfl (by decide +kernel) ⟨Nat.le_of_ble_eq_true rfl, Nat.le_of_ble_eq_true rfl⟩) (dz_P.preV hE hS hG hbo rfl rfl) rfl rfl hl.1 rfl (lv_room (Nat.le_of_ble_eq_true rfl)) dX8_booked_48 ⟨Nat.le_of_ble_eq_true rfl, Nat.le_of_ble_eq_true rfl⟩) ?_
  refine W.iret hx hb hrt (fun t ht hW => ⟨congrArg (fun x => Outcome.returned (some (Value.int x))) ?_, ht⟩) (fun _ h => by cases h) dX8_booked_51
  rfl

set_option maxHeartbeats 4000000 in
set_option maxRecDepth 100000 in
theorem c_D_dispute_blind (l : Launch) (hst : l.stackTraces = false) (Z : dzG) (G : dzW) (ad : dzA) (aX nl nx : Nat) (dy ssf sst cfr grw : Int32) (bkk iop : Int32) (ha : ad (1, 0) = aX) (hco : G (1, 0) = some (eO 9 [.ref (ad (2, 0)), .ref (ad (9, 0)), .int (nI nl), .int (nI nx), .ref (ad (19, 0)), .ref (ad (26, 0)), .int dy, .int ssf, .int sst, .int cfr, .int grw])) (hbo : G (26, 0) = some (eO 2 [.ref (ad (27, 0)), .ref (ad (28, 0)), .int bkk, .ref (ad (29, 0)), .int iop])) (hi : iop = 0) (hio : m_bl iop) : vx_Met l yX8_dispute wsX8_dispute (dz_rm 6 82 1 6) (dz_P Z G ad [.ref aX]) (fun _ _ _ _ => False) (dz_XC Z G ad (fun E => E = "java/lang/IllegalStateException")) 1 6 (dz_A Z) := by
  refine vx_ofW (cc := cX8_dispute) (maxL := 3) (ret := (some .int)) (by decide) rfl ?_
  intro p e s m args below meth c s₁ B hml hxt hv
  obtain ⟨rfl, hG, hE⟩ := hv
  have hx := B.exec
  have hb := B.bytes
  have hrt := B.returns
  have hts := atoms_spec (ws := wsX8_dispute) B.pre
  have hown : s.vm.findClass RX8 = some m.cls := findClass_of_methodNamed B.named
  have hlocks := B.notSynchronized
  have hS : va_S (dz_A Z) s.heap s.heap [] := va_S.rf
  have hl := lv_entry ([.ref aX]) (n := 3) (Nat.le_of_ble_eq_true rfl)
  rw [lg_entry_eq]
  generalize (lg_sl ([.ref aX]) ++ List.replicate (3 - (lg_sl ([.ref aX])).length) Slot.unset).toArray = ls at hl ⊢
  have hl : lv_has ls 3 [(0, .ref aX)] := hl
  refine lv_aload_n hx hb dX8_dispute_0 rfl (lv_at hl 0 rfl) ?_
  refine dz_get hx hb hts (fun _ h => List.mem_cons_of_mem _ (List.mem_append_left _ (List.mem_append_left _ (List.mem_append_right _ h)))) hown hE hG ha hco rfl 5 (by decide) (hts _ (List.mem_of_getElem? (i := 3) rfl)) (fun _ h9 => h9) rfl dX8_dispute_1 ?_
  refine dz_kRi (va_runV (As := []) ⟨hx, hb, hml, hown, hts⟩ (c_X1_areOpen l Z _ _ _ _ _ rfl hbo hio) (cwV 0 hts gX8_dispute_X1_areOpen rfl rfl rfl (by decide +kernel) ⟨Nat.le_of_ble_eq_true rfl, Nat.le_of_ble_eq_true rfl⟩) (dz_P.preV hE hS hG hbo rfl rfl) rfl rfl hl.1 rfl (lv_room (Nat.le_of_ble_eq_true rfl)) dX8_dispute_4 ⟨Nat.le_of_ble_eq_true rfl, Nat.le_of_ble_eq_true rfl⟩) ?_
  refine lv_topi (fun v_1 ev_1 => ?_)
  obtain rfl : v_1 = 0 := ev_1.trans hi
  refine lv_if_ne (tgt := 21) hx hb dX8_dispute_7 (by decide) (fun c_7 => absurd (by decide) c_7) (fun c_7 => ?_)
  obtain ⟨sa9, hstr9⟩ := hE.2.2.2.2.2.2.2.2.1 (306, "the books are blind") (by decide +kernel)
  refine vx_throwSW (own := RX8) (cls := "java/lang/IllegalStateException") (text := "the books are blind") (names := ["java/lang/RuntimeException", "java/lang/Exception"]) (ik := 78) (is := 306) (ic := 82) (sa := sa9) (A := dz_A Z) hx hb hst hown (by decide +kernel) (by decide +kernel) (hts _ (List.mem_of_getElem? (i := 1) rfl)) (hts _ (List.mem_of_getElem? (i := 2) rfl)) hstr9 (vx_hat (B := [.castable "java/lang/IllegalStateException" "java/lang/IllegalStateException", .declares (Bundle.initS "java/lang/RuntimeException"), .declares (Bundle.initS "java/lang/Exception"), .declares (Bundle.initS Bundle.tN)]) (fun w h => hts w (List.mem_cons_of_mem _ (List.mem_append_right _ h))) (by decide +kernel) (vx_c (va_Nw.use rfl (hE.2.2.2.2.2.2.1 ("java/lang/IllegalStateException", "java/lang/IllegalStateException") (by decide +kernel))) (vx_c (va_Nw.use rfl (hE.2.2.2.2.2.2.2.2.2.2.2.2 _ (List.mem_cons_self))) (vx_c (va_Nw.use rfl (hE.2.2.2.2.2.2.2.2.2.2.2.2 _ (List.mem_cons_of_mem _ List.mem_cons_self))) (vx_c (va_Nw.use rfl (hE.2.2.2.2.2.2.2.2.2.2.2.2 _ (List.mem_cons_of_mem _ (List.mem_cons_of_mem _ List.mem_cons_self)))) vx_n))))) (by decide +kernel) hE.2.2.2.2.1.1 hE.2.2.2.2.1.2 hS (hl.1.trans hml.symm) dX8_dispute_10 dX8_dispute_13 dX8_dispute_14 dX8_dispute_17 dX8_dispute_20 (fun x h => (hxt x h).elim) (Nat.le_of_ble_eq_true rfl) (Nat.le_of_ble_eq_true rfl) (Nat.le_of_ble_eq_true rfl) (Nat.le_of_ble_eq_true rfl) hlocks (fun t _ h1 h2 => dz_xc hG hS h1 h2) (fun z h => hS.2.2 z h) (Nat.le_of_ble_eq_true rfl) (Nat.le_of_ble_eq_true rfl)

set_option maxHeartbeats 4000000 in
set_option maxRecDepth 100000 in
theorem c_D_vote_bad (l : Launch) (hst : l.stackTraces = false) (Z : dzG) (G : dzW) (ad : dzA) (aX nl nx : Nat) (dy ssf sst cfr grw : Int32) (bkk iop : Int32) (mi : Nat → Int32) (v1 v2 : Int32) (ha : ad (1, 0) = aX) (hco : G (1, 0) = some (eO 9 [.ref (ad (2, 0)), .ref (ad (9, 0)), .int (nI nl), .int (nI nx), .ref (ad (19, 0)), .ref (ad (26, 0)), .int dy, .int ssf, .int sst, .int cfr, .int grw])) (hbo : G (26, 0) = some (eO 2 [.ref (ad (27, 0)), .ref (ad (28, 0)), .int bkk, .ref (ad (29, 0)), .int iop])) (hmi : G (29, 0) = some (eZ Z 5 mi)) (hbad : ¬ ((0 : Int32) ≤ v1 ∧ v1 < 5)) : vx_Met l yX8_vote wsX8_vote (dz_rm 6 82 1 6) (dz_P Z G ad [.ref aX, .int v1, .int v2]) (fun _ _ _ _ => False) (dz_XC Z G ad (fun E => E = "java/lang/IndexOutOfBoundsException")) 1 6 (dz_A Z) := by
  refine vx_ofW (cc := cX8_vote) (maxL := 3) (ret := (some .boolean)) (by decide) rfl ?_
  intro p e s m args below meth c s₁ B hml hxt hv
  obtain ⟨rfl, hG, hE⟩ := hv
  have hx := B.exec
  have hb := B.bytes
  have hrt := B.returns
  have hts := atoms_spec (ws := wsX8_vote) B.pre
  have hown : s.vm.findClass RX8 = some m.cls := findClass_of_methodNamed B.named
  have hlocks := B.notSynchronized
  have hS : va_S (dz_A Z) s.heap s.heap [] := va_S.rf
  have hl := lv_entry ([.ref aX, .int v1, .int v2]) (n := 3) (Nat.le_of_ble_eq_true rfl)
  rw [lg_entry_eq]
  generalize (lg_sl ([.ref aX, .int v1, .int v2]) ++ List.replicate (3 - (lg_sl ([.ref aX, .int v1, .int v2])).length) Slot.unset).toArray = ls at hl ⊢
  have hl : lv_has ls 3 [(0, .ref aX), (1, .int v1), (2, .int v2)] := hl
  refine lv_aload_n hx hb dX8_vote_0 rfl (lv_at hl 0 rfl) ?_
  refine dz_get hx hb hts (fun _ h => List.mem_cons_of_mem _ (List.mem_append_left _ (List.mem_append_left _ (List.mem_append_right _ h)))) hown hE hG ha hco rfl 5 (by decide) (hts _ (List.mem_of_getElem? (i := 3) rfl)) (fun _ h9 => h9) rfl dX8_vote_1 ?_
  refine lv_iload_n hx hb dX8_vote_4 rfl (lv_at hl 1 rfl) ?_
  refine dz_kRi (va_runV (As := [_]) ⟨hx, hb, hml, hown, hts⟩ (c_X1_hasMind l Z _ _ _ _ _ _ _ rfl hbo hmi) (cwV 1 hts gX8_vote_X1_hasMind rfl rfl rfl (by decide +kernel) ⟨Nat.le_of_ble_eq_true rfl, Nat.le_of_ble_eq_true rfl⟩) (dz_P.preV hE hS hG hbo rfl rfl) rfl rfl hl.1 rfl (lv_room (Nat.le_of_ble_eq_true rfl)) dX8_vote_5 ⟨Nat.le_of_ble_eq_true rfl, Nat.le_of_ble_eq_true rfl⟩) ?_
  refine lv_topi (fun v_1 ev_1 => ?_)
  obtain rfl : v_1 = 0 := ev_1.trans (dz_b0 hbad)
  refine lv_if_ne (tgt := 21) hx hb dX8_vote_8 (by decide) (fun c_8 => absurd (by decide) c_8) (fun c_8 => ?_)
  obtain ⟨sa9, hstr9⟩ := hE.2.2.2.2.2.2.2.2.1 (232, "no such mind") (by decide +kernel)
  refine vx_throwS (own := RX8) (cls := "java/lang/IndexOutOfBoundsException") (text := "no such mind") (names := ["java/lang/RuntimeException", "java/lang/Exception"]) (ik := 99) (is := 232) (ic := 103) (sa := sa9) (A := dz_A Z) hx hb hst hown (by decide +kernel) (by decide +kernel) (hts _ (List.mem_of_getElem? (i := 1) rfl)) (hts _ (List.mem_of_getElem? (i := 2) rfl)) hstr9 (vx_hat (B := [.castable "java/lang/IndexOutOfBoundsException" "java/lang/IndexOutOfBoundsException", .declares (Bundle.initS "java/lang/RuntimeException"), .declares (Bundle.initS "java/lang/Exception"), .declares (Bundle.initS Bundle.tN)]) (fun w h => hts w (List.mem_cons_of_mem _ (List.mem_append_right _ h))) (by decide +kernel) (vx_c (va_Nw.use rfl (hE.2.2.2.2.2.2.1 ("java/lang/IndexOutOfBoundsException", "java/lang/IndexOutOfBoundsException") (by decide +kernel))) (vx_c (va_Nw.use rfl (hE.2.2.2.2.2.2.2.2.2.2.2.2 _ (List.mem_cons_self))) (vx_c (va_Nw.use rfl (hE.2.2.2.2.2.2.2.2.2.2.2.2 _ (List.mem_cons_of_mem _ List.mem_cons_self))) (vx_c (va_Nw.use rfl (hE.2.2.2.2.2.2.2.2.2.2.2.2 _ (List.mem_cons_of_mem _ (List.mem_cons_of_mem _ List.mem_cons_self)))) vx_n))))) (by decide +kernel) hE.2.2.2.2.1.1 hE.2.2.2.2.1.2 hS (hl.1.trans hml.symm) dX8_vote_11 dX8_vote_14 dX8_vote_15 dX8_vote_17 dX8_vote_20 (fun x h => (hxt x h).elim) (Nat.le_of_ble_eq_true rfl) (Nat.le_of_ble_eq_true rfl) (Nat.le_of_ble_eq_true rfl) (Nat.le_of_ble_eq_true rfl) hlocks (fun t _ h1 h2 => dz_xc hG hS h1 h2) (fun z h => hS.2.2 z h) (Nat.le_of_ble_eq_true rfl) (Nat.le_of_ble_eq_true rfl)

set_option maxHeartbeats 4000000 in
set_option maxRecDepth 100000 in
theorem c_D_isFresh_no (l : Launch) (hst : l.stackTraces = false) (Z : dzG) (G : dzW) (ad : dzA) (aX nl nx : Nat) (dy ssf sst cfr grw : Int32) (bkk iop : Int32) (v1 : Int32) (ha : ad (1, 0) = aX) (hco : G (1, 0) = some (eO 9 [.ref (ad (2, 0)), .ref (ad (9, 0)), .int (nI nl), .int (nI nx), .ref (ad (19, 0)), .ref (ad (26, 0)), .int dy, .int ssf, .int sst, .int cfr, .int grw])) (hbo : G (26, 0) = some (eO 2 [.ref (ad (27, 0)), .ref (ad (28, 0)), .int bkk, .ref (ad (29, 0)), .int iop])) (hbad : ¬ ((0 : Int32) ≤ v1 ∧ v1 < 2)) : vx_Met l yX8_isFresh wsX8_isFresh (dz_rm 6 82 1 6) (dz_P Z G ad [.ref aX, .int v1]) (fun _ _ _ _ => False) (dz_XC Z G ad (fun E => E = "java/lang/IndexOutOfBoundsException")) 1 6 (dz_A Z) := by
  refine vx_ofW (cc := cX8_isFresh) (maxL := 2) (ret := (some .boolean)) (by decide) rfl ?_
  intro p e s m args below meth c s₁ B hml hxt hv
  obtain ⟨rfl, hG, hE⟩ := hv
  have hx := B.exec
  have hb := B.bytes
  have hrt := B.returns
  have hts := atoms_spec (ws := wsX8_isFresh) B.pre
  have hown : s.vm.findClass RX8 = some m.cls := findClass_of_methodNamed B.named
  have hlocks := B.notSynchronized
  have hS : va_S (dz_A Z) s.heap s.heap [] := va_S.rf
  have hl := lv_entry ([.ref aX, .int v1]) (n := 2) (Nat.le_of_ble_eq_true rfl)
  rw [lg_entry_eq]
  generalize (lg_sl ([.ref aX, .int v1]) ++ List.replicate (2 - (lg_sl ([.ref aX, .int v1])).length) Slot.unset).toArray = ls at hl ⊢
  have hl : lv_has ls 2 [(0, .ref aX), (1, .int v1)] := hl
  refine lv_aload_n hx hb dX8_isFresh_0 rfl (lv_at hl 0 rfl) ?_
  refine dz_get hx hb hts (fun _ h => List.mem_cons_of_mem _ (List.mem_append_left _ (List.mem_append_left _ (List.mem_append_left _ (List.mem_append_left _ (List.mem_append_left _ (List.mem_append_right _ h))))))) hown hE hG ha hco rfl 5 (by decide) (hts _ (List.mem_of_getElem? (i := 5) rfl)) (fun _ h9 => h9) rfl dX8_isFresh_1 ?_
  refine lv_iload_n hx hb dX8_isFresh_4 rfl (lv_at hl 1 rfl) ?_
  refine dz_kRi (va_runV (As := [_]) ⟨hx, hb, hml, hown, hts⟩ (c_X1_hasHouse l Z _ _ _ _ _ _ rfl hbo) (cwV 1 hts gX8_isFresh_X1_hasHouse rfl rfl rfl (by decide +kernel) ⟨Nat.le_of_ble_eq_true rfl, Nat.le_of_ble_eq_true rfl⟩) (dz_P.preV hE hS hG hbo rfl rfl) rfl rfl hl.1 rfl (lv_room (Nat.le_of_ble_eq_true rfl)) dX8_isFresh_5 ⟨Nat.le_of_ble_eq_true rfl, Nat.le_of_ble_eq_true rfl⟩) ?_
  refine lv_topi (fun v_1 ev_1 => ?_)
  obtain rfl : v_1 = 0 := ev_1.trans (dz_b0 hbad)
  refine lv_if_ne (tgt := 22) hx hb dX8_isFresh_8 (by decide) (fun c_8 => absurd (by decide) c_8) (fun c_8 => ?_)
  obtain ⟨sa9, hstr9⟩ := hE.2.2.2.2.2.2.2.2.1 (304, "no such house") (by decide +kernel)
  refine vx_throwSW (own := RX8) (cls := "java/lang/IndexOutOfBoundsException") (text := "no such house") (names := ["java/lang/RuntimeException", "java/lang/Exception"]) (ik := 99) (is := 304) (ic := 103) (sa := sa9) (A := dz_A Z) hx hb hst hown (by decide +kernel) (by decide +kernel) (hts _ (List.mem_of_getElem? (i := 1) rfl)) (hts _ (List.mem_of_getElem? (i := 2) rfl)) hstr9 (vx_hat (B := [.castable "java/lang/IndexOutOfBoundsException" "java/lang/IndexOutOfBoundsException", .declares (Bundle.initS "java/lang/RuntimeException"), .declares (Bundle.initS "java/lang/Exception"), .declares (Bundle.initS Bundle.tN)]) (fun w h => hts w (List.mem_cons_of_mem _ (List.mem_append_left _ (List.mem_append_right _ h)))) (by decide +kernel) (vx_c (va_Nw.use rfl (hE.2.2.2.2.2.2.1 ("java/lang/IndexOutOfBoundsException", "java/lang/IndexOutOfBoundsException") (by decide +kernel))) (vx_c (va_Nw.use rfl (hE.2.2.2.2.2.2.2.2.2.2.2.2 _ (List.mem_cons_self))) (vx_c (va_Nw.use rfl (hE.2.2.2.2.2.2.2.2.2.2.2.2 _ (List.mem_cons_of_mem _ List.mem_cons_self))) (vx_c (va_Nw.use rfl (hE.2.2.2.2.2.2.2.2.2.2.2.2 _ (List.mem_cons_of_mem _ (List.mem_cons_of_mem _ List.mem_cons_self)))) vx_n))))) (by decide +kernel) hE.2.2.2.2.1.1 hE.2.2.2.2.1.2 hS (hl.1.trans hml.symm) dX8_isFresh_11 dX8_isFresh_14 dX8_isFresh_15 dX8_isFresh_18 dX8_isFresh_21 (fun x h => (hxt x h).elim) (Nat.le_of_ble_eq_true rfl) (Nat.le_of_ble_eq_true rfl) (Nat.le_of_ble_eq_true rfl) (Nat.le_of_ble_eq_true rfl) hlocks (fun t _ h1 h2 => dz_xc hG hS h1 h2) (fun z h => hS.2.2 z h) (Nat.le_of_ble_eq_true rfl) (Nat.le_of_ble_eq_true rfl)

set_option maxHeartbeats 4000000 in
set_option maxRecDepth 100000 in
theorem c_D_isFresh_none (l : Launch) (hst : l.stackTraces = false) (Z : dzG) (G : dzW) (ad : dzA) (aX nl nx : Nat) (dy ssf sst cfr grw : Int32) (bkk iop : Int32) (k : Nat) (ma : Nat → Int32) (ha : ad (1, 0) = aX) (hco : G (1, 0) = some (eO 9 [.ref (ad (2, 0)), .ref (ad (9, 0)), .int (nI nl), .int (nI nx), .ref (ad (19, 0)), .ref (ad (26, 0)), .int dy, .int ssf, .int sst, .int cfr, .int grw])) (hbo : G (26, 0) = some (eO 2 [.ref (ad (27, 0)), .ref (ad (28, 0)), .int bkk, .ref (ad (29, 0)), .int iop])) (hma : G (28, 0) = some (eI Z 2 ma)) (hk : k < 2) (hi : ma k = -1) : vx_Met l yX8_isFresh wsX8_isFresh (dz_rm 6 82 1 6) (dz_P Z G ad [.ref aX, .int (nI k)]) (fun _ _ _ _ => False) (dz_XC Z G ad (fun E => E = "java/lang/IllegalStateException")) 1 6 (dz_A Z) := by
  refine vx_ofW (cc := cX8_isFresh) (maxL := 2) (ret := (some .boolean)) (by decide) rfl ?_
  intro p e s m args below meth c s₁ B hml hxt hv
  obtain ⟨rfl, hG, hE⟩ := hv
  have hx := B.exec
  have hb := B.bytes
  have hrt := B.returns
  have hts := atoms_spec (ws := wsX8_isFresh) B.pre
  have hown : s.vm.findClass RX8 = some m.cls := findClass_of_methodNamed B.named
  have hlocks := B.notSynchronized
  have hS : va_S (dz_A Z) s.heap s.heap [] := va_S.rf
  have hl := lv_entry ([.ref aX, .int (nI k)]) (n := 2) (Nat.le_of_ble_eq_true rfl)
  rw [lg_entry_eq]
  generalize (lg_sl ([.ref aX, .int (nI k)]) ++ List.replicate (2 - (lg_sl ([.ref aX, .int (nI k)])).length) Slot.unset).toArray = ls at hl ⊢
  have hl : lv_has ls 2 [(0, .ref aX), (1, .int (nI k))] := hl
  refine lv_aload_n hx hb dX8_isFresh_0 rfl (lv_at hl 0 rfl) ?_
  refine dz_get hx hb hts (fun _ h => List.mem_cons_of_mem _ (List.mem_append_left _ (List.mem_append_left _ (List.mem_append_left _ (List.mem_append_left _ (List.mem_append_left _ (List.mem_append_right _ h))))))) hown hE hG ha hco rfl 5 (by decide) (hts _ (List.mem_of_getElem? (i := 5) rfl)) (fun _ h9 => h9) rfl dX8_isFresh_1 ?_
  refine lv_iload_n hx hb dX8_isFresh_4 rfl (lv_at hl 1 rfl) ?_
  refine dz_kRi (va_runV (As := [_]) ⟨hx, hb, hml, hown, hts⟩ (c_X1_hasHouse l Z _ _ _ _ _ _ rfl hbo) (cwV 1 hts gX8_isFresh_X1_hasHouse rfl rfl rfl (by decide +kernel) ⟨Nat.le_of_ble_eq_true rfl, Nat.le_of_ble_eq_true rfl⟩) (dz_P.preV hE hS hG hbo rfl rfl) rfl rfl hl.1 rfl (lv_room (Nat.le_of_ble_eq_true rfl)) dX8_isFresh_5 ⟨Nat.le_of_ble_eq_true rfl, Nat.le_of_ble_eq_true rfl⟩) ?_
  refine lv_topi (fun v_1 ev_1 => ?_)
  obtain rfl : v_1 = 1 := ev_1.trans (dz_b1 ⟨nI_pos' (by omega), nI_lt hk (by decide)⟩)
  refine lv_if_ne (tgt := 22) hx hb dX8_isFresh_8 (by decide) (fun c_8 => ?_) (fun c_8 => absurd c_8 (by decide))
  refine lv_aload_n hx hb dX8_isFresh_22 rfl (lv_at hl 0 rfl) ?_
  refine dz_get hx hb hts (fun _ h => List.mem_cons_of_mem _ (List.mem_append_left _ (List.mem_append_left _ (List.mem_append_left _ (List.mem_append_left _ (List.mem_append_left _ (List.mem_append_right _ h))))))) hown hE hG ha hco rfl 5 (by decide) (hts _ (List.mem_of_getElem? (i := 5) rfl)) (fun _ h9 => h9) rfl dX8_isFresh_23 ?_
  refine lv_iload_n hx hb dX8_isFresh_26 rfl (lv_at hl 1 rfl) ?_
  refine dz_kRi (va_runV (As := [_]) ⟨hx, hb, hml, hown, hts⟩ (c_X1_hasBooking l Z _ _ _ _ _ _ _ rfl hbo hma hk) (cwV 1 hts gX8_isFresh_X1_hasBooking rfl rfl rfl (by decide +kernel) ⟨Nat.le_of_ble_eq_true rfl, Nat.le_of_ble_eq_true rfl⟩) (dz_P.preV hE hS hG hbo rfl rfl) rfl rfl hl.1 rfl (lv_room (Nat.le_of_ble_eq_true rfl)) dX8_isFresh_27 ⟨Nat.le_of_ble_eq_true rfl, Nat.le_of_ble_eq_true rfl⟩) ?_
  refine lv_topi (fun v_2 ev_2 => ?_)
  obtain rfl : v_2 = 0 := ev_2.trans (dz_b0 (fun z => z hi))
  refine lv_if_ne (tgt := 44) hx hb dX8_isFresh_30 (by decide) (fun c_30 => absurd (by decide) c_30) (fun c_30 => ?_)
  obtain ⟨sa9, hstr9⟩ := hE.2.2.2.2.2.2.2.2.1 (314, "the house booked nothing") (by decide +kernel)
  refine vx_throwSW (own := RX8) (cls := "java/lang/IllegalStateException") (text := "the house booked nothing") (names := ["java/lang/RuntimeException", "java/lang/Exception"]) (ik := 78) (is := 314) (ic := 82) (sa := sa9) (A := dz_A Z) hx hb hst hown (by decide +kernel) (by decide +kernel) (hts _ (List.mem_of_getElem? (i := 3) rfl)) (hts _ (List.mem_of_getElem? (i := 4) rfl)) hstr9 (vx_hat (B := [.castable "java/lang/IllegalStateException" "java/lang/IllegalStateException", .declares (Bundle.initS "java/lang/RuntimeException"), .declares (Bundle.initS "java/lang/Exception"), .declares (Bundle.initS Bundle.tN)]) (fun w h => hts w (List.mem_cons_of_mem _ (List.mem_append_right _ h))) (by decide +kernel) (vx_c (va_Nw.use rfl (hE.2.2.2.2.2.2.1 ("java/lang/IllegalStateException", "java/lang/IllegalStateException") (by decide +kernel))) (vx_c (va_Nw.use rfl (hE.2.2.2.2.2.2.2.2.2.2.2.2 _ (List.mem_cons_self))) (vx_c (va_Nw.use rfl (hE.2.2.2.2.2.2.2.2.2.2.2.2 _ (List.mem_cons_of_mem _ List.mem_cons_self))) (vx_c (va_Nw.use rfl (hE.2.2.2.2.2.2.2.2.2.2.2.2 _ (List.mem_cons_of_mem _ (List.mem_cons_of_mem _ List.mem_cons_self)))) vx_n))))) (by decide +kernel) hE.2.2.2.2.1.1 hE.2.2.2.2.1.2 hS (hl.1.trans hml.symm) dX8_isFresh_33 dX8_isFresh_36 dX8_isFresh_37 dX8_isFresh_40 dX8_isFresh_43 (fun x h => (hxt x h).elim) (Nat.le_of_ble_eq_true rfl) (Nat.le_of_ble_eq_true rfl) (Nat.le_of_ble_eq_true rfl) (Nat.le_of_ble_eq_true rfl) hlocks (fun t _ h1 h2 => dz_xc hG hS h1 h2) (fun z h => hS.2.2 z h) (Nat.le_of_ble_eq_true rfl) (Nat.le_of_ble_eq_true rfl)
