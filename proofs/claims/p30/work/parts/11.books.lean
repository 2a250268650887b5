set_option maxHeartbeats 4000000 in
set_option maxRecDepth 100000 in
theorem c_X1_hasHouse (l : Launch) (Z : dzG) (G : dzW) (ad : dzA) (aB : Nat) (bk io : Int32) (v : Int32) (ha : ad (26, 0) = aB) (ho : G (26, 0) = some (eO 2 [.ref (ad (27, 0)), .ref (ad (28, 0)), .int bk, .ref (ad (29, 0)), .int io])) : dzRd l yX1_hasHouse wsX1_hasHouse 0 0 Z G ad [.ref aB, .int v] (some (.int (dz_b (0 ≤ v ∧ v < 2)))) := by
  refine Met.ofW (cc := cX1_hasHouse) (maxL := 2) (ret := (some .boolean)) (by decide) rfl ?_
  intro p e s m args below meth c s₁ B hml hv
  obtain ⟨rfl, hG, hE⟩ := hv
  have hx := B.exec
  have hb := B.bytes
  have hrt := B.returns
  have hts := atoms_spec (ws := wsX1_hasHouse) B.pre
  have hown : s.vm.findClass RX1 = some m.cls := findClass_of_methodNamed B.named
  have hlocks := B.notSynchronized
  have hS : va_S (dz_A Z) s.heap s.heap [] := va_S.rf
  have hl := lv_entry ([.ref aB, .int v]) (n := 2) (Nat.le_of_ble_eq_true rfl)
  rw [lg_entry_eq]
  generalize (lg_sl ([.ref aB, .int v]) ++ List.replicate (2 - (lg_sl ([.ref aB, .int v])).length) Slot.unset).toArray = ls at hl ⊢
  have hl : lv_has ls 2 [(0, .ref aB), (1, .int v)] := hl
  refine lv_iload_n hx hb dX1_hasHouse_0 rfl (lv_at hl 1 rfl) ?_
  refine lv_if_lt (tgt := 13) hx hb dX1_hasHouse_1 (by decide) (fun c_1 => ?_) (fun c_1 => ?_)
  · refine lv_iconst (v := 0) hx hb dX1_hasHouse_13 (by decide) ?_
    refine W.zret hx hb hrt (by decide) (fun t ht hW => ⟨congrArg (fun x => Outcome.returned (some (Value.int x))) ?_, ht⟩) (fun _ h => by cases h) dX1_hasHouse_14
    first | exact (dz_b1 ⟨Int32.not_lt.mp c_1, Int32.not_le.mp c_6⟩).symm | exact (dz_b0 (fun h => Int32.not_lt.mpr h.1 c_1)).symm | exact (dz_b0 (fun h => Int32.not_le.mpr h.2 c_6)).symm
  · refine lv_iload_n hx hb dX1_hasHouse_4 rfl (lv_at hl 1 rfl) ?_
    refine lv_iconst (v := 2) hx hb dX1_hasHouse_5 (by decide) ?_
    refine lv_icmp_ge (tgt := 13) hx hb dX1_hasHouse_6 (by decide) (fun c_6 => ?_) (fun c_6 => ?_)
    · refine lv_iconst (v := 0) hx hb dX1_hasHouse_13 (by decide) ?_
      refine W.zret hx hb hrt (by decide) (fun t ht hW => ⟨congrArg (fun x => Outcome.returned (some (Value.int x))) ?_, ht⟩) (fun _ h => by cases h) dX1_hasHouse_14
      first | exact (dz_b1 ⟨Int32.not_lt.mp c_1, Int32.not_le.mp c_6⟩).symm | exact (dz_b0 (fun h => Int32.not_lt.mpr h.1 c_1)).symm | exact (dz_b0 (fun h => Int32.not_le.mpr h.2 c_6)).symm
    · refine lv_iconst (v := 1) hx hb dX1_hasHouse_9 (by decide) ?_
      refine lv_goto (tgt := 14) hx hb dX1_hasHouse_10 (by decide) ?_
      refine W.zret hx hb hrt (by decide) (fun t ht hW => ⟨congrArg (fun x => Outcome.returned (some (Value.int x))) ?_, ht⟩) (fun _ h => by cases h) dX1_hasHouse_14
      first | exact (dz_b1 ⟨Int32.not_lt.mp c_1, Int32.not_le.mp c_6⟩).symm | exact (dz_b0 (fun h => Int32.not_lt.mpr h.1 c_1)).symm | exact (dz_b0 (fun h => Int32.not_le.mpr h.2 c_6)).symm

set_option maxHeartbeats 4000000 in
set_option maxRecDepth 100000 in
theorem c_X1_hasMind (l : Launch) (Z : dzG) (G : dzW) (ad : dzA) (aB : Nat) (bk io : Int32) (v : Int32) (mi : Nat → Int32) (ha : ad (26, 0) = aB) (ho : G (26, 0) = some (eO 2 [.ref (ad (27, 0)), .ref (ad (28, 0)), .int bk, .ref (ad (29, 0)), .int io])) (hv : G (29, 0) = some (eZ Z 5 mi)) : dzRd l yX1_hasMind wsX1_hasMind 0 0 Z G ad [.ref aB, .int v] (some (.int (dz_b (0 ≤ v ∧ v < 5)))) := by
  refine Met.ofW (cc := cX1_hasMind) (maxL := 2) (ret := (some .boolean)) (by decide) rfl ?_
  intro p e s m args below meth c s₁ B hml hv
  obtain ⟨rfl, hG, hE⟩ := hv
  have hx := B.exec
  have hb := B.bytes
  have hrt := B.returns
  have hts := atoms_spec (ws := wsX1_hasMind) B.pre
  have hown : s.vm.findClass RX1 = some m.cls := findClass_of_methodNamed B.named
  have hlocks := B.notSynchronized
  have hS : va_S (dz_A Z) s.heap s.heap [] := va_S.rf
  have hl := lv_entry ([.ref aB, .int v]) (n := 2) (Nat.le_of_ble_eq_true rfl)
  rw [lg_entry_eq]
  generalize (lg_sl ([.ref aB, .int v]) ++ List.replicate (2 - (lg_sl ([.ref aB, .int v])).length) Slot.unset).toArray = ls at hl ⊢
  have hl : lv_has ls 2 [(0, .ref aB), (1, .int v)] := hl
  refine lv_iload_n hx hb dX1_hasMind_0 rfl (lv_at hl 1 rfl) ?_
  refine lv_if_lt (tgt := 17) hx hb dX1_hasMind_1 (by decide) (fun c_1 => ?_) (fun c_1 => ?_)
  · refine lv_iconst (v := 0) hx hb dX1_hasMind_17 (by decide) ?_
    refine W.zret hx hb hrt (by decide) (fun t ht hW => ⟨congrArg (fun x => Outcome.returned (some (Value.int x))) ?_, ht⟩) (fun _ h => by cases h) dX1_hasMind_18
    first | exact (dz_b1 ⟨Int32.not_lt.mp c_1, Int32.not_le.mp c_10⟩).symm | exact (dz_b0 (fun h => Int32.not_lt.mpr h.1 c_1)).symm | exact (dz_b0 (fun h => Int32.not_le.mpr h.2 c_10)).symm
  · refine lv_iload_n hx hb dX1_hasMind_4 rfl (lv_at hl 1 rfl) ?_
    refine lv_aload_n hx hb dX1_hasMind_5 rfl (lv_at hl 0 rfl) ?_
    refine dz_get hx hb hts (fun _ h => List.mem_cons_of_mem _ (List.mem_append_right _ h)) hown hE hG ha ho rfl 3 (by decide) (hts _ (List.mem_of_getElem? (i := 1) rfl)) (fun _ h9 => h9) rfl dX1_hasMind_6 ?_
    refine dz_alen hx hb hE hG rfl hv 2 rfl dX1_hasMind_9 ?_
    refine lv_icmp_ge (tgt := 17) hx hb dX1_hasMind_10 (by decide) (fun c_10 => ?_) (fun c_10 => ?_)
    · refine lv_iconst (v := 0) hx hb dX1_hasMind_17 (by decide) ?_
      refine W.zret hx hb hrt (by decide) (fun t ht hW => ⟨congrArg (fun x => Outcome.returned (some (Value.int x))) ?_, ht⟩) (fun _ h => by cases h) dX1_hasMind_18
      first | exact (dz_b1 ⟨Int32.not_lt.mp c_1, Int32.not_le.mp c_10⟩).symm | exact (dz_b0 (fun h => Int32.not_lt.mpr h.1 c_1)).symm | exact (dz_b0 (fun h => Int32.not_le.mpr h.2 c_10)).symm
    · refine lv_iconst (v := 1) hx hb dX1_hasMind_13 (by decide) ?_
      refine lv_goto (tgt := 18) hx hb dX1_hasMind_14 (by decide) ?_
      refine W.zret hx hb hrt (by decide) (fun t ht hW => ⟨congrArg (fun x => Outcome.returned (some (Value.int x))) ?_, ht⟩) (fun _ h => by cases h) dX1_hasMind_18
      first | exact (dz_b1 ⟨Int32.not_lt.mp c_1, Int32.not_le.mp c_10⟩).symm | exact (dz_b0 (fun h => Int32.not_lt.mpr h.1 c_1)).symm | exact (dz_b0 (fun h => Int32.not_le.mpr h.2 c_10)).symm

set_option maxHeartbeats 4000000 in
set_option maxRecDepth 100000 in
theorem c_X1_areOpen (l : Launch) (Z : dzG) (G : dzW) (ad : dzA) (aB : Nat) (bk io : Int32) (ha : ad (26, 0) = aB) (ho : G (26, 0) = some (eO 2 [.ref (ad (27, 0)), .ref (ad (28, 0)), .int bk, .ref (ad (29, 0)), .int io])) (hio : m_bl io) : dzRd l yX1_areOpen wsX1_areOpen 0 0 Z G ad [.ref aB] (some (.int io)) := by
  refine Met.ofW (cc := cX1_areOpen) (maxL := 1) (ret := (some .boolean)) (by decide) rfl ?_
  intro p e s m args below meth c s₁ B hml hv
  obtain ⟨rfl, hG, hE⟩ := hv
  have hx := B.exec
  have hb := B.bytes
  have hrt := B.returns
  have hts := atoms_spec (ws := wsX1_areOpen) B.pre
  have hown : s.vm.findClass RX1 = some m.cls := findClass_of_methodNamed B.named
  have hlocks := B.notSynchronized
  have hS : va_S (dz_A Z) s.heap s.heap [] := va_S.rf
  have hl := lv_entry ([.ref aB]) (n := 1) (Nat.le_of_ble_eq_true rfl)
  rw [lg_entry_eq]
  generalize (lg_sl ([.ref aB]) ++ List.replicate (1 - (lg_sl ([.ref aB])).length) Slot.unset).toArray = ls at hl ⊢
  have hl : lv_has ls 1 [(0, .ref aB)] := hl
  refine lv_aload_n hx hb dX1_areOpen_0 rfl (lv_at hl 0 rfl) ?_
  refine dz_get hx hb hts (fun _ h => List.mem_cons_of_mem _ (List.mem_append_right _ h)) hown hE hG ha ho rfl 4 (by decide) (hts _ (List.mem_of_getElem? (i := 1) rfl)) (fun _ h9 => h9) rfl dX1_areOpen_1 ?_
  refine W.zret hx hb hrt hio (fun t ht hW => ⟨congrArg (fun x => Outcome.returned (some (Value.int x))) ?_, ht⟩) (fun _ h => by cases h) dX1_areOpen_4
  rfl

set_option maxHeartbeats 4000000 in
set_option maxRecDepth 100000 in
theorem c_X1_growthBy (l : Launch) (Z : dzG) (G : dzW) (ad : dzA) (aB k : Nat) (bk io : Int32) (gr : Nat → Int32) (ha : ad (26, 0) = aB) (ho : G (26, 0) = some (eO 2 [.ref (ad (27, 0)), .ref (ad (28, 0)), .int bk, .ref (ad (29, 0)), .int io])) (hg : G (27, 0) = some (eI Z 2 gr)) (hk : k < 2) : dzRd l yX1_growthBy wsX1_growthBy 1 21 Z G ad [.ref aB, .int (nI k)] (some (.int (gr k))) := by
  refine Met.ofW (cc := cX1_growthBy) (maxL := 2) (ret := (some .int)) (by decide) rfl ?_
  intro p e s m args below meth c s₁ B hml hv
  obtain ⟨rfl, hG, hE⟩ := hv
  have hx := B.exec
  have hb := B.bytes
  have hrt := B.returns
  have hts := atoms_spec (ws := wsX1_growthBy) B.pre
  have hown : s.vm.findClass RX1 = some m.cls := findClass_of_methodNamed B.named
  have hlocks := B.notSynchronized
  have hS : va_S (dz_A Z) s.heap s.heap [] := va_S.rf
  have hl := lv_entry ([.ref aB, .int (nI k)]) (n := 2) (Nat.le_of_ble_eq_true rfl)
  rw [lg_entry_eq]
  generalize (lg_sl ([.ref aB, .int (nI k)]) ++ List.replicate (2 - (lg_sl ([.ref aB, .int (nI k)])).length) Slot.unset).toArray = ls at hl ⊢
  have hl : lv_has ls 2 [(0, .ref aB), (1, .int (nI k))] := hl
  refine lv_aload_n hx hb dX1_growthBy_0 rfl (lv_at hl 0 rfl) ?_
  refine lv_iload_n hx hb dX1_growthBy_1 rfl (lv_at hl 1 rfl) ?_
  refine dz_kRi (va_runV (As := [_]) ⟨hx, hb, hml, hown, hts⟩ (c_X1_hasHouse l Z _ _ _ _ _ _ ha ho) (cwV 1 hts gX1_growthBy_X1_hasHouse rfl rfl rfl (by decide +kernel) ⟨Nat.le_of_ble_eq_true rfl, Nat.le_of_ble_eq_true rfl⟩) (dz_P.preV hE hS hG ho rfl ha) rfl rfl hl.1 rfl (lv_room (Nat.le_of_ble_eq_true rfl)) dX1_growthBy_2 ⟨Nat.le_of_ble_eq_true rfl, Nat.le_of_ble_eq_true rfl⟩) ?_
  refine lv_if_eq (tgt := 17) hx hb dX1_growthBy_5 (by decide) (fun c_5 => absurd c_5 (fun z => dz_bx z ⟨nI_pos' (by omega), nI_lt hk (by decide)⟩)) (fun c_5 => ?_)
  refine lv_aload_n hx hb dX1_growthBy_8 rfl (lv_at hl 0 rfl) ?_
  refine dz_get hx hb hts (fun _ h => List.mem_cons_of_mem _ (List.mem_append_right _ h)) hown hE hG ha ho rfl 0 (by decide) (hts _ (List.mem_of_getElem? (i := 1) rfl)) (fun _ h9 => h9) rfl dX1_growthBy_9 ?_
  refine lv_iload_n hx hb dX1_growthBy_12 rfl (lv_at hl 1 rfl) ?_
  refine dz_iald hx hb hE hG rfl hg (vp_in_nI hk (by decide)) dX1_growthBy_13 ?_
  refine lv_goto (tgt := 18) hx hb dX1_growthBy_14 (by decide) ?_
  refine W.iret hx hb hrt (fun t ht hW => ⟨congrArg (fun x => Outcome.returned (some (Value.int x))) ?_, ht⟩) (fun _ h => by cases h) dX1_growthBy_18
  rw [nI_clamp (by omega)]

set_option maxHeartbeats 4000000 in
set_option maxRecDepth 100000 in
theorem c_X1_massesThen (l : Launch) (Z : dzG) (G : dzW) (ad : dzA) (aB k : Nat) (bk io : Int32) (ma : Nat → Int32) (ha : ad (26, 0) = aB) (ho : G (26, 0) = some (eO 2 [.ref (ad (27, 0)), .ref (ad (28, 0)), .int bk, .ref (ad (29, 0)), .int io])) (hm : G (28, 0) = some (eI Z 2 ma)) (hk : k < 2) : dzRd l yX1_massesThen wsX1_massesThen 1 21 Z G ad [.ref aB, .int (nI k)] (some (.int (ma k))) := by
  refine Met.ofW (cc := cX1_massesThen) (maxL := 2) (ret := (some .int)) (by decide) rfl ?_
  intro p e s m args below meth c s₁ B hml hv
  obtain ⟨rfl, hG, hE⟩ := hv
  have hx := B.exec
  have hb := B.bytes
  have hrt := B.returns
  have hts := atoms_spec (ws := wsX1_massesThen) B.pre
  have hown : s.vm.findClass RX1 = some m.cls := findClass_of_methodNamed B.named
  have hlocks := B.notSynchronized
  have hS : va_S (dz_A Z) s.heap s.heap [] := va_S.rf
  have hl := lv_entry ([.ref aB, .int (nI k)]) (n := 2) (Nat.le_of_ble_eq_true rfl)
  rw [lg_entry_eq]
  generalize (lg_sl ([.ref aB, .int (nI k)]) ++ List.replicate (2 - (lg_sl ([.ref aB, .int (nI k)])).length) Slot.unset).toArray = ls at hl ⊢
  have hl : lv_has ls 2 [(0, .ref aB), (1, .int (nI k))] := hl
  refine lv_aload_n hx hb dX1_massesThen_0 rfl (lv_at hl 0 rfl) ?_
  refine lv_iload_n hx hb dX1_massesThen_1 rfl (lv_at hl 1 rfl) ?_
  refine dz_kRi (va_runV (As := [_]) ⟨hx, hb, hml, hown, hts⟩ (c_X1_hasHouse l Z _ _ _ _ _ _ ha ho) (cwV 1 hts gX1_massesThen_X1_hasHouse rfl rfl rfl (by decide +kernel) ⟨Nat.le_of_ble_eq_true rfl, Nat.le_of_ble_eq_true rfl⟩) (dz_P.preV hE hS hG ho rfl ha) rfl rfl hl.1 rfl (lv_room (Nat.le_of_ble_eq_true rfl)) dX1_massesThen_2 ⟨Nat.le_of_ble_eq_true rfl, Nat.le_of_ble_eq_true rfl⟩) ?_
  refine lv_if_eq (tgt := 17) hx hb dX1_massesThen_5 (by decide) (fun c_5 => absurd c_5 (fun z => dz_bx z ⟨nI_pos' (by omega), nI_lt hk (by decide)⟩)) (fun c_5 => ?_)
  refine lv_aload_n hx hb dX1_massesThen_8 rfl (lv_at hl 0 rfl) ?_
  refine dz_get hx hb hts (fun _ h => List.mem_cons_of_mem _ (List.mem_append_right _ h)) hown hE hG ha ho rfl 1 (by decide) (hts _ (List.mem_of_getElem? (i := 1) rfl)) (fun _ h9 => h9) rfl dX1_massesThen_9 ?_
  refine lv_iload_n hx hb dX1_massesThen_12 rfl (lv_at hl 1 rfl) ?_
  refine dz_iald hx hb hE hG rfl hm (vp_in_nI hk (by decide)) dX1_massesThen_13 ?_
  refine lv_goto (tgt := 18) hx hb dX1_massesThen_14 (by decide) ?_
  refine W.iret hx hb hrt (fun t ht hW => ⟨congrArg (fun x => Outcome.returned (some (Value.int x))) ?_, ht⟩) (fun _ h => by cases h) dX1_massesThen_18
  rw [nI_clamp (by omega)]

set_option maxHeartbeats 4000000 in
set_option maxRecDepth 100000 in
theorem c_X1_hasBooking (l : Launch) (Z : dzG) (G : dzW) (ad : dzA) (aB k : Nat) (bk io : Int32) (ma : Nat → Int32) (ha : ad (26, 0) = aB) (ho : G (26, 0) = some (eO 2 [.ref (ad (27, 0)), .ref (ad (28, 0)), .int bk, .ref (ad (29, 0)), .int io])) (hm : G (28, 0) = some (eI Z 2 ma)) (hk : k < 2) : dzRd l yX1_hasBooking wsX1_hasBooking 2 42 Z G ad [.ref aB, .int (nI k)] (some (.int (dz_b (¬ ma k = -1)))) := by
  refine Met.ofW (cc := cX1_hasBooking) (maxL := 2) (ret := (some .boolean)) (by decide) rfl ?_
  intro p e s m args below meth c s₁ B hml hv
  obtain ⟨rfl, hG, hE⟩ := hv
  have hx := B.exec
  have hb := B.bytes
  have hrt := B.returns
  have hts := atoms_spec (ws := wsX1_hasBooking) B.pre
  have hown : s.vm.findClass RX1 = some m.cls := findClass_of_methodNamed B.named
  have hlocks := B.notSynchronized
  have hS : va_S (dz_A Z) s.heap s.heap [] := va_S.rf
  have hl := lv_entry ([.ref aB, .int (nI k)]) (n := 2) (Nat.le_of_ble_eq_true rfl)
  rw [lg_entry_eq]
  generalize (lg_sl ([.ref aB, .int (nI k)]) ++ List.replicate (2 - (lg_sl ([.ref aB, .int (nI k)])).length) Slot.unset).toArray = ls at hl ⊢
  have hl : lv_has ls 2 [(0, .ref aB), (1, .int (nI k))] := hl
  refine lv_aload_n hx hb dX1_hasBooking_0 rfl (lv_at hl 0 rfl) ?_
  refine lv_iload_n hx hb dX1_hasBooking_1 rfl (lv_at hl 1 rfl) ?_
  refine dz_kRi (va_runV (As := [_]) ⟨hx, hb, hml, hown, hts⟩ (c_X1_massesThen l Z _ _ _ _ _ _ _ ha ho hm hk) (cwV 1 hts gX1_hasBooking_X1_massesThen rfl rfl rfl (by decide +kernel) ⟨Nat.le_of_ble_eq_true rfl, Nat.le_of_ble_eq_true rfl⟩) (dz_P.preV hE hS hG ho rfl ha) rfl rfl hl.1 rfl (lv_room (Nat.le_of_ble_eq_true rfl)) dX1_hasBooking_2 ⟨Nat.le_of_ble_eq_true rfl, Nat.le_of_ble_eq_true rfl⟩) ?_
  refine lv_iconst (v := (-1)) hx hb dX1_hasBooking_5 (by decide) ?_
  refine lv_icmp_eq (tgt := 13) hx hb dX1_hasBooking_6 (by decide) (fun c_6 => ?_) (fun c_6 => ?_)
  · refine lv_iconst (v := 0) hx hb dX1_hasBooking_13 (by decide) ?_
    refine W.zret hx hb hrt (by decide) (fun t ht hW => ⟨congrArg (fun x => Outcome.returned (some (Value.int x))) ?_, ht⟩) (fun _ h => by cases h) dX1_hasBooking_14
    first | exact (dz_b0 (fun h => h c_6)).symm | exact (dz_b1 c_6).symm
  · refine lv_iconst (v := 1) hx hb dX1_hasBooking_9 (by decide) ?_
    refine lv_goto (tgt := 14) hx hb dX1_hasBooking_10 (by decide) ?_
    refine W.zret hx hb hrt (by decide) (fun t ht hW => ⟨congrArg (fun x => Outcome.returned (some (Value.int x))) ?_, ht⟩) (fun _ h => by cases h) dX1_hasBooking_14
    first | exact (dz_b0 (fun h => h c_6)).symm | exact (dz_b1 c_6).symm

set_option maxHeartbeats 4000000 in
set_option maxRecDepth 100000 in
theorem c_X1_add (l : Launch) (Z : dzG) (G : dzW) (ad : dzA) (aB k : Nat) (bk io gv mv : Int32) (gr ma : Nat → Int32) (ha : ad (26, 0) = aB) (ho : G (26, 0) = some (eO 2 [.ref (ad (27, 0)), .ref (ad (28, 0)), .int bk, .ref (ad (29, 0)), .int io])) (hg : G (27, 0) = some (eI Z 2 gr)) (hm : G (28, 0) = some (eI Z 2 ma)) (hk : k < 2) : dzWr l yX1_add wsX1_add 1 21 0 0 Z G ad [.ref aB, .int (nI k), .int gv, .int mv] rv_i (fun (x : Int32) G1 ad1 => (∀ r9 : dzR, r9 ≠ (26, 0) → r9 ≠ (27, 0) → r9 ≠ (28, 0) → G1 r9 = G r9 ∧ ad1 r9 = ad r9) ∧ ad = ad1 ∧ x = bk + 1 ∧ G1 (26, 0) = some (eO 2 [.ref (ad (27, 0)), .ref (ad (28, 0)), .int (bk + 1), .ref (ad (29, 0)), .int io]) ∧ G1 (27, 0) = some (eI Z 2 (upd gr k gv)) ∧ G1 (28, 0) = some (eI Z 2 (upd ma k mv))) := by
  refine Met.ofW (cc := cX1_add) (maxL := 4) (ret := (some .int)) (by decide) rfl ?_
  intro p e s m args below meth c s₁ B hml hv
  obtain ⟨rfl, hG, hE⟩ := hv
  have hx := B.exec
  have hb := B.bytes
  have hrt := B.returns
  have hts := atoms_spec (ws := wsX1_add) B.pre
  have hown : s.vm.findClass RX1 = some m.cls := findClass_of_methodNamed B.named
  have hlocks := B.notSynchronized
  have hS : va_S (dz_A Z) s.heap s.heap [] := va_S.rf
  have hl := lv_entry ([.ref aB, .int (nI k), .int gv, .int mv]) (n := 4) (Nat.le_of_ble_eq_true rfl)
  rw [lg_entry_eq]
  generalize (lg_sl ([.ref aB, .int (nI k), .int gv, .int mv]) ++ List.replicate (4 - (lg_sl ([.ref aB, .int (nI k), .int gv, .int mv])).length) Slot.unset).toArray = ls at hl ⊢
  have hl : lv_has ls 4 [(0, .ref aB), (1, .int (nI k)), (2, .int gv), (3, .int mv)] := hl
  refine lv_aload_n hx hb dX1_add_0 rfl (lv_at hl 0 rfl) ?_
  refine lv_iload_n hx hb dX1_add_1 rfl (lv_at hl 1 rfl) ?_
  refine dz_kRi (va_runV (As := [_]) ⟨hx, hb, hml, hown, hts⟩ (c_X1_hasHouse l Z _ _ _ _ _ _ ha ho) (cwV 1 hts gX1_add_X1_hasHouse rfl rfl rfl (by decide +kernel) ⟨Nat.le_of_ble_eq_true rfl, Nat.le_of_ble_eq_true rfl⟩) (dz_P.preV hE hS hG ho rfl ha) rfl rfl hl.1 rfl (lv_room (Nat.le_of_ble_eq_true rfl)) dX1_add_2 ⟨Nat.le_of_ble_eq_true rfl, Nat.le_of_ble_eq_true rfl⟩) ?_
  refine lv_if_eq (tgt := 32) hx hb dX1_add_5 (by decide) (fun c_5 => absurd c_5 (fun z => dz_bx z ⟨nI_pos' (by omega), nI_lt hk (by decide)⟩)) (fun c_5 => ?_)
  refine lv_aload_n hx hb dX1_add_8 rfl (lv_at hl 0 rfl) ?_
  refine dz_get hx hb hts (fun _ h => List.mem_cons_of_mem _ (List.mem_append_right _ h)) hown hE hG ha ho rfl 0 (by decide) (hts _ (List.mem_of_getElem? (i := 1) rfl)) (fun _ h9 => h9) rfl dX1_add_9 ?_
  refine lv_iload_n hx hb dX1_add_12 rfl (lv_at hl 1 rfl) ?_
  refine lv_iload_n hx hb dX1_add_13 rfl (lv_at hl 2 rfl) ?_
  refine dz_iast hx hb hE hG rfl hS hg (vp_in_nI hk (by decide)) dX1_add_14 (fun H locs hG hS => ?_)
  obtain ⟨G_1, hG, w_1, o_1⟩ := dz_nm hG
  refine lv_aload_n hx hb dX1_add_15 rfl (lv_at hl 0 rfl) ?_
  refine dz_get hx hb hts (fun _ h => List.mem_cons_of_mem _ (List.mem_append_right _ h)) hown hE hG ((o_1 _ (dz_n rfl)).2.trans ha) ((o_1 _ (dz_n rfl)).1.trans ho) rfl 1 (by decide) (hts _ (List.mem_of_getElem? (i := 2) rfl)) (fun _ h9 => h9) rfl dX1_add_16 ?_
  refine lv_iload_n hx hb dX1_add_19 rfl (lv_at hl 1 rfl) ?_
  refine lv_iload_n hx hb dX1_add_20 rfl (lv_at hl 3 rfl) ?_
  refine dz_iast hx hb hE hG ((o_1 _ (dz_n rfl)).2.trans rfl) hS ((o_1 _ (dz_n rfl)).1.trans hm) (vp_in_nI hk (by decide)) dX1_add_21 (fun H locs hG hS => ?_)
  obtain ⟨G_2, hG, w_2, o_2⟩ := dz_nm hG
  refine lv_aload_n hx hb dX1_add_22 rfl (lv_at hl 0 rfl) ?_
  refine lv_dup hx hb dX1_add_23 rfl ?_
  refine dz_get hx hb hts (fun _ h => List.mem_cons_of_mem _ (List.mem_append_right _ h)) hown hE hG ((o_2 _ (dz_n rfl)).2.trans ((o_1 _ (dz_n rfl)).2.trans ha)) ((o_2 _ (dz_n rfl)).1.trans ((o_1 _ (dz_n rfl)).1.trans ho)) rfl 2 (by decide) (hts _ (List.mem_of_getElem? (i := 3) rfl)) (fun _ h9 => h9) rfl dX1_add_24 ?_
  refine lv_iconst (v := 1) hx hb dX1_add_27 (by decide) ?_
  refine lv_iadd hx hb dX1_add_28 ?_
  refine lv_topi (fun v_1 ev_1 => ?_)
  obtain rfl : v_1 = bk + 1 := ev_1
  refine dz_put hx hb hts (fun _ h => List.mem_cons_of_mem _ (List.mem_append_right _ h)) tyX1 tyX1_ok nmX1 hown hE hG ((o_2 _ (dz_n rfl)).2.trans ((o_1 _ (dz_n rfl)).2.trans ha)) hS ((o_2 _ (dz_n rfl)).1.trans ((o_1 _ (dz_n rfl)).1.trans ho)) rfl 2 (by decide) (hts _ (List.mem_of_getElem? (i := 3) rfl)) (fun _ h9 => h9) rfl (ty := .int) (by decide +kernel) rfl rfl (fs' := [.ref (ad (27, 0)), .ref (ad (28, 0)), .int (bk + 1), .ref (ad (29, 0)), .int io]) rfl (Nat.le_of_ble_eq_true rfl) dX1_add_29 (fun H locs hG hS => ?_)
  obtain ⟨G_3, hG, w_3, o_3⟩ := dz_nm hG
  refine lv_aload_n hx hb dX1_add_32 rfl (lv_at hl 0 rfl) ?_
  refine dz_get hx hb hts (fun _ h => List.mem_cons_of_mem _ (List.mem_append_right _ h)) hown hE hG ((o_2 _ (dz_n rfl)).2.trans ((o_1 _ (dz_n rfl)).2.trans ha)) w_3 rfl 2 (by decide) (hts _ (List.mem_of_getElem? (i := 3) rfl)) (fun _ h9 => h9) rfl dX1_add_33 ?_
  refine W.widen (k := 0) (n := 0) (by first | omega | decide) (by first | omega | decide) ?_
  refine W.iret hx hb hrt (fun t ht hW => dz_endM (f := rv_i) _ hE hS hG ?_ ht hW) (fun q h => hS.2.2 q h) dX1_add_36
  refine ⟨fun r9 n_0 n_1 n_2 => (dz_tr (o_3 r9 n_0) (dz_tr (o_2 r9 n_2) (o_1 r9 n_1))), rfl, ?_⟩
  have z1 := ((o_3 _ (dz_n rfl)).1.trans ((o_2 _ (dz_n rfl)).1.trans w_1))
  have z2 := ((o_3 _ (dz_n rfl)).1.trans w_2)
  rw [nI_clamp (by omega)] at z1 z2
  exact ⟨rfl, w_3, z1, z2⟩

set_option maxHeartbeats 4000000 in
set_option maxRecDepth 100000 in
theorem c_X1_setMind (l : Launch) (Z : dzG) (G : dzW) (ad : dzA) (aB k : Nat) (bk io bv : Int32) (mi : Nat → Int32) (ha : ad (26, 0) = aB) (ho : G (26, 0) = some (eO 2 [.ref (ad (27, 0)), .ref (ad (28, 0)), .int bk, .ref (ad (29, 0)), .int io])) (hv : G (29, 0) = some (eZ Z 5 mi)) (hk : k < 5) (hbv : m_bl bv) : dzWr l yX1_setMind wsX1_setMind 1 21 0 0 Z G ad [.ref aB, .int (nI k), .int bv] rv_v (fun (x : Unit) G1 ad1 => (∀ r9 : dzR, r9 ≠ (26, 0) → r9 ≠ (29, 0) → G1 r9 = G r9 ∧ ad1 r9 = ad r9) ∧ ad = ad1 ∧ G1 (26, 0) = some (eO 2 [.ref (ad (27, 0)), .ref (ad (28, 0)), .int bk, .ref (ad (29, 0)), .int (m_op io (m_vt (upd mi k bv) 5))]) ∧ G1 (29, 0) = some (eZ Z 5 (upd mi k bv))) := by
  refine Met.ofW (cc := cX1_setMind) (maxL := 5) (ret := none) (by decide) rfl ?_
  intro p e s m args below meth c s₁ B hml hv
  obtain ⟨rfl, hG, hE⟩ := hv
  have hx := B.exec
  have hb := B.bytes
  have hrt := B.returns
  have hts := atoms_spec (ws := wsX1_setMind) B.pre
  have hown : s.vm.findClass RX1 = some m.cls := findClass_of_methodNamed B.named
  have hlocks := B.notSynchronized
  have hS : va_S (dz_A Z) s.heap s.heap [] := va_S.rf
  have hl := lv_entry ([.ref aB, .int (nI k), .int bv]) (n := 5) (Nat.le_of_ble_eq_true rfl)
  rw [lg_entry_eq]
  generalize (lg_sl ([.ref aB, .int (nI k), .int bv]) ++ List.replicate (5 - (lg_sl ([.ref aB, .int (nI k), .int bv])).length) Slot.unset).toArray = ls at hl ⊢
  have hl : lv_has ls 5 [(0, .ref aB), (1, .int (nI k)), (2, .int bv)] := hl
  refine lv_aload_n hx hb dX1_setMind_0 rfl (lv_at hl 0 rfl) ?_
  refine lv_iload_n hx hb dX1_setMind_1 rfl (lv_at hl 1 rfl) ?_
  refine dz_kRi (va_runV (As := [_]) ⟨hx, hb, hml, hown, hts⟩ (c_X1_hasMind l Z _ _ _ _ _ _ _ ha ho hv) (cwV 1 hts gX1_setMind_X1_hasMind rfl rfl rfl (by decide +kernel) ⟨Nat.le_of_ble_eq_true rfl, Nat.le_of_ble_eq_true rfl⟩) (dz_P.preV hE hS hG ho rfl ha) rfl rfl hl.1 rfl (lv_room (Nat.le_of_ble_eq_true rfl)) dX1_setMind_2 ⟨Nat.le_of_ble_eq_true rfl, Nat.le_of_ble_eq_true rfl⟩) ?_
  refine lv_if_eq (tgt := 15) hx hb dX1_setMind_5 (by decide) (fun c_5 => absurd c_5 (fun z => dz_bx z ⟨nI_pos' (by omega), nI_lt hk (by decide)⟩)) (fun c_5 => ?_)
  refine lv_aload_n hx hb dX1_setMind_8 rfl (lv_at hl 0 rfl) ?_
  refine dz_get hx hb hts (fun _ h => List.mem_cons_of_mem _ (List.mem_append_right _ h)) hown hE hG ha ho rfl 3 (by decide) (hts _ (List.mem_of_getElem? (i := 1) rfl)) (fun _ h9 => h9) rfl dX1_setMind_9 ?_
  refine lv_iload_n hx hb dX1_setMind_12 rfl (lv_at hl 1 rfl) ?_
  refine lv_iload_n hx hb dX1_setMind_13 rfl (lv_at hl 2 rfl) ?_
  refine dz_zast hx hb hE hG rfl hS hv (vp_in_nI hk (by decide)) dX1_setMind_14 (fun H locs hG hS => ?_)
  obtain ⟨G_1, hG, w_1, o_1⟩ := dz_nm hG
  rw [nI_clamp (by omega), hbv.nar] at w_1
  refine lv_iconst (v := 0) hx hb dX1_setMind_15 (by decide) ?_
  refine lv_istore_n (lv' := [(3, .int 0), (0, .ref aB), (1, .int (nI k)), (2, .int bv)]) hx hb dX1_setMind_16 rfl hl (by decide) rfl (fun ls hl => ?_)
  refine lv_iconst (v := 0) hx hb dX1_setMind_17 (by decide) ?_
  refine lv_istore (lv' := [(4, .int 0), (3, .int 0), (0, .ref aB), (1, .int (nI k)), (2, .int bv)]) hx hb dX1_setMind_18 hl (by decide) rfl (fun ls hl => ?_)
  refine dz_lp (α := Nat × Array Slot) (fun a9 => (fun (j : Nat) (ls : Array Slot) => 5 - j) a9.1 a9.2) (fun a9 => (fun (j : Nat) (ls : Array Slot) => (j ≤ 5) ∧ lv_has ls 5 [(4, .int (nI j)), (3, .int (m_vt (upd mi k bv) j)), (0, .ref aB), (1, .int (nI k)), (2, .int bv)]) a9.1 a9.2) (fun a9 => F0 m 20 a9.2 []) (fun a9 hI ih_20 => ?_) (0, ls) ⟨(Nat.zero_le _), lv_sub hl [0, 1, 2, 3, 4] rfl⟩
  obtain ⟨j, ls⟩ := a9
  obtain ⟨hj, hl⟩ := hI
  have hj : j ≤ 5 := hj
  have hl : lv_has ls 5 [(4, .int (nI j)), (3, .int (m_vt (upd mi k bv) j)), (0, .ref aB), (1, .int (nI k)), (2, .int bv)] := hl
  refine lv_iload hx hb dX1_setMind_20 (lv_at hl 0 rfl) ?_
  refine lv_aload_n hx hb dX1_setMind_22 rfl (lv_at hl 2 rfl) ?_
  refine dz_get hx hb hts (fun _ h => List.mem_cons_of_mem _ (List.mem_append_right _ h)) hown hE hG ((o_1 _ (dz_n rfl)).2.trans ha) ((o_1 _ (dz_n rfl)).1.trans ho) rfl 3 (by decide) (hts _ (List.mem_of_getElem? (i := 1) rfl)) (fun _ h9 => h9) rfl dX1_setMind_23 ?_
  refine dz_alen hx hb hE hG rfl w_1 2 rfl dX1_setMind_26 ?_
  refine lv_icmp_ge (tgt := 54) hx hb dX1_setMind_27 (by decide) (fun c_27 => ?_) (fun c_27 => ?_)
  · have hi2 : j = 5 := by have := (nI_leI (Nat.le_of_ble_eq_true rfl) (by omega)).mp c_27; omega
    refine lv_aload_n hx hb dX1_setMind_54 rfl (lv_at hl 2 rfl) ?_
    refine lv_aload_n hx hb dX1_setMind_55 rfl (lv_at hl 2 rfl) ?_
    refine dz_get hx hb hts (fun _ h => List.mem_cons_of_mem _ (List.mem_append_right _ h)) hown hE hG ((o_1 _ (dz_n rfl)).2.trans ha) ((o_1 _ (dz_n rfl)).1.trans ho) rfl 4 (by decide) (hts _ (List.mem_of_getElem? (i := 2) rfl)) (fun _ h9 => h9) rfl dX1_setMind_56 ?_
    refine lv_if_ne (tgt := 67) hx hb dX1_setMind_59 (by decide) (fun c_59 => ?_) (fun c_59 => ?_)
    · have hop : m_op io (m_vt (upd mi k bv) 5) = 1 := if_neg c_59
      refine lv_iconst (v := 1) hx hb dX1_setMind_67 (by decide) ?_
      refine lv_goto (tgt := 72) hx hb dX1_setMind_68 (by decide) ?_
      refine dz_put hx hb hts (fun _ h => List.mem_cons_of_mem _ (List.mem_append_right _ h)) tyX1 tyX1_ok nmX1 hown hE hG ((o_1 _ (dz_n rfl)).2.trans ha) hS ((o_1 _ (dz_n rfl)).1.trans ho) rfl 4 (by decide) (hts _ (List.mem_of_getElem? (i := 2) rfl)) (fun _ h9 => h9) rfl (ty := .boolean) (by decide +kernel) (by decide) rfl (fs' := [.ref (ad (27, 0)), .ref (ad (28, 0)), .int bk, .ref (ad (29, 0)), .int 1]) rfl (Nat.le_of_ble_eq_true rfl) dX1_setMind_72 (fun H locs hG hS => ?_)
      obtain ⟨G_2, hG, w_2, o_2⟩ := dz_nm hG
      refine W.widen (k := 0) (n := 0) (by first | omega | decide) (by first | omega | decide) ?_
      refine W.vret hx hb hrt (fun t ht hW => dz_endM (f := rv_v) () hE hS hG ?_ ht hW) (fun q h => hS.2.2 q h) dX1_setMind_75
      refine ⟨fun r9 n_0 n_1 => (dz_tr (o_2 r9 n_0) (o_1 r9 n_1)), rfl, ?_⟩
      exact ⟨by rw [hop]; exact w_2, ((o_2 _ (dz_n rfl)).1.trans w_1)⟩
    · refine lv_iload_n hx hb dX1_setMind_62 rfl (lv_at hl 1 rfl) ?_
      refine lv_iconst (v := 3) hx hb dX1_setMind_63 (by decide) ?_
      refine lv_icmp_lt (tgt := 71) hx hb dX1_setMind_64 (by decide) (fun c_64 => ?_) (fun c_64 => ?_)
      · have hop : m_op io (m_vt (upd mi k bv) 5) = 0 := (if_pos c_59).trans (if_pos (by rw [← hi2]; exact c_64))
        refine lv_iconst (v := 0) hx hb dX1_setMind_71 (by decide) ?_
        refine dz_put hx hb hts (fun _ h => List.mem_cons_of_mem _ (List.mem_append_right _ h)) tyX1 tyX1_ok nmX1 hown hE hG ((o_1 _ (dz_n rfl)).2.trans ha) hS ((o_1 _ (dz_n rfl)).1.trans ho) rfl 4 (by decide) (hts _ (List.mem_of_getElem? (i := 2) rfl)) (fun _ h9 => h9) rfl (ty := .boolean) (by decide +kernel) (by decide) rfl (fs' := [.ref (ad (27, 0)), .ref (ad (28, 0)), .int bk, .ref (ad (29, 0)), .int 0]) rfl (Nat.le_of_ble_eq_true rfl) dX1_setMind_72 (fun H locs hG hS => ?_)
        obtain ⟨G_3, hG, w_3, o_3⟩ := dz_nm hG
        refine W.widen (k := 0) (n := 0) (by first | omega | decide) (by first | omega | decide) ?_
        refine W.vret hx hb hrt (fun t ht hW => dz_endM (f := rv_v) () hE hS hG ?_ ht hW) (fun q h => hS.2.2 q h) dX1_setMind_75
        refine ⟨fun r9 n_0 n_1 => (dz_tr (o_3 r9 n_0) (o_1 r9 n_1)), rfl, ?_⟩
        exact ⟨by rw [hop]; exact w_3, ((o_3 _ (dz_n rfl)).1.trans w_1)⟩
      · have hop : m_op io (m_vt (upd mi k bv) 5) = 1 := (if_pos c_59).trans (if_neg (by rw [← hi2]; exact c_64))
        refine lv_iconst (v := 1) hx hb dX1_setMind_67 (by decide) ?_
        refine lv_goto (tgt := 72) hx hb dX1_setMind_68 (by decide) ?_
        refine dz_put hx hb hts (fun _ h => List.mem_cons_of_mem _ (List.mem_append_right _ h)) tyX1 tyX1_ok nmX1 hown hE hG ((o_1 _ (dz_n rfl)).2.trans ha) hS ((o_1 _ (dz_n rfl)).1.trans ho) rfl 4 (by decide) (hts _ (List.mem_of_getElem? (i := 2) rfl)) (fun _ h9 => h9) rfl (ty := .boolean) (by decide +kernel) (by decide) rfl (fs' := [.ref (ad (27, 0)), .ref (ad (28, 0)), .int bk, .ref (ad (29, 0)), .int 1]) rfl (Nat.le_of_ble_eq_true rfl) dX1_setMind_72 (fun H locs hG hS => ?_)
        obtain ⟨G_4, hG, w_4, o_4⟩ := dz_nm hG
        refine W.widen (k := 0) (n := 0) (by first | omega | decide) (by first | omega | decide) ?_
        refine W.vret hx hb hrt (fun t ht hW => dz_endM (f := rv_v) () hE hS hG ?_ ht hW) (fun q h => hS.2.2 q h) dX1_setMind_75
        refine ⟨fun r9 n_0 n_1 => (dz_tr (o_4 r9 n_0) (o_1 r9 n_1)), rfl, ?_⟩
        exact ⟨by rw [hop]; exact w_4, ((o_4 _ (dz_n rfl)).1.trans w_1)⟩
  · have hlt : j < 5 := by
      rcases Nat.lt_or_ge j 5 with q | q
      · exact q
      · exact absurd ((nI_leI (Nat.le_of_ble_eq_true rfl) (by omega)).mpr q) c_27
    refine lv_iload_n hx hb dX1_setMind_30 rfl (lv_at hl 1 rfl) ?_
    refine lv_aload_n hx hb dX1_setMind_31 rfl (lv_at hl 2 rfl) ?_
    refine dz_get hx hb hts (fun _ h => List.mem_cons_of_mem _ (List.mem_append_right _ h)) hown hE hG ((o_1 _ (dz_n rfl)).2.trans ha) ((o_1 _ (dz_n rfl)).1.trans ho) rfl 3 (by decide) (hts _ (List.mem_of_getElem? (i := 1) rfl)) (fun _ h9 => h9) rfl dX1_setMind_32 ?_
    refine lv_iload hx hb dX1_setMind_35 (lv_at hl 0 rfl) ?_
    refine dz_zald hx hb hE hG rfl w_1 (vp_in_nI hlt (by decide)) dX1_setMind_37 ?_
    refine lv_topi (fun v_1 ev_1 => ?_)
    obtain rfl : v_1 = (upd mi k bv) j := ev_1.trans (by rw [nI_clamp (by omega)])
    refine lv_if_eq (tgt := 45) hx hb dX1_setMind_38 (by decide) (fun c_38 => ?_) (fun c_38 => ?_)
    · have hst : m_vt (upd mi k bv) (j + 1) = m_vt (upd mi k bv) j + 0 := (if_pos c_38).trans (Int32.add_zero _).symm
      refine lv_iconst (v := 0) hx hb dX1_setMind_45 (by decide) ?_
      refine lv_iadd hx hb dX1_setMind_46 ?_
      refine lv_topi (fun v_2 ev_2 => ?_)
      refine lv_istore_n (lv' := [(3, .int v_2), (4, .int (nI j)), (0, .ref aB), (1, .int (nI k)), (2, .int bv)]) hx hb dX1_setMind_47 rfl hl (by decide) rfl (fun ls hl => ?_)
      obtain ⟨v_3, ev_3⟩ : ∃ y : Int32, y = (nI j) + 1 := ⟨_, rfl⟩
      refine lv_iinc (v := v_3) (lv' := [(4, .int v_3), (3, .int v_2), (0, .ref aB), (1, .int (nI k)), (2, .int bv)]) hx hb dX1_setMind_48 hl (k := 1) rfl (by rw [ev_3]; rfl) (by decide) rfl (fun ls hl => ?_)
      refine lv_goto (tgt := 20) hx hb dX1_setMind_51 (by decide) ?_
      obtain rfl : v_3 = nI (j + 1) := ev_3.trans (nI_1 j)
      obtain rfl : v_2 = m_vt (upd mi k bv) (j + 1) := ev_2.trans hst.symm
      exact ih_20 (j + 1, ls) (by first | (dsimp only; omega) | omega) ⟨(by omega), lv_sub hl [0, 1, 2, 3, 4] rfl⟩
    · have hst : m_vt (upd mi k bv) (j + 1) = m_vt (upd mi k bv) j + 1 := if_neg c_38
      refine lv_iconst (v := 1) hx hb dX1_setMind_41 (by decide) ?_
      refine lv_goto (tgt := 46) hx hb dX1_setMind_42 (by decide) ?_
      refine lv_iadd hx hb dX1_setMind_46 ?_
      refine lv_topi (fun v_4 ev_4 => ?_)
      refine lv_istore_n (lv' := [(3, .int v_4), (4, .int (nI j)), (0, .ref aB), (1, .int (nI k)), (2, .int bv)]) hx hb dX1_setMind_47 rfl hl (by decide) rfl (fun ls hl => ?_)
      obtain ⟨v_5, ev_5⟩ : ∃ y : Int32, y = (nI j) + 1 := ⟨_, rfl⟩
      refine lv_iinc (v := v_5) (lv' := [(4, .int v_5), (3, .int v_4), (0, .ref aB), (1, .int (nI k)), (2, .int bv)]) hx hb dX1_setMind_48 hl (k := 1) rfl (by rw [ev_5]; rfl) (by decide) rfl (fun ls hl => ?_)
      refine lv_goto (tgt := 20) hx hb dX1_setMind_51 (by decide) ?_
      obtain rfl : v_5 = nI (j + 1) := ev_5.trans (nI_1 j)
      obtain rfl : v_4 = m_vt (upd mi k bv) (j + 1) := ev_4.trans hst.symm
      exact ih_20 (j + 1, ls) (by first | (dsimp only; omega) | omega) ⟨(by omega), lv_sub hl [0, 1, 2, 3, 4] rfl⟩

set_option maxHeartbeats 4000000 in
set_option maxRecDepth 100000 in
theorem c_X1_init (l : Launch) (Z : dzG) (G : dzW) (ad : dzA) (aB : Nat) (ha : ad (26, 0) = aB) (ho : G (26, 0) = some (eO 2 [.null, .null, .int 0, .null, .int 0])) : dzWr l yX1_init wsX1_init 1 23 3 9 Z G ad [.ref aB] rv_v (fun (x : Unit) G1 ad1 => (∀ r9 : dzR, r9 ≠ (26, 0) → r9 ≠ (27, 0) → r9 ≠ (28, 0) → r9 ≠ (29, 0) → G1 r9 = G r9 ∧ ad1 r9 = ad r9) ∧ ad1 (26, 0) = aB ∧ G1 (26, 0) = some (eO 2 [.ref (ad1 (27, 0)), .ref (ad1 (28, 0)), .int 0, .ref (ad1 (29, 0)), .int 0]) ∧ G1 (27, 0) = some (eI Z 2 (fun _ => -1)) ∧ G1 (28, 0) = some (eI Z 2 (fun _ => -1)) ∧ G1 (29, 0) = some (eZ Z 5 (fun _ => 0))) := by
  refine Met.ofW (cc := cX1_init) (maxL := 1) (ret := none) (by decide) rfl ?_
  intro p e s m args below meth c s₁ B hml hv
  obtain ⟨rfl, hG, hE⟩ := hv
  have hx := B.exec
  have hb := B.bytes
  have hrt := B.returns
  have hts := atoms_spec (ws := wsX1_init) B.pre
  have hown : s.vm.findClass RX1 = some m.cls := findClass_of_methodNamed B.named
  have hlocks := B.notSynchronized
  have hini : meth.name = "<init>" := (name_of_methodNamed B.named B.method).1
  have hS : va_S (dz_A Z) s.heap s.heap [] := va_S.rf
  have hl := lv_entry ([.ref aB]) (n := 1) (Nat.le_of_ble_eq_true rfl)
  rw [lg_entry_eq]
  generalize (lg_sl ([.ref aB]) ++ List.replicate (1 - (lg_sl ([.ref aB])).length) Slot.unset).toArray = ls at hl ⊢
  have hl : lv_has ls 1 [(0, .ref aB)] := hl
  refine lv_aload_n hx hb dX1_init_0 rfl (lv_at hl 0 rfl) ?_
  refine W.objInit hx hb hown (hts _ (List.mem_of_getElem? (i := 1) rfl)) (hts _ (List.mem_of_getElem? (i := 2) rfl)) (hts _ (List.mem_of_getElem? (i := 3) rfl)) rfl (by rw [hml]; exact hl.1) rfl dX1_init_1 (Nat.le_of_ble_eq_true rfl) (Nat.le_of_ble_eq_true rfl) ?_
  refine W.eq (g2 := F0 m 4 ls []) rfl ?_
  refine lv_aload_n hx hb dX1_init_4 rfl (lv_at hl 0 rfl) ?_
  refine lv_iconst (v := 2) hx hb dX1_init_5 (by decide) ?_
  refine dz_newa (atype := .int) (a0 := (2, .inl (fun _ => 0))) hx hb (hts _ (List.mem_of_getElem? (i := 4) rfl)) hE hG hS (27, 0) 0 rfl rfl (by decide) rfl (Nat.le_of_ble_eq_true rfl) (Nat.le_of_ble_eq_true rfl) (Nat.le_of_ble_eq_true rfl) dX1_init_6 (fun q_1 H hG hS => ?_)
  refine W.widen (k := 1) (n := 2) (by omega) (by omega) ?_
  obtain ⟨G_1, ad_1, hG, w_1, a_1, o_1⟩ := dz_nma hG
  refine dz_putF hx hb hts (fun _ h => List.mem_cons_of_mem _ (List.mem_append_right _ h)) tyX1 tyX1_ok nmX1 hown hE hG ((o_1 _ (dz_n rfl)).2.trans ha) hS ((o_1 _ (dz_n rfl)).1.trans ho) rfl 0 (by decide) (hts _ (List.mem_of_getElem? (i := 5) rfl)) (fun _ h9 => h9) rfl hini rfl (ty := .array .int) (by decide +kernel) rfl rfl (fs' := [.ref q_1, .null, .int 0, .null, .int 0]) rfl (Nat.le_of_ble_eq_true rfl) dX1_init_8 (fun H locs hG hS => ?_)
  obtain ⟨G_2, hG, w_2, o_2⟩ := dz_nm hG
  refine lv_aload_n hx hb dX1_init_11 rfl (lv_at hl 0 rfl) ?_
  refine lv_iconst (v := 2) hx hb dX1_init_12 (by decide) ?_
  refine dz_newa (atype := .int) (a0 := (2, .inl (fun _ => 0))) hx hb (hts _ (List.mem_of_getElem? (i := 4) rfl)) hE hG hS (28, 0) 0 rfl rfl (by decide) rfl (Nat.le_of_ble_eq_true rfl) (Nat.le_of_ble_eq_true rfl) (Nat.le_of_ble_eq_true rfl) dX1_init_13 (fun q_2 H hG hS => ?_)
  refine W.widen (k := 2) (n := 4) (by omega) (by omega) ?_
  obtain ⟨G_3, ad_3, hG, w_3, a_3, o_3⟩ := dz_nma hG
  refine dz_putF hx hb hts (fun _ h => List.mem_cons_of_mem _ (List.mem_append_right _ h)) tyX1 tyX1_ok nmX1 hown hE hG ((o_3 _ (dz_n rfl)).2.trans ((o_1 _ (dz_n rfl)).2.trans ha)) hS ((o_3 _ (dz_n rfl)).1.trans w_2) rfl 1 (by decide) (hts _ (List.mem_of_getElem? (i := 6) rfl)) (fun _ h9 => h9) rfl hini rfl (ty := .array .int) (by decide +kernel) rfl rfl (fs' := [.ref q_1, .ref q_2, .int 0, .null, .int 0]) rfl (Nat.le_of_ble_eq_true rfl) dX1_init_15 (fun H locs hG hS => ?_)
  obtain ⟨G_4, hG, w_4, o_4⟩ := dz_nm hG
  refine lv_aload_n hx hb dX1_init_18 rfl (lv_at hl 0 rfl) ?_
  refine lv_iconst (v := 0) hx hb dX1_init_19 (by decide) ?_
  refine dz_put hx hb hts (fun _ h => List.mem_cons_of_mem _ (List.mem_append_right _ h)) tyX1 tyX1_ok nmX1 hown hE hG ((o_3 _ (dz_n rfl)).2.trans ((o_1 _ (dz_n rfl)).2.trans ha)) hS w_4 rfl 2 (by decide) (hts _ (List.mem_of_getElem? (i := 7) rfl)) (fun _ h9 => h9) rfl (ty := .int) (by decide +kernel) rfl rfl (fs' := [.ref q_1, .ref q_2, .int 0, .null, .int 0]) rfl (Nat.le_of_ble_eq_true rfl) dX1_init_20 (fun H locs hG hS => ?_)
  obtain ⟨G_5, hG, w_5, o_5⟩ := dz_nm hG
  refine lv_aload_n hx hb dX1_init_23 rfl (lv_at hl 0 rfl) ?_
  refine lv_iconst (v := 5) hx hb dX1_init_24 (by decide) ?_
  refine dz_newa (atype := .boolean) (a0 := (5, .inl (fun _ => 0))) hx hb (hts _ (List.mem_of_getElem? (i := 8) rfl)) hE hG hS (29, 0) 2 rfl rfl (by decide) rfl (Nat.le_of_ble_eq_true rfl) (Nat.le_of_ble_eq_true rfl) (Nat.le_of_ble_eq_true rfl) dX1_init_25 (fun q_3 H hG hS => ?_)
  refine W.widen (k := 3) (n := 9) (by omega) (by omega) ?_
  obtain ⟨G_6, ad_6, hG, w_6, a_6, o_6⟩ := dz_nma hG
  refine dz_putF hx hb hts (fun _ h => List.mem_cons_of_mem _ (List.mem_append_right _ h)) tyX1 tyX1_ok nmX1 hown hE hG ((o_6 _ (dz_n rfl)).2.trans ((o_3 _ (dz_n rfl)).2.trans ((o_1 _ (dz_n rfl)).2.trans ha))) hS ((o_6 _ (dz_n rfl)).1.trans w_5) rfl 3 (by decide) (hts _ (List.mem_of_getElem? (i := 9) rfl)) (fun _ h9 => h9) rfl hini rfl (ty := .array .boolean) (by decide +kernel) rfl rfl (fs' := [.ref q_1, .ref q_2, .int 0, .ref q_3, .int 0]) rfl (Nat.le_of_ble_eq_true rfl) dX1_init_27 (fun H locs hG hS => ?_)
  obtain ⟨G_7, hG, w_7, o_7⟩ := dz_nm hG
  refine lv_aload_n hx hb dX1_init_30 rfl (lv_at hl 0 rfl) ?_
  refine lv_iconst (v := 0) hx hb dX1_init_31 (by decide) ?_
  refine dz_put hx hb hts (fun _ h => List.mem_cons_of_mem _ (List.mem_append_right _ h)) tyX1 tyX1_ok nmX1 hown hE hG ((o_6 _ (dz_n rfl)).2.trans ((o_3 _ (dz_n rfl)).2.trans ((o_1 _ (dz_n rfl)).2.trans ha))) hS w_7 rfl 4 (by decide) (hts _ (List.mem_of_getElem? (i := 10) rfl)) (fun _ h9 => h9) rfl (ty := .boolean) (by decide +kernel) (by decide) rfl (fs' := [.ref q_1, .ref q_2, .int 0, .ref q_3, .int 0]) rfl (Nat.le_of_ble_eq_true rfl) dX1_init_32 (fun H locs hG hS => ?_)
  obtain ⟨G_8, hG, w_8, o_8⟩ := dz_nm hG
  refine lv_aload_n hx hb dX1_init_35 rfl (lv_at hl 0 rfl) ?_
  refine dz_get hx hb hts (fun _ h => List.mem_cons_of_mem _ (List.mem_append_right _ h)) hown hE hG ((o_6 _ (dz_n rfl)).2.trans ((o_3 _ (dz_n rfl)).2.trans ((o_1 _ (dz_n rfl)).2.trans ha))) w_8 rfl 0 (by decide) (hts _ (List.mem_of_getElem? (i := 5) rfl)) (fun _ h9 => h9) rfl dX1_init_36 ?_
  refine lv_iconst (v := (-1)) hx hb dX1_init_39 (by decide) ?_
  refine dz_kMv (va_runS (As := [_, _]) ⟨hx, hb, hml, hown, hts⟩ (c_J7_fill_53178 l Z _ _ _ _ _ _ _ ((o_8 _ (dz_n rfl)).2.trans ((o_7 _ (dz_n rfl)).2.trans ((o_6 _ (dz_n rfl)).2.trans ((o_5 _ (dz_n rfl)).2.trans ((o_4 _ (dz_n rfl)).2.trans ((o_3 _ (dz_n rfl)).2.trans ((o_2 _ (dz_n rfl)).2.trans a_1))))))) ((o_8 _ (dz_n rfl)).1.trans ((o_7 _ (dz_n rfl)).1.trans ((o_6 _ (dz_n rfl)).1.trans ((o_5 _ (dz_n rfl)).1.trans ((o_4 _ (dz_n rfl)).1.trans ((o_3 _ (dz_n rfl)).1.trans ((o_2 _ (dz_n rfl)).1.trans w_1))))))) (by omega)) (va_cwS 2 hts gX1_init_J7_fill_53178 rfl rfl rfl (by decide +kernel) ⟨Nat.le_of_ble_eq_true rfl, Nat.le_of_ble_eq_true rfl⟩) (dz_P.pre hE hS hG) rfl rfl hl.1 rfl (lv_room (Nat.le_of_ble_eq_true rfl)) dX1_init_40 ⟨Nat.le_of_ble_eq_true rfl, Nat.le_of_ble_eq_true rfl⟩) hS (fun G_40_1 ad_40_1 H locs hp_40_1 hG hS => ?_)
  obtain ⟨fr_40_1, rfl, g_40_1⟩ := hp_40_1
  refine lv_aload_n hx hb dX1_init_43 rfl (lv_at hl 0 rfl) ?_
  refine dz_get hx hb hts (fun _ h => List.mem_cons_of_mem _ (List.mem_append_right _ h)) hown hE hG ((fr_40_1 _ (dz_n rfl)).2.trans ((o_6 _ (dz_n rfl)).2.trans ((o_3 _ (dz_n rfl)).2.trans ((o_1 _ (dz_n rfl)).2.trans ha)))) ((fr_40_1 _ (dz_n rfl)).1.trans w_8) rfl 1 (by decide) (hts _ (List.mem_of_getElem? (i := 6) rfl)) (fun _ h9 => h9) rfl dX1_init_44 ?_
  refine lv_iconst (v := (-1)) hx hb dX1_init_47 (by decide) ?_
  refine dz_kMv (va_runS (As := [_, _]) ⟨hx, hb, hml, hown, hts⟩ (c_J7_fill_53178 l Z _ _ _ _ _ _ _ ((fr_40_1 _ (dz_n rfl)).2.trans ((o_8 _ (dz_n rfl)).2.trans ((o_7 _ (dz_n rfl)).2.trans ((o_6 _ (dz_n rfl)).2.trans ((o_5 _ (dz_n rfl)).2.trans ((o_4 _ (dz_n rfl)).2.trans a_3)))))) ((fr_40_1 _ (dz_n rfl)).1.trans ((o_8 _ (dz_n rfl)).1.trans ((o_7 _ (dz_n rfl)).1.trans ((o_6 _ (dz_n rfl)).1.trans ((o_5 _ (dz_n rfl)).1.trans ((o_4 _ (dz_n rfl)).1.trans w_3)))))) (by omega)) (va_cwS 2 hts gX1_init_J7_fill_53178 rfl rfl rfl (by decide +kernel) ⟨Nat.le_of_ble_eq_true rfl, Nat.le_of_ble_eq_true rfl⟩) (dz_P.pre hE hS hG) rfl rfl hl.1 rfl (lv_room (Nat.le_of_ble_eq_true rfl)) dX1_init_48 ⟨Nat.le_of_ble_eq_true rfl, Nat.le_of_ble_eq_true rfl⟩) hS (fun G_48_2 ad_48_2 H locs hp_48_2 hG hS => ?_)
  obtain ⟨fr_48_2, rfl, g_48_2⟩ := hp_48_2
  refine W.widen (k := 3) (n := 9) (by first | omega | decide) (by first | omega | decide) ?_
  refine W.vret hx hb hrt (fun t ht hW => dz_endM (f := rv_v) () hE hS hG ?_ ht hW) (fun q h => hS.2.2 q h) dX1_init_51
  refine ⟨fun r9 n_0 n_1 n_2 n_3 => (dz_tr (fr_48_2 r9 n_2) (dz_tr (fr_40_1 r9 n_1) (dz_tr (o_8 r9 n_0) (dz_tr (o_7 r9 n_0) (dz_tr (o_6 r9 n_3) (dz_tr (o_5 r9 n_0) (dz_tr (o_4 r9 n_0) (dz_tr (o_3 r9 n_2) (dz_tr (o_2 r9 n_0) (o_1 r9 n_1)))))))))), ?_⟩
  refine ⟨((fr_48_2 _ (dz_n rfl)).2.trans ((fr_40_1 _ (dz_n rfl)).2.trans ((o_6 _ (dz_n rfl)).2.trans ((o_3 _ (dz_n rfl)).2.trans ((o_1 _ (dz_n rfl)).2.trans ha))))), ?_, ((fr_48_2 _ (dz_n rfl)).1.trans g_40_1), g_48_2, ((fr_48_2 _ (dz_n rfl)).1.trans ((fr_40_1 _ (dz_n rfl)).1.trans ((o_8 _ (dz_n rfl)).1.trans ((o_7 _ (dz_n rfl)).1.trans w_6))))⟩
  rw [show ad_6 (27, 0) = _ from ((fr_48_2 _ (dz_n rfl)).2.trans ((o_8 _ (dz_n rfl)).2.trans ((o_7 _ (dz_n rfl)).2.trans ((o_6 _ (dz_n rfl)).2.trans ((o_5 _ (dz_n rfl)).2.trans ((o_4 _ (dz_n rfl)).2.trans ((o_3 _ (dz_n rfl)).2.trans ((o_2 _ (dz_n rfl)).2.trans a_1)))))))), show ad_6 (28, 0) = _ from ((fr_40_1 _ (dz_n rfl)).2.trans ((o_8 _ (dz_n rfl)).2.trans ((o_7 _ (dz_n rfl)).2.trans ((o_6 _ (dz_n rfl)).2.trans ((o_5 _ (dz_n rfl)).2.trans ((o_4 _ (dz_n rfl)).2.trans a_3)))))), show ad_6 (29, 0) = _ from ((fr_48_2 _ (dz_n rfl)).2.trans ((fr_40_1 _ (dz_n rfl)).2.trans ((o_8 _ (dz_n rfl)).2.trans ((o_7 _ (dz_n rfl)).2.trans a_6))))]
  exact ((fr_48_2 _ (dz_n rfl)).1.trans ((fr_40_1 _ (dz_n rfl)).1.trans w_8))
