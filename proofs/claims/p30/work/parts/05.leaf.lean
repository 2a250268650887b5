set_option maxHeartbeats 4000000 in
set_option maxRecDepth 100000 in
theorem c_X8_isWithin (l : Launch) (Z : dzG) (G : dzW) (ad : dzA) (v lo hi : Int32)  : dzRd l yX8_isWithin wsX8_isWithin 0 0 Z G ad [.int v, .int lo, .int hi] (some (.int (dz_b (lo ≤ v ∧ v ≤ hi)))) := by
  refine Met.ofW (cc := cX8_isWithin) (maxL := 3) (ret := (some .boolean)) (by decide) rfl ?_
  intro p e s m args below meth c s₁ B hml hv
  obtain ⟨rfl, hG, hE⟩ := hv
  have hx := B.exec
  have hb := B.bytes
  have hrt := B.returns
  have hts := atoms_spec (ws := wsX8_isWithin) B.pre
  have hown : s.vm.findClass RX8 = some m.cls := findClass_of_methodNamed B.named
  have hlocks := B.notSynchronized
  have hS : va_S (dz_A Z) s.heap s.heap [] := va_S.rf
  have hl := lv_entry ([.int v, .int lo, .int hi]) (n := 3) (Nat.le_of_ble_eq_true rfl)
  rw [lg_entry_eq]
  generalize (lg_sl ([.int v, .int lo, .int hi]) ++ List.replicate (3 - (lg_sl ([.int v, .int lo, .int hi])).length) Slot.unset).toArray = ls at hl ⊢
  have hl : lv_has ls 3 [(0, .int v), (1, .int lo), (2, .int hi)] := hl
  refine lv_iload_n hx hb dX8_isWithin_0 rfl (lv_at hl 0 rfl) ?_
  refine lv_iload_n hx hb dX8_isWithin_1 rfl (lv_at hl 1 rfl) ?_
  refine lv_icmp_lt (tgt := 14) hx hb dX8_isWithin_2 (by decide) (fun c_2 => ?_) (fun c_2 => ?_)
  · refine lv_iconst (v := 0) hx hb dX8_isWithin_14 (by decide) ?_
    refine W.zret hx hb hrt (by decide) (fun t ht hW => ⟨congrArg (fun x => Outcome.returned (some (Value.int x))) ?_, ht⟩) (fun _ h => by cases h) dX8_isWithin_15
    first | exact dz_in1 c_2 c_7 | exact dz_in0 (Or.inl c_2) | exact dz_in0 (Or.inr c_7)
  · refine lv_iload_n hx hb dX8_isWithin_5 rfl (lv_at hl 0 rfl) ?_
    refine lv_iload_n hx hb dX8_isWithin_6 rfl (lv_at hl 2 rfl) ?_
    refine lv_icmp_gt (tgt := 14) hx hb dX8_isWithin_7 (by decide) (fun c_7 => ?_) (fun c_7 => ?_)
    · refine lv_iconst (v := 0) hx hb dX8_isWithin_14 (by decide) ?_
      refine W.zret hx hb hrt (by decide) (fun t ht hW => ⟨congrArg (fun x => Outcome.returned (some (Value.int x))) ?_, ht⟩) (fun _ h => by cases h) dX8_isWithin_15
      first | exact dz_in1 c_2 c_7 | exact dz_in0 (Or.inl c_2) | exact dz_in0 (Or.inr c_7)
    · refine lv_iconst (v := 1) hx hb dX8_isWithin_10 (by decide) ?_
      refine lv_goto (tgt := 15) hx hb dX8_isWithin_11 (by decide) ?_
      refine W.zret hx hb hrt (by decide) (fun t ht hW => ⟨congrArg (fun x => Outcome.returned (some (Value.int x))) ?_, ht⟩) (fun _ h => by cases h) dX8_isWithin_15
      first | exact dz_in1 c_2 c_7 | exact dz_in0 (Or.inl c_2) | exact dz_in0 (Or.inr c_7)

set_option maxHeartbeats 4000000 in
set_option maxRecDepth 100000 in
theorem c_X8_isInField (l : Launch) (Z : dzG) (G : dzW) (ad : dzA) (cc rr : Int32)  : dzRd l yX8_isInField wsX8_isInField 1 22 Z G ad [.int cc, .int rr] (some (.int (dz_b (((-10) ≤ cc ∧ cc ≤ 10) ∧ ((-10) ≤ rr ∧ rr ≤ 10))))) := by
  refine Met.ofW (cc := cX8_isInField) (maxL := 2) (ret := (some .boolean)) (by decide) rfl ?_
  intro p e s m args below meth c s₁ B hml hv
  obtain ⟨rfl, hG, hE⟩ := hv
  have hx := B.exec
  have hb := B.bytes
  have hrt := B.returns
  have hts := atoms_spec (ws := wsX8_isInField) B.pre
  have hown : s.vm.findClass RX8 = some m.cls := findClass_of_methodNamed B.named
  have hlocks := B.notSynchronized
  have hS : va_S (dz_A Z) s.heap s.heap [] := va_S.rf
  have hl := lv_entry ([.int cc, .int rr]) (n := 2) (Nat.le_of_ble_eq_true rfl)
  rw [lg_entry_eq]
  generalize (lg_sl ([.int cc, .int rr]) ++ List.replicate (2 - (lg_sl ([.int cc, .int rr])).length) Slot.unset).toArray = ls at hl ⊢
  have hl : lv_has ls 2 [(0, .int cc), (1, .int rr)] := hl
  refine lv_iload_n hx hb dX8_isInField_0 rfl (lv_at hl 0 rfl) ?_
  refine lv_bipush (v := (-10)) hx hb dX8_isInField_1 (by decide) ?_
  refine lv_bipush (v := 10) hx hb dX8_isInField_3 (by decide) ?_
  refine dz_kRi (va_runS (As := [_, _, _]) ⟨hx, hb, hml, hown, hts⟩ (c_X8_isWithin l Z _ _ _ _ _ ) (va_cwS 3 hts gX8_isInField_X8_isWithin rfl rfl rfl (by decide +kernel) ⟨Nat.le_of_ble_eq_true rfl, Nat.le_of_ble_eq_true rfl⟩) (dz_P.pre hE hS hG) rfl rfl hl.1 rfl (lv_room (Nat.le_of_ble_eq_true rfl)) dX8_isInField_5 ⟨Nat.le_of_ble_eq_true rfl, Nat.le_of_ble_eq_true rfl⟩) ?_
  refine lv_if_eq (tgt := 26) hx hb dX8_isInField_8 (by decide) (fun c_8 => ?_) (fun c_8 => ?_)
  · refine lv_iconst (v := 0) hx hb dX8_isInField_26 (by decide) ?_
    refine W.zret hx hb hrt (by decide) (fun t ht hW => ⟨congrArg (fun x => Outcome.returned (some (Value.int x))) ?_, ht⟩) (fun _ h => by cases h) dX8_isInField_27
    first | exact dz_an1 c_8 c_19 | exact dz_an0 (Or.inl c_8) | exact dz_an0 (Or.inr c_19)
  · refine lv_iload_n hx hb dX8_isInField_11 rfl (lv_at hl 1 rfl) ?_
    refine lv_bipush (v := (-10)) hx hb dX8_isInField_12 (by decide) ?_
    refine lv_bipush (v := 10) hx hb dX8_isInField_14 (by decide) ?_
    refine dz_kRi (va_runS (As := [_, _, _]) ⟨hx, hb, hml, hown, hts⟩ (c_X8_isWithin l Z _ _ _ _ _ ) (va_cwS 3 hts gX8_isInField_X8_isWithin rfl rfl rfl (by decide +kernel) ⟨Nat.le_of_ble_eq_true rfl, Nat.le_of_ble_eq_true rfl⟩) (dz_P.pre hE hS hG) rfl rfl hl.1 rfl (lv_room (Nat.le_of_ble_eq_true rfl)) dX8_isInField_16 ⟨Nat.le_of_ble_eq_true rfl, Nat.le_of_ble_eq_true rfl⟩) ?_
    refine lv_if_eq (tgt := 26) hx hb dX8_isInField_19 (by decide) (fun c_19 => ?_) (fun c_19 => ?_)
    · refine lv_iconst (v := 0) hx hb dX8_isInField_26 (by decide) ?_
      refine W.zret hx hb hrt (by decide) (fun t ht hW => ⟨congrArg (fun x => Outcome.returned (some (Value.int x))) ?_, ht⟩) (fun _ h => by cases h) dX8_isInField_27
      first | exact dz_an1 c_8 c_19 | exact dz_an0 (Or.inl c_8) | exact dz_an0 (Or.inr c_19)
    · refine lv_iconst (v := 1) hx hb dX8_isInField_22 (by decide) ?_
      refine lv_goto (tgt := 27) hx hb dX8_isInField_23 (by decide) ?_
      refine W.zret hx hb hrt (by decide) (fun t ht hW => ⟨congrArg (fun x => Outcome.returned (some (Value.int x))) ?_, ht⟩) (fun _ h => by cases h) dX8_isInField_27
      first | exact dz_an1 c_8 c_19 | exact dz_an0 (Or.inl c_8) | exact dz_an0 (Or.inr c_19)

set_option maxHeartbeats 4000000 in
set_option maxRecDepth 100000 in
theorem c_X4_isWhole (l : Launch) (Z : dzG) (G : dzW) (ad : dzA) (r : dzR) (a : Nat) (sh co ro st : Int32) (ha : ad r = a) (hf : G r = some (eO 5 [.int sh, .int co, .int ro, .int st])) : dzRd l yX4_isWhole wsX4_isWhole 0 0 Z G ad [.ref a] (some (.int (dz_b (st ≤ 1)))) := by
  refine Met.ofW (cc := cX4_isWhole) (maxL := 1) (ret := (some .boolean)) (by decide) rfl ?_
  intro p e s m args below meth c s₁ B hml hv
  obtain ⟨rfl, hG, hE⟩ := hv
  have hx := B.exec
  have hb := B.bytes
  have hrt := B.returns
  have hts := atoms_spec (ws := wsX4_isWhole) B.pre
  have hown : s.vm.findClass RX4 = some m.cls := findClass_of_methodNamed B.named
  have hlocks := B.notSynchronized
  have hS : va_S (dz_A Z) s.heap s.heap [] := va_S.rf
  have hl := lv_entry ([.ref a]) (n := 1) (Nat.le_of_ble_eq_true rfl)
  rw [lg_entry_eq]
  generalize (lg_sl ([.ref a]) ++ List.replicate (1 - (lg_sl ([.ref a])).length) Slot.unset).toArray = ls at hl ⊢
  have hl : lv_has ls 1 [(0, .ref a)] := hl
  refine lv_aload_n hx hb dX4_isWhole_0 rfl (lv_at hl 0 rfl) ?_
  refine dz_get hx hb hts (fun _ h => List.mem_cons_of_mem _ (List.mem_append_right _ h)) hown hE hG ha hf rfl 3 (by decide) (hts _ (List.mem_of_getElem? (i := 1) rfl)) (fun _ h9 => h9) rfl dX4_isWhole_1 ?_
  refine lv_iconst (v := 1) hx hb dX4_isWhole_4 (by decide) ?_
  refine lv_icmp_gt (tgt := 12) hx hb dX4_isWhole_5 (by decide) (fun c_5 => ?_) (fun c_5 => ?_)
  · refine lv_iconst (v := 0) hx hb dX4_isWhole_12 (by decide) ?_
    refine W.zret hx hb hrt (by decide) (fun t ht hW => ⟨congrArg (fun x => Outcome.returned (some (Value.int x))) ?_, ht⟩) (fun _ h => by cases h) dX4_isWhole_13
    first | exact (dz_b0 (Int32.not_le.mpr c_5)).symm | exact (dz_b1 (Int32.not_lt.mp c_5)).symm
  · refine lv_iconst (v := 1) hx hb dX4_isWhole_8 (by decide) ?_
    refine lv_goto (tgt := 13) hx hb dX4_isWhole_9 (by decide) ?_
    refine W.zret hx hb hrt (by decide) (fun t ht hW => ⟨congrArg (fun x => Outcome.returned (some (Value.int x))) ?_, ht⟩) (fun _ h => by cases h) dX4_isWhole_13
    first | exact (dz_b0 (Int32.not_le.mpr c_5)).symm | exact (dz_b1 (Int32.not_lt.mp c_5)).symm

set_option maxHeartbeats 4000000 in
set_option maxRecDepth 100000 in
theorem c_X4_aside (l : Launch) (Z : dzG) (G : dzW) (ad : dzA) (r : dzR) (a : Nat) (sh co ro st : Int32) (cc rr : Int32) (ha : ad r = a) (hf : G r = some (eO 5 [.int sh, .int co, .int ro, .int st])) : dzRd l yX4_aside wsX4_aside 1 21 Z G ad [.ref a, .int cc, .int rr] (some (.int (m_ds co ro cc rr))) := by
  refine Met.ofW (cc := cX4_aside) (maxL := 3) (ret := (some .int)) (by decide) rfl ?_
  intro p e s m args below meth c s₁ B hml hv
  obtain ⟨rfl, hG, hE⟩ := hv
  have hx := B.exec
  have hb := B.bytes
  have hrt := B.returns
  have hts := atoms_spec (ws := wsX4_aside) B.pre
  have hown : s.vm.findClass RX4 = some m.cls := findClass_of_methodNamed B.named
  have hlocks := B.notSynchronized
  have hS : va_S (dz_A Z) s.heap s.heap [] := va_S.rf
  have hl := lv_entry ([.ref a, .int cc, .int rr]) (n := 3) (Nat.le_of_ble_eq_true rfl)
  rw [lg_entry_eq]
  generalize (lg_sl ([.ref a, .int cc, .int rr]) ++ List.replicate (3 - (lg_sl ([.ref a, .int cc, .int rr])).length) Slot.unset).toArray = ls at hl ⊢
  have hl : lv_has ls 3 [(0, .ref a), (1, .int cc), (2, .int rr)] := hl
  refine lv_iload_n hx hb dX4_aside_0 rfl (lv_at hl 1 rfl) ?_
  refine lv_aload_n hx hb dX4_aside_1 rfl (lv_at hl 0 rfl) ?_
  refine dz_get hx hb hts (fun _ h => List.mem_cons_of_mem _ (List.mem_append_right _ h)) hown hE hG ha hf rfl 1 (by decide) (hts _ (List.mem_of_getElem? (i := 1) rfl)) (fun _ h9 => h9) rfl dX4_aside_2 ?_
  refine lv_isub hx hb dX4_aside_5 ?_
  refine va_mabs hx hb (hml.trans hl.1.symm) hown (hts _ (List.mem_of_getElem? (i := 2) rfl)) (hts _ (List.mem_of_getElem? (i := 3) rfl)) (hts _ (List.mem_of_getElem? (i := 4) rfl)) (hts _ (List.mem_of_getElem? (i := 5) rfl)) (Nat.le_of_ble_eq_true rfl) (Nat.le_of_ble_eq_true rfl) (Nat.le_of_ble_eq_true rfl) (Nat.le_of_ble_eq_true rfl) dX4_aside_6 ?_
  refine lv_iload_n hx hb dX4_aside_9 rfl (lv_at hl 2 rfl) ?_
  refine lv_aload_n hx hb dX4_aside_10 rfl (lv_at hl 0 rfl) ?_
  refine dz_get hx hb hts (fun _ h => List.mem_cons_of_mem _ (List.mem_append_right _ h)) hown hE hG ha hf rfl 2 (by decide) (hts _ (List.mem_of_getElem? (i := 6) rfl)) (fun _ h9 => h9) rfl dX4_aside_11 ?_
  refine lv_isub hx hb dX4_aside_14 ?_
  refine va_mabs hx hb (hml.trans hl.1.symm) hown (hts _ (List.mem_of_getElem? (i := 2) rfl)) (hts _ (List.mem_of_getElem? (i := 3) rfl)) (hts _ (List.mem_of_getElem? (i := 4) rfl)) (hts _ (List.mem_of_getElem? (i := 5) rfl)) (Nat.le_of_ble_eq_true rfl) (Nat.le_of_ble_eq_true rfl) (Nat.le_of_ble_eq_true rfl) (Nat.le_of_ble_eq_true rfl) dX4_aside_15 ?_
  refine lv_iadd hx hb dX4_aside_18 ?_
  refine W.iret hx hb hrt (fun t ht hW => ⟨congrArg (fun x => Outcome.returned (some (Value.int x))) ?_, ht⟩) (fun _ h => by cases h) dX4_aside_19
  rfl

set_option maxHeartbeats 4000000 in
set_option maxRecDepth 100000 in
theorem c_X4_bend (l : Launch) (Z : dzG) (G : dzW) (ad : dzA) (r : dzR) (a : Nat) (sh co ro st : Int32) (b n : Int32) (ha : ad r = a) (hf : G r = some (eO 5 [.int sh, .int co, .int ro, .int st])) (hn : ¬ n = 0 → ¬ n * n = 0) : dzRd l yX4_bend wsX4_bend 0 0 Z G ad [.ref a, .int b, .int n] (some (.int (m_bend sh st b n))) := by
  refine Met.ofW (cc := cX4_bend) (maxL := 3) (ret := (some .int)) (by decide) rfl ?_
  intro p e s m args below meth c s₁ B hml hv
  obtain ⟨rfl, hG, hE⟩ := hv
  have hx := B.exec
  have hb := B.bytes
  have hrt := B.returns
  have hts := atoms_spec (ws := wsX4_bend) B.pre
  have hown : s.vm.findClass RX4 = some m.cls := findClass_of_methodNamed B.named
  have hlocks := B.notSynchronized
  have hS : va_S (dz_A Z) s.heap s.heap [] := va_S.rf
  have hl := lv_entry ([.ref a, .int b, .int n]) (n := 3) (Nat.le_of_ble_eq_true rfl)
  rw [lg_entry_eq]
  generalize (lg_sl ([.ref a, .int b, .int n]) ++ List.replicate (3 - (lg_sl ([.ref a, .int b, .int n])).length) Slot.unset).toArray = ls at hl ⊢
  have hl : lv_has ls 3 [(0, .ref a), (1, .int b), (2, .int n)] := hl
  refine lv_iload_n hx hb dX4_bend_0 rfl (lv_at hl 2 rfl) ?_
  refine lv_if_ne (tgt := 6) hx hb dX4_bend_1 (by decide) (fun c_1 => ?_) (fun c_1 => ?_)
  · refine lv_aload_n hx hb dX4_bend_6 rfl (lv_at hl 0 rfl) ?_
    refine dz_get hx hb hts (fun _ h => List.mem_cons_of_mem _ (List.mem_append_right _ h)) hown hE hG ha hf rfl 0 (by decide) (hts _ (List.mem_of_getElem? (i := 1) rfl)) (fun _ h9 => h9) rfl dX4_bend_7 ?_
    by_cases c_10_0 : sh = 0
    · refine lv_lookup (off := 26) (tgt := 36) hx hb dX4_bend_10 (by decide) (lk_0 c_10_0 (by decide)) (by decide) ?_
      refine lv_aload_n hx hb dX4_bend_36 rfl (lv_at hl 0 rfl) ?_
      refine dz_get hx hb hts (fun _ h => List.mem_cons_of_mem _ (List.mem_append_right _ h)) hown hE hG ha hf rfl 3 (by decide) (hts _ (List.mem_of_getElem? (i := 2) rfl)) (fun _ h9 => h9) rfl dX4_bend_37 ?_
      refine lv_iload_n hx hb dX4_bend_40 rfl (lv_at hl 1 rfl) ?_
      refine lv_imul hx hb dX4_bend_41 ?_
      refine lv_iload_n hx hb dX4_bend_42 rfl (lv_at hl 2 rfl) ?_
      refine lv_idiv hx hb dX4_bend_43 c_1 ?_
      refine W.iret hx hb hrt (fun t ht hW => ⟨congrArg (fun x => Outcome.returned (some (Value.int x))) ?_, ht⟩) (fun _ h => by cases h) dX4_bend_44
      first | (simp [m_bend, c_1, c_10_0, c_10_1]; done) | (simp [m_bend, c_1, c_10_0]; done) | (simp [m_bend, c_1]; done)
    by_cases c_10_1 : sh = 1
    · refine lv_lookup (off := 35) (tgt := 45) hx hb dX4_bend_10 (by decide) (by rw [c_10_1]; decide) (by decide) ?_
      refine lv_iconst (v := 4) hx hb dX4_bend_45 (by decide) ?_
      refine lv_aload_n hx hb dX4_bend_46 rfl (lv_at hl 0 rfl) ?_
      refine dz_get hx hb hts (fun _ h => List.mem_cons_of_mem _ (List.mem_append_right _ h)) hown hE hG ha hf rfl 3 (by decide) (hts _ (List.mem_of_getElem? (i := 2) rfl)) (fun _ h9 => h9) rfl dX4_bend_47 ?_
      refine lv_imul hx hb dX4_bend_50 ?_
      refine lv_iload_n hx hb dX4_bend_51 rfl (lv_at hl 1 rfl) ?_
      refine lv_imul hx hb dX4_bend_52 ?_
      refine lv_iload_n hx hb dX4_bend_53 rfl (lv_at hl 2 rfl) ?_
      refine lv_iload_n hx hb dX4_bend_54 rfl (lv_at hl 2 rfl) ?_
      refine lv_imul hx hb dX4_bend_55 ?_
      refine lv_idiv hx hb dX4_bend_56 (hn c_1) ?_
      refine W.iret hx hb hrt (fun t ht hW => ⟨congrArg (fun x => Outcome.returned (some (Value.int x))) ?_, ht⟩) (fun _ h => by cases h) dX4_bend_57
      first | (simp [m_bend, c_1, c_10_0, c_10_1]; done) | (simp [m_bend, c_1, c_10_0]; done) | (simp [m_bend, c_1]; done)
    refine lv_lookup (off := 48) (tgt := 58) hx hb dX4_bend_10 (by decide) (lk_d c_10_0 c_10_1) (by decide) ?_
    refine lv_aload_n hx hb dX4_bend_58 rfl (lv_at hl 0 rfl) ?_
    refine dz_get hx hb hts (fun _ h => List.mem_cons_of_mem _ (List.mem_append_right _ h)) hown hE hG ha hf rfl 3 (by decide) (hts _ (List.mem_of_getElem? (i := 2) rfl)) (fun _ h9 => h9) rfl dX4_bend_59 ?_
    refine lv_iload_n hx hb dX4_bend_62 rfl (lv_at hl 1 rfl) ?_
    refine lv_imul hx hb dX4_bend_63 ?_
    refine lv_bipush (v := 8) hx hb dX4_bend_64 (by decide) ?_
    refine lv_idiv hx hb dX4_bend_66 (by decide) ?_
    refine W.iret hx hb hrt (fun t ht hW => ⟨congrArg (fun x => Outcome.returned (some (Value.int x))) ?_, ht⟩) (fun _ h => by cases h) dX4_bend_67
    first | (simp [m_bend, c_1, c_10_0, c_10_1]; done) | (simp [m_bend, c_1, c_10_0]; done) | (simp [m_bend, c_1]; done)
  · refine lv_iconst (v := 0) hx hb dX4_bend_4 (by decide) ?_
    refine W.iret hx hb hrt (fun t ht hW => ⟨congrArg (fun x => Outcome.returned (some (Value.int x))) ?_, ht⟩) (fun _ h => by cases h) dX4_bend_5
    first | (simp [m_bend, c_1, c_10_0, c_10_1]; done) | (simp [m_bend, c_1, c_10_0]; done) | (simp [m_bend, c_1]; done)

set_option maxHeartbeats 4000000 in
set_option maxRecDepth 100000 in
theorem c_X4_bendInColumns (l : Launch) (Z : dzG) (G : dzW) (ad : dzA) (r : dzR) (a : Nat) (sh co ro st : Int32) (cc rr : Int32) (ha : ad r = a) (hf : G r = some (eO 5 [.int sh, .int co, .int ro, .int st])) (hn : ¬ m_ds co ro cc rr = 0 → ¬ m_ds co ro cc rr * m_ds co ro cc rr = 0) : dzRd l yX4_bendInColumns wsX4_bendInColumns 2 43 Z G ad [.ref a, .int cc, .int rr] (some (.int (m_bend sh st (cc - co) (m_ds co ro cc rr)))) := by
  refine Met.ofW (cc := cX4_bendInColumns) (maxL := 3) (ret := (some .int)) (by decide) rfl ?_
  intro p e s m args below meth c s₁ B hml hv
  obtain ⟨rfl, hG, hE⟩ := hv
  have hx := B.exec
  have hb := B.bytes
  have hrt := B.returns
  have hts := atoms_spec (ws := wsX4_bendInColumns) B.pre
  have hown : s.vm.findClass RX4 = some m.cls := findClass_of_methodNamed B.named
  have hlocks := B.notSynchronized
  have hS : va_S (dz_A Z) s.heap s.heap [] := va_S.rf
  have hl := lv_entry ([.ref a, .int cc, .int rr]) (n := 3) (Nat.le_of_ble_eq_true rfl)
  rw [lg_entry_eq]
  generalize (lg_sl ([.ref a, .int cc, .int rr]) ++ List.replicate (3 - (lg_sl ([.ref a, .int cc, .int rr])).length) Slot.unset).toArray = ls at hl ⊢
  have hl : lv_has ls 3 [(0, .ref a), (1, .int cc), (2, .int rr)] := hl
  refine lv_aload_n hx hb dX4_bendInColumns_0 rfl (lv_at hl 0 rfl) ?_
  refine lv_iload_n hx hb dX4_bendInColumns_1 rfl (lv_at hl 1 rfl) ?_
  refine lv_aload_n hx hb dX4_bendInColumns_2 rfl (lv_at hl 0 rfl) ?_
  refine dz_get hx hb hts (fun _ h => List.mem_cons_of_mem _ (List.mem_append_right _ h)) hown hE hG ha hf rfl 1 (by decide) (hts _ (List.mem_of_getElem? (i := 1) rfl)) (fun _ h9 => h9) rfl dX4_bendInColumns_3 ?_
  refine lv_isub hx hb dX4_bendInColumns_6 ?_
  refine lv_aload_n hx hb dX4_bendInColumns_7 rfl (lv_at hl 0 rfl) ?_
  refine lv_iload_n hx hb dX4_bendInColumns_8 rfl (lv_at hl 1 rfl) ?_
  refine lv_iload_n hx hb dX4_bendInColumns_9 rfl (lv_at hl 2 rfl) ?_
  refine dz_kRi (va_runV (As := [_, _]) ⟨hx, hb, hml, hown, hts⟩ (c_X4_aside l Z _ _ _ _ _ _ _ _ _ _ ha hf) (cwV 2 hts gX4_bendInColumns_X4_aside rfl rfl rfl (by decide +kernel) ⟨Nat.le_of_ble_eq_true rfl, Nat.le_of_ble_eq_true rfl⟩) (dz_P.preV hE hS hG hf rfl ha) rfl rfl hl.1 rfl (lv_room (Nat.le_of_ble_eq_true rfl)) dX4_bendInColumns_10 ⟨Nat.le_of_ble_eq_true rfl, Nat.le_of_ble_eq_true rfl⟩) ?_
  refine dz_kRi (va_runV (As := [_, _]) ⟨hx, hb, hml, hown, hts⟩ (c_X4_bend l Z _ _ _ _ _ _ _ _ _ _ ha hf (by assumption)) (cwV 2 hts gX4_bendInColumns_X4_bend rfl rfl rfl (by decide +kernel) ⟨Nat.le_of_ble_eq_true rfl, Nat.le_of_ble_eq_true rfl⟩) (dz_P.preV hE hS hG hf rfl ha) rfl rfl hl.1 rfl (lv_room (Nat.le_of_ble_eq_true rfl)) dX4_bendInColumns_13 ⟨Nat.le_of_ble_eq_true rfl, Nat.le_of_ble_eq_true rfl⟩) ?_
  refine W.iret hx hb hrt (fun t ht hW => ⟨congrArg (fun x => Outcome.returned (some (Value.int x))) ?_, ht⟩) (fun _ h => by cases h) dX4_bendInColumns_16
  rfl

set_option maxHeartbeats 4000000 in
set_option maxRecDepth 100000 in
theorem c_X4_bendInRows (l : Launch) (Z : dzG) (G : dzW) (ad : dzA) (r : dzR) (a : Nat) (sh co ro st : Int32) (cc rr : Int32) (ha : ad r = a) (hf : G r = some (eO 5 [.int sh, .int co, .int ro, .int st])) (hn : ¬ m_ds co ro cc rr = 0 → ¬ m_ds co ro cc rr * m_ds co ro cc rr = 0) : dzRd l yX4_bendInRows wsX4_bendInRows 2 43 Z G ad [.ref a, .int cc, .int rr] (some (.int (m_bendR sh st (rr - ro) (m_ds co ro cc rr)))) := by
  refine Met.ofW (cc := cX4_bendInRows) (maxL := 4) (ret := (some .int)) (by decide) rfl ?_
  intro p e s m args below meth c s₁ B hml hv
  obtain ⟨rfl, hG, hE⟩ := hv
  have hx := B.exec
  have hb := B.bytes
  have hrt := B.returns
  have hts := atoms_spec (ws := wsX4_bendInRows) B.pre
  have hown : s.vm.findClass RX4 = some m.cls := findClass_of_methodNamed B.named
  have hlocks := B.notSynchronized
  have hS : va_S (dz_A Z) s.heap s.heap [] := va_S.rf
  have hl := lv_entry ([.ref a, .int cc, .int rr]) (n := 4) (Nat.le_of_ble_eq_true rfl)
  rw [lg_entry_eq]
  generalize (lg_sl ([.ref a, .int cc, .int rr]) ++ List.replicate (4 - (lg_sl ([.ref a, .int cc, .int rr])).length) Slot.unset).toArray = ls at hl ⊢
  have hl : lv_has ls 4 [(0, .ref a), (1, .int cc), (2, .int rr)] := hl
  refine lv_aload_n hx hb dX4_bendInRows_0 rfl (lv_at hl 0 rfl) ?_
  refine lv_iload_n hx hb dX4_bendInRows_1 rfl (lv_at hl 2 rfl) ?_
  refine lv_aload_n hx hb dX4_bendInRows_2 rfl (lv_at hl 0 rfl) ?_
  refine dz_get hx hb hts (fun _ h => List.mem_cons_of_mem _ (List.mem_append_right _ h)) hown hE hG ha hf rfl 2 (by decide) (hts _ (List.mem_of_getElem? (i := 1) rfl)) (fun _ h9 => h9) rfl dX4_bendInRows_3 ?_
  refine lv_isub hx hb dX4_bendInRows_6 ?_
  refine lv_aload_n hx hb dX4_bendInRows_7 rfl (lv_at hl 0 rfl) ?_
  refine lv_iload_n hx hb dX4_bendInRows_8 rfl (lv_at hl 1 rfl) ?_
  refine lv_iload_n hx hb dX4_bendInRows_9 rfl (lv_at hl 2 rfl) ?_
  refine dz_kRi (va_runV (As := [_, _]) ⟨hx, hb, hml, hown, hts⟩ (c_X4_aside l Z _ _ _ _ _ _ _ _ _ _ ha hf) (cwV 2 hts gX4_bendInRows_X4_aside rfl rfl rfl (by decide +kernel) ⟨Nat.le_of_ble_eq_true rfl, Nat.le_of_ble_eq_true rfl⟩) (dz_P.preV hE hS hG hf rfl ha) rfl rfl hl.1 rfl (lv_room (Nat.le_of_ble_eq_true rfl)) dX4_bendInRows_10 ⟨Nat.le_of_ble_eq_true rfl, Nat.le_of_ble_eq_true rfl⟩) ?_
  refine dz_kRi (va_runV (As := [_, _]) ⟨hx, hb, hml, hown, hts⟩ (c_X4_bend l Z _ _ _ _ _ _ _ _ _ _ ha hf (by assumption)) (cwV 2 hts gX4_bendInRows_X4_bend rfl rfl rfl (by decide +kernel) ⟨Nat.le_of_ble_eq_true rfl, Nat.le_of_ble_eq_true rfl⟩) (dz_P.preV hE hS hG hf rfl ha) rfl rfl hl.1 rfl (lv_room (Nat.le_of_ble_eq_true rfl)) dX4_bendInRows_13 ⟨Nat.le_of_ble_eq_true rfl, Nat.le_of_ble_eq_true rfl⟩) ?_
  refine lv_topi (fun v ev => ?_)
  refine lv_istore_n (lv' := [(3, .int v), (0, .ref a), (1, .int cc), (2, .int rr)]) hx hb dX4_bendInRows_16 rfl hl (by decide) rfl (fun ls hl => ?_)
  refine lv_aload_n hx hb dX4_bendInRows_17 rfl (lv_at hl 1 rfl) ?_
  refine dz_get hx hb hts (fun _ h => List.mem_cons_of_mem _ (List.mem_append_right _ h)) hown hE hG ha hf rfl 0 (by decide) (hts _ (List.mem_of_getElem? (i := 2) rfl)) (fun _ h9 => h9) rfl dX4_bendInRows_18 ?_
  refine lv_iconst (v := 2) hx hb dX4_bendInRows_21 (by decide) ?_
  refine lv_icmp_ne (tgt := 30) hx hb dX4_bendInRows_22 (by decide) (fun c_22 => ?_) (fun c_22 => ?_)
  · refine lv_iload_n hx hb dX4_bendInRows_30 rfl (lv_at hl 0 rfl) ?_
    refine W.iret hx hb hrt (fun t ht hW => ⟨congrArg (fun x => Outcome.returned (some (Value.int x))) ?_, ht⟩) (fun _ h => by cases h) dX4_bendInRows_31
    first | exact (by rw [ev]; simp [m_bendR, c_22]) | exact (by rw [ev]; simp [m_bendR, c_22])
  · refine lv_iload_n hx hb dX4_bendInRows_25 rfl (lv_at hl 0 rfl) ?_
    refine lv_ineg hx hb dX4_bendInRows_26 ?_
    refine lv_goto (tgt := 31) hx hb dX4_bendInRows_27 (by decide) ?_
    refine W.iret hx hb hrt (fun t ht hW => ⟨congrArg (fun x => Outcome.returned (some (Value.int x))) ?_, ht⟩) (fun _ h => by cases h) dX4_bendInRows_31
    first | exact (by rw [ev]; simp [m_bendR, c_22]) | exact (by rw [ev]; simp [m_bendR, c_22])

set_option maxHeartbeats 4000000 in
set_option maxRecDepth 100000 in
theorem c_X4_shortens (l : Launch) (Z : dzG) (G : dzW) (ad : dzA) (r : dzR) (a : Nat) (sh co ro st : Int32) (cc rr : Int32) (ha : ad r = a) (hf : G r = some (eO 5 [.int sh, .int co, .int ro, .int st])) : dzRd l yX4_shortens wsX4_shortens 2 43 Z G ad [.ref a, .int cc, .int rr] (some (.int (m_short sh st co ro cc rr))) := by
  refine Met.ofW (cc := cX4_shortens) (maxL := 3) (ret := (some .int)) (by decide) rfl ?_
  intro p e s m args below meth c s₁ B hml hv
  obtain ⟨rfl, hG, hE⟩ := hv
  have hx := B.exec
  have hb := B.bytes
  have hrt := B.returns
  have hts := atoms_spec (ws := wsX4_shortens) B.pre
  have hown : s.vm.findClass RX4 = some m.cls := findClass_of_methodNamed B.named
  have hlocks := B.notSynchronized
  have hS : va_S (dz_A Z) s.heap s.heap [] := va_S.rf
  have hl := lv_entry ([.ref a, .int cc, .int rr]) (n := 3) (Nat.le_of_ble_eq_true rfl)
  rw [lg_entry_eq]
  generalize (lg_sl ([.ref a, .int cc, .int rr]) ++ List.replicate (3 - (lg_sl ([.ref a, .int cc, .int rr])).length) Slot.unset).toArray = ls at hl ⊢
  have hl : lv_has ls 3 [(0, .ref a), (1, .int cc), (2, .int rr)] := hl
  refine lv_aload_n hx hb dX4_shortens_0 rfl (lv_at hl 0 rfl) ?_
  refine dz_get hx hb hts (fun _ h => List.mem_cons_of_mem _ (List.mem_append_right _ h)) hown hE hG ha hf rfl 0 (by decide) (hts _ (List.mem_of_getElem? (i := 1) rfl)) (fun _ h9 => h9) rfl dX4_shortens_1 ?_
  refine lv_iconst (v := 2) hx hb dX4_shortens_4 (by decide) ?_
  refine lv_icmp_ne (tgt := 12) hx hb dX4_shortens_5 (by decide) (fun c_5 => ?_) (fun c_5 => ?_)
  · refine lv_iconst (v := 2) hx hb dX4_shortens_12 (by decide) ?_
    refine lv_aload_n hx hb dX4_shortens_13 rfl (lv_at hl 0 rfl) ?_
    refine dz_get hx hb hts (fun _ h => List.mem_cons_of_mem _ (List.mem_append_right _ h)) hown hE hG ha hf rfl 3 (by decide) (hts _ (List.mem_of_getElem? (i := 2) rfl)) (fun _ h9 => h9) rfl dX4_shortens_14 ?_
    refine lv_imul hx hb dX4_shortens_17 ?_
    refine lv_aload_n hx hb dX4_shortens_18 rfl (lv_at hl 0 rfl) ?_
    refine lv_iload_n hx hb dX4_shortens_19 rfl (lv_at hl 1 rfl) ?_
    refine lv_iload_n hx hb dX4_shortens_20 rfl (lv_at hl 2 rfl) ?_
    refine dz_kRi (va_runV (As := [_, _]) ⟨hx, hb, hml, hown, hts⟩ (c_X4_aside l Z _ _ _ _ _ _ _ _ _ _ ha hf) (cwV 2 hts gX4_shortens_X4_aside rfl rfl rfl (by decide +kernel) ⟨Nat.le_of_ble_eq_true rfl, Nat.le_of_ble_eq_true rfl⟩) (dz_P.preV hE hS hG hf rfl ha) rfl rfl hl.1 rfl (lv_room (Nat.le_of_ble_eq_true rfl)) dX4_shortens_21 ⟨Nat.le_of_ble_eq_true rfl, Nat.le_of_ble_eq_true rfl⟩) ?_
    refine lv_imul hx hb dX4_shortens_24 ?_
    refine W.iret hx hb hrt (fun t ht hW => ⟨congrArg (fun x => Outcome.returned (some (Value.int x))) ?_, ht⟩) (fun _ h => by cases h) dX4_shortens_25
    first | (simp [m_short, c_5]; done) | (simp [m_short, c_4]; done)
  · refine lv_iconst (v := 0) hx hb dX4_shortens_8 (by decide) ?_
    refine lv_goto (tgt := 25) hx hb dX4_shortens_9 (by decide) ?_
    refine W.iret hx hb hrt (fun t ht hW => ⟨congrArg (fun x => Outcome.returned (some (Value.int x))) ?_, ht⟩) (fun _ h => by cases h) dX4_shortens_25
    first | (simp [m_short, c_5]; done) | (simp [m_short, c_4]; done)

set_option maxHeartbeats 4000000 in
set_option maxRecDepth 100000 in
theorem c_X7_moreOn (l : Launch) (Z : dzG) (G : dzW) (ad : dzA) (r : dzR) (a : Nat) (rk st wd hg dy : Int32) (ha : ad r = a) (hf : G r = some (eO 8 [.int rk, .int st, .int wd, .int hg])) (h1 : 1 ≤ wd) (h0 : ¬ wd = 0) : dzRd l yX7_moreOn wsX7_moreOn 1 21 Z G ad [.ref a, .int dy] (some (.int (m_more dy wd st hg))) := by
  refine Met.ofW (cc := cX7_moreOn) (maxL := 3) (ret := (some .int)) (by decide) rfl ?_
  intro p e s m args below meth c s₁ B hml hv
  obtain ⟨rfl, hG, hE⟩ := hv
  have hx := B.exec
  have hb := B.bytes
  have hrt := B.returns
  have hts := atoms_spec (ws := wsX7_moreOn) B.pre
  have hown : s.vm.findClass RX7 = some m.cls := findClass_of_methodNamed B.named
  have hlocks := B.notSynchronized
  have hS : va_S (dz_A Z) s.heap s.heap [] := va_S.rf
  have hl := lv_entry ([.ref a, .int dy]) (n := 3) (Nat.le_of_ble_eq_true rfl)
  rw [lg_entry_eq]
  generalize (lg_sl ([.ref a, .int dy]) ++ List.replicate (3 - (lg_sl ([.ref a, .int dy])).length) Slot.unset).toArray = ls at hl ⊢
  have hl : lv_has ls 3 [(0, .ref a), (1, .int dy)] := hl
  refine lv_aload_n hx hb dX7_moreOn_0 rfl (lv_at hl 0 rfl) ?_
  refine dz_get hx hb hts (fun _ h => List.mem_cons_of_mem _ (List.mem_append_right _ h)) hown hE hG ha hf rfl 2 (by decide) (hts _ (List.mem_of_getElem? (i := 1) rfl)) (fun _ h9 => h9) rfl dX7_moreOn_1 ?_
  refine lv_iload_n hx hb dX7_moreOn_4 rfl (lv_at hl 1 rfl) ?_
  refine lv_aload_n hx hb dX7_moreOn_5 rfl (lv_at hl 0 rfl) ?_
  refine dz_get hx hb hts (fun _ h => List.mem_cons_of_mem _ (List.mem_append_right _ h)) hown hE hG ha hf rfl 1 (by decide) (hts _ (List.mem_of_getElem? (i := 2) rfl)) (fun _ h9 => h9) rfl dX7_moreOn_6 ?_
  refine lv_aload_n hx hb dX7_moreOn_9 rfl (lv_at hl 0 rfl) ?_
  refine dz_get hx hb hts (fun _ h => List.mem_cons_of_mem _ (List.mem_append_right _ h)) hown hE hG ha hf rfl 2 (by decide) (hts _ (List.mem_of_getElem? (i := 1) rfl)) (fun _ h9 => h9) rfl dX7_moreOn_10 ?_
  refine lv_iadd hx hb dX7_moreOn_13 ?_
  refine lv_isub hx hb dX7_moreOn_14 ?_
  refine va_mabs hx hb (hml.trans hl.1.symm) hown (hts _ (List.mem_of_getElem? (i := 3) rfl)) (hts _ (List.mem_of_getElem? (i := 4) rfl)) (hts _ (List.mem_of_getElem? (i := 5) rfl)) (hts _ (List.mem_of_getElem? (i := 6) rfl)) (Nat.le_of_ble_eq_true rfl) (Nat.le_of_ble_eq_true rfl) (Nat.le_of_ble_eq_true rfl) (Nat.le_of_ble_eq_true rfl) dX7_moreOn_15 ?_
  refine lv_isub hx hb dX7_moreOn_18 ?_
  refine lv_topi (fun v ev => ?_)
  refine lv_istore_n (lv' := [(2, .int v), (0, .ref a), (1, .int dy)]) hx hb dX7_moreOn_19 rfl hl (by decide) rfl (fun ls hl => ?_)
  refine lv_aload_n hx hb dX7_moreOn_20 rfl (lv_at hl 1 rfl) ?_
  refine dz_get hx hb hts (fun _ h => List.mem_cons_of_mem _ (List.mem_append_right _ h)) hown hE hG ha hf rfl 2 (by decide) (hts _ (List.mem_of_getElem? (i := 1) rfl)) (fun _ h9 => h9) rfl dX7_moreOn_21 ?_
  refine lv_iconst (v := 1) hx hb dX7_moreOn_24 (by decide) ?_
  refine lv_icmp_lt (tgt := 32) hx hb dX7_moreOn_25 (by decide) (fun c_25 => absurd c_25 (Int32.not_lt.mpr h1)) (fun c_25 => ?_)
  refine lv_iload_n hx hb dX7_moreOn_28 rfl (lv_at hl 0 rfl) ?_
  refine lv_if_gt (tgt := 36) hx hb dX7_moreOn_29 (by decide) (fun c_29 => ?_) (fun c_29 => ?_)
  · refine lv_aload_n hx hb dX7_moreOn_36 rfl (lv_at hl 1 rfl) ?_
    refine dz_get hx hb hts (fun _ h => List.mem_cons_of_mem _ (List.mem_append_right _ h)) hown hE hG ha hf rfl 3 (by decide) (hts _ (List.mem_of_getElem? (i := 7) rfl)) (fun _ h9 => h9) rfl dX7_moreOn_37 ?_
    refine lv_iload_n hx hb dX7_moreOn_40 rfl (lv_at hl 0 rfl) ?_
    refine lv_imul hx hb dX7_moreOn_41 ?_
    refine lv_aload_n hx hb dX7_moreOn_42 rfl (lv_at hl 1 rfl) ?_
    refine dz_get hx hb hts (fun _ h => List.mem_cons_of_mem _ (List.mem_append_right _ h)) hown hE hG ha hf rfl 2 (by decide) (hts _ (List.mem_of_getElem? (i := 1) rfl)) (fun _ h9 => h9) rfl dX7_moreOn_43 ?_
    refine lv_idiv hx hb dX7_moreOn_46 h0 ?_
    refine W.iret hx hb hrt (fun t ht hW => ⟨congrArg (fun x => Outcome.returned (some (Value.int x))) ?_, ht⟩) (fun _ h => by cases h) dX7_moreOn_47
    have e2 : v = wd - m_abs (dy - (st + wd)) := ev
    unfold m_more
    rw [← e2]
    first | exact (if_neg (Int32.not_le.mpr c_29)).symm | exact (if_pos (Int32.not_lt.mp c_29)).symm
  · refine lv_iconst (v := 0) hx hb dX7_moreOn_32 (by decide) ?_
    refine lv_goto (tgt := 47) hx hb dX7_moreOn_33 (by decide) ?_
    refine W.iret hx hb hrt (fun t ht hW => ⟨congrArg (fun x => Outcome.returned (some (Value.int x))) ?_, ht⟩) (fun _ h => by cases h) dX7_moreOn_47
    have e2 : v = wd - m_abs (dy - (st + wd)) := ev
    unfold m_more
    rw [← e2]
    first | exact (if_neg (Int32.not_le.mpr c_29)).symm | exact (if_pos (Int32.not_lt.mp c_29)).symm

set_option maxHeartbeats 4000000 in
set_option maxRecDepth 100000 in
theorem c_X5_placeOf (l : Launch) (Z : dzG) (G : dzW) (ad : dzA) (cc rr : Int32)  : dzRd l yX5_placeOf wsX5_placeOf 0 0 Z G ad [.int cc, .int rr] (some (.int ((rr + 10) * 22 + cc + 10))) := by
  refine Met.ofW (cc := cX5_placeOf) (maxL := 2) (ret := (some .int)) (by decide) rfl ?_
  intro p e s m args below meth c s₁ B hml hv
  obtain ⟨rfl, hG, hE⟩ := hv
  have hx := B.exec
  have hb := B.bytes
  have hrt := B.returns
  have hts := atoms_spec (ws := wsX5_placeOf) B.pre
  have hown : s.vm.findClass RX5 = some m.cls := findClass_of_methodNamed B.named
  have hlocks := B.notSynchronized
  have hS : va_S (dz_A Z) s.heap s.heap [] := va_S.rf
  have hl := lv_entry ([.int cc, .int rr]) (n := 2) (Nat.le_of_ble_eq_true rfl)
  rw [lg_entry_eq]
  generalize (lg_sl ([.int cc, .int rr]) ++ List.replicate (2 - (lg_sl ([.int cc, .int rr])).length) Slot.unset).toArray = ls at hl ⊢
  have hl : lv_has ls 2 [(0, .int cc), (1, .int rr)] := hl
  refine lv_iload_n hx hb dX5_placeOf_0 rfl (lv_at hl 1 rfl) ?_
  refine lv_bipush (v := 10) hx hb dX5_placeOf_1 (by decide) ?_
  refine lv_iadd hx hb dX5_placeOf_3 ?_
  refine lv_bipush (v := 22) hx hb dX5_placeOf_4 (by decide) ?_
  refine lv_imul hx hb dX5_placeOf_6 ?_
  refine lv_iload_n hx hb dX5_placeOf_7 rfl (lv_at hl 0 rfl) ?_
  refine lv_iadd hx hb dX5_placeOf_8 ?_
  refine lv_bipush (v := 10) hx hb dX5_placeOf_9 (by decide) ?_
  refine lv_iadd hx hb dX5_placeOf_11 ?_
  refine W.iret hx hb hrt (fun t ht hW => ⟨congrArg (fun x => Outcome.returned (some (Value.int x))) ?_, ht⟩) (fun _ h => by cases h) dX5_placeOf_12
  rfl

set_option maxHeartbeats 4000000 in
set_option maxRecDepth 100000 in
theorem c_X5_columnOf (l : Launch) (Z : dzG) (G : dzW) (ad : dzA) (v : Int32)  : dzRd l yX5_columnOf wsX5_columnOf 0 0 Z G ad [.int v] (some (.int (v - v / 22 * 22 - 10))) := by
  refine Met.ofW (cc := cX5_columnOf) (maxL := 1) (ret := (some .int)) (by decide) rfl ?_
  intro p e s m args below meth c s₁ B hml hv
  obtain ⟨rfl, hG, hE⟩ := hv
  have hx := B.exec
  have hb := B.bytes
  have hrt := B.returns
  have hts := atoms_spec (ws := wsX5_columnOf) B.pre
  have hown : s.vm.findClass RX5 = some m.cls := findClass_of_methodNamed B.named
  have hlocks := B.notSynchronized
  have hS : va_S (dz_A Z) s.heap s.heap [] := va_S.rf
  have hl := lv_entry ([.int v]) (n := 1) (Nat.le_of_ble_eq_true rfl)
  rw [lg_entry_eq]
  generalize (lg_sl ([.int v]) ++ List.replicate (1 - (lg_sl ([.int v])).length) Slot.unset).toArray = ls at hl ⊢
  have hl : lv_has ls 1 [(0, .int v)] := hl
  refine lv_iload_n hx hb dX5_columnOf_0 rfl (lv_at hl 0 rfl) ?_
  refine lv_bipush (v := 22) hx hb dX5_columnOf_1 (by decide) ?_
  refine lv_irem hx hb dX5_columnOf_3 (by decide) ?_
  refine lv_bipush (v := 10) hx hb dX5_columnOf_4 (by decide) ?_
  refine lv_isub hx hb dX5_columnOf_6 ?_
  refine W.iret hx hb hrt (fun t ht hW => ⟨congrArg (fun x => Outcome.returned (some (Value.int x))) ?_, ht⟩) (fun _ h => by cases h) dX5_columnOf_7
  rfl

set_option maxHeartbeats 4000000 in
set_option maxRecDepth 100000 in
theorem c_X5_rowOf (l : Launch) (Z : dzG) (G : dzW) (ad : dzA) (v : Int32)  : dzRd l yX5_rowOf wsX5_rowOf 0 0 Z G ad [.int v] (some (.int (v / 22 - 10))) := by
  refine Met.ofW (cc := cX5_rowOf) (maxL := 1) (ret := (some .int)) (by decide) rfl ?_
  intro p e s m args below meth c s₁ B hml hv
  obtain ⟨rfl, hG, hE⟩ := hv
  have hx := B.exec
  have hb := B.bytes
  have hrt := B.returns
  have hts := atoms_spec (ws := wsX5_rowOf) B.pre
  have hown : s.vm.findClass RX5 = some m.cls := findClass_of_methodNamed B.named
  have hlocks := B.notSynchronized
  have hS : va_S (dz_A Z) s.heap s.heap [] := va_S.rf
  have hl := lv_entry ([.int v]) (n := 1) (Nat.le_of_ble_eq_true rfl)
  rw [lg_entry_eq]
  generalize (lg_sl ([.int v]) ++ List.replicate (1 - (lg_sl ([.int v])).length) Slot.unset).toArray = ls at hl ⊢
  have hl : lv_has ls 1 [(0, .int v)] := hl
  refine lv_iload_n hx hb dX5_rowOf_0 rfl (lv_at hl 0 rfl) ?_
  refine lv_bipush (v := 22) hx hb dX5_rowOf_1 (by decide) ?_
  refine lv_idiv hx hb dX5_rowOf_3 (by decide) ?_
  refine lv_bipush (v := 10) hx hb dX5_rowOf_4 (by decide) ?_
  refine lv_isub hx hb dX5_rowOf_6 ?_
  refine W.iret hx hb hrt (fun t ht hW => ⟨congrArg (fun x => Outcome.returned (some (Value.int x))) ?_, ht⟩) (fun _ h => by cases h) dX5_rowOf_7
  rfl

set_option maxHeartbeats 4000000 in
set_option maxRecDepth 100000 in
theorem c_J3_checkIndex_8e157 (l : Launch) (Z : dzG) (G : dzW) (ad : dzA) (i n : Int32) (h0 : 0 ≤ i) (h1 : i < n) : dzRd l yJ3_checkIndex_8e157 wsJ3_checkIndex_8e157 0 0 Z G ad [.int i, .int n, .null] (some (.int i)) := by
  refine Met.ofW (cc := cJ3_checkIndex_8e157) (maxL := 3) (ret := (some .int)) (by decide) rfl ?_
  intro p e s m args below meth c s₁ B hml hv
  obtain ⟨rfl, hG, hE⟩ := hv
  have hx := B.exec
  have hb := B.bytes
  have hrt := B.returns
  have hts := atoms_spec (ws := wsJ3_checkIndex_8e157) B.pre
  have hown : s.vm.findClass RJ3 = some m.cls := findClass_of_methodNamed B.named
  have hlocks := B.notSynchronized
  have hS : va_S (dz_A Z) s.heap s.heap [] := va_S.rf
  have hl := lv_entry ([.int i, .int n, .null]) (n := 3) (Nat.le_of_ble_eq_true rfl)
  rw [lg_entry_eq]
  generalize (lg_sl ([.int i, .int n, .null]) ++ List.replicate (3 - (lg_sl ([.int i, .int n, .null])).length) Slot.unset).toArray = ls at hl ⊢
  have hl : lv_has ls 3 [(0, .int i), (1, .int n), (2, .null)] := hl
  refine lv_iload_n hx hb dJ3_checkIndex_8e157_0 rfl (lv_at hl 0 rfl) ?_
  refine lv_if_lt (tgt := 9) hx hb dJ3_checkIndex_8e157_1 (by decide) (fun c_1 => absurd c_1 (Int32.not_lt.mpr h0)) (fun c_1 => ?_)
  refine lv_iload_n hx hb dJ3_checkIndex_8e157_4 rfl (lv_at hl 0 rfl) ?_
  refine lv_iload_n hx hb dJ3_checkIndex_8e157_5 rfl (lv_at hl 1 rfl) ?_
  refine lv_icmp_lt (tgt := 16) hx hb dJ3_checkIndex_8e157_6 (by decide) (fun c_6 => ?_) (fun c_6 => absurd h1 c_6)
  refine lv_iload_n hx hb dJ3_checkIndex_8e157_16 rfl (lv_at hl 0 rfl) ?_
  refine W.iret hx hb hrt (fun t ht hW => ⟨congrArg (fun x => Outcome.returned (some (Value.int x))) ?_, ht⟩) (fun _ h => by cases h) dJ3_checkIndex_8e157_17
  rfl

set_option maxHeartbeats 4000000 in
set_option maxRecDepth 100000 in
theorem c_J15_checkIndex_7cf53 (l : Launch) (Z : dzG) (G : dzW) (ad : dzA) (i n : Int32) (h0 : 0 ≤ i) (h1 : i < n) : dzRd l yJ15_checkIndex_7cf53 wsJ15_checkIndex_7cf53 1 22 Z G ad [.int i, .int n] (some (.int i)) := by
  refine Met.ofW (cc := cJ15_checkIndex_7cf53) (maxL := 2) (ret := (some .int)) (by decide) rfl ?_
  intro p e s m args below meth c s₁ B hml hv
  obtain ⟨rfl, hG, hE⟩ := hv
  have hx := B.exec
  have hb := B.bytes
  have hrt := B.returns
  have hts := atoms_spec (ws := wsJ15_checkIndex_7cf53) B.pre
  have hown : s.vm.findClass RJ15 = some m.cls := findClass_of_methodNamed B.named
  have hlocks := B.notSynchronized
  have hS : va_S (dz_A Z) s.heap s.heap [] := va_S.rf
  have hl := lv_entry ([.int i, .int n]) (n := 2) (Nat.le_of_ble_eq_true rfl)
  rw [lg_entry_eq]
  generalize (lg_sl ([.int i, .int n]) ++ List.replicate (2 - (lg_sl ([.int i, .int n])).length) Slot.unset).toArray = ls at hl ⊢
  have hl : lv_has ls 2 [(0, .int i), (1, .int n)] := hl
  refine lv_iload_n hx hb dJ15_checkIndex_7cf53_0 rfl (lv_at hl 0 rfl) ?_
  refine lv_iload_n hx hb dJ15_checkIndex_7cf53_1 rfl (lv_at hl 1 rfl) ?_
  refine lv_null hx hb dJ15_checkIndex_7cf53_2 ?_
  refine dz_kRi (va_runS (As := [_, _, _]) ⟨hx, hb, hml, hown, hts⟩ (c_J3_checkIndex_8e157 l Z _ _ _ _ h0 h1) (va_cwS 3 hts gJ15_checkIndex_7cf53_J3_checkIndex_8e157 rfl rfl rfl (by decide +kernel) ⟨Nat.le_of_ble_eq_true rfl, Nat.le_of_ble_eq_true rfl⟩) (dz_P.pre hE hS hG) rfl rfl hl.1 rfl (lv_room (Nat.le_of_ble_eq_true rfl)) dJ15_checkIndex_7cf53_3 ⟨Nat.le_of_ble_eq_true rfl, Nat.le_of_ble_eq_true rfl⟩) ?_
  refine W.iret hx hb hrt (fun t ht hW => ⟨congrArg (fun x => Outcome.returned (some (Value.int x))) ?_, ht⟩) (fun _ h => by cases h) dJ15_checkIndex_7cf53_6
  rfl
