set_option maxHeartbeats 4000000 in
set_option maxRecDepth 100000 in
theorem c_X5_bentInColumns (l : Launch) (Z : dzG) (G : dzW) (ad : dzA) (aR nm : Nat) (sh co ro st : Nat → Int32) (cc rr : Int32) (ha : ad (2, 0) = aR) (hR : dz_Rm Z G ad nm sh co ro st) (hN : nm ≤ 6) (hn : ∀ k, k < nm → ¬ m_ds (co k) (ro k) cc rr = 0 → ¬ m_ds (co k) (ro k) cc rr * m_ds (co k) (ro k) cc rr = 0) : dzRd l yX5_bentInColumns wsX5_bentInColumns 3 65 Z G ad [.ref aR, .int cc, .int rr] (some (.int (m_bcol sh co ro st cc rr nm))) := by
  refine Met.ofW (cc := cX5_bentInColumns) (maxL := 5) (ret := (some .int)) (by decide) rfl ?_
  intro p e s m args below meth c s₁ B hml hv
  obtain ⟨rfl, hG, hE⟩ := hv
  have hx := B.exec
  have hb := B.bytes
  have hrt := B.returns
  have hts := atoms_spec (ws := wsX5_bentInColumns) B.pre
  have hown : s.vm.findClass RX5 = some m.cls := findClass_of_methodNamed B.named
  have hlocks := B.notSynchronized
  have hS : va_S (dz_A Z) s.heap s.heap [] := va_S.rf
  have hl := lv_entry ([.ref aR, .int cc, .int rr]) (n := 5) (Nat.le_of_ble_eq_true rfl)
  rw [lg_entry_eq]
  generalize (lg_sl ([.ref aR, .int cc, .int rr]) ++ List.replicate (5 - (lg_sl ([.ref aR, .int cc, .int rr])).length) Slot.unset).toArray = ls at hl ⊢
  have hl : lv_has ls 5 [(0, .ref aR), (1, .int cc), (2, .int rr)] := hl
  obtain ⟨r1, r2, r3⟩ := hR
  refine lv_iconst (v := 0) hx hb dX5_bentInColumns_0 (by decide) ?_
  refine lv_istore_n (lv' := [(3, .int 0), (0, .ref aR), (1, .int cc), (2, .int rr)]) hx hb dX5_bentInColumns_1 rfl hl (by decide) rfl (fun ls hl => ?_)
  refine lv_iconst (v := 0) hx hb dX5_bentInColumns_2 (by decide) ?_
  refine lv_istore (lv' := [(4, .int 0), (3, .int 0), (0, .ref aR), (1, .int cc), (2, .int rr)]) hx hb dX5_bentInColumns_3 hl (by decide) rfl (fun ls hl => ?_)
  refine dz_lp (α := Nat × Array Slot) (fun a9 => (fun (i : Nat) (ls : Array Slot) => nm - i) a9.1 a9.2) (fun a9 => (fun (i : Nat) (ls : Array Slot) => (i ≤ nm) ∧ lv_has ls 5 [(4, .int (nI i)), (3, .int (m_bcol sh co ro st cc rr i)), (0, .ref aR), (1, .int cc), (2, .int rr)]) a9.1 a9.2) (fun a9 => F0 m 5 a9.2 []) (fun a9 hI ih_5 => ?_) (0, ls) ⟨(Nat.zero_le _), lv_sub hl [0, 1, 2, 3, 4] rfl⟩
  obtain ⟨i, ls⟩ := a9
  obtain ⟨hi, hl⟩ := hI
  have hi : i ≤ nm := hi
  have hl : lv_has ls 5 [(4, .int (nI i)), (3, .int (m_bcol sh co ro st cc rr i)), (0, .ref aR), (1, .int cc), (2, .int rr)] := hl
  refine lv_iload hx hb dX5_bentInColumns_5 (lv_at hl 0 rfl) ?_
  refine lv_aload_n hx hb dX5_bentInColumns_7 rfl (lv_at hl 2 rfl) ?_
  refine dz_get hx hb hts (fun _ h => List.mem_cons_of_mem _ (List.mem_append_left _ (List.mem_append_left _ (List.mem_append_right _ h)))) hown hE hG ha r1 rfl 0 (by decide) (hts _ (List.mem_of_getElem? (i := 1) rfl)) (fun _ h9 => h9) rfl dX5_bentInColumns_8 ?_
  refine dz_kRi (va_runV (As := []) ⟨hx, hb, hml, hown, hts⟩ (c_Jx4a65c_size_8abf5 l Z _ _ _ _ _ _ _ rfl r2) (cwV 0 hts gX5_bentInColumns_Jx4a65c_size_8abf5 rfl rfl rfl (by decide +kernel) ⟨Nat.le_of_ble_eq_true rfl, Nat.le_of_ble_eq_true rfl⟩) (dz_P.preL hE hS hG r2 rfl) rfl rfl hl.1 rfl (lv_room (Nat.le_of_ble_eq_true rfl)) dX5_bentInColumns_11 ⟨Nat.le_of_ble_eq_true rfl, Nat.le_of_ble_eq_true rfl⟩) ?_
  refine lv_icmp_ge (tgt := 43) hx hb dX5_bentInColumns_14 (by decide) (fun c_14 => ?_) (fun c_14 => ?_)
  · have hi2 : i = nm := by have := (nI_leI (by omega) (by omega)).mp c_14; omega
    refine lv_iload_n hx hb dX5_bentInColumns_43 rfl (lv_at hl 1 rfl) ?_
    refine W.iret hx hb hrt (fun t ht hW => ⟨congrArg (fun x => Outcome.returned (some (Value.int x))) ?_, ht⟩) (fun _ h => by cases h) dX5_bentInColumns_44
    rw [hi2]
  · have hlt : i < nm := by
      rcases Nat.lt_or_ge i nm with q | q
      · exact q
      · exact absurd ((nI_leI (by omega) (by omega)).mpr q) c_14
    refine lv_iload_n hx hb dX5_bentInColumns_17 rfl (lv_at hl 1 rfl) ?_
    refine lv_aload_n hx hb dX5_bentInColumns_18 rfl (lv_at hl 2 rfl) ?_
    refine dz_get hx hb hts (fun _ h => List.mem_cons_of_mem _ (List.mem_append_left _ (List.mem_append_left _ (List.mem_append_right _ h)))) hown hE hG ha r1 rfl 0 (by decide) (hts _ (List.mem_of_getElem? (i := 1) rfl)) (fun _ h9 => h9) rfl dX5_bentInColumns_19 ?_
    refine lv_iload hx hb dX5_bentInColumns_22 (lv_at hl 0 rfl) ?_
    refine dz_kRr (va_runV (As := [_]) ⟨hx, hb, hml, hown, hts⟩ (c_Jx4a65c_get_915e3 l Z _ _ _ _ _ _ _ _ rfl r2 hlt) (cwV 1 hts gX5_bentInColumns_Jx4a65c_get_915e3 rfl rfl rfl (by decide +kernel) ⟨Nat.le_of_ble_eq_true rfl, Nat.le_of_ble_eq_true rfl⟩) (dz_P.preL hE hS hG r2 rfl) rfl rfl hl.1 rfl (lv_room (Nat.le_of_ble_eq_true rfl)) dX5_bentInColumns_24 ⟨Nat.le_of_ble_eq_true rfl, Nat.le_of_ble_eq_true rfl⟩) ?_
    refine dz_cst hx hb hown (hts _ (List.mem_of_getElem? (i := 2) rfl)) hE hG rfl (r3 i hlt) rfl dX5_bentInColumns_27 ?_
    refine lv_iload_n hx hb dX5_bentInColumns_30 rfl (lv_at hl 3 rfl) ?_
    refine lv_iload_n hx hb dX5_bentInColumns_31 rfl (lv_at hl 4 rfl) ?_
    refine dz_kRi (va_runV (As := [_, _]) ⟨hx, hb, hml, hown, hts⟩ (c_X4_bendInColumns l Z _ _ _ _ _ _ _ _ _ _ rfl (r3 i hlt) (hn i hlt)) (cwV 2 hts gX5_bentInColumns_X4_bendInColumns rfl rfl rfl (by decide +kernel) ⟨Nat.le_of_ble_eq_true rfl, Nat.le_of_ble_eq_true rfl⟩) (dz_P.preV hE hS hG (r3 i hlt) rfl rfl) rfl rfl hl.1 rfl (lv_room (Nat.le_of_ble_eq_true rfl)) dX5_bentInColumns_32 ⟨Nat.le_of_ble_eq_true rfl, Nat.le_of_ble_eq_true rfl⟩) ?_
    refine lv_iadd hx hb dX5_bentInColumns_35 ?_
    refine lv_topi (fun v_1 ev_1 => ?_)
    refine lv_istore_n (lv' := [(3, .int v_1), (4, .int (nI i)), (0, .ref aR), (1, .int cc), (2, .int rr)]) hx hb dX5_bentInColumns_36 rfl hl (by decide) rfl (fun ls hl => ?_)
    obtain ⟨v_2, ev_2⟩ : ∃ y : Int32, y = (nI i) + 1 := ⟨_, rfl⟩
    refine lv_iinc (v := v_2) (lv' := [(4, .int v_2), (3, .int v_1), (0, .ref aR), (1, .int cc), (2, .int rr)]) hx hb dX5_bentInColumns_37 hl (k := 1) rfl (by rw [ev_2]; rfl) (by decide) rfl (fun ls hl => ?_)
    refine lv_goto (tgt := 5) hx hb dX5_bentInColumns_40 (by decide) ?_
    obtain rfl : v_2 = nI (i + 1) := ev_2.trans (nI_1 i)
    obtain rfl : v_1 = m_bcol sh co ro st cc rr (i + 1) := ev_1
    exact ih_5 (i + 1, ls) (by first | (dsimp only; omega) | omega) ⟨(by omega), lv_sub hl [0, 1, 2, 3, 4] rfl⟩

set_option maxHeartbeats 4000000 in
set_option maxRecDepth 100000 in
theorem c_X5_bentInRows (l : Launch) (Z : dzG) (G : dzW) (ad : dzA) (aR nm : Nat) (sh co ro st : Nat → Int32) (cc rr : Int32) (ha : ad (2, 0) = aR) (hR : dz_Rm Z G ad nm sh co ro st) (hN : nm ≤ 6) (hn : ∀ k, k < nm → ¬ m_ds (co k) (ro k) cc rr = 0 → ¬ m_ds (co k) (ro k) cc rr * m_ds (co k) (ro k) cc rr = 0) : dzRd l yX5_bentInRows wsX5_bentInRows 3 66 Z G ad [.ref aR, .int cc, .int rr] (some (.int (m_brow sh co ro st cc rr nm))) := by
  refine Met.ofW (cc := cX5_bentInRows) (maxL := 5) (ret := (some .int)) (by decide) rfl ?_
  intro p e s m args below meth c s₁ B hml hv
  obtain ⟨rfl, hG, hE⟩ := hv
  have hx := B.exec
  have hb := B.bytes
  have hrt := B.returns
  have hts := atoms_spec (ws := wsX5_bentInRows) B.pre
  have hown : s.vm.findClass RX5 = some m.cls := findClass_of_methodNamed B.named
  have hlocks := B.notSynchronized
  have hS : va_S (dz_A Z) s.heap s.heap [] := va_S.rf
  have hl := lv_entry ([.ref aR, .int cc, .int rr]) (n := 5) (Nat.le_of_ble_eq_true rfl)
  rw [lg_entry_eq]
  generalize (lg_sl ([.ref aR, .int cc, .int rr]) ++ List.replicate (5 - (lg_sl ([.ref aR, .int cc, .int rr])).length) Slot.unset).toArray = ls at hl ⊢
  have hl : lv_has ls 5 [(0, .ref aR), (1, .int cc), (2, .int rr)] := hl
  obtain ⟨r1, r2, r3⟩ := hR
  refine lv_iconst (v := 0) hx hb dX5_bentInRows_0 (by decide) ?_
  refine lv_istore_n (lv' := [(3, .int 0), (0, .ref aR), (1, .int cc), (2, .int rr)]) hx hb dX5_bentInRows_1 rfl hl (by decide) rfl (fun ls hl => ?_)
  refine lv_iconst (v := 0) hx hb dX5_bentInRows_2 (by decide) ?_
  refine lv_istore (lv' := [(4, .int 0), (3, .int 0), (0, .ref aR), (1, .int cc), (2, .int rr)]) hx hb dX5_bentInRows_3 hl (by decide) rfl (fun ls hl => ?_)
  refine dz_lp (α := Nat × Array Slot) (fun a9 => (fun (i : Nat) (ls : Array Slot) => nm - i) a9.1 a9.2) (fun a9 => (fun (i : Nat) (ls : Array Slot) => (i ≤ nm) ∧ lv_has ls 5 [(4, .int (nI i)), (3, .int (m_brow sh co ro st cc rr i)), (0, .ref aR), (1, .int cc), (2, .int rr)]) a9.1 a9.2) (fun a9 => F0 m 5 a9.2 []) (fun a9 hI ih_5 => ?_) (0, ls) ⟨(Nat.zero_le _), lv_sub hl [0, 1, 2, 3, 4] rfl⟩
  obtain ⟨i, ls⟩ := a9
  obtain ⟨hi, hl⟩ := hI
  have hi : i ≤ nm := hi
  have hl : lv_has ls 5 [(4, .int (nI i)), (3, .int (m_brow sh co ro st cc rr i)), (0, .ref aR), (1, .int cc), (2, .int rr)] := hl
  refine lv_iload hx hb dX5_bentInRows_5 (lv_at hl 0 rfl) ?_
  refine lv_aload_n hx hb dX5_bentInRows_7 rfl (lv_at hl 2 rfl) ?_
  refine dz_get hx hb hts (fun _ h => List.mem_cons_of_mem _ (List.mem_append_left _ (List.mem_append_left _ (List.mem_append_right _ h)))) hown hE hG ha r1 rfl 0 (by decide) (hts _ (List.mem_of_getElem? (i := 1) rfl)) (fun _ h9 => h9) rfl dX5_bentInRows_8 ?_
  refine dz_kRi (va_runV (As := []) ⟨hx, hb, hml, hown, hts⟩ (c_Jx4a65c_size_8abf5 l Z _ _ _ _ _ _ _ rfl r2) (cwV 0 hts gX5_bentInRows_Jx4a65c_size_8abf5 rfl rfl rfl (by decide +kernel) ⟨Nat.le_of_ble_eq_true rfl, Nat.le_of_ble_eq_true rfl⟩) (dz_P.preL hE hS hG r2 rfl) rfl rfl hl.1 rfl (lv_room (Nat.le_of_ble_eq_true rfl)) dX5_bentInRows_11 ⟨Nat.le_of_ble_eq_true rfl, Nat.le_of_ble_eq_true rfl⟩) ?_
  refine lv_icmp_ge (tgt := 43) hx hb dX5_bentInRows_14 (by decide) (fun c_14 => ?_) (fun c_14 => ?_)
  · have hi2 : i = nm := by have := (nI_leI (by omega) (by omega)).mp c_14; omega
    refine lv_iload_n hx hb dX5_bentInRows_43 rfl (lv_at hl 1 rfl) ?_
    refine W.iret hx hb hrt (fun t ht hW => ⟨congrArg (fun x => Outcome.returned (some (Value.int x))) ?_, ht⟩) (fun _ h => by cases h) dX5_bentInRows_44
    rw [hi2]
  · have hlt : i < nm := by
      rcases Nat.lt_or_ge i nm with q | q
      · exact q
      · exact absurd ((nI_leI (by omega) (by omega)).mpr q) c_14
    refine lv_iload_n hx hb dX5_bentInRows_17 rfl (lv_at hl 1 rfl) ?_
    refine lv_aload_n hx hb dX5_bentInRows_18 rfl (lv_at hl 2 rfl) ?_
    refine dz_get hx hb hts (fun _ h => List.mem_cons_of_mem _ (List.mem_append_left _ (List.mem_append_left _ (List.mem_append_right _ h)))) hown hE hG ha r1 rfl 0 (by decide) (hts _ (List.mem_of_getElem? (i := 1) rfl)) (fun _ h9 => h9) rfl dX5_bentInRows_19 ?_
    refine lv_iload hx hb dX5_bentInRows_22 (lv_at hl 0 rfl) ?_
    refine dz_kRr (va_runV (As := [_]) ⟨hx, hb, hml, hown, hts⟩ (c_Jx4a65c_get_915e3 l Z _ _ _ _ _ _ _ _ rfl r2 hlt) (cwV 1 hts gX5_bentInRows_Jx4a65c_get_915e3 rfl rfl rfl (by decide +kernel) ⟨Nat.le_of_ble_eq_true rfl, Nat.le_of_ble_eq_true rfl⟩) (dz_P.preL hE hS hG r2 rfl) rfl rfl hl.1 rfl (lv_room (Nat.le_of_ble_eq_true rfl)) dX5_bentInRows_24 ⟨Nat.le_of_ble_eq_true rfl, Nat.le_of_ble_eq_true rfl⟩) ?_
    refine dz_cst hx hb hown (hts _ (List.mem_of_getElem? (i := 2) rfl)) hE hG rfl (r3 i hlt) rfl dX5_bentInRows_27 ?_
    refine lv_iload_n hx hb dX5_bentInRows_30 rfl (lv_at hl 3 rfl) ?_
    refine lv_iload_n hx hb dX5_bentInRows_31 rfl (lv_at hl 4 rfl) ?_
    refine dz_kRi (va_runV (As := [_, _]) ⟨hx, hb, hml, hown, hts⟩ (c_X4_bendInRows l Z _ _ _ _ _ _ _ _ _ _ rfl (r3 i hlt) (hn i hlt)) (cwV 2 hts gX5_bentInRows_X4_bendInRows rfl rfl rfl (by decide +kernel) ⟨Nat.le_of_ble_eq_true rfl, Nat.le_of_ble_eq_true rfl⟩) (dz_P.preV hE hS hG (r3 i hlt) rfl rfl) rfl rfl hl.1 rfl (lv_room (Nat.le_of_ble_eq_true rfl)) dX5_bentInRows_32 ⟨Nat.le_of_ble_eq_true rfl, Nat.le_of_ble_eq_true rfl⟩) ?_
    refine lv_iadd hx hb dX5_bentInRows_35 ?_
    refine lv_topi (fun v_1 ev_1 => ?_)
    refine lv_istore_n (lv' := [(3, .int v_1), (4, .int (nI i)), (0, .ref aR), (1, .int cc), (2, .int rr)]) hx hb dX5_bentInRows_36 rfl hl (by decide) rfl (fun ls hl => ?_)
    obtain ⟨v_2, ev_2⟩ : ∃ y : Int32, y = (nI i) + 1 := ⟨_, rfl⟩
    refine lv_iinc (v := v_2) (lv' := [(4, .int v_2), (3, .int v_1), (0, .ref aR), (1, .int cc), (2, .int rr)]) hx hb dX5_bentInRows_37 hl (k := 1) rfl (by rw [ev_2]; rfl) (by decide) rfl (fun ls hl => ?_)
    refine lv_goto (tgt := 5) hx hb dX5_bentInRows_40 (by decide) ?_
    obtain rfl : v_2 = nI (i + 1) := ev_2.trans (nI_1 i)
    obtain rfl : v_1 = m_brow sh co ro st cc rr (i + 1) := ev_1
    exact ih_5 (i + 1, ls) (by first | (dsimp only; omega) | omega) ⟨(by omega), lv_sub hl [0, 1, 2, 3, 4] rfl⟩

set_option maxHeartbeats 4000000 in
set_option maxRecDepth 100000 in
theorem c_X5_shortened (l : Launch) (Z : dzG) (G : dzW) (ad : dzA) (aR nm : Nat) (sh co ro st : Nat → Int32) (cc rr : Int32) (ha : ad (2, 0) = aR) (hR : dz_Rm Z G ad nm sh co ro st) (hN : nm ≤ 6) : dzRd l yX5_shortened wsX5_shortened 3 65 Z G ad [.ref aR, .int cc, .int rr] (some (.int (m_bsho sh co ro st cc rr nm))) := by
  refine Met.ofW (cc := cX5_shortened) (maxL := 5) (ret := (some .int)) (by decide) rfl ?_
  intro p e s m args below meth c s₁ B hml hv
  obtain ⟨rfl, hG, hE⟩ := hv
  have hx := B.exec
  have hb := B.bytes
  have hrt := B.returns
  have hts := atoms_spec (ws := wsX5_shortened) B.pre
  have hown : s.vm.findClass RX5 = some m.cls := findClass_of_methodNamed B.named
  have hlocks := B.notSynchronized
  have hS : va_S (dz_A Z) s.heap s.heap [] := va_S.rf
  have hl := lv_entry ([.ref aR, .int cc, .int rr]) (n := 5) (Nat.le_of_ble_eq_true rfl)
  rw [lg_entry_eq]
  generalize (lg_sl ([.ref aR, .int cc, .int rr]) ++ List.replicate (5 - (lg_sl ([.ref aR, .int cc, .int rr])).length) Slot.unset).toArray = ls at hl ⊢
  have hl : lv_has ls 5 [(0, .ref aR), (1, .int cc), (2, .int rr)] := hl
  obtain ⟨r1, r2, r3⟩ := hR
  refine lv_iconst (v := 0) hx hb dX5_shortened_0 (by decide) ?_
  refine lv_istore_n (lv' := [(3, .int 0), (0, .ref aR), (1, .int cc), (2, .int rr)]) hx hb dX5_shortened_1 rfl hl (by decide) rfl (fun ls hl => ?_)
  refine lv_iconst (v := 0) hx hb dX5_shortened_2 (by decide) ?_
  refine lv_istore (lv' := [(4, .int 0), (3, .int 0), (0, .ref aR), (1, .int cc), (2, .int rr)]) hx hb dX5_shortened_3 hl (by decide) rfl (fun ls hl => ?_)
  refine dz_lp (α := Nat × Array Slot) (fun a9 => (fun (i : Nat) (ls : Array Slot) => nm - i) a9.1 a9.2) (fun a9 => (fun (i : Nat) (ls : Array Slot) => (i ≤ nm) ∧ lv_has ls 5 [(4, .int (nI i)), (3, .int (m_bsho sh co ro st cc rr i)), (0, .ref aR), (1, .int cc), (2, .int rr)]) a9.1 a9.2) (fun a9 => F0 m 5 a9.2 []) (fun a9 hI ih_5 => ?_) (0, ls) ⟨(Nat.zero_le _), lv_sub hl [0, 1, 2, 3, 4] rfl⟩
  obtain ⟨i, ls⟩ := a9
  obtain ⟨hi, hl⟩ := hI
  have hi : i ≤ nm := hi
  have hl : lv_has ls 5 [(4, .int (nI i)), (3, .int (m_bsho sh co ro st cc rr i)), (0, .ref aR), (1, .int cc), (2, .int rr)] := hl
  refine lv_iload hx hb dX5_shortened_5 (lv_at hl 0 rfl) ?_
  refine lv_aload_n hx hb dX5_shortened_7 rfl (lv_at hl 2 rfl) ?_
  refine dz_get hx hb hts (fun _ h => List.mem_cons_of_mem _ (List.mem_append_left _ (List.mem_append_left _ (List.mem_append_right _ h)))) hown hE hG ha r1 rfl 0 (by decide) (hts _ (List.mem_of_getElem? (i := 1) rfl)) (fun _ h9 => h9) rfl dX5_shortened_8 ?_
  refine dz_kRi (va_runV (As := []) ⟨hx, hb, hml, hown, hts⟩ (c_Jx4a65c_size_8abf5 l Z _ _ _ _ _ _ _ rfl r2) (cwV 0 hts gX5_shortened_Jx4a65c_size_8abf5 rfl rfl rfl (by decide +kernel) ⟨Nat.le_of_ble_eq_true rfl, Nat.le_of_ble_eq_true rfl⟩) (dz_P.preL hE hS hG r2 rfl) rfl rfl hl.1 rfl (lv_room (Nat.le_of_ble_eq_true rfl)) dX5_shortened_11 ⟨Nat.le_of_ble_eq_true rfl, Nat.le_of_ble_eq_true rfl⟩) ?_
  refine lv_icmp_ge (tgt := 43) hx hb dX5_shortened_14 (by decide) (fun c_14 => ?_) (fun c_14 => ?_)
  · have hi2 : i = nm := by have := (nI_leI (by omega) (by omega)).mp c_14; omega
    refine lv_iload_n hx hb dX5_shortened_43 rfl (lv_at hl 1 rfl) ?_
    refine W.iret hx hb hrt (fun t ht hW => ⟨congrArg (fun x => Outcome.returned (some (Value.int x))) ?_, ht⟩) (fun _ h => by cases h) dX5_shortened_44
    rw [hi2]
  · have hlt : i < nm := by
      rcases Nat.lt_or_ge i nm with q | q
      · exact q
      · exact absurd ((nI_leI (by omega) (by omega)).mpr q) c_14
    refine lv_iload_n hx hb dX5_shortened_17 rfl (lv_at hl 1 rfl) ?_
    refine lv_aload_n hx hb dX5_shortened_18 rfl (lv_at hl 2 rfl) ?_
    refine dz_get hx hb hts (fun _ h => List.mem_cons_of_mem _ (List.mem_append_left _ (List.mem_append_left _ (List.mem_append_right _ h)))) hown hE hG ha r1 rfl 0 (by decide) (hts _ (List.mem_of_getElem? (i := 1) rfl)) (fun _ h9 => h9) rfl dX5_shortened_19 ?_
    refine lv_iload hx hb dX5_shortened_22 (lv_at hl 0 rfl) ?_
    refine dz_kRr (va_runV (As := [_]) ⟨hx, hb, hml, hown, hts⟩ (c_Jx4a65c_get_915e3 l Z _ _ _ _ _ _ _ _ rfl r2 hlt) (cwV 1 hts gX5_shortened_Jx4a65c_get_915e3 rfl rfl rfl (by decide +kernel) ⟨Nat.le_of_ble_eq_true rfl, Nat.le_of_ble_eq_true rfl⟩) (dz_P.preL hE hS hG r2 rfl) rfl rfl hl.1 rfl (lv_room (Nat.le_of_ble_eq_true rfl)) dX5_shortened_24 ⟨Nat.le_of_ble_eq_true rfl, Nat.le_of_ble_eq_true rfl⟩) ?_
    refine dz_cst hx hb hown (hts _ (List.mem_of_getElem? (i := 2) rfl)) hE hG rfl (r3 i hlt) rfl dX5_shortened_27 ?_
    refine lv_iload_n hx hb dX5_shortened_30 rfl (lv_at hl 3 rfl) ?_
    refine lv_iload_n hx hb dX5_shortened_31 rfl (lv_at hl 4 rfl) ?_
    refine dz_kRi (va_runV (As := [_, _]) ⟨hx, hb, hml, hown, hts⟩ (c_X4_shortens l Z _ _ _ _ _ _ _ _ _ _ rfl (r3 i hlt)) (cwV 2 hts gX5_shortened_X4_shortens rfl rfl rfl (by decide +kernel) ⟨Nat.le_of_ble_eq_true rfl, Nat.le_of_ble_eq_true rfl⟩) (dz_P.preV hE hS hG (r3 i hlt) rfl rfl) rfl rfl hl.1 rfl (lv_room (Nat.le_of_ble_eq_true rfl)) dX5_shortened_32 ⟨Nat.le_of_ble_eq_true rfl, Nat.le_of_ble_eq_true rfl⟩) ?_
    refine lv_iadd hx hb dX5_shortened_35 ?_
    refine lv_topi (fun v_1 ev_1 => ?_)
    refine lv_istore_n (lv' := [(3, .int v_1), (4, .int (nI i)), (0, .ref aR), (1, .int cc), (2, .int rr)]) hx hb dX5_shortened_36 rfl hl (by decide) rfl (fun ls hl => ?_)
    obtain ⟨v_2, ev_2⟩ : ∃ y : Int32, y = (nI i) + 1 := ⟨_, rfl⟩
    refine lv_iinc (v := v_2) (lv' := [(4, .int v_2), (3, .int v_1), (0, .ref aR), (1, .int cc), (2, .int rr)]) hx hb dX5_shortened_37 hl (k := 1) rfl (by rw [ev_2]; rfl) (by decide) rfl (fun ls hl => ?_)
    refine lv_goto (tgt := 5) hx hb dX5_shortened_40 (by decide) ?_
    obtain rfl : v_2 = nI (i + 1) := ev_2.trans (nI_1 i)
    obtain rfl : v_1 = m_bsho sh co ro st cc rr (i + 1) := ev_1
    exact ih_5 (i + 1, ls) (by first | (dsimp only; omega) | omega) ⟨(by omega), lv_sub hl [0, 1, 2, 3, 4] rfl⟩

set_option maxHeartbeats 4000000 in
set_option maxRecDepth 100000 in
theorem c_X5_isPlace (l : Launch) (Z : dzG) (G : dzW) (ad : dzA) (aR j : Nat) (fc : Nat → Int32) (ha : ad (2, 0) = aR) (ho : G (2, 0) = some (eO 6 [.ref (ad (3, 0)), .ref (ad (5, 0)), .ref (ad (6, 0)), .ref (ad (7, 0))])) (hc : G (5, 0) = some (eI Z 484 fc)) (hj : j < 484) : dzRd l yX5_isPlace wsX5_isPlace 0 0 Z G ad [.ref aR, .int (nI j)] (some (.int 1)) := by
  refine Met.ofW (cc := cX5_isPlace) (maxL := 2) (ret := (some .boolean)) (by decide) rfl ?_
  intro p e s m args below meth c s₁ B hml hv
  obtain ⟨rfl, hG, hE⟩ := hv
  have hx := B.exec
  have hb := B.bytes
  have hrt := B.returns
  have hts := atoms_spec (ws := wsX5_isPlace) B.pre
  have hown : s.vm.findClass RX5 = some m.cls := findClass_of_methodNamed B.named
  have hlocks := B.notSynchronized
  have hS : va_S (dz_A Z) s.heap s.heap [] := va_S.rf
  have hl := lv_entry ([.ref aR, .int (nI j)]) (n := 2) (Nat.le_of_ble_eq_true rfl)
  rw [lg_entry_eq]
  generalize (lg_sl ([.ref aR, .int (nI j)]) ++ List.replicate (2 - (lg_sl ([.ref aR, .int (nI j)])).length) Slot.unset).toArray = ls at hl ⊢
  have hl : lv_has ls 2 [(0, .ref aR), (1, .int (nI j))] := hl
  refine lv_iload_n hx hb dX5_isPlace_0 rfl (lv_at hl 1 rfl) ?_
  refine lv_if_lt (tgt := 17) hx hb dX5_isPlace_1 (by decide) (fun c_1 => absurd c_1 (nI_pos (by omega))) (fun c_1 => ?_)
  refine lv_iload_n hx hb dX5_isPlace_4 rfl (lv_at hl 1 rfl) ?_
  refine lv_aload_n hx hb dX5_isPlace_5 rfl (lv_at hl 0 rfl) ?_
  refine dz_get hx hb hts (fun _ h => List.mem_cons_of_mem _ (List.mem_append_right _ h)) hown hE hG ha ho rfl 1 (by decide) (hts _ (List.mem_of_getElem? (i := 1) rfl)) (fun _ h9 => h9) rfl dX5_isPlace_6 ?_
  refine dz_alen hx hb hE hG rfl hc 0 rfl dX5_isPlace_9 ?_
  refine lv_icmp_ge (tgt := 17) hx hb dX5_isPlace_10 (by decide) (fun c_10 => absurd c_10 (nI_ge hj (Nat.le_of_ble_eq_true rfl))) (fun c_10 => ?_)
  refine lv_iconst (v := 1) hx hb dX5_isPlace_13 (by decide) ?_
  refine lv_goto (tgt := 18) hx hb dX5_isPlace_14 (by decide) ?_
  refine W.zret hx hb hrt (by decide) (fun t ht hW => ⟨congrArg (fun x => Outcome.returned (some (Value.int x))) ?_, ht⟩) (fun _ h => by cases h) dX5_isPlace_18
  rfl

set_option maxHeartbeats 4000000 in
set_option maxRecDepth 100000 in
theorem c_X5_comesFromColumn (l : Launch) (Z : dzG) (G : dzW) (ad : dzA) (aR j : Nat) (fc : Nat → Int32) (ha : ad (2, 0) = aR) (ho : G (2, 0) = some (eO 6 [.ref (ad (3, 0)), .ref (ad (5, 0)), .ref (ad (6, 0)), .ref (ad (7, 0))])) (hc : G (5, 0) = some (eI Z 484 fc)) (hj : j < 484) : dzRd l yX5_comesFromColumn wsX5_comesFromColumn 1 21 Z G ad [.ref aR, .int (nI j)] (some (.int (fc j))) := by
  refine Met.ofW (cc := cX5_comesFromColumn) (maxL := 2) (ret := (some .int)) (by decide) rfl ?_
  intro p e s m args below meth c s₁ B hml hv
  obtain ⟨rfl, hG, hE⟩ := hv
  have hx := B.exec
  have hb := B.bytes
  have hrt := B.returns
  have hts := atoms_spec (ws := wsX5_comesFromColumn) B.pre
  have hown : s.vm.findClass RX5 = some m.cls := findClass_of_methodNamed B.named
  have hlocks := B.notSynchronized
  have hS : va_S (dz_A Z) s.heap s.heap [] := va_S.rf
  have hl := lv_entry ([.ref aR, .int (nI j)]) (n := 2) (Nat.le_of_ble_eq_true rfl)
  rw [lg_entry_eq]
  generalize (lg_sl ([.ref aR, .int (nI j)]) ++ List.replicate (2 - (lg_sl ([.ref aR, .int (nI j)])).length) Slot.unset).toArray = ls at hl ⊢
  have hl : lv_has ls 2 [(0, .ref aR), (1, .int (nI j))] := hl
  refine lv_aload_n hx hb dX5_comesFromColumn_0 rfl (lv_at hl 0 rfl) ?_
  refine lv_iload_n hx hb dX5_comesFromColumn_1 rfl (lv_at hl 1 rfl) ?_
  refine dz_kRi (va_runV (As := [_]) ⟨hx, hb, hml, hown, hts⟩ (c_X5_isPlace l Z _ _ _ _ _ ha ho hc hj) (cwV 1 hts gX5_comesFromColumn_X5_isPlace rfl rfl rfl (by decide +kernel) ⟨Nat.le_of_ble_eq_true rfl, Nat.le_of_ble_eq_true rfl⟩) (dz_P.preV hE hS hG ho rfl ha) rfl rfl hl.1 rfl (lv_room (Nat.le_of_ble_eq_true rfl)) dX5_comesFromColumn_2 ⟨Nat.le_of_ble_eq_true rfl, Nat.le_of_ble_eq_true rfl⟩) ?_
  refine lv_if_eq (tgt := 17) hx hb dX5_comesFromColumn_5 (by decide) (fun c_5 => absurd c_5 (by decide)) (fun c_5 => ?_)
  refine lv_aload_n hx hb dX5_comesFromColumn_8 rfl (lv_at hl 0 rfl) ?_
  refine dz_get hx hb hts (fun _ h => List.mem_cons_of_mem _ (List.mem_append_right _ h)) hown hE hG ha ho rfl 1 (by decide) (hts _ (List.mem_of_getElem? (i := 1) rfl)) (fun _ h9 => h9) rfl dX5_comesFromColumn_9 ?_
  refine lv_iload_n hx hb dX5_comesFromColumn_12 rfl (lv_at hl 1 rfl) ?_
  refine dz_iald hx hb hE hG rfl hc (vp_in_nI hj (by decide)) dX5_comesFromColumn_13 ?_
  refine lv_goto (tgt := 18) hx hb dX5_comesFromColumn_14 (by decide) ?_
  refine W.iret hx hb hrt (fun t ht hW => ⟨congrArg (fun x => Outcome.returned (some (Value.int x))) ?_, ht⟩) (fun _ h => by cases h) dX5_comesFromColumn_18
  rw [nI_clamp (by omega)]

set_option maxHeartbeats 4000000 in
set_option maxRecDepth 100000 in
theorem c_X5_comesFromRow (l : Launch) (Z : dzG) (G : dzW) (ad : dzA) (aR j : Nat) (fc fr : Nat → Int32) (ha : ad (2, 0) = aR) (ho : G (2, 0) = some (eO 6 [.ref (ad (3, 0)), .ref (ad (5, 0)), .ref (ad (6, 0)), .ref (ad (7, 0))])) (hc : G (5, 0) = some (eI Z 484 fc)) (hr : G (6, 0) = some (eI Z 484 fr)) (hj : j < 484) : dzRd l yX5_comesFromRow wsX5_comesFromRow 1 21 Z G ad [.ref aR, .int (nI j)] (some (.int (fr j))) := by
  refine Met.ofW (cc := cX5_comesFromRow) (maxL := 2) (ret := (some .int)) (by decide) rfl ?_
  intro p e s m args below meth c s₁ B hml hv
  obtain ⟨rfl, hG, hE⟩ := hv
  have hx := B.exec
  have hb := B.bytes
  have hrt := B.returns
  have hts := atoms_spec (ws := wsX5_comesFromRow) B.pre
  have hown : s.vm.findClass RX5 = some m.cls := findClass_of_methodNamed B.named
  have hlocks := B.notSynchronized
  have hS : va_S (dz_A Z) s.heap s.heap [] := va_S.rf
  have hl := lv_entry ([.ref aR, .int (nI j)]) (n := 2) (Nat.le_of_ble_eq_true rfl)
  rw [lg_entry_eq]
  generalize (lg_sl ([.ref aR, .int (nI j)]) ++ List.replicate (2 - (lg_sl ([.ref aR, .int (nI j)])).length) Slot.unset).toArray = ls at hl ⊢
  have hl : lv_has ls 2 [(0, .ref aR), (1, .int (nI j))] := hl
  refine lv_aload_n hx hb dX5_comesFromRow_0 rfl (lv_at hl 0 rfl) ?_
  refine lv_iload_n hx hb dX5_comesFromRow_1 rfl (lv_at hl 1 rfl) ?_
  refine dz_kRi (va_runV (As := [_]) ⟨hx, hb, hml, hown, hts⟩ (c_X5_isPlace l Z _ _ _ _ _ ha ho hc hj) (cwV 1 hts gX5_comesFromRow_X5_isPlace rfl rfl rfl (by decide +kernel) ⟨Nat.le_of_ble_eq_true rfl, Nat.le_of_ble_eq_true rfl⟩) (dz_P.preV hE hS hG ho rfl ha) rfl rfl hl.1 rfl (lv_room (Nat.le_of_ble_eq_true rfl)) dX5_comesFromRow_2 ⟨Nat.le_of_ble_eq_true rfl, Nat.le_of_ble_eq_true rfl⟩) ?_
  refine lv_if_eq (tgt := 17) hx hb dX5_comesFromRow_5 (by decide) (fun c_5 => absurd c_5 (by decide)) (fun c_5 => ?_)
  refine lv_aload_n hx hb dX5_comesFromRow_8 rfl (lv_at hl 0 rfl) ?_
  refine dz_get hx hb hts (fun _ h => List.mem_cons_of_mem _ (List.mem_append_right _ h)) hown hE hG ha ho rfl 2 (by decide) (hts _ (List.mem_of_getElem? (i := 1) rfl)) (fun _ h9 => h9) rfl dX5_comesFromRow_9 ?_
  refine lv_iload_n hx hb dX5_comesFromRow_12 rfl (lv_at hl 1 rfl) ?_
  refine dz_iald hx hb hE hG rfl hr (vp_in_nI hj (by decide)) dX5_comesFromRow_13 ?_
  refine lv_goto (tgt := 18) hx hb dX5_comesFromRow_14 (by decide) ?_
  refine W.iret hx hb hrt (fun t ht hW => ⟨congrArg (fun x => Outcome.returned (some (Value.int x))) ?_, ht⟩) (fun _ h => by cases h) dX5_comesFromRow_18
  rw [nI_clamp (by omega)]

set_option maxHeartbeats 4000000 in
set_option maxRecDepth 100000 in
theorem c_X5_wayAt (l : Launch) (Z : dzG) (G : dzW) (ad : dzA) (aR j : Nat) (fc fw : Nat → Int32) (ha : ad (2, 0) = aR) (ho : G (2, 0) = some (eO 6 [.ref (ad (3, 0)), .ref (ad (5, 0)), .ref (ad (6, 0)), .ref (ad (7, 0))])) (hc : G (5, 0) = some (eI Z 484 fc)) (hw : G (7, 0) = some (eI Z 484 fw)) (hj : j < 484) : dzRd l yX5_wayAt wsX5_wayAt 1 21 Z G ad [.ref aR, .int (nI j)] (some (.int (fw j))) := by
  refine Met.ofW (cc := cX5_wayAt) (maxL := 2) (ret := (some .int)) (by decide) rfl ?_
  intro p e s m args below meth c s₁ B hml hv
  obtain ⟨rfl, hG, hE⟩ := hv
  have hx := B.exec
  have hb := B.bytes
  have hrt := B.returns
  have hts := atoms_spec (ws := wsX5_wayAt) B.pre
  have hown : s.vm.findClass RX5 = some m.cls := findClass_of_methodNamed B.named
  have hlocks := B.notSynchronized
  have hS : va_S (dz_A Z) s.heap s.heap [] := va_S.rf
  have hl := lv_entry ([.ref aR, .int (nI j)]) (n := 2) (Nat.le_of_ble_eq_true rfl)
  rw [lg_entry_eq]
  generalize (lg_sl ([.ref aR, .int (nI j)]) ++ List.replicate (2 - (lg_sl ([.ref aR, .int (nI j)])).length) Slot.unset).toArray = ls at hl ⊢
  have hl : lv_has ls 2 [(0, .ref aR), (1, .int (nI j))] := hl
  refine lv_aload_n hx hb dX5_wayAt_0 rfl (lv_at hl 0 rfl) ?_
  refine lv_iload_n hx hb dX5_wayAt_1 rfl (lv_at hl 1 rfl) ?_
  refine dz_kRi (va_runV (As := [_]) ⟨hx, hb, hml, hown, hts⟩ (c_X5_isPlace l Z _ _ _ _ _ ha ho hc hj) (cwV 1 hts gX5_wayAt_X5_isPlace rfl rfl rfl (by decide +kernel) ⟨Nat.le_of_ble_eq_true rfl, Nat.le_of_ble_eq_true rfl⟩) (dz_P.preV hE hS hG ho rfl ha) rfl rfl hl.1 rfl (lv_room (Nat.le_of_ble_eq_true rfl)) dX5_wayAt_2 ⟨Nat.le_of_ble_eq_true rfl, Nat.le_of_ble_eq_true rfl⟩) ?_
  refine lv_if_eq (tgt := 17) hx hb dX5_wayAt_5 (by decide) (fun c_5 => absurd c_5 (by decide)) (fun c_5 => ?_)
  refine lv_aload_n hx hb dX5_wayAt_8 rfl (lv_at hl 0 rfl) ?_
  refine dz_get hx hb hts (fun _ h => List.mem_cons_of_mem _ (List.mem_append_right _ h)) hown hE hG ha ho rfl 3 (by decide) (hts _ (List.mem_of_getElem? (i := 1) rfl)) (fun _ h9 => h9) rfl dX5_wayAt_9 ?_
  refine lv_iload_n hx hb dX5_wayAt_12 rfl (lv_at hl 1 rfl) ?_
  refine dz_iald hx hb hE hG rfl hw (vp_in_nI hj (by decide)) dX5_wayAt_13 ?_
  refine lv_goto (tgt := 18) hx hb dX5_wayAt_14 (by decide) ?_
  refine W.iret hx hb hrt (fun t ht hW => ⟨congrArg (fun x => Outcome.returned (some (Value.int x))) ?_, ht⟩) (fun _ h => by cases h) dX5_wayAt_18
  rw [nI_clamp (by omega)]

set_option maxHeartbeats 4000000 in
set_option maxRecDepth 100000 in
theorem c_X5_comesFrom (l : Launch) (Z : dzG) (G : dzW) (ad : dzA) (aR j : Nat) (fc fr : Nat → Int32) (cc rr : Int32) (ha : ad (2, 0) = aR) (ho : G (2, 0) = some (eO 6 [.ref (ad (3, 0)), .ref (ad (5, 0)), .ref (ad (6, 0)), .ref (ad (7, 0))])) (hc : G (5, 0) = some (eI Z 484 fc)) (hr : G (6, 0) = some (eI Z 484 fr)) (hj : j < 484) : dzRd l yX5_comesFrom wsX5_comesFrom 1 21 Z G ad [.ref aR, .int (nI j), .int cc, .int rr] (some (.int (dz_b (fc j = cc ∧ fr j = rr)))) := by
  refine Met.ofW (cc := cX5_comesFrom) (maxL := 4) (ret := (some .boolean)) (by decide) rfl ?_
  intro p e s m args below meth c s₁ B hml hv
  obtain ⟨rfl, hG, hE⟩ := hv
  have hx := B.exec
  have hb := B.bytes
  have hrt := B.returns
  have hts := atoms_spec (ws := wsX5_comesFrom) B.pre
  have hown : s.vm.findClass RX5 = some m.cls := findClass_of_methodNamed B.named
  have hlocks := B.notSynchronized
  have hS : va_S (dz_A Z) s.heap s.heap [] := va_S.rf
  have hl := lv_entry ([.ref aR, .int (nI j), .int cc, .int rr]) (n := 4) (Nat.le_of_ble_eq_true rfl)
  rw [lg_entry_eq]
  generalize (lg_sl ([.ref aR, .int (nI j), .int cc, .int rr]) ++ List.replicate (4 - (lg_sl ([.ref aR, .int (nI j), .int cc, .int rr])).length) Slot.unset).toArray = ls at hl ⊢
  have hl : lv_has ls 4 [(0, .ref aR), (1, .int (nI j)), (2, .int cc), (3, .int rr)] := hl
  refine lv_aload_n hx hb dX5_comesFrom_0 rfl (lv_at hl 0 rfl) ?_
  refine lv_iload_n hx hb dX5_comesFrom_1 rfl (lv_at hl 1 rfl) ?_
  refine dz_kRi (va_runV (As := [_]) ⟨hx, hb, hml, hown, hts⟩ (c_X5_isPlace l Z _ _ _ _ _ ha ho hc hj) (cwV 1 hts gX5_comesFrom_X5_isPlace rfl rfl rfl (by decide +kernel) ⟨Nat.le_of_ble_eq_true rfl, Nat.le_of_ble_eq_true rfl⟩) (dz_P.preV hE hS hG ho rfl ha) rfl rfl hl.1 rfl (lv_room (Nat.le_of_ble_eq_true rfl)) dX5_comesFrom_2 ⟨Nat.le_of_ble_eq_true rfl, Nat.le_of_ble_eq_true rfl⟩) ?_
  refine lv_if_eq (tgt := 32) hx hb dX5_comesFrom_5 (by decide) (fun c_5 => absurd c_5 (by decide)) (fun c_5 => ?_)
  refine lv_aload_n hx hb dX5_comesFrom_8 rfl (lv_at hl 0 rfl) ?_
  refine dz_get hx hb hts (fun _ h => List.mem_cons_of_mem _ (List.mem_append_right _ h)) hown hE hG ha ho rfl 1 (by decide) (hts _ (List.mem_of_getElem? (i := 1) rfl)) (fun _ h9 => h9) rfl dX5_comesFrom_9 ?_
  refine lv_iload_n hx hb dX5_comesFrom_12 rfl (lv_at hl 1 rfl) ?_
  refine dz_iald hx hb hE hG rfl hc (vp_in_nI hj (by decide)) dX5_comesFrom_13 ?_
  refine lv_iload_n hx hb dX5_comesFrom_14 rfl (lv_at hl 2 rfl) ?_
  refine lv_icmp_ne (tgt := 32) hx hb dX5_comesFrom_15 (by decide) (fun c_15 => ?_) (fun c_15 => ?_)
  · refine lv_iconst (v := 0) hx hb dX5_comesFrom_32 (by decide) ?_
    refine W.zret hx hb hrt (by decide) (fun t ht hW => ⟨congrArg (fun x => Outcome.returned (some (Value.int x))) ?_, ht⟩) (fun _ h => by cases h) dX5_comesFrom_33
    first | (rw [nI_clamp (by omega)] at c_15 c_25; exact (dz_b1 ⟨c_15, c_25⟩).symm) | (rw [nI_clamp (by omega)] at c_25; exact (dz_b0 (fun h => c_25 h.2)).symm) | (rw [nI_clamp (by omega)] at c_15; exact (dz_b0 (fun h => c_15 h.1)).symm)
  · refine lv_aload_n hx hb dX5_comesFrom_18 rfl (lv_at hl 0 rfl) ?_
    refine dz_get hx hb hts (fun _ h => List.mem_cons_of_mem _ (List.mem_append_right _ h)) hown hE hG ha ho rfl 2 (by decide) (hts _ (List.mem_of_getElem? (i := 2) rfl)) (fun _ h9 => h9) rfl dX5_comesFrom_19 ?_
    refine lv_iload_n hx hb dX5_comesFrom_22 rfl (lv_at hl 1 rfl) ?_
    refine dz_iald hx hb hE hG rfl hr (vp_in_nI hj (by decide)) dX5_comesFrom_23 ?_
    refine lv_iload_n hx hb dX5_comesFrom_24 rfl (lv_at hl 3 rfl) ?_
    refine lv_icmp_ne (tgt := 32) hx hb dX5_comesFrom_25 (by decide) (fun c_25 => ?_) (fun c_25 => ?_)
    · refine lv_iconst (v := 0) hx hb dX5_comesFrom_32 (by decide) ?_
      refine W.zret hx hb hrt (by decide) (fun t ht hW => ⟨congrArg (fun x => Outcome.returned (some (Value.int x))) ?_, ht⟩) (fun _ h => by cases h) dX5_comesFrom_33
      first | (rw [nI_clamp (by omega)] at c_15 c_25; exact (dz_b1 ⟨c_15, c_25⟩).symm) | (rw [nI_clamp (by omega)] at c_25; exact (dz_b0 (fun h => c_25 h.2)).symm) | (rw [nI_clamp (by omega)] at c_15; exact (dz_b0 (fun h => c_15 h.1)).symm)
    · refine lv_iconst (v := 1) hx hb dX5_comesFrom_28 (by decide) ?_
      refine lv_goto (tgt := 33) hx hb dX5_comesFrom_29 (by decide) ?_
      refine W.zret hx hb hrt (by decide) (fun t ht hW => ⟨congrArg (fun x => Outcome.returned (some (Value.int x))) ?_, ht⟩) (fun _ h => by cases h) dX5_comesFrom_33
      first | (rw [nI_clamp (by omega)] at c_15 c_25; exact (dz_b1 ⟨c_15, c_25⟩).symm) | (rw [nI_clamp (by omega)] at c_25; exact (dz_b0 (fun h => c_25 h.2)).symm) | (rw [nI_clamp (by omega)] at c_15; exact (dz_b0 (fun h => c_15 h.1)).symm)

set_option maxHeartbeats 4000000 in
set_option maxRecDepth 100000 in
theorem c_X5_turnAt (l : Launch) (Z : dzG) (G : dzW) (ad : dzA) (aR j : Nat) (fc fr : Nat → Int32) (ha : ad (2, 0) = aR) (ho : G (2, 0) = some (eO 6 [.ref (ad (3, 0)), .ref (ad (5, 0)), .ref (ad (6, 0)), .ref (ad (7, 0))])) (hc : G (5, 0) = some (eI Z 484 fc)) (hr : G (6, 0) = some (eI Z 484 fr)) (hj : j + 22 < 484) : dzRd l yX5_turnAt wsX5_turnAt 1 21 Z G ad [.ref aR, .int (nI j)] (some (.int (m_turn fc fr j))) := by
  refine Met.ofW (cc := cX5_turnAt) (maxL := 8) (ret := (some .int)) (by decide) rfl ?_
  intro p e s m args below meth c s₁ B hml hv
  obtain ⟨rfl, hG, hE⟩ := hv
  have hx := B.exec
  have hb := B.bytes
  have hrt := B.returns
  have hts := atoms_spec (ws := wsX5_turnAt) B.pre
  have hown : s.vm.findClass RX5 = some m.cls := findClass_of_methodNamed B.named
  have hlocks := B.notSynchronized
  have hS : va_S (dz_A Z) s.heap s.heap [] := va_S.rf
  have hl := lv_entry ([.ref aR, .int (nI j)]) (n := 8) (Nat.le_of_ble_eq_true rfl)
  rw [lg_entry_eq]
  generalize (lg_sl ([.ref aR, .int (nI j)]) ++ List.replicate (8 - (lg_sl ([.ref aR, .int (nI j)])).length) Slot.unset).toArray = ls at hl ⊢
  have hl : lv_has ls 8 [(0, .ref aR), (1, .int (nI j))] := hl
  refine lv_iload_n hx hb dX5_turnAt_0 rfl (lv_at hl 1 rfl) ?_
  refine lv_iconst (v := 1) hx hb dX5_turnAt_1 (by decide) ?_
  refine lv_iadd hx hb dX5_turnAt_2 ?_
  refine lv_topi (fun v_1 ev_1 => ?_)
  obtain rfl : v_1 = nI (j + 1) := ev_1.trans (nI_1 j)
  refine lv_istore_n (lv' := [(2, .int (nI (j + 1))), (0, .ref aR), (1, .int (nI j))]) hx hb dX5_turnAt_3 rfl hl (by decide) rfl (fun ls hl => ?_)
  refine lv_iload_n hx hb dX5_turnAt_4 rfl (lv_at hl 2 rfl) ?_
  refine lv_bipush (v := 22) hx hb dX5_turnAt_5 (by decide) ?_
  refine lv_iadd hx hb dX5_turnAt_7 ?_
  refine lv_topi (fun v_2 ev_2 => ?_)
  obtain rfl : v_2 = nI (j + 22) := ev_2.trans (nI_add j 22)
  refine lv_istore_n (lv' := [(3, .int (nI (j + 22))), (2, .int (nI (j + 1))), (0, .ref aR), (1, .int (nI j))]) hx hb dX5_turnAt_8 rfl hl (by decide) rfl (fun ls hl => ?_)
  refine lv_aload_n hx hb dX5_turnAt_9 rfl (lv_at hl 2 rfl) ?_
  refine lv_iload_n hx hb dX5_turnAt_10 rfl (lv_at hl 3 rfl) ?_
  refine dz_kRi (va_runV (As := [_]) ⟨hx, hb, hml, hown, hts⟩ (c_X5_isPlace l Z _ _ _ _ _ ha ho hc (by omega)) (cwV 1 hts gX5_turnAt_X5_isPlace rfl rfl rfl (by decide +kernel) ⟨Nat.le_of_ble_eq_true rfl, Nat.le_of_ble_eq_true rfl⟩) (dz_P.preV hE hS hG ho rfl ha) rfl rfl hl.1 rfl (lv_room (Nat.le_of_ble_eq_true rfl)) dX5_turnAt_11 ⟨Nat.le_of_ble_eq_true rfl, Nat.le_of_ble_eq_true rfl⟩) ?_
  refine lv_if_eq (tgt := 33) hx hb dX5_turnAt_14 (by decide) (fun c_14 => absurd c_14 (by decide)) (fun c_14 => ?_)
  refine lv_aload_n hx hb dX5_turnAt_17 rfl (lv_at hl 2 rfl) ?_
  refine lv_iload_n hx hb dX5_turnAt_18 rfl (lv_at hl 1 rfl) ?_
  refine dz_kRi (va_runV (As := [_]) ⟨hx, hb, hml, hown, hts⟩ (c_X5_isPlace l Z _ _ _ _ _ ha ho hc (by omega)) (cwV 1 hts gX5_turnAt_X5_isPlace rfl rfl rfl (by decide +kernel) ⟨Nat.le_of_ble_eq_true rfl, Nat.le_of_ble_eq_true rfl⟩) (dz_P.preV hE hS hG ho rfl ha) rfl rfl hl.1 rfl (lv_room (Nat.le_of_ble_eq_true rfl)) dX5_turnAt_19 ⟨Nat.le_of_ble_eq_true rfl, Nat.le_of_ble_eq_true rfl⟩) ?_
  refine lv_if_eq (tgt := 33) hx hb dX5_turnAt_22 (by decide) (fun c_22 => absurd c_22 (by decide)) (fun c_22 => ?_)
  refine lv_aload_n hx hb dX5_turnAt_25 rfl (lv_at hl 2 rfl) ?_
  refine lv_iload_n hx hb dX5_turnAt_26 rfl (lv_at hl 0 rfl) ?_
  refine dz_kRi (va_runV (As := [_]) ⟨hx, hb, hml, hown, hts⟩ (c_X5_isPlace l Z _ _ _ _ _ ha ho hc (by omega)) (cwV 1 hts gX5_turnAt_X5_isPlace rfl rfl rfl (by decide +kernel) ⟨Nat.le_of_ble_eq_true rfl, Nat.le_of_ble_eq_true rfl⟩) (dz_P.preV hE hS hG ho rfl ha) rfl rfl hl.1 rfl (lv_room (Nat.le_of_ble_eq_true rfl)) dX5_turnAt_27 ⟨Nat.le_of_ble_eq_true rfl, Nat.le_of_ble_eq_true rfl⟩) ?_
  refine lv_if_ne (tgt := 35) hx hb dX5_turnAt_30 (by decide) (fun c_30 => ?_) (fun c_30 => absurd c_30 (by decide))
  refine lv_aload_n hx hb dX5_turnAt_35 rfl (lv_at hl 2 rfl) ?_
  refine dz_get hx hb hts (fun _ h => List.mem_cons_of_mem _ (List.mem_append_right _ h)) hown hE hG ha ho rfl 1 (by decide) (hts _ (List.mem_of_getElem? (i := 1) rfl)) (fun _ h9 => h9) rfl dX5_turnAt_36 ?_
  refine lv_iload_n hx hb dX5_turnAt_39 rfl (lv_at hl 1 rfl) ?_
  refine dz_iald hx hb hE hG rfl hc (vp_in_nI (by omega) (by decide)) dX5_turnAt_40 ?_
  refine lv_aload_n hx hb dX5_turnAt_41 rfl (lv_at hl 2 rfl) ?_
  refine dz_get hx hb hts (fun _ h => List.mem_cons_of_mem _ (List.mem_append_right _ h)) hown hE hG ha ho rfl 1 (by decide) (hts _ (List.mem_of_getElem? (i := 1) rfl)) (fun _ h9 => h9) rfl dX5_turnAt_42 ?_
  refine lv_iload_n hx hb dX5_turnAt_45 rfl (lv_at hl 3 rfl) ?_
  refine dz_iald hx hb hE hG rfl hc (vp_in_nI (by omega) (by decide)) dX5_turnAt_46 ?_
  refine lv_isub hx hb dX5_turnAt_47 ?_
  refine lv_topi (fun d1 ed1 => ?_)
  refine lv_istore (lv' := [(4, .int d1), (3, .int (nI (j + 22))), (2, .int (nI (j + 1))), (0, .ref aR), (1, .int (nI j))]) hx hb dX5_turnAt_48 hl (by decide) rfl (fun ls hl => ?_)
  refine lv_aload_n hx hb dX5_turnAt_50 rfl (lv_at hl 3 rfl) ?_
  refine dz_get hx hb hts (fun _ h => List.mem_cons_of_mem _ (List.mem_append_right _ h)) hown hE hG ha ho rfl 2 (by decide) (hts _ (List.mem_of_getElem? (i := 2) rfl)) (fun _ h9 => h9) rfl dX5_turnAt_51 ?_
  refine lv_iload_n hx hb dX5_turnAt_54 rfl (lv_at hl 2 rfl) ?_
  refine dz_iald hx hb hE hG rfl hr (vp_in_nI (by omega) (by decide)) dX5_turnAt_55 ?_
  refine lv_aload_n hx hb dX5_turnAt_56 rfl (lv_at hl 3 rfl) ?_
  refine dz_get hx hb hts (fun _ h => List.mem_cons_of_mem _ (List.mem_append_right _ h)) hown hE hG ha ho rfl 2 (by decide) (hts _ (List.mem_of_getElem? (i := 2) rfl)) (fun _ h9 => h9) rfl dX5_turnAt_57 ?_
  refine lv_iload_n hx hb dX5_turnAt_60 rfl (lv_at hl 4 rfl) ?_
  refine dz_iald hx hb hE hG rfl hr (vp_in_nI (by omega) (by decide)) dX5_turnAt_61 ?_
  refine lv_isub hx hb dX5_turnAt_62 ?_
  refine lv_topi (fun d2 ed2 => ?_)
  refine lv_istore (lv' := [(5, .int d2), (4, .int d1), (3, .int (nI (j + 22))), (2, .int (nI (j + 1))), (0, .ref aR), (1, .int (nI j))]) hx hb dX5_turnAt_63 hl (by decide) rfl (fun ls hl => ?_)
  refine lv_aload_n hx hb dX5_turnAt_65 rfl (lv_at hl 4 rfl) ?_
  refine dz_get hx hb hts (fun _ h => List.mem_cons_of_mem _ (List.mem_append_right _ h)) hown hE hG ha ho rfl 1 (by decide) (hts _ (List.mem_of_getElem? (i := 1) rfl)) (fun _ h9 => h9) rfl dX5_turnAt_66 ?_
  refine lv_iload_n hx hb dX5_turnAt_69 rfl (lv_at hl 2 rfl) ?_
  refine dz_iald hx hb hE hG rfl hc (vp_in_nI (by omega) (by decide)) dX5_turnAt_70 ?_
  refine lv_aload_n hx hb dX5_turnAt_71 rfl (lv_at hl 4 rfl) ?_
  refine dz_get hx hb hts (fun _ h => List.mem_cons_of_mem _ (List.mem_append_right _ h)) hown hE hG ha ho rfl 1 (by decide) (hts _ (List.mem_of_getElem? (i := 1) rfl)) (fun _ h9 => h9) rfl dX5_turnAt_72 ?_
  refine lv_iload_n hx hb dX5_turnAt_75 rfl (lv_at hl 5 rfl) ?_
  refine dz_iald hx hb hE hG rfl hc (vp_in_nI (by omega) (by decide)) dX5_turnAt_76 ?_
  refine lv_isub hx hb dX5_turnAt_77 ?_
  refine lv_topi (fun d3 ed3 => ?_)
  refine lv_istore (lv' := [(6, .int d3), (5, .int d2), (4, .int d1), (3, .int (nI (j + 22))), (2, .int (nI (j + 1))), (0, .ref aR), (1, .int (nI j))]) hx hb dX5_turnAt_78 hl (by decide) rfl (fun ls hl => ?_)
  refine lv_aload_n hx hb dX5_turnAt_80 rfl (lv_at hl 5 rfl) ?_
  refine dz_get hx hb hts (fun _ h => List.mem_cons_of_mem _ (List.mem_append_right _ h)) hown hE hG ha ho rfl 2 (by decide) (hts _ (List.mem_of_getElem? (i := 2) rfl)) (fun _ h9 => h9) rfl dX5_turnAt_81 ?_
  refine lv_iload_n hx hb dX5_turnAt_84 rfl (lv_at hl 3 rfl) ?_
  refine dz_iald hx hb hE hG rfl hr (vp_in_nI (by omega) (by decide)) dX5_turnAt_85 ?_
  refine lv_aload_n hx hb dX5_turnAt_86 rfl (lv_at hl 5 rfl) ?_
  refine dz_get hx hb hts (fun _ h => List.mem_cons_of_mem _ (List.mem_append_right _ h)) hown hE hG ha ho rfl 2 (by decide) (hts _ (List.mem_of_getElem? (i := 2) rfl)) (fun _ h9 => h9) rfl dX5_turnAt_87 ?_
  refine lv_iload_n hx hb dX5_turnAt_90 rfl (lv_at hl 6 rfl) ?_
  refine dz_iald hx hb hE hG rfl hr (vp_in_nI (by omega) (by decide)) dX5_turnAt_91 ?_
  refine lv_isub hx hb dX5_turnAt_92 ?_
  refine lv_topi (fun d4 ed4 => ?_)
  refine lv_istore (lv' := [(7, .int d4), (6, .int d3), (5, .int d2), (4, .int d1), (3, .int (nI (j + 22))), (2, .int (nI (j + 1))), (0, .ref aR), (1, .int (nI j))]) hx hb dX5_turnAt_93 hl (by decide) rfl (fun ls hl => ?_)
  refine lv_iload hx hb dX5_turnAt_95 (lv_at hl 3 rfl) ?_
  refine lv_iload hx hb dX5_turnAt_97 (lv_at hl 0 rfl) ?_
  refine lv_imul hx hb dX5_turnAt_99 ?_
  refine lv_iload hx hb dX5_turnAt_100 (lv_at hl 2 rfl) ?_
  refine lv_iload hx hb dX5_turnAt_102 (lv_at hl 1 rfl) ?_
  refine lv_imul hx hb dX5_turnAt_104 ?_
  refine lv_isub hx hb dX5_turnAt_105 ?_
  refine W.iret hx hb hrt (fun t ht hW => ⟨congrArg (fun x => Outcome.returned (some (Value.int x))) ?_, ht⟩) (fun _ h => by cases h) dX5_turnAt_106
  rw [ed1, ed2, ed3, ed4, nI_clamp (by omega), nI_clamp (by omega), nI_clamp (by omega)]; rfl

set_option maxHeartbeats 4000000 in
set_option maxRecDepth 100000 in
theorem c_X5_brightnessAt (l : Launch) (Z : dzG) (G : dzW) (ad : dzA) (aR j : Nat) (fc fr : Nat → Int32) (ha : ad (2, 0) = aR) (ho : G (2, 0) = some (eO 6 [.ref (ad (3, 0)), .ref (ad (5, 0)), .ref (ad (6, 0)), .ref (ad (7, 0))])) (hc : G (5, 0) = some (eI Z 484 fc)) (hr : G (6, 0) = some (eI Z 484 fr)) (hj : j + 22 < 484) : dzRd l yX5_brightnessAt wsX5_brightnessAt 2 48 Z G ad [.ref aR, .int (nI j)] (some (.int (m_times (m_turn fc fr j)))) := by
  refine Met.ofW (cc := cX5_brightnessAt) (maxL := 3) (ret := (some .int)) (by decide) rfl ?_
  intro p e s m args below meth c s₁ B hml hv
  obtain ⟨rfl, hG, hE⟩ := hv
  have hx := B.exec
  have hb := B.bytes
  have hrt := B.returns
  have hts := atoms_spec (ws := wsX5_brightnessAt) B.pre
  have hown : s.vm.findClass RX5 = some m.cls := findClass_of_methodNamed B.named
  have hlocks := B.notSynchronized
  have hS : va_S (dz_A Z) s.heap s.heap [] := va_S.rf
  have hl := lv_entry ([.ref aR, .int (nI j)]) (n := 3) (Nat.le_of_ble_eq_true rfl)
  rw [lg_entry_eq]
  generalize (lg_sl ([.ref aR, .int (nI j)]) ++ List.replicate (3 - (lg_sl ([.ref aR, .int (nI j)])).length) Slot.unset).toArray = ls at hl ⊢
  have hl : lv_has ls 3 [(0, .ref aR), (1, .int (nI j))] := hl
  refine lv_aload_n hx hb dX5_brightnessAt_0 rfl (lv_at hl 0 rfl) ?_
  refine lv_iload_n hx hb dX5_brightnessAt_1 rfl (lv_at hl 1 rfl) ?_
  refine dz_kRi (va_runV (As := [_]) ⟨hx, hb, hml, hown, hts⟩ (c_X5_turnAt l Z _ _ _ _ _ _ ha ho hc hr hj) (cwV 1 hts gX5_brightnessAt_X5_turnAt rfl rfl rfl (by decide +kernel) ⟨Nat.le_of_ble_eq_true rfl, Nat.le_of_ble_eq_true rfl⟩) (dz_P.preV hE hS hG ho rfl ha) rfl rfl hl.1 rfl (lv_room (Nat.le_of_ble_eq_true rfl)) dX5_brightnessAt_2 ⟨Nat.le_of_ble_eq_true rfl, Nat.le_of_ble_eq_true rfl⟩) ?_
  refine lv_topi (fun v ev => ?_)
  refine lv_istore_n (lv' := [(2, .int v), (0, .ref aR), (1, .int (nI j))]) hx hb dX5_brightnessAt_5 rfl hl (by decide) rfl (fun ls hl => ?_)
  refine lv_iload_n hx hb dX5_brightnessAt_6 rfl (lv_at hl 0 rfl) ?_
  refine lv_if_ne (tgt := 15) hx hb dX5_brightnessAt_7 (by decide) (fun c_7 => ?_) (fun c_7 => ?_)
  · refine lv_bipush (v := 24) hx hb dX5_brightnessAt_15 (by decide) ?_
    refine lv_iload_n hx hb dX5_brightnessAt_17 rfl (lv_at hl 0 rfl) ?_
    refine lv_idiv hx hb dX5_brightnessAt_18 c_7 ?_
    refine W.iret hx hb hrt (fun t ht hW => ⟨congrArg (fun x => Outcome.returned (some (Value.int x))) ?_, ht⟩) (fun _ h => by cases h) dX5_brightnessAt_19
    first | (rw [← ev]; exact (if_pos c_7).symm) | (rw [← ev]; exact (if_neg c_7).symm)
  · refine lv_bipush (v := 24) hx hb dX5_brightnessAt_10 (by decide) ?_
    refine lv_goto (tgt := 19) hx hb dX5_brightnessAt_12 (by decide) ?_
    refine W.iret hx hb hrt (fun t ht hW => ⟨congrArg (fun x => Outcome.returned (some (Value.int x))) ?_, ht⟩) (fun _ h => by cases h) dX5_brightnessAt_19
    first | (rw [← ev]; exact (if_pos c_7).symm) | (rw [← ev]; exact (if_neg c_7).symm)

set_option maxHeartbeats 4000000 in
set_option maxRecDepth 100000 in
theorem c_X5_countFrom (l : Launch) (Z : dzG) (G : dzW) (ad : dzA) (aR : Nat) (fc fr : Nat → Int32) (cc rr : Int32) (ha : ad (2, 0) = aR) (ho : G (2, 0) = some (eO 6 [.ref (ad (3, 0)), .ref (ad (5, 0)), .ref (ad (6, 0)), .ref (ad (7, 0))])) (hc : G (5, 0) = some (eI Z 484 fc)) (hr : G (6, 0) = some (eI Z 484 fr)) : dzRd l yX5_countFrom wsX5_countFrom 2 44 Z G ad [.ref aR, .int cc, .int rr] (some (.int (m_all (fun j => dz_b (fc j = cc ∧ fr j = rr)) 21))) := by
  refine Met.ofW (cc := cX5_countFrom) (maxL := 6) (ret := (some .int)) (by decide) rfl ?_
  intro p e s m args below meth c s₁ B hml hv
  obtain ⟨rfl, hG, hE⟩ := hv
  have hx := B.exec
  have hb := B.bytes
  have hrt := B.returns
  have hts := atoms_spec (ws := wsX5_countFrom) B.pre
  have hown : s.vm.findClass RX5 = some m.cls := findClass_of_methodNamed B.named
  have hlocks := B.notSynchronized
  have hS : va_S (dz_A Z) s.heap s.heap [] := va_S.rf
  have hl := lv_entry ([.ref aR, .int cc, .int rr]) (n := 6) (Nat.le_of_ble_eq_true rfl)
  rw [lg_entry_eq]
  generalize (lg_sl ([.ref aR, .int cc, .int rr]) ++ List.replicate (6 - (lg_sl ([.ref aR, .int cc, .int rr])).length) Slot.unset).toArray = ls at hl ⊢
  have hl : lv_has ls 6 [(0, .ref aR), (1, .int cc), (2, .int rr)] := hl
  refine lv_iconst (v := 0) hx hb dX5_countFrom_0 (by decide) ?_
  refine lv_istore_n (lv' := [(3, .int 0), (0, .ref aR), (1, .int cc), (2, .int rr)]) hx hb dX5_countFrom_1 rfl hl (by decide) rfl (fun ls hl => ?_)
  refine lv_bipush (v := (-10)) hx hb dX5_countFrom_2 (by decide) ?_
  refine lv_istore (lv' := [(4, .int (-10)), (3, .int 0), (0, .ref aR), (1, .int cc), (2, .int rr)]) hx hb dX5_countFrom_4 hl (by decide) rfl (fun ls hl => ?_)
  refine dz_lp (α := Nat × Array Slot) (fun a9 => (fun (a : Nat) (ls : Array Slot) => 21 - a) a9.1 a9.2) (fun a9 => (fun (a : Nat) (ls : Array Slot) => (a ≤ 21) ∧ lv_has ls 6 [(4, .int (nI a - 10)), (3, .int (m_all (fun j => dz_b (fc j = cc ∧ fr j = rr)) a)), (0, .ref aR), (1, .int cc), (2, .int rr)]) a9.1 a9.2) (fun a9 => F0 m 6 a9.2 []) (fun a9 hI ih_6 => ?_) (0, ls) ⟨(Nat.zero_le _), lv_sub hl [0, 1, 2, 3, 4] rfl⟩
  obtain ⟨a, ls⟩ := a9
  obtain ⟨hal, hl⟩ := hI
  have hal : a ≤ 21 := hal
  have hl : lv_has ls 6 [(4, .int (nI a - 10)), (3, .int (m_all (fun j => dz_b (fc j = cc ∧ fr j = rr)) a)), (0, .ref aR), (1, .int cc), (2, .int rr)] := hl
  refine lv_iload hx hb dX5_countFrom_6 (lv_at hl 0 rfl) ?_
  refine lv_bipush (v := 10) hx hb dX5_countFrom_8 (by decide) ?_
  refine lv_icmp_gt (tgt := 55) hx hb dX5_countFrom_10 (by decide) (fun c_10 => ?_) (fun c_10 => ?_)
  · have ha2 : a = 21 := (fl_gt a (by omega)).mp c_10
    refine lv_iload_n hx hb dX5_countFrom_55 rfl (lv_at hl 1 rfl) ?_
    refine W.iret hx hb hrt (fun t ht hW => ⟨congrArg (fun x => Outcome.returned (some (Value.int x))) ?_, ht⟩) (fun _ h => by cases h) dX5_countFrom_56
    rw [ha2]
  · have hal2 : a < 21 := by
      rcases Nat.lt_or_ge a 21 with q | q
      · exact q
      · exact absurd ((fl_gt a (by omega)).mpr (by omega)) c_10
    refine lv_bipush (v := (-10)) hx hb dX5_countFrom_13 (by decide) ?_
    refine lv_istore (lv' := [(5, .int (-10)), (4, .int (nI a - 10)), (3, .int (m_all (fun j => dz_b (fc j = cc ∧ fr j = rr)) a)), (0, .ref aR), (1, .int cc), (2, .int rr)]) hx hb dX5_countFrom_15 hl (by decide) rfl (fun ls hl => ?_)
    rw [m_r0 (fun j => dz_b (fc j = cc ∧ fr j = rr)) a] at hl
    refine dz_lp (α := Nat × Array Slot) (fun a9 => (fun (b : Nat) (ls : Array Slot) => 21 - b) a9.1 a9.2) (fun a9 => (fun (b : Nat) (ls : Array Slot) => (b ≤ 21) ∧ lv_has ls 6 [(5, .int (nI b - 10)), (4, .int (nI a - 10)), (3, .int (m_all (fun j => dz_b (fc j = cc ∧ fr j = rr)) a + m_row (fun j => dz_b (fc j = cc ∧ fr j = rr)) a b)), (0, .ref aR), (1, .int cc), (2, .int rr)]) a9.1 a9.2) (fun a9 => F0 m 17 a9.2 []) (fun a9 hI ih_17 => ?_) (0, ls) ⟨(Nat.zero_le _), lv_sub hl [0, 1, 2, 3, 4, 5] rfl⟩
    obtain ⟨b, ls⟩ := a9
    obtain ⟨hbl, hl⟩ := hI
    have hbl : b ≤ 21 := hbl
    have hl : lv_has ls 6 [(5, .int (nI b - 10)), (4, .int (nI a - 10)), (3, .int (m_all (fun j => dz_b (fc j = cc ∧ fr j = rr)) a + m_row (fun j => dz_b (fc j = cc ∧ fr j = rr)) a b)), (0, .ref aR), (1, .int cc), (2, .int rr)] := hl
    refine lv_iload hx hb dX5_countFrom_17 (lv_at hl 0 rfl) ?_
    refine lv_bipush (v := 10) hx hb dX5_countFrom_19 (by decide) ?_
    refine lv_icmp_gt (tgt := 49) hx hb dX5_countFrom_21 (by decide) (fun c_21 => ?_) (fun c_21 => ?_)
    · have hb2 : b = 21 := (fl_gt b (by omega)).mp c_21
      obtain ⟨v_1, ev_1⟩ : ∃ y : Int32, y = (nI a - 10) + 1 := ⟨_, rfl⟩
      refine lv_iinc (v := v_1) (lv' := [(4, .int v_1), (5, .int (nI b - 10)), (3, .int (m_all (fun j => dz_b (fc j = cc ∧ fr j = rr)) a + m_row (fun j => dz_b (fc j = cc ∧ fr j = rr)) a b)), (0, .ref aR), (1, .int cc), (2, .int rr)]) hx hb dX5_countFrom_49 hl (k := 1) rfl (by rw [ev_1]; rfl) (by decide) rfl (fun ls hl => ?_)
      refine lv_goto (tgt := 6) hx hb dX5_countFrom_52 (by decide) ?_
      obtain rfl : v_1 = nI (a + 1) - 10 := ev_1.trans (fl_sc a (by omega))
      rw [show (m_all (fun j => dz_b (fc j = cc ∧ fr j = rr)) a + m_row (fun j => dz_b (fc j = cc ∧ fr j = rr)) a b) = m_all (fun j => dz_b (fc j = cc ∧ fr j = rr)) (a + 1) from (by rw [hb2]; rfl)] at hl
      exact ih_6 (a + 1, ls) (by first | (dsimp only; omega) | omega) ⟨(by omega), lv_sub hl [0, 2, 3, 4, 5] rfl⟩
    · have hbl2 : b < 21 := by
        rcases Nat.lt_or_ge b 21 with q | q
        · exact q
        · exact absurd ((fl_gt b (by omega)).mpr (by omega)) c_21
      refine lv_aload_n hx hb dX5_countFrom_24 rfl (lv_at hl 3 rfl) ?_
      refine lv_iload hx hb dX5_countFrom_25 (lv_at hl 0 rfl) ?_
      refine lv_iload hx hb dX5_countFrom_27 (lv_at hl 1 rfl) ?_
      refine dz_kRi (va_runS (As := [_, _]) ⟨hx, hb, hml, hown, hts⟩ (c_X5_placeOf l Z _ _ _ _ ) (va_cwS 2 hts gX5_countFrom_X5_placeOf rfl rfl rfl (by decide +kernel) ⟨Nat.le_of_ble_eq_true rfl, Nat.le_of_ble_eq_true rfl⟩) (dz_P.pre hE hS hG) rfl rfl hl.1 rfl (lv_room (Nat.le_of_ble_eq_true rfl)) dX5_countFrom_29 ⟨Nat.le_of_ble_eq_true rfl, Nat.le_of_ble_eq_true rfl⟩) ?_
      refine lv_topi (fun v_2 ev_2 => ?_)
      obtain rfl : v_2 = nI (22 * a + b) := ev_2.trans (fl_pl a (by omega) b (by omega))
      refine lv_iload_n hx hb dX5_countFrom_32 rfl (lv_at hl 4 rfl) ?_
      refine lv_iload_n hx hb dX5_countFrom_33 rfl (lv_at hl 5 rfl) ?_
      refine dz_kRi (va_runV (As := [_, _, _]) ⟨hx, hb, hml, hown, hts⟩ (c_X5_comesFrom l Z _ _ _ _ _ _ _ _ ha ho hc hr (by omega)) (cwV 3 hts gX5_countFrom_X5_comesFrom rfl rfl rfl (by decide +kernel) ⟨Nat.le_of_ble_eq_true rfl, Nat.le_of_ble_eq_true rfl⟩) (dz_P.preV hE hS hG ho rfl ha) rfl rfl hl.1 rfl (lv_room (Nat.le_of_ble_eq_true rfl)) dX5_countFrom_34 ⟨Nat.le_of_ble_eq_true rfl, Nat.le_of_ble_eq_true rfl⟩) ?_
      refine lv_if_eq (tgt := 43) hx hb dX5_countFrom_37 (by decide) (fun c_37 => ?_) (fun c_37 => ?_)
      · obtain ⟨v_3, ev_3⟩ : ∃ y : Int32, y = (nI b - 10) + 1 := ⟨_, rfl⟩
        refine lv_iinc (v := v_3) (lv' := [(5, .int v_3), (4, .int (nI a - 10)), (3, .int (m_all (fun j => dz_b (fc j = cc ∧ fr j = rr)) a + m_row (fun j => dz_b (fc j = cc ∧ fr j = rr)) a b)), (0, .ref aR), (1, .int cc), (2, .int rr)]) hx hb dX5_countFrom_43 hl (k := 0) rfl (by rw [ev_3]; rfl) (by decide) rfl (fun ls hl => ?_)
        refine lv_goto (tgt := 17) hx hb dX5_countFrom_46 (by decide) ?_
        obtain rfl : v_3 = nI (b + 1) - 10 := ev_3.trans (fl_sc b (by omega))
        rw [show (m_all (fun j => dz_b (fc j = cc ∧ fr j = rr)) a + m_row (fun j => dz_b (fc j = cc ∧ fr j = rr)) a b) = m_all (fun j => dz_b (fc j = cc ∧ fr j = rr)) a + m_row (fun j => dz_b (fc j = cc ∧ fr j = rr)) a (b + 1) from (m_st0 (dz_b0 (dz_bx c_37)))] at hl
        exact ih_17 (b + 1, ls) (by first | (dsimp only; omega) | omega) ⟨(by omega), lv_sub hl [0, 1, 2, 3, 4, 5] rfl⟩
      · obtain ⟨v_4, ev_4⟩ : ∃ y : Int32, y = (m_all (fun j => dz_b (fc j = cc ∧ fr j = rr)) a + m_row (fun j => dz_b (fc j = cc ∧ fr j = rr)) a b) + 1 := ⟨_, rfl⟩
        refine lv_iinc (v := v_4) (lv' := [(3, .int v_4), (5, .int (nI b - 10)), (4, .int (nI a - 10)), (0, .ref aR), (1, .int cc), (2, .int rr)]) hx hb dX5_countFrom_40 hl (k := 2) rfl (by rw [ev_4]; rfl) (by decide) rfl (fun ls hl => ?_)
        obtain ⟨v_5, ev_5⟩ : ∃ y : Int32, y = (nI b - 10) + 1 := ⟨_, rfl⟩
        refine lv_iinc (v := v_5) (lv' := [(5, .int v_5), (3, .int v_4), (4, .int (nI a - 10)), (0, .ref aR), (1, .int cc), (2, .int rr)]) hx hb dX5_countFrom_43 hl (k := 1) rfl (by rw [ev_5]; rfl) (by decide) rfl (fun ls hl => ?_)
        refine lv_goto (tgt := 17) hx hb dX5_countFrom_46 (by decide) ?_
        obtain rfl : v_5 = nI (b + 1) - 10 := ev_5.trans (fl_sc b (by omega))
        obtain rfl : v_4 = m_all (fun j => dz_b (fc j = cc ∧ fr j = rr)) a + m_row (fun j => dz_b (fc j = cc ∧ fr j = rr)) a (b + 1) := ev_4.trans (m_st1 (dz_b1 (dz_by c_37)))
        exact ih_17 (b + 1, ls) (by first | (dsimp only; omega) | omega) ⟨(by omega), lv_sub hl [0, 2, 1, 3, 4, 5] rfl⟩

set_option maxHeartbeats 4000000 in
set_option maxRecDepth 100000 in
theorem c_X5_shotFrom (l : Launch) (Z : dzG) (G : dzW) (ad : dzA) (aR nm : Nat) (sh co ro st : Nat → Int32) (cc rr : Int32) (ha : ad (2, 0) = aR) (hR : dz_Rm Z G ad nm sh co ro st) (hN : nm ≤ 6) (hok : m_ok nm co ro) : dzRd l yX5_shotFrom wsX5_shotFrom 4 90 Z G ad [.ref aR, .int cc, .int rr] (some (.int (m_all (fun j => dz_b (m_pc j - m_bcol sh co ro st (m_pc j) (m_pr j) nm = cc ∧ m_pr j - m_brow sh co ro st (m_pc j) (m_pr j) nm = rr)) 21))) := by
  refine Met.ofW (cc := cX5_shotFrom) (maxL := 6) (ret := (some .int)) (by decide) rfl ?_
  intro p e s m args below meth c s₁ B hml hv
  obtain ⟨rfl, hG, hE⟩ := hv
  have hx := B.exec
  have hb := B.bytes
  have hrt := B.returns
  have hts := atoms_spec (ws := wsX5_shotFrom) B.pre
  have hown : s.vm.findClass RX5 = some m.cls := findClass_of_methodNamed B.named
  have hlocks := B.notSynchronized
  have hS : va_S (dz_A Z) s.heap s.heap [] := va_S.rf
  have hl := lv_entry ([.ref aR, .int cc, .int rr]) (n := 6) (Nat.le_of_ble_eq_true rfl)
  rw [lg_entry_eq]
  generalize (lg_sl ([.ref aR, .int cc, .int rr]) ++ List.replicate (6 - (lg_sl ([.ref aR, .int cc, .int rr])).length) Slot.unset).toArray = ls at hl ⊢
  have hl : lv_has ls 6 [(0, .ref aR), (1, .int cc), (2, .int rr)] := hl
  refine lv_iconst (v := 0) hx hb dX5_shotFrom_0 (by decide) ?_
  refine lv_istore_n (lv' := [(3, .int 0), (0, .ref aR), (1, .int cc), (2, .int rr)]) hx hb dX5_shotFrom_1 rfl hl (by decide) rfl (fun ls hl => ?_)
  refine lv_bipush (v := (-10)) hx hb dX5_shotFrom_2 (by decide) ?_
  refine lv_istore (lv' := [(4, .int (-10)), (3, .int 0), (0, .ref aR), (1, .int cc), (2, .int rr)]) hx hb dX5_shotFrom_4 hl (by decide) rfl (fun ls hl => ?_)
  refine dz_lp (α := Nat × Array Slot) (fun a9 => (fun (a : Nat) (ls : Array Slot) => 21 - a) a9.1 a9.2) (fun a9 => (fun (a : Nat) (ls : Array Slot) => (a ≤ 21) ∧ lv_has ls 6 [(4, .int (nI a - 10)), (3, .int (m_all (fun j => dz_b (m_pc j - m_bcol sh co ro st (m_pc j) (m_pr j) nm = cc ∧ m_pr j - m_brow sh co ro st (m_pc j) (m_pr j) nm = rr)) a)), (0, .ref aR), (1, .int cc), (2, .int rr)]) a9.1 a9.2) (fun a9 => F0 m 6 a9.2 []) (fun a9 hI ih_6 => ?_) (0, ls) ⟨(Nat.zero_le _), lv_sub hl [0, 1, 2, 3, 4] rfl⟩
  obtain ⟨a, ls⟩ := a9
  obtain ⟨hal, hl⟩ := hI
  have hal : a ≤ 21 := hal
  have hl : lv_has ls 6 [(4, .int (nI a - 10)), (3, .int (m_all (fun j => dz_b (m_pc j - m_bcol sh co ro st (m_pc j) (m_pr j) nm = cc ∧ m_pr j - m_brow sh co ro st (m_pc j) (m_pr j) nm = rr)) a)), (0, .ref aR), (1, .int cc), (2, .int rr)] := hl
  refine lv_iload hx hb dX5_shotFrom_6 (lv_at hl 0 rfl) ?_
  refine lv_bipush (v := 10) hx hb dX5_shotFrom_8 (by decide) ?_
  refine lv_icmp_gt (tgt := 69) hx hb dX5_shotFrom_10 (by decide) (fun c_10 => ?_) (fun c_10 => ?_)
  · have ha2 : a = 21 := (fl_gt a (by omega)).mp c_10
    refine lv_iload_n hx hb dX5_shotFrom_69 rfl (lv_at hl 1 rfl) ?_
    refine W.iret hx hb hrt (fun t ht hW => ⟨congrArg (fun x => Outcome.returned (some (Value.int x))) ?_, ht⟩) (fun _ h => by cases h) dX5_shotFrom_70
    rw [ha2]
  · have hal2 : a < 21 := by
      rcases Nat.lt_or_ge a 21 with q | q
      · exact q
      · exact absurd ((fl_gt a (by omega)).mpr (by omega)) c_10
    refine lv_bipush (v := (-10)) hx hb dX5_shotFrom_13 (by decide) ?_
    refine lv_istore (lv' := [(5, .int (-10)), (4, .int (nI a - 10)), (3, .int (m_all (fun j => dz_b (m_pc j - m_bcol sh co ro st (m_pc j) (m_pr j) nm = cc ∧ m_pr j - m_brow sh co ro st (m_pc j) (m_pr j) nm = rr)) a)), (0, .ref aR), (1, .int cc), (2, .int rr)]) hx hb dX5_shotFrom_15 hl (by decide) rfl (fun ls hl => ?_)
    rw [m_r0 (fun j => dz_b (m_pc j - m_bcol sh co ro st (m_pc j) (m_pr j) nm = cc ∧ m_pr j - m_brow sh co ro st (m_pc j) (m_pr j) nm = rr)) a] at hl
    refine dz_lp (α := Nat × Array Slot) (fun a9 => (fun (b : Nat) (ls : Array Slot) => 21 - b) a9.1 a9.2) (fun a9 => (fun (b : Nat) (ls : Array Slot) => (b ≤ 21) ∧ lv_has ls 6 [(5, .int (nI b - 10)), (4, .int (nI a - 10)), (3, .int (m_all (fun j => dz_b (m_pc j - m_bcol sh co ro st (m_pc j) (m_pr j) nm = cc ∧ m_pr j - m_brow sh co ro st (m_pc j) (m_pr j) nm = rr)) a + m_row (fun j => dz_b (m_pc j - m_bcol sh co ro st (m_pc j) (m_pr j) nm = cc ∧ m_pr j - m_brow sh co ro st (m_pc j) (m_pr j) nm = rr)) a b)), (0, .ref aR), (1, .int cc), (2, .int rr)]) a9.1 a9.2) (fun a9 => F0 m 17 a9.2 []) (fun a9 hI ih_17 => ?_) (0, ls) ⟨(Nat.zero_le _), lv_sub hl [0, 1, 2, 3, 4, 5] rfl⟩
    obtain ⟨b, ls⟩ := a9
    obtain ⟨hbl, hl⟩ := hI
    have hbl : b ≤ 21 := hbl
    have hl : lv_has ls 6 [(5, .int (nI b - 10)), (4, .int (nI a - 10)), (3, .int (m_all (fun j => dz_b (m_pc j - m_bcol sh co ro st (m_pc j) (m_pr j) nm = cc ∧ m_pr j - m_brow sh co ro st (m_pc j) (m_pr j) nm = rr)) a + m_row (fun j => dz_b (m_pc j - m_bcol sh co ro st (m_pc j) (m_pr j) nm = cc ∧ m_pr j - m_brow sh co ro st (m_pc j) (m_pr j) nm = rr)) a b)), (0, .ref aR), (1, .int cc), (2, .int rr)] := hl
    refine lv_iload hx hb dX5_shotFrom_17 (lv_at hl 0 rfl) ?_
    refine lv_bipush (v := 10) hx hb dX5_shotFrom_19 (by decide) ?_
    refine lv_icmp_gt (tgt := 63) hx hb dX5_shotFrom_21 (by decide) (fun c_21 => ?_) (fun c_21 => ?_)
    · have hb2 : b = 21 := (fl_gt b (by omega)).mp c_21
      obtain ⟨v_1, ev_1⟩ : ∃ y : Int32, y = (nI a - 10) + 1 := ⟨_, rfl⟩
      refine lv_iinc (v := v_1) (lv' := [(4, .int v_1), (5, .int (nI b - 10)), (3, .int (m_all (fun j => dz_b (m_pc j - m_bcol sh co ro st (m_pc j) (m_pr j) nm = cc ∧ m_pr j - m_brow sh co ro st (m_pc j) (m_pr j) nm = rr)) a + m_row (fun j => dz_b (m_pc j - m_bcol sh co ro st (m_pc j) (m_pr j) nm = cc ∧ m_pr j - m_brow sh co ro st (m_pc j) (m_pr j) nm = rr)) a b)), (0, .ref aR), (1, .int cc), (2, .int rr)]) hx hb dX5_shotFrom_63 hl (k := 1) rfl (by rw [ev_1]; rfl) (by decide) rfl (fun ls hl => ?_)
      refine lv_goto (tgt := 6) hx hb dX5_shotFrom_66 (by decide) ?_
      obtain rfl : v_1 = nI (a + 1) - 10 := ev_1.trans (fl_sc a (by omega))
      rw [show (m_all (fun j => dz_b (m_pc j - m_bcol sh co ro st (m_pc j) (m_pr j) nm = cc ∧ m_pr j - m_brow sh co ro st (m_pc j) (m_pr j) nm = rr)) a + m_row (fun j => dz_b (m_pc j - m_bcol sh co ro st (m_pc j) (m_pr j) nm = cc ∧ m_pr j - m_brow sh co ro st (m_pc j) (m_pr j) nm = rr)) a b) = m_all (fun j => dz_b (m_pc j - m_bcol sh co ro st (m_pc j) (m_pr j) nm = cc ∧ m_pr j - m_brow sh co ro st (m_pc j) (m_pr j) nm = rr)) (a + 1) from (by rw [hb2]; rfl)] at hl
      exact ih_6 (a + 1, ls) (by first | (dsimp only; omega) | omega) ⟨(by omega), lv_sub hl [0, 2, 3, 4, 5] rfl⟩
    · have hbl2 : b < 21 := by
        rcases Nat.lt_or_ge b 21 with q | q
        · exact q
        · exact absurd ((fl_gt b (by omega)).mpr (by omega)) c_21
      refine lv_iload hx hb dX5_shotFrom_24 (lv_at hl 0 rfl) ?_
      refine lv_aload_n hx hb dX5_shotFrom_26 rfl (lv_at hl 3 rfl) ?_
      refine lv_iload hx hb dX5_shotFrom_27 (lv_at hl 0 rfl) ?_
      refine lv_iload hx hb dX5_shotFrom_29 (lv_at hl 1 rfl) ?_
      refine dz_kRi (va_runV (As := [_, _]) ⟨hx, hb, hml, hown, hts⟩ (c_X5_bentInColumns l Z _ _ _ _ _ _ _ _ _ _ ha hR hN (m_dsn hok (by omega) (by omega))) (cwV 2 hts gX5_shotFrom_X5_bentInColumns rfl rfl rfl (by decide +kernel) ⟨Nat.le_of_ble_eq_true rfl, Nat.le_of_ble_eq_true rfl⟩) (dz_P.preV hE hS hG hR.1 rfl ha) rfl rfl hl.1 rfl (lv_room (Nat.le_of_ble_eq_true rfl)) dX5_shotFrom_31 ⟨Nat.le_of_ble_eq_true rfl, Nat.le_of_ble_eq_true rfl⟩) ?_
      refine lv_isub hx hb dX5_shotFrom_34 ?_
      refine lv_iload_n hx hb dX5_shotFrom_35 rfl (lv_at hl 4 rfl) ?_
      refine lv_icmp_ne (tgt := 57) hx hb dX5_shotFrom_36 (by decide) (fun c_36 => ?_) (fun c_36 => ?_)
      · obtain ⟨v_2, ev_2⟩ : ∃ y : Int32, y = (nI b - 10) + 1 := ⟨_, rfl⟩
        refine lv_iinc (v := v_2) (lv' := [(5, .int v_2), (4, .int (nI a - 10)), (3, .int (m_all (fun j => dz_b (m_pc j - m_bcol sh co ro st (m_pc j) (m_pr j) nm = cc ∧ m_pr j - m_brow sh co ro st (m_pc j) (m_pr j) nm = rr)) a + m_row (fun j => dz_b (m_pc j - m_bcol sh co ro st (m_pc j) (m_pr j) nm = cc ∧ m_pr j - m_brow sh co ro st (m_pc j) (m_pr j) nm = rr)) a b)), (0, .ref aR), (1, .int cc), (2, .int rr)]) hx hb dX5_shotFrom_57 hl (k := 0) rfl (by rw [ev_2]; rfl) (by decide) rfl (fun ls hl => ?_)
        refine lv_goto (tgt := 17) hx hb dX5_shotFrom_60 (by decide) ?_
        obtain rfl : v_2 = nI (b + 1) - 10 := ev_2.trans (fl_sc b (by omega))
        rw [show (m_all (fun j => dz_b (m_pc j - m_bcol sh co ro st (m_pc j) (m_pr j) nm = cc ∧ m_pr j - m_brow sh co ro st (m_pc j) (m_pr j) nm = rr)) a + m_row (fun j => dz_b (m_pc j - m_bcol sh co ro st (m_pc j) (m_pr j) nm = cc ∧ m_pr j - m_brow sh co ro st (m_pc j) (m_pr j) nm = rr)) a b) = m_all (fun j => dz_b (m_pc j - m_bcol sh co ro st (m_pc j) (m_pr j) nm = cc ∧ m_pr j - m_brow sh co ro st (m_pc j) (m_pr j) nm = rr)) a + m_row (fun j => dz_b (m_pc j - m_bcol sh co ro st (m_pc j) (m_pr j) nm = cc ∧ m_pr j - m_brow sh co ro st (m_pc j) (m_pr j) nm = rr)) a (b + 1) from (m_st0 (by show dz_b _ = 0; rw [fl_pc a (by omega) b (by omega), fl_pr a (by omega) b (by omega)]; first | exact dz_b0 (fun h => c_51 h.2) | exact dz_b0 (fun h => c_36 h.1)))] at hl
        exact ih_17 (b + 1, ls) (by first | (dsimp only; omega) | omega) ⟨(by omega), lv_sub hl [0, 1, 2, 3, 4, 5] rfl⟩
      · refine lv_iload hx hb dX5_shotFrom_39 (lv_at hl 1 rfl) ?_
        refine lv_aload_n hx hb dX5_shotFrom_41 rfl (lv_at hl 3 rfl) ?_
        refine lv_iload hx hb dX5_shotFrom_42 (lv_at hl 0 rfl) ?_
        refine lv_iload hx hb dX5_shotFrom_44 (lv_at hl 1 rfl) ?_
        refine dz_kRi (va_runV (As := [_, _]) ⟨hx, hb, hml, hown, hts⟩ (c_X5_bentInRows l Z _ _ _ _ _ _ _ _ _ _ ha hR hN (m_dsn hok (by omega) (by omega))) (cwV 2 hts gX5_shotFrom_X5_bentInRows rfl rfl rfl (by decide +kernel) ⟨Nat.le_of_ble_eq_true rfl, Nat.le_of_ble_eq_true rfl⟩) (dz_P.preV hE hS hG hR.1 rfl ha) rfl rfl hl.1 rfl (lv_room (Nat.le_of_ble_eq_true rfl)) dX5_shotFrom_46 ⟨Nat.le_of_ble_eq_true rfl, Nat.le_of_ble_eq_true rfl⟩) ?_
        refine lv_isub hx hb dX5_shotFrom_49 ?_
        refine lv_iload_n hx hb dX5_shotFrom_50 rfl (lv_at hl 5 rfl) ?_
        refine lv_icmp_ne (tgt := 57) hx hb dX5_shotFrom_51 (by decide) (fun c_51 => ?_) (fun c_51 => ?_)
        · obtain ⟨v_3, ev_3⟩ : ∃ y : Int32, y = (nI b - 10) + 1 := ⟨_, rfl⟩
          refine lv_iinc (v := v_3) (lv' := [(5, .int v_3), (4, .int (nI a - 10)), (3, .int (m_all (fun j => dz_b (m_pc j - m_bcol sh co ro st (m_pc j) (m_pr j) nm = cc ∧ m_pr j - m_brow sh co ro st (m_pc j) (m_pr j) nm = rr)) a + m_row (fun j => dz_b (m_pc j - m_bcol sh co ro st (m_pc j) (m_pr j) nm = cc ∧ m_pr j - m_brow sh co ro st (m_pc j) (m_pr j) nm = rr)) a b)), (0, .ref aR), (1, .int cc), (2, .int rr)]) hx hb dX5_shotFrom_57 hl (k := 0) rfl (by rw [ev_3]; rfl) (by decide) rfl (fun ls hl => ?_)
          refine lv_goto (tgt := 17) hx hb dX5_shotFrom_60 (by decide) ?_
          obtain rfl : v_3 = nI (b + 1) - 10 := ev_3.trans (fl_sc b (by omega))
          rw [show (m_all (fun j => dz_b (m_pc j - m_bcol sh co ro st (m_pc j) (m_pr j) nm = cc ∧ m_pr j - m_brow sh co ro st (m_pc j) (m_pr j) nm = rr)) a + m_row (fun j => dz_b (m_pc j - m_bcol sh co ro st (m_pc j) (m_pr j) nm = cc ∧ m_pr j - m_brow sh co ro st (m_pc j) (m_pr j) nm = rr)) a b) = m_all (fun j => dz_b (m_pc j - m_bcol sh co ro st (m_pc j) (m_pr j) nm = cc ∧ m_pr j - m_brow sh co ro st (m_pc j) (m_pr j) nm = rr)) a + m_row (fun j => dz_b (m_pc j - m_bcol sh co ro st (m_pc j) (m_pr j) nm = cc ∧ m_pr j - m_brow sh co ro st (m_pc j) (m_pr j) nm = rr)) a (b + 1) from (m_st0 (by show dz_b _ = 0; rw [fl_pc a (by omega) b (by omega), fl_pr a (by omega) b (by omega)]; first | exact dz_b0 (fun h => c_51 h.2) | exact dz_b0 (fun h => c_36 h.1)))] at hl
          exact ih_17 (b + 1, ls) (by first | (dsimp only; omega) | omega) ⟨(by omega), lv_sub hl [0, 1, 2, 3, 4, 5] rfl⟩
        · obtain ⟨v_4, ev_4⟩ : ∃ y : Int32, y = (m_all (fun j => dz_b (m_pc j - m_bcol sh co ro st (m_pc j) (m_pr j) nm = cc ∧ m_pr j - m_brow sh co ro st (m_pc j) (m_pr j) nm = rr)) a + m_row (fun j => dz_b (m_pc j - m_bcol sh co ro st (m_pc j) (m_pr j) nm = cc ∧ m_pr j - m_brow sh co ro st (m_pc j) (m_pr j) nm = rr)) a b) + 1 := ⟨_, rfl⟩
          refine lv_iinc (v := v_4) (lv' := [(3, .int v_4), (5, .int (nI b - 10)), (4, .int (nI a - 10)), (0, .ref aR), (1, .int cc), (2, .int rr)]) hx hb dX5_shotFrom_54 hl (k := 2) rfl (by rw [ev_4]; rfl) (by decide) rfl (fun ls hl => ?_)
          obtain ⟨v_5, ev_5⟩ : ∃ y : Int32, y = (nI b - 10) + 1 := ⟨_, rfl⟩
          refine lv_iinc (v := v_5) (lv' := [(5, .int v_5), (3, .int v_4), (4, .int (nI a - 10)), (0, .ref aR), (1, .int cc), (2, .int rr)]) hx hb dX5_shotFrom_57 hl (k := 1) rfl (by rw [ev_5]; rfl) (by decide) rfl (fun ls hl => ?_)
          refine lv_goto (tgt := 17) hx hb dX5_shotFrom_60 (by decide) ?_
          obtain rfl : v_5 = nI (b + 1) - 10 := ev_5.trans (fl_sc b (by omega))
          obtain rfl : v_4 = m_all (fun j => dz_b (m_pc j - m_bcol sh co ro st (m_pc j) (m_pr j) nm = cc ∧ m_pr j - m_brow sh co ro st (m_pc j) (m_pr j) nm = rr)) a + m_row (fun j => dz_b (m_pc j - m_bcol sh co ro st (m_pc j) (m_pr j) nm = cc ∧ m_pr j - m_brow sh co ro st (m_pc j) (m_pr j) nm = rr)) a (b + 1) := ev_4.trans (m_st1 (by show dz_b _ = 1; rw [fl_pc a (by omega) b (by omega), fl_pr a (by omega) b (by omega)]; exact dz_b1 ⟨c_36, c_51⟩))
          exact ih_17 (b + 1, ls) (by first | (dsimp only; omega) | omega) ⟨(by omega), lv_sub hl [0, 2, 1, 3, 4, 5] rfl⟩

set_option maxHeartbeats 4000000 in
set_option maxRecDepth 100000 in
theorem c_X5_countFromBeyond (l : Launch) (Z : dzG) (G : dzW) (ad : dzA) (aR : Nat) (fc fr : Nat → Int32) (ha : ad (2, 0) = aR) (ho : G (2, 0) = some (eO 6 [.ref (ad (3, 0)), .ref (ad (5, 0)), .ref (ad (6, 0)), .ref (ad (7, 0))])) (hc : G (5, 0) = some (eI Z 484 fc)) (hr : G (6, 0) = some (eI Z 484 fr)) : dzRd l yX5_countFromBeyond wsX5_countFromBeyond 2 43 Z G ad [.ref aR] (some (.int (m_all (fun j => dz_b (¬ (((-10) ≤ fc j ∧ fc j ≤ 10) ∧ ((-10) ≤ fr j ∧ fr j ≤ 10)))) 21))) := by
  refine Met.ofW (cc := cX5_countFromBeyond) (maxL := 5) (ret := (some .int)) (by decide) rfl ?_
  intro p e s m args below meth c s₁ B hml hv
  obtain ⟨rfl, hG, hE⟩ := hv
  have hx := B.exec
  have hb := B.bytes
  have hrt := B.returns
  have hts := atoms_spec (ws := wsX5_countFromBeyond) B.pre
  have hown : s.vm.findClass RX5 = some m.cls := findClass_of_methodNamed B.named
  have hlocks := B.notSynchronized
  have hS : va_S (dz_A Z) s.heap s.heap [] := va_S.rf
  have hl := lv_entry ([.ref aR]) (n := 5) (Nat.le_of_ble_eq_true rfl)
  rw [lg_entry_eq]
  generalize (lg_sl ([.ref aR]) ++ List.replicate (5 - (lg_sl ([.ref aR])).length) Slot.unset).toArray = ls at hl ⊢
  have hl : lv_has ls 5 [(0, .ref aR)] := hl
  refine lv_iconst (v := 0) hx hb dX5_countFromBeyond_0 (by decide) ?_
  refine lv_istore_n (lv' := [(1, .int 0), (0, .ref aR)]) hx hb dX5_countFromBeyond_1 rfl hl (by decide) rfl (fun ls hl => ?_)
  refine lv_bipush (v := (-10)) hx hb dX5_countFromBeyond_2 (by decide) ?_
  refine lv_istore_n (lv' := [(2, .int (-10)), (1, .int 0), (0, .ref aR)]) hx hb dX5_countFromBeyond_4 rfl hl (by decide) rfl (fun ls hl => ?_)
  refine dz_lp (α := Nat × Array Slot) (fun a9 => (fun (a : Nat) (ls : Array Slot) => 21 - a) a9.1 a9.2) (fun a9 => (fun (a : Nat) (ls : Array Slot) => (a ≤ 21) ∧ lv_has ls 5 [(2, .int (nI a - 10)), (1, .int (m_all (fun j => dz_b (¬ (((-10) ≤ fc j ∧ fc j ≤ 10) ∧ ((-10) ≤ fr j ∧ fr j ≤ 10)))) a)), (0, .ref aR)]) a9.1 a9.2) (fun a9 => F0 m 5 a9.2 []) (fun a9 hI ih_5 => ?_) (0, ls) ⟨(Nat.zero_le _), lv_sub hl [0, 1, 2] rfl⟩
  obtain ⟨a, ls⟩ := a9
  obtain ⟨hal, hl⟩ := hI
  have hal : a ≤ 21 := hal
  have hl : lv_has ls 5 [(2, .int (nI a - 10)), (1, .int (m_all (fun j => dz_b (¬ (((-10) ≤ fc j ∧ fc j ≤ 10) ∧ ((-10) ≤ fr j ∧ fr j ≤ 10)))) a)), (0, .ref aR)] := hl
  refine lv_iload_n hx hb dX5_countFromBeyond_5 rfl (lv_at hl 0 rfl) ?_
  refine lv_bipush (v := 10) hx hb dX5_countFromBeyond_6 (by decide) ?_
  refine lv_icmp_gt (tgt := 60) hx hb dX5_countFromBeyond_8 (by decide) (fun c_8 => ?_) (fun c_8 => ?_)
  · have ha2 : a = 21 := (fl_gt a (by omega)).mp c_8
    refine lv_iload_n hx hb dX5_countFromBeyond_60 rfl (lv_at hl 1 rfl) ?_
    refine W.iret hx hb hrt (fun t ht hW => ⟨congrArg (fun x => Outcome.returned (some (Value.int x))) ?_, ht⟩) (fun _ h => by cases h) dX5_countFromBeyond_61
    rw [ha2]
  · have hal2 : a < 21 := by
      rcases Nat.lt_or_ge a 21 with q | q
      · exact q
      · exact absurd ((fl_gt a (by omega)).mpr (by omega)) c_8
    refine lv_bipush (v := (-10)) hx hb dX5_countFromBeyond_11 (by decide) ?_
    refine lv_istore_n (lv' := [(3, .int (-10)), (2, .int (nI a - 10)), (1, .int (m_all (fun j => dz_b (¬ (((-10) ≤ fc j ∧ fc j ≤ 10) ∧ ((-10) ≤ fr j ∧ fr j ≤ 10)))) a)), (0, .ref aR)]) hx hb dX5_countFromBeyond_13 rfl hl (by decide) rfl (fun ls hl => ?_)
    rw [m_r0 (fun j => dz_b (¬ (((-10) ≤ fc j ∧ fc j ≤ 10) ∧ ((-10) ≤ fr j ∧ fr j ≤ 10)))) a] at hl
    refine dz_lp (α := Nat × Array Slot) (fun a9 => (fun (b : Nat) (ls : Array Slot) => 21 - b) a9.1 a9.2) (fun a9 => (fun (b : Nat) (ls : Array Slot) => (b ≤ 21) ∧ lv_has ls 5 [(3, .int (nI b - 10)), (2, .int (nI a - 10)), (1, .int (m_all (fun j => dz_b (¬ (((-10) ≤ fc j ∧ fc j ≤ 10) ∧ ((-10) ≤ fr j ∧ fr j ≤ 10)))) a + m_row (fun j => dz_b (¬ (((-10) ≤ fc j ∧ fc j ≤ 10) ∧ ((-10) ≤ fr j ∧ fr j ≤ 10)))) a b)), (0, .ref aR)]) a9.1 a9.2) (fun a9 => F0 m 14 a9.2 []) (fun a9 hI ih_14 => ?_) (0, ls) ⟨(Nat.zero_le _), lv_sub hl [0, 1, 2, 3] rfl⟩
    obtain ⟨b, ls⟩ := a9
    obtain ⟨hbl, hl⟩ := hI
    have hbl : b ≤ 21 := hbl
    have hl : lv_has ls 5 [(3, .int (nI b - 10)), (2, .int (nI a - 10)), (1, .int (m_all (fun j => dz_b (¬ (((-10) ≤ fc j ∧ fc j ≤ 10) ∧ ((-10) ≤ fr j ∧ fr j ≤ 10)))) a + m_row (fun j => dz_b (¬ (((-10) ≤ fc j ∧ fc j ≤ 10) ∧ ((-10) ≤ fr j ∧ fr j ≤ 10)))) a b)), (0, .ref aR)] := hl
    refine lv_iload_n hx hb dX5_countFromBeyond_14 rfl (lv_at hl 0 rfl) ?_
    refine lv_bipush (v := 10) hx hb dX5_countFromBeyond_15 (by decide) ?_
    refine lv_icmp_gt (tgt := 54) hx hb dX5_countFromBeyond_17 (by decide) (fun c_17 => ?_) (fun c_17 => ?_)
    · have hb2 : b = 21 := (fl_gt b (by omega)).mp c_17
      obtain ⟨v_1, ev_1⟩ : ∃ y : Int32, y = (nI a - 10) + 1 := ⟨_, rfl⟩
      refine lv_iinc (v := v_1) (lv' := [(2, .int v_1), (3, .int (nI b - 10)), (1, .int (m_all (fun j => dz_b (¬ (((-10) ≤ fc j ∧ fc j ≤ 10) ∧ ((-10) ≤ fr j ∧ fr j ≤ 10)))) a + m_row (fun j => dz_b (¬ (((-10) ≤ fc j ∧ fc j ≤ 10) ∧ ((-10) ≤ fr j ∧ fr j ≤ 10)))) a b)), (0, .ref aR)]) hx hb dX5_countFromBeyond_54 hl (k := 1) rfl (by rw [ev_1]; rfl) (by decide) rfl (fun ls hl => ?_)
      refine lv_goto (tgt := 5) hx hb dX5_countFromBeyond_57 (by decide) ?_
      obtain rfl : v_1 = nI (a + 1) - 10 := ev_1.trans (fl_sc a (by omega))
      rw [show (m_all (fun j => dz_b (¬ (((-10) ≤ fc j ∧ fc j ≤ 10) ∧ ((-10) ≤ fr j ∧ fr j ≤ 10)))) a + m_row (fun j => dz_b (¬ (((-10) ≤ fc j ∧ fc j ≤ 10) ∧ ((-10) ≤ fr j ∧ fr j ≤ 10)))) a b) = m_all (fun j => dz_b (¬ (((-10) ≤ fc j ∧ fc j ≤ 10) ∧ ((-10) ≤ fr j ∧ fr j ≤ 10)))) (a + 1) from (by rw [hb2]; rfl)] at hl
      exact ih_5 (a + 1, ls) (by first | (dsimp only; omega) | omega) ⟨(by omega), lv_sub hl [0, 2, 3] rfl⟩
    · have hbl2 : b < 21 := by
        rcases Nat.lt_or_ge b 21 with q | q
        · exact q
        · exact absurd ((fl_gt b (by omega)).mpr (by omega)) c_17
      refine lv_iload_n hx hb dX5_countFromBeyond_20 rfl (lv_at hl 0 rfl) ?_
      refine lv_iload_n hx hb dX5_countFromBeyond_21 rfl (lv_at hl 1 rfl) ?_
      refine dz_kRi (va_runS (As := [_, _]) ⟨hx, hb, hml, hown, hts⟩ (c_X5_placeOf l Z _ _ _ _ ) (va_cwS 2 hts gX5_countFromBeyond_X5_placeOf rfl rfl rfl (by decide +kernel) ⟨Nat.le_of_ble_eq_true rfl, Nat.le_of_ble_eq_true rfl⟩) (dz_P.pre hE hS hG) rfl rfl hl.1 rfl (lv_room (Nat.le_of_ble_eq_true rfl)) dX5_countFromBeyond_22 ⟨Nat.le_of_ble_eq_true rfl, Nat.le_of_ble_eq_true rfl⟩) ?_
      refine lv_topi (fun v_2 ev_2 => ?_)
      obtain rfl : v_2 = nI (22 * a + b) := ev_2.trans (fl_pl a (by omega) b (by omega))
      refine lv_istore (lv' := [(4, .int (nI (22 * a + b))), (3, .int (nI b - 10)), (2, .int (nI a - 10)), (1, .int (m_all (fun j => dz_b (¬ (((-10) ≤ fc j ∧ fc j ≤ 10) ∧ ((-10) ≤ fr j ∧ fr j ≤ 10)))) a + m_row (fun j => dz_b (¬ (((-10) ≤ fc j ∧ fc j ≤ 10) ∧ ((-10) ≤ fr j ∧ fr j ≤ 10)))) a b)), (0, .ref aR)]) hx hb dX5_countFromBeyond_25 hl (by decide) rfl (fun ls hl => ?_)
      refine lv_aload_n hx hb dX5_countFromBeyond_27 rfl (lv_at hl 4 rfl) ?_
      refine lv_iload hx hb dX5_countFromBeyond_28 (lv_at hl 0 rfl) ?_
      refine dz_kRi (va_runV (As := [_]) ⟨hx, hb, hml, hown, hts⟩ (c_X5_comesFromColumn l Z _ _ _ _ _ ha ho hc (by omega)) (cwV 1 hts gX5_countFromBeyond_X5_comesFromColumn rfl rfl rfl (by decide +kernel) ⟨Nat.le_of_ble_eq_true rfl, Nat.le_of_ble_eq_true rfl⟩) (dz_P.preV hE hS hG ho rfl ha) rfl rfl hl.1 rfl (lv_room (Nat.le_of_ble_eq_true rfl)) dX5_countFromBeyond_30 ⟨Nat.le_of_ble_eq_true rfl, Nat.le_of_ble_eq_true rfl⟩) ?_
      refine lv_aload_n hx hb dX5_countFromBeyond_33 rfl (lv_at hl 4 rfl) ?_
      refine lv_iload hx hb dX5_countFromBeyond_34 (lv_at hl 0 rfl) ?_
      refine dz_kRi (va_runV (As := [_]) ⟨hx, hb, hml, hown, hts⟩ (c_X5_comesFromRow l Z _ _ _ _ _ _ ha ho hc hr (by omega)) (cwV 1 hts gX5_countFromBeyond_X5_comesFromRow rfl rfl rfl (by decide +kernel) ⟨Nat.le_of_ble_eq_true rfl, Nat.le_of_ble_eq_true rfl⟩) (dz_P.preV hE hS hG ho rfl ha) rfl rfl hl.1 rfl (lv_room (Nat.le_of_ble_eq_true rfl)) dX5_countFromBeyond_36 ⟨Nat.le_of_ble_eq_true rfl, Nat.le_of_ble_eq_true rfl⟩) ?_
      refine dz_kRi (va_runSN (As := [_, _]) ⟨hx, hb, hml, hown, hts⟩ (c_X8_isInField l Z _ _ _ _ ) ⟨va_cnB (host := "Delaylens") 2 hts gX5_countFromBeyond_X8_isInField_n67 rfl rfl rfl (hE.2.2.2.2.2.2.2.1 _ (by decide +kernel)) (hts _ (List.mem_of_getElem? (i := 20) rfl)) (by decide +kernel) ⟨Nat.le_of_ble_eq_true rfl, Nat.le_of_ble_eq_true rfl⟩, (hts _ (List.mem_of_getElem? (i := 19) rfl)), trivial⟩ (dz_P.pre hE hS hG) rfl rfl hl.1 rfl (lv_room (Nat.le_of_ble_eq_true rfl)) dX5_countFromBeyond_39 ⟨Nat.le_of_ble_eq_true rfl, Nat.le_of_ble_eq_true rfl⟩) ?_
      refine lv_if_ne (tgt := 48) hx hb dX5_countFromBeyond_42 (by decide) (fun c_42 => ?_) (fun c_42 => ?_)
      · obtain ⟨v_3, ev_3⟩ : ∃ y : Int32, y = (nI b - 10) + 1 := ⟨_, rfl⟩
        refine lv_iinc (v := v_3) (lv' := [(3, .int v_3), (4, .int (nI (22 * a + b))), (2, .int (nI a - 10)), (1, .int (m_all (fun j => dz_b (¬ (((-10) ≤ fc j ∧ fc j ≤ 10) ∧ ((-10) ≤ fr j ∧ fr j ≤ 10)))) a + m_row (fun j => dz_b (¬ (((-10) ≤ fc j ∧ fc j ≤ 10) ∧ ((-10) ≤ fr j ∧ fr j ≤ 10)))) a b)), (0, .ref aR)]) hx hb dX5_countFromBeyond_48 hl (k := 1) rfl (by rw [ev_3]; rfl) (by decide) rfl (fun ls hl => ?_)
        refine lv_goto (tgt := 14) hx hb dX5_countFromBeyond_51 (by decide) ?_
        obtain rfl : v_3 = nI (b + 1) - 10 := ev_3.trans (fl_sc b (by omega))
        rw [show (m_all (fun j => dz_b (¬ (((-10) ≤ fc j ∧ fc j ≤ 10) ∧ ((-10) ≤ fr j ∧ fr j ≤ 10)))) a + m_row (fun j => dz_b (¬ (((-10) ≤ fc j ∧ fc j ≤ 10) ∧ ((-10) ≤ fr j ∧ fr j ≤ 10)))) a b) = m_all (fun j => dz_b (¬ (((-10) ≤ fc j ∧ fc j ≤ 10) ∧ ((-10) ≤ fr j ∧ fr j ≤ 10)))) a + m_row (fun j => dz_b (¬ (((-10) ≤ fc j ∧ fc j ≤ 10) ∧ ((-10) ≤ fr j ∧ fr j ≤ 10)))) a (b + 1) from (m_st0 (dz_b0 (fun h => h (dz_by c_42))))] at hl
        exact ih_14 (b + 1, ls) (by first | (dsimp only; omega) | omega) ⟨(by omega), lv_sub hl [0, 2, 3, 4] rfl⟩
      · obtain ⟨v_4, ev_4⟩ : ∃ y : Int32, y = (m_all (fun j => dz_b (¬ (((-10) ≤ fc j ∧ fc j ≤ 10) ∧ ((-10) ≤ fr j ∧ fr j ≤ 10)))) a + m_row (fun j => dz_b (¬ (((-10) ≤ fc j ∧ fc j ≤ 10) ∧ ((-10) ≤ fr j ∧ fr j ≤ 10)))) a b) + 1 := ⟨_, rfl⟩
        refine lv_iinc (v := v_4) (lv' := [(1, .int v_4), (4, .int (nI (22 * a + b))), (3, .int (nI b - 10)), (2, .int (nI a - 10)), (0, .ref aR)]) hx hb dX5_countFromBeyond_45 hl (k := 3) rfl (by rw [ev_4]; rfl) (by decide) rfl (fun ls hl => ?_)
        obtain ⟨v_5, ev_5⟩ : ∃ y : Int32, y = (nI b - 10) + 1 := ⟨_, rfl⟩
        refine lv_iinc (v := v_5) (lv' := [(3, .int v_5), (1, .int v_4), (4, .int (nI (22 * a + b))), (2, .int (nI a - 10)), (0, .ref aR)]) hx hb dX5_countFromBeyond_48 hl (k := 2) rfl (by rw [ev_5]; rfl) (by decide) rfl (fun ls hl => ?_)
        refine lv_goto (tgt := 14) hx hb dX5_countFromBeyond_51 (by decide) ?_
        obtain rfl : v_5 = nI (b + 1) - 10 := ev_5.trans (fl_sc b (by omega))
        obtain rfl : v_4 = m_all (fun j => dz_b (¬ (((-10) ≤ fc j ∧ fc j ≤ 10) ∧ ((-10) ≤ fr j ∧ fr j ≤ 10)))) a + m_row (fun j => dz_b (¬ (((-10) ≤ fc j ∧ fc j ≤ 10) ∧ ((-10) ≤ fr j ∧ fr j ≤ 10)))) a (b + 1) := ev_4.trans (m_st1 (dz_b1 (dz_bx c_42)))
        exact ih_14 (b + 1, ls) (by first | (dsimp only; omega) | omega) ⟨(by omega), lv_sub hl [0, 3, 1, 4] rfl⟩
