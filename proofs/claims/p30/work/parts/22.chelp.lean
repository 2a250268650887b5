set_option maxHeartbeats 4000000 in
set_option maxRecDepth 100000 in
theorem c_X8_isSeason (l : Launch) (Z : dzG) (G : dzW) (ad : dzA) (aX nl nx : Nat) (dy ssf sst cfr grw : Int32) (ha : ad (1, 0) = aX) (hco : G (1, 0) = some (eO 9 [.ref (ad (2, 0)), .ref (ad (9, 0)), .int (nI nl), .int (nI nx), .ref (ad (19, 0)), .ref (ad (26, 0)), .int dy, .int ssf, .int sst, .int cfr, .int grw])) : dzRd l yX8_isSeason wsX8_isSeason 1 22 Z G ad [.ref aX] (some (.int (dz_b (ssf ≤ dy - dy / 100 * 100 ∧ dy - dy / 100 * 100 ≤ sst)))) := by
  refine Met.ofW (cc := cX8_isSeason) (maxL := 1) (ret := (some .boolean)) (by decide) rfl ?_
  intro p e s m args below meth c s₁ B hml hv
  obtain ⟨rfl, hG, hE⟩ := hv
  have hx := B.exec
  have hb := B.bytes
  have hrt := B.returns
  have hts := atoms_spec (ws := wsX8_isSeason) B.pre
  have hown : s.vm.findClass RX8 = some m.cls := findClass_of_methodNamed B.named
  have hlocks := B.notSynchronized
  have hS : va_S (dz_A Z) s.heap s.heap [] := va_S.rf
  have hl := lv_entry ([.ref aX]) (n := 1) (Nat.le_of_ble_eq_true rfl)
  rw [lg_entry_eq]
  generalize (lg_sl ([.ref aX]) ++ List.replicate (1 - (lg_sl ([.ref aX])).length) Slot.unset).toArray = ls at hl ⊢
  have hl : lv_has ls 1 [(0, .ref aX)] := hl
  refine lv_aload_n hx hb dX8_isSeason_0 rfl (lv_at hl 0 rfl) ?_
  refine dz_get hx hb hts (fun _ h => List.mem_cons_of_mem _ (List.mem_append_right _ h)) hown hE hG ha hco rfl 6 (by decide) (hts _ (List.mem_of_getElem? (i := 1) rfl)) (fun _ h9 => h9) rfl dX8_isSeason_1 ?_
  refine lv_bipush (v := 100) hx hb dX8_isSeason_4 (by decide) ?_
  refine lv_irem hx hb dX8_isSeason_6 (by decide) ?_
  refine lv_aload_n hx hb dX8_isSeason_7 rfl (lv_at hl 0 rfl) ?_
  refine dz_get hx hb hts (fun _ h => List.mem_cons_of_mem _ (List.mem_append_right _ h)) hown hE hG ha hco rfl 7 (by decide) (hts _ (List.mem_of_getElem? (i := 2) rfl)) (fun _ h9 => h9) rfl dX8_isSeason_8 ?_
  refine lv_aload_n hx hb dX8_isSeason_11 rfl (lv_at hl 0 rfl) ?_
  refine dz_get hx hb hts (fun _ h => List.mem_cons_of_mem _ (List.mem_append_right _ h)) hown hE hG ha hco rfl 8 (by decide) (hts _ (List.mem_of_getElem? (i := 3) rfl)) (fun _ h9 => h9) rfl dX8_isSeason_12 ?_
  refine dz_kRi (va_runS (As := [_, _, _]) ⟨hx, hb, hml, hown, hts⟩ (c_X8_isWithin l Z _ _ _ _ _ ) (va_cwS 3 hts gX8_isSeason_X8_isWithin rfl rfl rfl (by decide +kernel) ⟨Nat.le_of_ble_eq_true rfl, Nat.le_of_ble_eq_true rfl⟩) (dz_P.pre hE hS hG) rfl rfl hl.1 rfl (lv_room (Nat.le_of_ble_eq_true rfl)) dX8_isSeason_15 ⟨Nat.le_of_ble_eq_true rfl, Nat.le_of_ble_eq_true rfl⟩) ?_
  refine W.zret hx hb hrt dz_bn (fun t ht hW => ⟨congrArg (fun x => Outcome.returned (some (Value.int x))) ?_, ht⟩) (fun _ h => by cases h) dX8_isSeason_18
  rfl

set_option maxHeartbeats 4000000 in
set_option maxRecDepth 100000 in
theorem c_sourceOut (l : Launch) (Z : dzG) (G : dzW) (ad : dzA) (aX nl nx : Nat) (dy ssf sst cfr grw : Int32) (ns : Nat) (v : Int32) (ha : ad (1, 0) = aX) (hco : G (1, 0) = some (eO 9 [.ref (ad (2, 0)), .ref (ad (9, 0)), .int (nI nl), .int (nI nx), .ref (ad (19, 0)), .ref (ad (26, 0)), .int dy, .int ssf, .int sst, .int cfr, .int grw])) (hls : dz_L Z G ad (9, 0) (10, 0) ns (fun i => ad (11, i))) (hv : v < 0 ∨ nI ns ≤ v) : dzRd l yX8_sourceAt wsX8_sourceAt 1 20 Z G ad [.ref aX, .int v] (some .null) := by
  refine Met.ofW (cc := cX8_sourceAt) (maxL := 2) (ret := (some (.object "Delaylens$Source"))) (by decide) rfl ?_
  intro p e s m args below meth c s₁ B hml hv
  obtain ⟨rfl, hG, hE⟩ := hv
  have hx := B.exec
  have hb := B.bytes
  have hrt := B.returns
  have hts := atoms_spec (ws := wsX8_sourceAt) B.pre
  have hown : s.vm.findClass RX8 = some m.cls := findClass_of_methodNamed B.named
  have hlocks := B.notSynchronized
  have hS : va_S (dz_A Z) s.heap s.heap [] := va_S.rf
  have hl := lv_entry ([.ref aX, .int v]) (n := 2) (Nat.le_of_ble_eq_true rfl)
  rw [lg_entry_eq]
  generalize (lg_sl ([.ref aX, .int v]) ++ List.replicate (2 - (lg_sl ([.ref aX, .int v])).length) Slot.unset).toArray = ls at hl ⊢
  have hl : lv_has ls 2 [(0, .ref aX), (1, .int v)] := hl
  refine lv_iload_n hx hb dX8_sourceAt_0 rfl (lv_at hl 1 rfl) ?_
  refine lv_if_lt (tgt := 29) hx hb dX8_sourceAt_1 (by decide) (fun c_1 => ?_) (fun c_1 => ?_)
  · refine lv_null hx hb dX8_sourceAt_29 ?_
    refine W.aret hx hb hrt (Or.inl ⟨_, rfl⟩) (Or.inl rfl) (fun t ht hW => ⟨congrArg (fun x => Outcome.returned (some x)) ?_, ht⟩) (fun _ h => by cases h) dX8_sourceAt_30
    rfl
  · refine lv_iload_n hx hb dX8_sourceAt_4 rfl (lv_at hl 1 rfl) ?_
    refine lv_aload_n hx hb dX8_sourceAt_5 rfl (lv_at hl 0 rfl) ?_
    refine dz_get hx hb hts (fun _ h => List.mem_cons_of_mem _ (List.mem_append_left _ (List.mem_append_right _ h))) hown hE hG ha hco rfl 1 (by decide) (hts _ (List.mem_of_getElem? (i := 1) rfl)) (fun _ h9 => h9) rfl dX8_sourceAt_6 ?_
    refine dz_kRi (va_runV (As := []) ⟨hx, hb, hml, hown, hts⟩ (c_Jx4a65c_size_8abf5 l Z _ _ _ _ _ _ _ rfl hls) (cwV 0 hts gX8_sourceAt_Jx4a65c_size_8abf5 rfl rfl rfl (by decide +kernel) ⟨Nat.le_of_ble_eq_true rfl, Nat.le_of_ble_eq_true rfl⟩) (dz_P.preL hE hS hG hls rfl) rfl rfl hl.1 rfl (lv_room (Nat.le_of_ble_eq_true rfl)) dX8_sourceAt_9 ⟨Nat.le_of_ble_eq_true rfl, Nat.le_of_ble_eq_true rfl⟩) ?_
    refine lv_icmp_ge (tgt := 29) hx hb dX8_sourceAt_12 (by decide) (fun c_12 => ?_) (fun c_12 => absurd (hv.resolve_left c_1) c_12)
    refine lv_null hx hb dX8_sourceAt_29 ?_
    refine W.aret hx hb hrt (Or.inl ⟨_, rfl⟩) (Or.inl rfl) (fun t ht hW => ⟨congrArg (fun x => Outcome.returned (some x)) ?_, ht⟩) (fun _ h => by cases h) dX8_sourceAt_30
    rfl

set_option maxHeartbeats 4000000 in
set_option maxRecDepth 100000 in
theorem c_sourceIn (l : Launch) (Z : dzG) (G : dzW) (ad : dzA) (aX nl nx : Nat) (dy ssf sst cfr grw : Int32) (ns sc : Nat) (cnt : Nat → Nat) (col row fl : Nat → Int32) (ha : ad (1, 0) = aX) (hco : G (1, 0) = some (eO 9 [.ref (ad (2, 0)), .ref (ad (9, 0)), .int (nI nl), .int (nI nx), .ref (ad (19, 0)), .ref (ad (26, 0)), .int dy, .int ssf, .int sst, .int cfr, .int grw])) (hls : dz_L Z G ad (9, 0) (10, 0) ns (fun i => ad (11, i))) (hsc : sc < ns) (hns : ns ≤ 5) (hso : G (11, sc) = some (eO 7 [.int (col sc), .int (row sc), .int (fl sc), .ref (ad (12, sc)), .int (nI (cnt sc)), .ref (ad (13, sc)), .ref (ad (15, sc))])) : dzRd l yX8_sourceAt wsX8_sourceAt 3 64 Z G ad [.ref aX, .int (nI sc)] (some (.ref (ad (11, sc)))) := by
  refine Met.ofW (cc := cX8_sourceAt) (maxL := 2) (ret := (some (.object "Delaylens$Source"))) (by decide) rfl ?_
  intro p e s m args below meth c s₁ B hml hv
  obtain ⟨rfl, hG, hE⟩ := hv
  have hx := B.exec
  have hb := B.bytes
  have hrt := B.returns
  have hts := atoms_spec (ws := wsX8_sourceAt) B.pre
  have hown : s.vm.findClass RX8 = some m.cls := findClass_of_methodNamed B.named
  have hlocks := B.notSynchronized
  have hS : va_S (dz_A Z) s.heap s.heap [] := va_S.rf
  have hl := lv_entry ([.ref aX, .int (nI sc)]) (n := 2) (Nat.le_of_ble_eq_true rfl)
  rw [lg_entry_eq]
  generalize (lg_sl ([.ref aX, .int (nI sc)]) ++ List.replicate (2 - (lg_sl ([.ref aX, .int (nI sc)])).length) Slot.unset).toArray = ls at hl ⊢
  have hl : lv_has ls 2 [(0, .ref aX), (1, .int (nI sc))] := hl
  refine lv_iload_n hx hb dX8_sourceAt_0 rfl (lv_at hl 1 rfl) ?_
  refine lv_if_lt (tgt := 29) hx hb dX8_sourceAt_1 (by decide) (fun c_1 => absurd c_1 (nI_pos (by omega))) (fun c_1 => ?_)
  refine lv_iload_n hx hb dX8_sourceAt_4 rfl (lv_at hl 1 rfl) ?_
  refine lv_aload_n hx hb dX8_sourceAt_5 rfl (lv_at hl 0 rfl) ?_
  refine dz_get hx hb hts (fun _ h => List.mem_cons_of_mem _ (List.mem_append_left _ (List.mem_append_right _ h))) hown hE hG ha hco rfl 1 (by decide) (hts _ (List.mem_of_getElem? (i := 1) rfl)) (fun _ h9 => h9) rfl dX8_sourceAt_6 ?_
  refine dz_kRi (va_runV (As := []) ⟨hx, hb, hml, hown, hts⟩ (c_Jx4a65c_size_8abf5 l Z _ _ _ _ _ _ _ rfl hls) (cwV 0 hts gX8_sourceAt_Jx4a65c_size_8abf5 rfl rfl rfl (by decide +kernel) ⟨Nat.le_of_ble_eq_true rfl, Nat.le_of_ble_eq_true rfl⟩) (dz_P.preL hE hS hG hls rfl) rfl rfl hl.1 rfl (lv_room (Nat.le_of_ble_eq_true rfl)) dX8_sourceAt_9 ⟨Nat.le_of_ble_eq_true rfl, Nat.le_of_ble_eq_true rfl⟩) ?_
  refine lv_icmp_ge (tgt := 29) hx hb dX8_sourceAt_12 (by decide) (fun c_12 => absurd c_12 (nI_ge hsc (by omega))) (fun c_12 => ?_)
  refine lv_aload_n hx hb dX8_sourceAt_15 rfl (lv_at hl 0 rfl) ?_
  refine dz_get hx hb hts (fun _ h => List.mem_cons_of_mem _ (List.mem_append_left _ (List.mem_append_right _ h))) hown hE hG ha hco rfl 1 (by decide) (hts _ (List.mem_of_getElem? (i := 1) rfl)) (fun _ h9 => h9) rfl dX8_sourceAt_16 ?_
  refine lv_iload_n hx hb dX8_sourceAt_19 rfl (lv_at hl 1 rfl) ?_
  refine dz_kRr (va_runV (As := [_]) ⟨hx, hb, hml, hown, hts⟩ (c_Jx4a65c_get_915e3 l Z _ _ _ _ _ _ _ _ rfl hls hsc) (cwV 1 hts gX8_sourceAt_Jx4a65c_get_915e3 rfl rfl rfl (by decide +kernel) ⟨Nat.le_of_ble_eq_true rfl, Nat.le_of_ble_eq_true rfl⟩) (dz_P.preL hE hS hG hls rfl) rfl rfl hl.1 rfl (lv_room (Nat.le_of_ble_eq_true rfl)) dX8_sourceAt_20 ⟨Nat.le_of_ble_eq_true rfl, Nat.le_of_ble_eq_true rfl⟩) ?_
  refine dz_cst hx hb hown (hts _ (List.mem_of_getElem? (i := 2) rfl)) hE hG rfl hso rfl dX8_sourceAt_23 ?_
  refine lv_goto (tgt := 30) hx hb dX8_sourceAt_26 (by decide) ?_
  refine W.aret hx hb hrt (Or.inl ⟨_, rfl⟩) (Or.inr ⟨_, rfl⟩) (fun t ht hW => ⟨congrArg (fun x => Outcome.returned (some x)) ?_, ht⟩) (fun _ h => by cases h) dX8_sourceAt_30
  rfl

set_option maxHeartbeats 4000000 in
set_option maxRecDepth 100000 in
theorem c_X8_isTaken (l : Launch) (Z : dzG) (G : dzW) (ad : dzA) (aX nl nx : Nat) (dy ssf sst cfr grw : Int32) (ns : Nat) (cnt : Nat → Nat) (col row fl : Nat → Int32) (cc rr : Int32) (ha : ad (1, 0) = aX) (hco : G (1, 0) = some (eO 9 [.ref (ad (2, 0)), .ref (ad (9, 0)), .int (nI nl), .int (nI nx), .ref (ad (19, 0)), .ref (ad (26, 0)), .int dy, .int ssf, .int sst, .int cfr, .int grw])) (hls : dz_L Z G ad (9, 0) (10, 0) ns (fun i => ad (11, i))) (hso : dz_So G ad ns cnt col row fl) (hns : ns ≤ 5) : dzRd l yX8_isTaken wsX8_isTaken 3 64 Z G ad [.ref aX, .int cc, .int rr] (some (.int (m_tk 0 col row cc rr ns))) := by
  refine Met.ofW (cc := cX8_isTaken) (maxL := 4) (ret := (some .boolean)) (by decide) rfl ?_
  intro p e s m args below meth c s₁ B hml hv
  obtain ⟨rfl, hG, hE⟩ := hv
  have hx := B.exec
  have hb := B.bytes
  have hrt := B.returns
  have hts := atoms_spec (ws := wsX8_isTaken) B.pre
  have hown : s.vm.findClass RX8 = some m.cls := findClass_of_methodNamed B.named
  have hlocks := B.notSynchronized
  have hS : va_S (dz_A Z) s.heap s.heap [] := va_S.rf
  have hl := lv_entry ([.ref aX, .int cc, .int rr]) (n := 4) (Nat.le_of_ble_eq_true rfl)
  rw [lg_entry_eq]
  generalize (lg_sl ([.ref aX, .int cc, .int rr]) ++ List.replicate (4 - (lg_sl ([.ref aX, .int cc, .int rr])).length) Slot.unset).toArray = ls at hl ⊢
  have hl : lv_has ls 4 [(0, .ref aX), (1, .int cc), (2, .int rr)] := hl
  refine lv_iconst (v := 0) hx hb dX8_isTaken_0 (by decide) ?_
  refine lv_istore_n (lv' := [(3, .int 0), (0, .ref aX), (1, .int cc), (2, .int rr)]) hx hb dX8_isTaken_1 rfl hl (by decide) rfl (fun ls hl => ?_)
  refine dz_lp (α := Nat × Array Slot) (fun a9 => (fun (k : Nat) (ls : Array Slot) => ns - k) a9.1 a9.2) (fun a9 => (fun (k : Nat) (ls : Array Slot) => (k ≤ ns) ∧ (m_tk 0 col row cc rr k = 0) ∧ lv_has ls 4 [(3, .int (nI k)), (0, .ref aX), (1, .int cc), (2, .int rr)]) a9.1 a9.2) (fun a9 => F0 m 2 a9.2 []) (fun a9 hI ih_2 => ?_) (0, ls) ⟨(Nat.zero_le _), rfl, lv_sub hl [0, 1, 2, 3] rfl⟩
  obtain ⟨k, ls⟩ := a9
  obtain ⟨hk, hq, hl⟩ := hI
  have hk : k ≤ ns := hk
  have hq : m_tk 0 col row cc rr k = 0 := hq
  have hl : lv_has ls 4 [(3, .int (nI k)), (0, .ref aX), (1, .int cc), (2, .int rr)] := hl
  refine lv_iload_n hx hb dX8_isTaken_2 rfl (lv_at hl 0 rfl) ?_
  refine lv_aload_n hx hb dX8_isTaken_3 rfl (lv_at hl 1 rfl) ?_
  refine dz_get hx hb hts (fun _ h => List.mem_cons_of_mem _ (List.mem_append_left _ (List.mem_append_left _ (List.mem_append_right _ h)))) hown hE hG ha hco rfl 1 (by decide) (hts _ (List.mem_of_getElem? (i := 1) rfl)) (fun _ h9 => h9) rfl dX8_isTaken_4 ?_
  refine dz_kRi (va_runV (As := []) ⟨hx, hb, hml, hown, hts⟩ (c_Jx4a65c_size_8abf5 l Z _ _ _ _ _ _ _ rfl hls) (cwV 0 hts gX8_isTaken_Jx4a65c_size_8abf5 rfl rfl rfl (by decide +kernel) ⟨Nat.le_of_ble_eq_true rfl, Nat.le_of_ble_eq_true rfl⟩) (dz_P.preL hE hS hG hls rfl) rfl rfl hl.1 rfl (lv_room (Nat.le_of_ble_eq_true rfl)) dX8_isTaken_7 ⟨Nat.le_of_ble_eq_true rfl, Nat.le_of_ble_eq_true rfl⟩) ?_
  refine lv_icmp_ge (tgt := 57) hx hb dX8_isTaken_10 (by decide) (fun c_10 => ?_) (fun c_10 => ?_)
  · have hk9 : k = ns := by have := (nI_leI (by omega) (by omega)).mp c_10; omega
    refine lv_iconst (v := 0) hx hb dX8_isTaken_57 (by decide) ?_
    refine W.zret hx hb hrt (by decide) (fun t ht hW => ⟨congrArg (fun x => Outcome.returned (some (Value.int x))) ?_, ht⟩) (fun _ h => by cases h) dX8_isTaken_58
    first | (rw [← hk9]; exact hq.symm) | exact (m_tk1 hltk hstp).symm
  · have hltk : k < ns := by
      rcases Nat.lt_or_ge k (ns) with q | q
      · exact q
      · exact absurd ((nI_leI (by omega) (by omega)).mpr q) c_10
    refine lv_aload_n hx hb dX8_isTaken_13 rfl (lv_at hl 1 rfl) ?_
    refine dz_get hx hb hts (fun _ h => List.mem_cons_of_mem _ (List.mem_append_left _ (List.mem_append_left _ (List.mem_append_right _ h)))) hown hE hG ha hco rfl 1 (by decide) (hts _ (List.mem_of_getElem? (i := 1) rfl)) (fun _ h9 => h9) rfl dX8_isTaken_14 ?_
    refine lv_iload_n hx hb dX8_isTaken_17 rfl (lv_at hl 0 rfl) ?_
    refine dz_kRr (va_runV (As := [_]) ⟨hx, hb, hml, hown, hts⟩ (c_Jx4a65c_get_915e3 l Z _ _ _ _ _ _ _ _ rfl hls hltk) (cwV 1 hts gX8_isTaken_Jx4a65c_get_915e3 rfl rfl rfl (by decide +kernel) ⟨Nat.le_of_ble_eq_true rfl, Nat.le_of_ble_eq_true rfl⟩) (dz_P.preL hE hS hG hls rfl) rfl rfl hl.1 rfl (lv_room (Nat.le_of_ble_eq_true rfl)) dX8_isTaken_18 ⟨Nat.le_of_ble_eq_true rfl, Nat.le_of_ble_eq_true rfl⟩) ?_
    refine dz_cst hx hb hown (hts _ (List.mem_of_getElem? (i := 2) rfl)) hE hG rfl (hso k hltk) rfl dX8_isTaken_21 ?_
    refine dz_getN (host := "Delaylens") hx hb hts (fun _ h => List.mem_cons_of_mem _ (List.mem_append_left _ (List.mem_append_right _ h))) hown hE hG rfl (hso k hltk) rfl 0 (by decide) (by decide +kernel) (fun _ h9 => h9) rfl dX8_isTaken_24 ?_
    refine lv_iload_n hx hb dX8_isTaken_27 rfl (lv_at hl 2 rfl) ?_
    refine lv_icmp_ne (tgt := 51) hx hb dX8_isTaken_28 (by decide) (fun c_28 => ?_) (fun c_28 => ?_)
    · have hstp : m_tk 0 col row cc rr (k + 1) = 0 := (if_neg (fun z => z hq)).trans (if_neg (fun z => c_28 z.1))
      obtain ⟨v_1, ev_1⟩ : ∃ y : Int32, y = (nI k) + 1 := ⟨_, rfl⟩
      refine lv_iinc (v := v_1) (lv' := [(3, .int v_1), (0, .ref aX), (1, .int cc), (2, .int rr)]) hx hb dX8_isTaken_51 hl (k := 0) rfl (by rw [ev_1]; rfl) (by decide) rfl (fun ls hl => ?_)
      refine lv_goto (tgt := 2) hx hb dX8_isTaken_54 (by decide) ?_
      obtain rfl : v_1 = nI (k + 1) := ev_1.trans (nI_1 k)
      exact ih_2 (k + 1, ls) (by first | (dsimp only; omega) | omega) ⟨(by omega), hstp, lv_sub hl [0, 1, 2, 3] rfl⟩
    · refine lv_aload_n hx hb dX8_isTaken_31 rfl (lv_at hl 1 rfl) ?_
      refine dz_get hx hb hts (fun _ h => List.mem_cons_of_mem _ (List.mem_append_left _ (List.mem_append_left _ (List.mem_append_right _ h)))) hown hE hG ha hco rfl 1 (by decide) (hts _ (List.mem_of_getElem? (i := 1) rfl)) (fun _ h9 => h9) rfl dX8_isTaken_32 ?_
      refine lv_iload_n hx hb dX8_isTaken_35 rfl (lv_at hl 0 rfl) ?_
      refine dz_kRr (va_runV (As := [_]) ⟨hx, hb, hml, hown, hts⟩ (c_Jx4a65c_get_915e3 l Z _ _ _ _ _ _ _ _ rfl hls hltk) (cwV 1 hts gX8_isTaken_Jx4a65c_get_915e3 rfl rfl rfl (by decide +kernel) ⟨Nat.le_of_ble_eq_true rfl, Nat.le_of_ble_eq_true rfl⟩) (dz_P.preL hE hS hG hls rfl) rfl rfl hl.1 rfl (lv_room (Nat.le_of_ble_eq_true rfl)) dX8_isTaken_36 ⟨Nat.le_of_ble_eq_true rfl, Nat.le_of_ble_eq_true rfl⟩) ?_
      refine dz_cst hx hb hown (hts _ (List.mem_of_getElem? (i := 2) rfl)) hE hG rfl (hso k hltk) rfl dX8_isTaken_39 ?_
      refine dz_getN (host := "Delaylens") hx hb hts (fun _ h => List.mem_cons_of_mem _ (List.mem_append_left _ (List.mem_append_right _ h))) hown hE hG rfl (hso k hltk) rfl 1 (by decide) (by decide +kernel) (fun _ h9 => h9) rfl dX8_isTaken_42 ?_
      refine lv_iload_n hx hb dX8_isTaken_45 rfl (lv_at hl 3 rfl) ?_
      refine lv_icmp_ne (tgt := 51) hx hb dX8_isTaken_46 (by decide) (fun c_46 => ?_) (fun c_46 => ?_)
      · have hstp : m_tk 0 col row cc rr (k + 1) = 0 := (if_neg (fun z => z hq)).trans (if_neg (fun z => c_46 z.2))
        obtain ⟨v_2, ev_2⟩ : ∃ y : Int32, y = (nI k) + 1 := ⟨_, rfl⟩
        refine lv_iinc (v := v_2) (lv' := [(3, .int v_2), (0, .ref aX), (1, .int cc), (2, .int rr)]) hx hb dX8_isTaken_51 hl (k := 0) rfl (by rw [ev_2]; rfl) (by decide) rfl (fun ls hl => ?_)
        refine lv_goto (tgt := 2) hx hb dX8_isTaken_54 (by decide) ?_
        obtain rfl : v_2 = nI (k + 1) := ev_2.trans (nI_1 k)
        exact ih_2 (k + 1, ls) (by first | (dsimp only; omega) | omega) ⟨(by omega), hstp, lv_sub hl [0, 1, 2, 3] rfl⟩
      · have hstp : m_tk 0 col row cc rr (k + 1) = 1 := (if_neg (fun z => z hq)).trans (if_pos ⟨c_28, c_46⟩)
        refine lv_iconst (v := 1) hx hb dX8_isTaken_49 (by decide) ?_
        refine W.zret hx hb hrt (by decide) (fun t ht hW => ⟨congrArg (fun x => Outcome.returned (some (Value.int x))) ?_, ht⟩) (fun _ h => by cases h) dX8_isTaken_50
        first | (rw [← hk9]; exact hq.symm) | exact (m_tk1 hltk hstp).symm

set_option maxHeartbeats 4000000 in
set_option maxRecDepth 100000 in
theorem c_areN (l : Launch) (Z : dzG) (G : dzW) (ad : dzA) (v2 v3 : Int32)  : dzRd l yX8_areImages wsX8_areImages 0 0 Z G ad [.null, .int v2, .int v3] (some (.int 0)) := by
  refine Met.ofW (cc := cX8_areImages) (maxL := 3) (ret := (some .boolean)) (by decide) rfl ?_
  intro p e s m args below meth c s₁ B hml hv
  obtain ⟨rfl, hG, hE⟩ := hv
  have hx := B.exec
  have hb := B.bytes
  have hrt := B.returns
  have hts := atoms_spec (ws := wsX8_areImages) B.pre
  have hown : s.vm.findClass RX8 = some m.cls := findClass_of_methodNamed B.named
  have hlocks := B.notSynchronized
  have hS : va_S (dz_A Z) s.heap s.heap [] := va_S.rf
  have hl := lv_entry ([.null, .int v2, .int v3]) (n := 3) (Nat.le_of_ble_eq_true rfl)
  rw [lg_entry_eq]
  generalize (lg_sl ([.null, .int v2, .int v3]) ++ List.replicate (3 - (lg_sl ([.null, .int v2, .int v3])).length) Slot.unset).toArray = ls at hl ⊢
  have hl : lv_has ls 3 [(0, .null), (1, .int v2), (2, .int v3)] := hl
  refine lv_aload_nN hx hb dX8_areImages_0 rfl (lv_at hl 0 rfl) ?_
  refine lv_ifnullN (tgt := 24) hx hb dX8_areImages_1 (by decide) ?_
  refine lv_iconst (v := 0) hx hb dX8_areImages_24 (by decide) ?_
  refine W.zret hx hb hrt (by decide) (fun t ht hW => ⟨congrArg (fun x => Outcome.returned (some (Value.int x))) ?_, ht⟩) (fun _ h => by cases h) dX8_areImages_25
  rfl

set_option maxHeartbeats 4000000 in
set_option maxRecDepth 100000 in
theorem c_areY (l : Launch) (Z : dzG) (G : dzW) (ad : dzA) (sc : Nat) (cnt : Nat → Nat) (col row fl : Nat → Int32) (v2 v3 : Int32) (hso : G (11, sc) = some (eO 7 [.int (col sc), .int (row sc), .int (fl sc), .ref (ad (12, sc)), .int (nI (cnt sc)), .ref (ad (13, sc)), .ref (ad (15, sc))])) : dzRd l yX8_areImages wsX8_areImages 1 21 Z G ad [.ref (ad (11, sc)), .int v2, .int v3] (some (.int (dz_b ((0 ≤ v2 ∧ v2 < nI (cnt sc)) ∧ (0 ≤ v3 ∧ v3 < nI (cnt sc)))))) := by
  refine Met.ofW (cc := cX8_areImages) (maxL := 3) (ret := (some .boolean)) (by decide) rfl ?_
  intro p e s m args below meth c s₁ B hml hv
  obtain ⟨rfl, hG, hE⟩ := hv
  have hx := B.exec
  have hb := B.bytes
  have hrt := B.returns
  have hts := atoms_spec (ws := wsX8_areImages) B.pre
  have hown : s.vm.findClass RX8 = some m.cls := findClass_of_methodNamed B.named
  have hlocks := B.notSynchronized
  have hS : va_S (dz_A Z) s.heap s.heap [] := va_S.rf
  have hl := lv_entry ([.ref (ad (11, sc)), .int v2, .int v3]) (n := 3) (Nat.le_of_ble_eq_true rfl)
  rw [lg_entry_eq]
  generalize (lg_sl ([.ref (ad (11, sc)), .int v2, .int v3]) ++ List.replicate (3 - (lg_sl ([.ref (ad (11, sc)), .int v2, .int v3])).length) Slot.unset).toArray = ls at hl ⊢
  have hl : lv_has ls 3 [(0, .ref (ad (11, sc))), (1, .int v2), (2, .int v3)] := hl
  refine lv_aload_n hx hb dX8_areImages_0 rfl (lv_at hl 0 rfl) ?_
  refine lv_ifnull hx hb dX8_areImages_1 ?_
  refine lv_aload_n hx hb dX8_areImages_4 rfl (lv_at hl 0 rfl) ?_
  refine lv_iload_n hx hb dX8_areImages_5 rfl (lv_at hl 1 rfl) ?_
  refine dz_kRi (va_runV (As := [_]) ⟨hx, hb, hml, hown, hts⟩ (c_X6_hasImage l Z _ _ _ _ _ _ _ _ _ _ _ rfl hso) (cwV 1 hts gX8_areImages_X6_hasImage rfl rfl rfl (by decide +kernel) ⟨Nat.le_of_ble_eq_true rfl, Nat.le_of_ble_eq_true rfl⟩) (dz_P.preV hE hS hG hso rfl rfl) rfl rfl hl.1 rfl (lv_room (Nat.le_of_ble_eq_true rfl)) dX8_areImages_6 ⟨Nat.le_of_ble_eq_true rfl, Nat.le_of_ble_eq_true rfl⟩) ?_
  refine lv_if_eq (tgt := 24) hx hb dX8_areImages_9 (by decide) (fun c_9 => ?_) (fun c_9 => ?_)
  · refine lv_iconst (v := 0) hx hb dX8_areImages_24 (by decide) ?_
    refine W.zret hx hb hrt (by decide) (fun t ht hW => ⟨congrArg (fun x => Outcome.returned (some (Value.int x))) ?_, ht⟩) (fun _ h => by cases h) dX8_areImages_25
    first | exact dz_an1 c_9 c_17 | exact dz_an0 (Or.inl c_9) | exact dz_an0 (Or.inr c_17)
  · refine lv_aload_n hx hb dX8_areImages_12 rfl (lv_at hl 0 rfl) ?_
    refine lv_iload_n hx hb dX8_areImages_13 rfl (lv_at hl 2 rfl) ?_
    refine dz_kRi (va_runV (As := [_]) ⟨hx, hb, hml, hown, hts⟩ (c_X6_hasImage l Z _ _ _ _ _ _ _ _ _ _ _ rfl hso) (cwV 1 hts gX8_areImages_X6_hasImage rfl rfl rfl (by decide +kernel) ⟨Nat.le_of_ble_eq_true rfl, Nat.le_of_ble_eq_true rfl⟩) (dz_P.preV hE hS hG hso rfl rfl) rfl rfl hl.1 rfl (lv_room (Nat.le_of_ble_eq_true rfl)) dX8_areImages_14 ⟨Nat.le_of_ble_eq_true rfl, Nat.le_of_ble_eq_true rfl⟩) ?_
    refine lv_if_eq (tgt := 24) hx hb dX8_areImages_17 (by decide) (fun c_17 => ?_) (fun c_17 => ?_)
    · refine lv_iconst (v := 0) hx hb dX8_areImages_24 (by decide) ?_
      refine W.zret hx hb hrt (by decide) (fun t ht hW => ⟨congrArg (fun x => Outcome.returned (some (Value.int x))) ?_, ht⟩) (fun _ h => by cases h) dX8_areImages_25
      first | exact dz_an1 c_9 c_17 | exact dz_an0 (Or.inl c_9) | exact dz_an0 (Or.inr c_17)
    · refine lv_iconst (v := 1) hx hb dX8_areImages_20 (by decide) ?_
      refine lv_goto (tgt := 25) hx hb dX8_areImages_21 (by decide) ?_
      refine W.zret hx hb hrt (by decide) (fun t ht hW => ⟨congrArg (fun x => Outcome.returned (some (Value.int x))) ?_, ht⟩) (fun _ h => by cases h) dX8_areImages_25
      first | exact dz_an1 c_9 c_17 | exact dz_an0 (Or.inl c_9) | exact dz_an0 (Or.inr c_17)

set_option maxHeartbeats 4000000 in
set_option maxRecDepth 100000 in
theorem c_X8_wayOf (l : Launch) (Z : dzG) (G : dzW) (ad : dzA) (aX nl nx : Nat) (dy ssf sst cfr grw : Int32) (sc rk j : Nat) (cnt : Nat → Nat) (col row fl : Nat → Int32) (pl : Nat → Nat → Int32) (fc fw : Nat → Int32) (ha : ad (1, 0) = aX) (hco : G (1, 0) = some (eO 9 [.ref (ad (2, 0)), .ref (ad (9, 0)), .int (nI nl), .int (nI nx), .ref (ad (19, 0)), .ref (ad (26, 0)), .int dy, .int ssf, .int sst, .int cfr, .int grw])) (hso : G (11, sc) = some (eO 7 [.int (col sc), .int (row sc), .int (fl sc), .ref (ad (12, sc)), .int (nI (cnt sc)), .ref (ad (13, sc)), .ref (ad (15, sc))])) (hpl : G (12, sc) = some (eI Z 441 (pl sc))) (hro : G (2, 0) = some (eO 6 [.ref (ad (3, 0)), .ref (ad (5, 0)), .ref (ad (6, 0)), .ref (ad (7, 0))])) (hc : G (5, 0) = some (eI Z 484 fc)) (hw : G (7, 0) = some (eI Z 484 fw)) (hrk : rk < cnt sc) (hcn : cnt sc ≤ 441) (hij : pl sc rk = nI j) (hjj : j + 22 < 484) : dzRd l yX8_wayOf wsX8_wayOf 2 42 Z G ad [.ref aX, .ref (ad (11, sc)), .int (nI rk)] (some (.int (fw j))) := by
  refine Met.ofW (cc := cX8_wayOf) (maxL := 3) (ret := (some .int)) (by decide) rfl ?_
  intro p e s m args below meth c s₁ B hml hv
  obtain ⟨rfl, hG, hE⟩ := hv
  have hx := B.exec
  have hb := B.bytes
  have hrt := B.returns
  have hts := atoms_spec (ws := wsX8_wayOf) B.pre
  have hown : s.vm.findClass RX8 = some m.cls := findClass_of_methodNamed B.named
  have hlocks := B.notSynchronized
  have hS : va_S (dz_A Z) s.heap s.heap [] := va_S.rf
  have hl := lv_entry ([.ref aX, .ref (ad (11, sc)), .int (nI rk)]) (n := 3) (Nat.le_of_ble_eq_true rfl)
  rw [lg_entry_eq]
  generalize (lg_sl ([.ref aX, .ref (ad (11, sc)), .int (nI rk)]) ++ List.replicate (3 - (lg_sl ([.ref aX, .ref (ad (11, sc)), .int (nI rk)])).length) Slot.unset).toArray = ls at hl ⊢
  have hl : lv_has ls 3 [(0, .ref aX), (1, .ref (ad (11, sc))), (2, .int (nI rk))] := hl
  refine lv_aload_n hx hb dX8_wayOf_0 rfl (lv_at hl 0 rfl) ?_
  refine dz_get hx hb hts (fun _ h => List.mem_cons_of_mem _ (List.mem_append_left _ (List.mem_append_left _ (List.mem_append_right _ h)))) hown hE hG ha hco rfl 0 (by decide) (hts _ (List.mem_of_getElem? (i := 1) rfl)) (fun _ h9 => h9) rfl dX8_wayOf_1 ?_
  refine lv_aload_n hx hb dX8_wayOf_4 rfl (lv_at hl 1 rfl) ?_
  refine lv_iload_n hx hb dX8_wayOf_5 rfl (lv_at hl 2 rfl) ?_
  refine dz_kRi (va_runV (As := [_]) ⟨hx, hb, hml, hown, hts⟩ (c_X6_placeAt l Z _ _ _ _ _ _ _ _ _ _ _ _ rfl hso hpl hrk hcn) (cwV 1 hts gX8_wayOf_X6_placeAt rfl rfl rfl (by decide +kernel) ⟨Nat.le_of_ble_eq_true rfl, Nat.le_of_ble_eq_true rfl⟩) (dz_P.preV hE hS hG hso rfl rfl) rfl rfl hl.1 rfl (lv_room (Nat.le_of_ble_eq_true rfl)) dX8_wayOf_6 ⟨Nat.le_of_ble_eq_true rfl, Nat.le_of_ble_eq_true rfl⟩) ?_
  refine lv_topi (fun v_1 ev_1 => ?_)
  obtain rfl : v_1 = nI j := ev_1.trans hij
  refine dz_kRi (va_runV (As := [_]) ⟨hx, hb, hml, hown, hts⟩ (c_X5_wayAt l Z _ _ _ _ _ _ rfl hro hc hw (by omega)) (cwV 1 hts gX8_wayOf_X5_wayAt rfl rfl rfl (by decide +kernel) ⟨Nat.le_of_ble_eq_true rfl, Nat.le_of_ble_eq_true rfl⟩) (dz_P.preV hE hS hG hro rfl rfl) rfl rfl hl.1 rfl (lv_room (Nat.le_of_ble_eq_true rfl)) dX8_wayOf_9 ⟨Nat.le_of_ble_eq_true rfl, Nat.le_of_ble_eq_true rfl⟩) ?_
  refine W.iret hx hb hrt (fun t ht hW => ⟨congrArg (fun x => Outcome.returned (some (Value.int x))) ?_, ht⟩) (fun _ h => by cases h) dX8_wayOf_12
  rfl

set_option maxHeartbeats 4000000 in
set_option maxRecDepth 100000 in
theorem c_X8_brightnessOf (l : Launch) (Z : dzG) (G : dzW) (ad : dzA) (aX nl nx : Nat) (dy ssf sst cfr grw : Int32) (sc rk j : Nat) (cnt : Nat → Nat) (col row fl : Nat → Int32) (pl : Nat → Nat → Int32) (fc fr : Nat → Int32) (ha : ad (1, 0) = aX) (hco : G (1, 0) = some (eO 9 [.ref (ad (2, 0)), .ref (ad (9, 0)), .int (nI nl), .int (nI nx), .ref (ad (19, 0)), .ref (ad (26, 0)), .int dy, .int ssf, .int sst, .int cfr, .int grw])) (hso : G (11, sc) = some (eO 7 [.int (col sc), .int (row sc), .int (fl sc), .ref (ad (12, sc)), .int (nI (cnt sc)), .ref (ad (13, sc)), .ref (ad (15, sc))])) (hpl : G (12, sc) = some (eI Z 441 (pl sc))) (hro : G (2, 0) = some (eO 6 [.ref (ad (3, 0)), .ref (ad (5, 0)), .ref (ad (6, 0)), .ref (ad (7, 0))])) (hc : G (5, 0) = some (eI Z 484 fc)) (hr : G (6, 0) = some (eI Z 484 fr)) (hrk : rk < cnt sc) (hcn : cnt sc ≤ 441) (hij : pl sc rk = nI j) (hjj : j + 22 < 484) : dzRd l yX8_brightnessOf wsX8_brightnessOf 3 70 Z G ad [.ref aX, .ref (ad (11, sc)), .int (nI rk)] (some (.int (m_times (m_turn fc fr j)))) := by
  refine Met.ofW (cc := cX8_brightnessOf) (maxL := 3) (ret := (some .int)) (by decide) rfl ?_
  intro p e s m args below meth c s₁ B hml hv
  obtain ⟨rfl, hG, hE⟩ := hv
  have hx := B.exec
  have hb := B.bytes
  have hrt := B.returns
  have hts := atoms_spec (ws := wsX8_brightnessOf) B.pre
  have hown : s.vm.findClass RX8 = some m.cls := findClass_of_methodNamed B.named
  have hlocks := B.notSynchronized
  have hS : va_S (dz_A Z) s.heap s.heap [] := va_S.rf
  have hl := lv_entry ([.ref aX, .ref (ad (11, sc)), .int (nI rk)]) (n := 3) (Nat.le_of_ble_eq_true rfl)
  rw [lg_entry_eq]
  generalize (lg_sl ([.ref aX, .ref (ad (11, sc)), .int (nI rk)]) ++ List.replicate (3 - (lg_sl ([.ref aX, .ref (ad (11, sc)), .int (nI rk)])).length) Slot.unset).toArray = ls at hl ⊢
  have hl : lv_has ls 3 [(0, .ref aX), (1, .ref (ad (11, sc))), (2, .int (nI rk))] := hl
  refine lv_aload_n hx hb dX8_brightnessOf_0 rfl (lv_at hl 0 rfl) ?_
  refine dz_get hx hb hts (fun _ h => List.mem_cons_of_mem _ (List.mem_append_left _ (List.mem_append_left _ (List.mem_append_right _ h)))) hown hE hG ha hco rfl 0 (by decide) (hts _ (List.mem_of_getElem? (i := 1) rfl)) (fun _ h9 => h9) rfl dX8_brightnessOf_1 ?_
  refine lv_aload_n hx hb dX8_brightnessOf_4 rfl (lv_at hl 1 rfl) ?_
  refine lv_iload_n hx hb dX8_brightnessOf_5 rfl (lv_at hl 2 rfl) ?_
  refine dz_kRi (va_runV (As := [_]) ⟨hx, hb, hml, hown, hts⟩ (c_X6_placeAt l Z _ _ _ _ _ _ _ _ _ _ _ _ rfl hso hpl hrk hcn) (cwV 1 hts gX8_brightnessOf_X6_placeAt rfl rfl rfl (by decide +kernel) ⟨Nat.le_of_ble_eq_true rfl, Nat.le_of_ble_eq_true rfl⟩) (dz_P.preV hE hS hG hso rfl rfl) rfl rfl hl.1 rfl (lv_room (Nat.le_of_ble_eq_true rfl)) dX8_brightnessOf_6 ⟨Nat.le_of_ble_eq_true rfl, Nat.le_of_ble_eq_true rfl⟩) ?_
  refine lv_topi (fun v_1 ev_1 => ?_)
  obtain rfl : v_1 = nI j := ev_1.trans hij
  refine dz_kRi (va_runV (As := [_]) ⟨hx, hb, hml, hown, hts⟩ (c_X5_brightnessAt l Z _ _ _ _ _ _ rfl hro hc hr hjj) (cwV 1 hts gX8_brightnessOf_X5_brightnessAt rfl rfl rfl (by decide +kernel) ⟨Nat.le_of_ble_eq_true rfl, Nat.le_of_ble_eq_true rfl⟩) (dz_P.preV hE hS hG hro rfl rfl) rfl rfl hl.1 rfl (lv_room (Nat.le_of_ble_eq_true rfl)) dX8_brightnessOf_9 ⟨Nat.le_of_ble_eq_true rfl, Nat.le_of_ble_eq_true rfl⟩) ?_
  refine W.iret hx hb hrt (fun t ht hW => ⟨congrArg (fun x => Outcome.returned (some (Value.int x))) ?_, ht⟩) (fun _ h => by cases h) dX8_brightnessOf_12
  rfl

set_option maxHeartbeats 4000000 in
set_option maxRecDepth 100000 in
theorem c_X8_lateness (l : Launch) (Z : dzG) (G : dzW) (ad : dzA) (aX nl nx : Nat) (dy ssf sst cfr grw : Int32) (sc rk j j0 : Nat) (cnt : Nat → Nat) (col row fl : Nat → Int32) (pl : Nat → Nat → Int32) (fc fw : Nat → Int32) (ha : ad (1, 0) = aX) (hco : G (1, 0) = some (eO 9 [.ref (ad (2, 0)), .ref (ad (9, 0)), .int (nI nl), .int (nI nx), .ref (ad (19, 0)), .ref (ad (26, 0)), .int dy, .int ssf, .int sst, .int cfr, .int grw])) (hso : G (11, sc) = some (eO 7 [.int (col sc), .int (row sc), .int (fl sc), .ref (ad (12, sc)), .int (nI (cnt sc)), .ref (ad (13, sc)), .ref (ad (15, sc))])) (hpl : G (12, sc) = some (eI Z 441 (pl sc))) (hro : G (2, 0) = some (eO 6 [.ref (ad (3, 0)), .ref (ad (5, 0)), .ref (ad (6, 0)), .ref (ad (7, 0))])) (hc : G (5, 0) = some (eI Z 484 fc)) (hw : G (7, 0) = some (eI Z 484 fw)) (hrk : rk < cnt sc) (hcn : cnt sc ≤ 441) (hij : pl sc rk = nI j) (hjj : j + 22 < 484) (h00 : pl sc 0 = nI j0) (hj0 : j0 + 22 < 484) (hg1 : 1 ≤ grw) (hgz : ¬ grw = 0) : dzRd l yX8_lateness wsX8_lateness 3 64 Z G ad [.ref aX, .ref (ad (11, sc)), .int (nI rk)] (some (.int ((fw j - fw j0) * 20 / grw))) := by
  refine Met.ofW (cc := cX8_lateness) (maxL := 3) (ret := (some .int)) (by decide) rfl ?_
  intro p e s m args below meth c s₁ B hml hv
  obtain ⟨rfl, hG, hE⟩ := hv
  have hx := B.exec
  have hb := B.bytes
  have hrt := B.returns
  have hts := atoms_spec (ws := wsX8_lateness) B.pre
  have hown : s.vm.findClass RX8 = some m.cls := findClass_of_methodNamed B.named
  have hlocks := B.notSynchronized
  have hS : va_S (dz_A Z) s.heap s.heap [] := va_S.rf
  have hl := lv_entry ([.ref aX, .ref (ad (11, sc)), .int (nI rk)]) (n := 3) (Nat.le_of_ble_eq_true rfl)
  rw [lg_entry_eq]
  generalize (lg_sl ([.ref aX, .ref (ad (11, sc)), .int (nI rk)]) ++ List.replicate (3 - (lg_sl ([.ref aX, .ref (ad (11, sc)), .int (nI rk)])).length) Slot.unset).toArray = ls at hl ⊢
  have hl : lv_has ls 3 [(0, .ref aX), (1, .ref (ad (11, sc))), (2, .int (nI rk))] := hl
  refine lv_aload_n hx hb dX8_lateness_0 rfl (lv_at hl 0 rfl) ?_
  refine dz_get hx hb hts (fun _ h => List.mem_cons_of_mem _ (List.mem_append_left _ (List.mem_append_left _ (List.mem_append_right _ h)))) hown hE hG ha hco rfl 10 (by decide) (hts _ (List.mem_of_getElem? (i := 1) rfl)) (fun _ h9 => h9) rfl dX8_lateness_1 ?_
  refine lv_iconst (v := 1) hx hb dX8_lateness_4 (by decide) ?_
  refine lv_icmp_ge (tgt := 10) hx hb dX8_lateness_5 (by decide) (fun c_5 => ?_) (fun c_5 => absurd hg1 c_5)
  refine lv_aload_n hx hb dX8_lateness_10 rfl (lv_at hl 0 rfl) ?_
  refine lv_aload_n hx hb dX8_lateness_11 rfl (lv_at hl 1 rfl) ?_
  refine lv_iload_n hx hb dX8_lateness_12 rfl (lv_at hl 2 rfl) ?_
  refine dz_kRi (va_runV (As := [_, _]) ⟨hx, hb, hml, hown, hts⟩ (c_X8_wayOf l Z _ _ _ _ _ _ _ _ _ _ _ _ j _ _ _ _ _ _ _  ha hco hso hpl hro hc hw hrk hcn hij hjj) (cwV 2 hts gX8_lateness_X8_wayOf rfl rfl rfl (by decide +kernel) ⟨Nat.le_of_ble_eq_true rfl, Nat.le_of_ble_eq_true rfl⟩) (dz_P.preV hE hS hG hco rfl ha) rfl rfl hl.1 rfl (lv_room (Nat.le_of_ble_eq_true rfl)) dX8_lateness_13 ⟨Nat.le_of_ble_eq_true rfl, Nat.le_of_ble_eq_true rfl⟩) ?_
  refine lv_topi (fun v_1 ev_1 => ?_)
  obtain rfl : v_1 = fw j := ev_1
  refine lv_aload_n hx hb dX8_lateness_16 rfl (lv_at hl 0 rfl) ?_
  refine lv_aload_n hx hb dX8_lateness_17 rfl (lv_at hl 1 rfl) ?_
  refine lv_iconst (v := 0) hx hb dX8_lateness_18 (by decide) ?_
  refine dz_kRi (va_runV (As := [_, _]) ⟨hx, hb, hml, hown, hts⟩ (c_X8_wayOf l Z _ _ _ _ _ _ _ _ _ _ _ 0 j0 _ _ _ _ _ _ _  ha hco hso hpl hro hc hw (show 0 < cnt sc from by omega) hcn h00 hj0) (cwV 2 hts gX8_lateness_X8_wayOf rfl rfl rfl (by decide +kernel) ⟨Nat.le_of_ble_eq_true rfl, Nat.le_of_ble_eq_true rfl⟩) (dz_P.preV hE hS hG hco rfl ha) rfl rfl hl.1 rfl (lv_room (Nat.le_of_ble_eq_true rfl)) dX8_lateness_19 ⟨Nat.le_of_ble_eq_true rfl, Nat.le_of_ble_eq_true rfl⟩) ?_
  refine lv_topi (fun v_2 ev_2 => ?_)
  obtain rfl : v_2 = fw j0 := ev_2
  refine lv_isub hx hb dX8_lateness_22 ?_
  refine lv_bipush (v := 20) hx hb dX8_lateness_23 (by decide) ?_
  refine lv_imul hx hb dX8_lateness_25 ?_
  refine lv_aload_n hx hb dX8_lateness_26 rfl (lv_at hl 0 rfl) ?_
  refine dz_get hx hb hts (fun _ h => List.mem_cons_of_mem _ (List.mem_append_left _ (List.mem_append_left _ (List.mem_append_right _ h)))) hown hE hG ha hco rfl 10 (by decide) (hts _ (List.mem_of_getElem? (i := 1) rfl)) (fun _ h9 => h9) rfl dX8_lateness_27 ?_
  refine lv_idiv hx hb dX8_lateness_30 hgz ?_
  refine W.iret hx hb hrt (fun t ht hW => ⟨congrArg (fun x => Outcome.returned (some (Value.int x))) ?_, ht⟩) (fun _ h => by cases h) dX8_lateness_31
  rfl

set_option maxHeartbeats 4000000 in
set_option maxRecDepth 100000 in
theorem c_X8_lightToday (l : Launch) (Z : dzG) (G : dzW) (ad : dzA) (aX nl nx : Nat) (dy ssf sst cfr grw : Int32) (sc rk j j0 : Nat) (cnt : Nat → Nat) (col row fl : Nat → Int32) (pl : Nat → Nat → Int32) (nfl nst : Nat → Nat) (fx sx : Nat → Nat → Nat) (fd fb sr sd sw sg : Nat → Int32) (fc fr fw : Nat → Int32) (ha : ad (1, 0) = aX) (hco : G (1, 0) = some (eO 9 [.ref (ad (2, 0)), .ref (ad (9, 0)), .int (nI nl), .int (nI nx), .ref (ad (19, 0)), .ref (ad (26, 0)), .int dy, .int ssf, .int sst, .int cfr, .int grw])) (hso : G (11, sc) = some (eO 7 [.int (col sc), .int (row sc), .int (fl sc), .ref (ad (12, sc)), .int (nI (cnt sc)), .ref (ad (13, sc)), .ref (ad (15, sc))])) (hpl : G (12, sc) = some (eI Z 441 (pl sc))) (hfl : dz_L Z G ad (13, sc) (14, sc) (nfl sc) (fun j => ad (17, fx sc j))) (hfo : ∀ j, j < nfl sc → G (17, fx sc j) = some (eO 3 [.int (fd (fx sc j)), .int (fb (fx sc j))])) (hst0 : dz_L Z G ad (15, sc) (16, sc) (nst sc) (fun j => ad (18, sx sc j))) (hstt : ∀ j, j < nst sc → G (18, sx sc j) = some (eO 8 [.int (sr (sx sc j)), .int (sd (sx sc j)), .int (sw (sx sc j)), .int (sg (sx sc j))])) (hro : G (2, 0) = some (eO 6 [.ref (ad (3, 0)), .ref (ad (5, 0)), .ref (ad (6, 0)), .ref (ad (7, 0))])) (hc : G (5, 0) = some (eI Z 484 fc)) (hr : G (6, 0) = some (eI Z 484 fr)) (hw : G (7, 0) = some (eI Z 484 fw)) (hrk : rk < cnt sc) (hcn : cnt sc ≤ 441) (hij : pl sc rk = nI j) (hjj : j + 22 < 484) (h00 : pl sc 0 = nI j0) (hj0 : j0 + 22 < 484) (hg1 : 1 ≤ grw) (hgz : ¬ grw = 0) (hnf : nfl sc ≤ 60) (hnt : nst sc ≤ 60) (hsw : ∀ j, j < nst sc → 1 ≤ sw (sx sc j) ∧ ¬ sw (sx sc j) = 0) : dzRd l yX8_lightToday wsX8_lightToday 4 92 Z G ad [.ref aX, .ref (ad (11, sc)), .int (nI rk)] (some (.int (m_abs (m_times (m_turn fc fr j)) * (m_pos (m_lgt (fl sc) fd fb (fx sc) (dy - ((fw j - fw j0) * 20 / grw)) (nfl sc))) + (m_sts sr sd sw sg (sx sc) (nI rk) dy (nst sc))))) := by
  refine Met.ofW (cc := cX8_lightToday) (maxL := 4) (ret := (some .int)) (by decide) rfl ?_
  intro p e s m args below meth c s₁ B hml hv
  obtain ⟨rfl, hG, hE⟩ := hv
  have hx := B.exec
  have hb := B.bytes
  have hrt := B.returns
  have hts := atoms_spec (ws := wsX8_lightToday) B.pre
  have hown : s.vm.findClass RX8 = some m.cls := findClass_of_methodNamed B.named
  have hlocks := B.notSynchronized
  have hS : va_S (dz_A Z) s.heap s.heap [] := va_S.rf
  have hl := lv_entry ([.ref aX, .ref (ad (11, sc)), .int (nI rk)]) (n := 4) (Nat.le_of_ble_eq_true rfl)
  rw [lg_entry_eq]
  generalize (lg_sl ([.ref aX, .ref (ad (11, sc)), .int (nI rk)]) ++ List.replicate (4 - (lg_sl ([.ref aX, .ref (ad (11, sc)), .int (nI rk)])).length) Slot.unset).toArray = ls at hl ⊢
  have hl : lv_has ls 4 [(0, .ref aX), (1, .ref (ad (11, sc))), (2, .int (nI rk))] := hl
  refine lv_aload_n hx hb dX8_lightToday_0 rfl (lv_at hl 1 rfl) ?_
  refine lv_aload_n hx hb dX8_lightToday_1 rfl (lv_at hl 0 rfl) ?_
  refine dz_get hx hb hts (fun _ h => List.mem_cons_of_mem _ (List.mem_append_left _ (List.mem_append_left _ (List.mem_append_left _ (List.mem_append_left _ (List.mem_append_left _ (List.mem_append_right _ h))))))) hown hE hG ha hco rfl 6 (by decide) (hts _ (List.mem_of_getElem? (i := 1) rfl)) (fun _ h9 => h9) rfl dX8_lightToday_2 ?_
  refine lv_aload_n hx hb dX8_lightToday_5 rfl (lv_at hl 0 rfl) ?_
  refine lv_aload_n hx hb dX8_lightToday_6 rfl (lv_at hl 1 rfl) ?_
  refine lv_iload_n hx hb dX8_lightToday_7 rfl (lv_at hl 2 rfl) ?_
  refine dz_kRi (va_runV (As := [_, _]) ⟨hx, hb, hml, hown, hts⟩ (c_X8_lateness l Z _ _ _ _ _ _ _ _ _ _ _ _ j j0 _ _ _ _ _ _ _  ha hco hso hpl hro hc hw hrk hcn hij hjj h00 hj0 hg1 hgz) (cwV 2 hts gX8_lightToday_X8_lateness rfl rfl rfl (by decide +kernel) ⟨Nat.le_of_ble_eq_true rfl, Nat.le_of_ble_eq_true rfl⟩) (dz_P.preV hE hS hG hco rfl ha) rfl rfl hl.1 rfl (lv_room (Nat.le_of_ble_eq_true rfl)) dX8_lightToday_8 ⟨Nat.le_of_ble_eq_true rfl, Nat.le_of_ble_eq_true rfl⟩) ?_
  refine lv_topi (fun v_1 ev_1 => ?_)
  obtain rfl : v_1 = ((fw j - fw j0) * 20 / grw) := ev_1
  refine lv_isub hx hb dX8_lightToday_11 ?_
  refine dz_kRi (va_runV (As := [_]) ⟨hx, hb, hml, hown, hts⟩ (c_X6_lightOn l Z _ _ _ _ _ _ _ _ _ _ _ _ _ _ _ rfl hso rfl hfl hfo hnf) (cwV 1 hts gX8_lightToday_X6_lightOn rfl rfl rfl (by decide +kernel) ⟨Nat.le_of_ble_eq_true rfl, Nat.le_of_ble_eq_true rfl⟩) (dz_P.preV hE hS hG hso rfl rfl) rfl rfl hl.1 rfl (lv_room (Nat.le_of_ble_eq_true rfl)) dX8_lightToday_12 ⟨Nat.le_of_ble_eq_true rfl, Nat.le_of_ble_eq_true rfl⟩) ?_
  refine lv_topi (fun v_2 ev_2 => ?_)
  obtain rfl : v_2 = (m_pos (m_lgt (fl sc) fd fb (fx sc) (dy - ((fw j - fw j0) * 20 / grw)) (nfl sc))) := ev_2
  refine lv_istore_n (lv' := [(3, .int (m_pos (m_lgt (fl sc) fd fb (fx sc) (dy - ((fw j - fw j0) * 20 / grw)) (nfl sc)))), (0, .ref aX), (1, .ref (ad (11, sc))), (2, .int (nI rk))]) hx hb dX8_lightToday_15 rfl hl (by decide) rfl (fun ls hl => ?_)
  refine lv_aload_n hx hb dX8_lightToday_16 rfl (lv_at hl 1 rfl) ?_
  refine lv_aload_n hx hb dX8_lightToday_17 rfl (lv_at hl 2 rfl) ?_
  refine lv_iload_n hx hb dX8_lightToday_18 rfl (lv_at hl 3 rfl) ?_
  refine dz_kRi (va_runV (As := [_, _]) ⟨hx, hb, hml, hown, hts⟩ (c_X8_brightnessOf l Z _ _ _ _ _ _ _ _ _ _ _ _ j _ _ _ _ _ _ _  ha hco hso hpl hro hc hr hrk hcn hij hjj) (cwV 2 hts gX8_lightToday_X8_brightnessOf rfl rfl rfl (by decide +kernel) ⟨Nat.le_of_ble_eq_true rfl, Nat.le_of_ble_eq_true rfl⟩) (dz_P.preV hE hS hG hco rfl ha) rfl rfl hl.1 rfl (lv_room (Nat.le_of_ble_eq_true rfl)) dX8_lightToday_19 ⟨Nat.le_of_ble_eq_true rfl, Nat.le_of_ble_eq_true rfl⟩) ?_
  refine lv_topi (fun v_3 ev_3 => ?_)
  obtain rfl : v_3 = (m_times (m_turn fc fr j)) := ev_3
  refine va_mabs hx hb (hml.trans hl.1.symm) hown (hts _ (List.mem_of_getElem? (i := 2) rfl)) (hts _ (List.mem_of_getElem? (i := 3) rfl)) (hts _ (List.mem_of_getElem? (i := 4) rfl)) (hts _ (List.mem_of_getElem? (i := 5) rfl)) (Nat.le_of_ble_eq_true rfl) (Nat.le_of_ble_eq_true rfl) (Nat.le_of_ble_eq_true rfl) (Nat.le_of_ble_eq_true rfl) dX8_lightToday_22 ?_
  refine lv_iload_n hx hb dX8_lightToday_25 rfl (lv_at hl 0 rfl) ?_
  refine lv_imul hx hb dX8_lightToday_26 ?_
  refine lv_aload_n hx hb dX8_lightToday_27 rfl (lv_at hl 2 rfl) ?_
  refine lv_iload_n hx hb dX8_lightToday_28 rfl (lv_at hl 3 rfl) ?_
  refine lv_aload_n hx hb dX8_lightToday_29 rfl (lv_at hl 1 rfl) ?_
  refine dz_get hx hb hts (fun _ h => List.mem_cons_of_mem _ (List.mem_append_left _ (List.mem_append_left _ (List.mem_append_left _ (List.mem_append_left _ (List.mem_append_left _ (List.mem_append_right _ h))))))) hown hE hG ha hco rfl 6 (by decide) (hts _ (List.mem_of_getElem? (i := 1) rfl)) (fun _ h9 => h9) rfl dX8_lightToday_30 ?_
  refine dz_kRi (va_runV (As := [_, _]) ⟨hx, hb, hml, hown, hts⟩ (c_X6_starsOn l Z _ _ _ _ _ _ _ _ _ _ _ _ _ _ _ _ _ _ rfl hso rfl hst0 hstt hnt hsw) (cwV 2 hts gX8_lightToday_X6_starsOn rfl rfl rfl (by decide +kernel) ⟨Nat.le_of_ble_eq_true rfl, Nat.le_of_ble_eq_true rfl⟩) (dz_P.preV hE hS hG hso rfl rfl) rfl rfl hl.1 rfl (lv_room (Nat.le_of_ble_eq_true rfl)) dX8_lightToday_33 ⟨Nat.le_of_ble_eq_true rfl, Nat.le_of_ble_eq_true rfl⟩) ?_
  refine lv_topi (fun v_4 ev_4 => ?_)
  obtain rfl : v_4 = (m_sts sr sd sw sg (sx sc) (nI rk) dy (nst sc)) := ev_4
  refine lv_iadd hx hb dX8_lightToday_36 ?_
  refine W.iret hx hb hrt (fun t ht hW => ⟨congrArg (fun x => Outcome.returned (some (Value.int x))) ?_, ht⟩) (fun _ h => by cases h) dX8_lightToday_37
  rfl

set_option maxHeartbeats 4000000 in
set_option maxRecDepth 100000 in
theorem c_mdIn (l : Launch) (Z : dzG) (G : dzW) (ad : dzA) (aX nl nx : Nat) (dy ssf sst cfr grw : Int32) (ns sc rk ot j jo : Nat) (cnt : Nat → Nat) (col row fl : Nat → Int32) (pl : Nat → Nat → Int32) (nf : Nat) (fdy : Nat → Int32) (lg : Nat → Nat → Int32) (S : Nat → Int64) (Q : Nat → Int32) (fc fr : Nat → Int32) (ha : ad (1, 0) = aX) (hco : G (1, 0) = some (eO 9 [.ref (ad (2, 0)), .ref (ad (9, 0)), .int (nI nl), .int (nI nx), .ref (ad (19, 0)), .ref (ad (26, 0)), .int dy, .int ssf, .int sst, .int cfr, .int grw])) (hls : dz_L Z G ad (9, 0) (10, 0) ns (fun i => ad (11, i))) (hsc : sc < ns) (hns : ns ≤ 5) (hso : G (11, sc) = some (eO 7 [.int (col sc), .int (row sc), .int (fl sc), .ref (ad (12, sc)), .int (nI (cnt sc)), .ref (ad (13, sc)), .ref (ad (15, sc))])) (hpl : G (12, sc) = some (eI Z 441 (pl sc))) (hro : G (2, 0) = some (eO 6 [.ref (ad (3, 0)), .ref (ad (5, 0)), .ref (ad (6, 0)), .ref (ad (7, 0))])) (hc : G (5, 0) = some (eI Z 484 fc)) (hr : G (6, 0) = some (eI Z 484 fr)) (hF : dz_Fr Z G ad nf fdy lg) (hnf : nf ≤ 60) (h22 : G (22, 0) = some (eJ Z 151 S)) (h23 : G (23, 0) = some (eI Z 151 Q)) (hrk : rk < cnt sc) (hcn : cnt sc ≤ 441) (hij : pl sc rk = nI j) (hjj : j + 22 < 484) (hot : ot < cnt sc) (hio : pl sc ot = nI jo) (hjo : jo + 22 < 484) (h6r : rk < 6) (h6o : ot < 6) : dzWr l yX8_measuredDays wsX8_measuredDays 4 95 0 0 Z G ad [.ref aX, .int (nI sc), .int (nI rk), .int (nI ot)] rv_i (fun (x : Int32) G1 ad1 => (∀ r9 : dzR, r9 ≠ (22, 0) → r9 ≠ (23, 0) → G1 r9 = G r9 ∧ ad1 r9 = ad r9) ∧ ad = ad1 ∧ ∃ (S0 : Nat → Int64) (S1 : Nat → Int64) (Q1 : Nat → Int32), (∀ j, j < 151 → S0 j = 0) ∧ G1 (22, 0) = some (eJ Z 151 S1) ∧ G1 (23, 0) = some (eI Z 151 Q1) ∧ x = m_best (m_mi fdy (fun i => lg i (6 * sc + rk)) (fun j => lg j (6 * sc + ot)) nf (m_abs (m_times (m_turn fc fr j))) (m_abs (m_times (m_turn fc fr jo))) (S0, fun _ => 0) nf).1 (m_mi fdy (fun i => lg i (6 * sc + rk)) (fun j => lg j (6 * sc + ot)) nf (m_abs (m_times (m_turn fc fr j))) (m_abs (m_times (m_turn fc fr jo))) (S0, fun _ => 0) nf).2 151) := by
  refine Met.ofW (cc := cX8_measuredDays) (maxL := 7) (ret := (some .int)) (by decide) rfl ?_
  intro p e s m args below meth c s₁ B hml hv
  obtain ⟨rfl, hG, hE⟩ := hv
  have hx := B.exec
  have hb := B.bytes
  have hrt := B.returns
  have hts := atoms_spec (ws := wsX8_measuredDays) B.pre
  have hown : s.vm.findClass RX8 = some m.cls := findClass_of_methodNamed B.named
  have hlocks := B.notSynchronized
  have hS : va_S (dz_A Z) s.heap s.heap [] := va_S.rf
  have hl := lv_entry ([.ref aX, .int (nI sc), .int (nI rk), .int (nI ot)]) (n := 7) (Nat.le_of_ble_eq_true rfl)
  rw [lg_entry_eq]
  generalize (lg_sl ([.ref aX, .int (nI sc), .int (nI rk), .int (nI ot)]) ++ List.replicate (7 - (lg_sl ([.ref aX, .int (nI sc), .int (nI rk), .int (nI ot)])).length) Slot.unset).toArray = ls at hl ⊢
  have hl : lv_has ls 7 [(0, .ref aX), (1, .int (nI sc)), (2, .int (nI rk)), (3, .int (nI ot))] := hl
  refine lv_aload_n hx hb dX8_measuredDays_0 rfl (lv_at hl 0 rfl) ?_
  refine lv_iload_n hx hb dX8_measuredDays_1 rfl (lv_at hl 1 rfl) ?_
  refine dz_kRr (va_runV (As := [_]) ⟨hx, hb, hml, hown, hts⟩ (c_sourceIn l Z _ _ _ _ _ _ _ _ _ _ _ _ _ _ _ _ ha hco hls hsc hns hso) (cwV 1 hts gX8_measuredDays_X8_sourceAt rfl rfl rfl (by decide +kernel) ⟨Nat.le_of_ble_eq_true rfl, Nat.le_of_ble_eq_true rfl⟩) (dz_P.preV hE hS hG hco rfl ha) rfl rfl hl.1 rfl (lv_room (Nat.le_of_ble_eq_true rfl)) dX8_measuredDays_2 ⟨Nat.le_of_ble_eq_true rfl, Nat.le_of_ble_eq_true rfl⟩) ?_
  refine lv_astore (lv' := [(4, .ref (ad (11, sc))), (0, .ref aX), (1, .int (nI sc)), (2, .int (nI rk)), (3, .int (nI ot))]) hx hb dX8_measuredDays_5 hl (by decide) rfl (fun ls hl => ?_)
  refine lv_aload hx hb dX8_measuredDays_7 (lv_at hl 0 rfl) ?_
  refine lv_ifnull hx hb dX8_measuredDays_9 ?_
  refine lv_iload_n hx hb dX8_measuredDays_12 rfl (lv_at hl 3 rfl) ?_
  refine lv_bipush (v := 6) hx hb dX8_measuredDays_13 (by decide) ?_
  refine lv_icmp_ge (tgt := 24) hx hb dX8_measuredDays_15 (by decide) (fun c_15 => absurd c_15 (fun z => absurd ((nI_leI (a := 6) (by omega) (by omega)).mp z) (by omega))) (fun c_15 => ?_)
  refine lv_iload_n hx hb dX8_measuredDays_18 rfl (lv_at hl 4 rfl) ?_
  refine lv_bipush (v := 6) hx hb dX8_measuredDays_19 (by decide) ?_
  refine lv_icmp_lt (tgt := 26) hx hb dX8_measuredDays_21 (by decide) (fun c_21 => ?_) (fun c_21 => absurd (nI_lt h6o (by decide)) c_21)
  refine lv_aload_n hx hb dX8_measuredDays_26 rfl (lv_at hl 1 rfl) ?_
  refine lv_aload hx hb dX8_measuredDays_27 (lv_at hl 0 rfl) ?_
  refine lv_iload_n hx hb dX8_measuredDays_29 rfl (lv_at hl 3 rfl) ?_
  refine dz_kRi (va_runV (As := [_, _]) ⟨hx, hb, hml, hown, hts⟩ (c_X8_brightnessOf l Z _ _ _ _ _ _ _ _ _ _ _ _ j _ _ _ _ _ _ _  ha hco hso hpl hro hc hr hrk hcn hij hjj) (cwV 2 hts gX8_measuredDays_X8_brightnessOf rfl rfl rfl (by decide +kernel) ⟨Nat.le_of_ble_eq_true rfl, Nat.le_of_ble_eq_true rfl⟩) (dz_P.preV hE hS hG hco rfl ha) rfl rfl hl.1 rfl (lv_room (Nat.le_of_ble_eq_true rfl)) dX8_measuredDays_30 ⟨Nat.le_of_ble_eq_true rfl, Nat.le_of_ble_eq_true rfl⟩) ?_
  refine lv_topi (fun v_1 ev_1 => ?_)
  obtain rfl : v_1 = (m_times (m_turn fc fr j)) := ev_1
  refine va_mabs hx hb (hml.trans hl.1.symm) hown (hts _ (List.mem_of_getElem? (i := 1) rfl)) (hts _ (List.mem_of_getElem? (i := 2) rfl)) (hts _ (List.mem_of_getElem? (i := 3) rfl)) (hts _ (List.mem_of_getElem? (i := 4) rfl)) (Nat.le_of_ble_eq_true rfl) (Nat.le_of_ble_eq_true rfl) (Nat.le_of_ble_eq_true rfl) (Nat.le_of_ble_eq_true rfl) dX8_measuredDays_33 ?_
  refine lv_topi (fun v_2 ev_2 => ?_)
  obtain rfl : v_2 = m_abs (m_times (m_turn fc fr j)) := ev_2
  refine lv_istore (lv' := [(5, .int (m_abs (m_times (m_turn fc fr j)))), (4, .ref (ad (11, sc))), (0, .ref aX), (1, .int (nI sc)), (2, .int (nI rk)), (3, .int (nI ot))]) hx hb dX8_measuredDays_36 hl (by decide) rfl (fun ls hl => ?_)
  refine lv_aload_n hx hb dX8_measuredDays_38 rfl (lv_at hl 2 rfl) ?_
  refine lv_aload hx hb dX8_measuredDays_39 (lv_at hl 1 rfl) ?_
  refine lv_iload_n hx hb dX8_measuredDays_41 rfl (lv_at hl 5 rfl) ?_
  refine dz_kRi (va_runV (As := [_, _]) ⟨hx, hb, hml, hown, hts⟩ (c_X8_brightnessOf l Z _ _ _ _ _ _ _ _ _ _ _ _ jo _ _ _ _ _ _ _  ha hco hso hpl hro hc hr hot hcn hio hjo) (cwV 2 hts gX8_measuredDays_X8_brightnessOf rfl rfl rfl (by decide +kernel) ⟨Nat.le_of_ble_eq_true rfl, Nat.le_of_ble_eq_true rfl⟩) (dz_P.preV hE hS hG hco rfl ha) rfl rfl hl.1 rfl (lv_room (Nat.le_of_ble_eq_true rfl)) dX8_measuredDays_42 ⟨Nat.le_of_ble_eq_true rfl, Nat.le_of_ble_eq_true rfl⟩) ?_
  refine lv_topi (fun v_3 ev_3 => ?_)
  obtain rfl : v_3 = (m_times (m_turn fc fr jo)) := ev_3
  refine va_mabs hx hb (hml.trans hl.1.symm) hown (hts _ (List.mem_of_getElem? (i := 1) rfl)) (hts _ (List.mem_of_getElem? (i := 2) rfl)) (hts _ (List.mem_of_getElem? (i := 3) rfl)) (hts _ (List.mem_of_getElem? (i := 4) rfl)) (Nat.le_of_ble_eq_true rfl) (Nat.le_of_ble_eq_true rfl) (Nat.le_of_ble_eq_true rfl) (Nat.le_of_ble_eq_true rfl) dX8_measuredDays_45 ?_
  refine lv_topi (fun v_4 ev_4 => ?_)
  obtain rfl : v_4 = m_abs (m_times (m_turn fc fr jo)) := ev_4
  refine lv_istore (lv' := [(6, .int (m_abs (m_times (m_turn fc fr jo)))), (5, .int (m_abs (m_times (m_turn fc fr j)))), (4, .ref (ad (11, sc))), (0, .ref aX), (1, .int (nI sc)), (2, .int (nI rk)), (3, .int (nI ot))]) hx hb dX8_measuredDays_48 hl (by decide) rfl (fun ls hl => ?_)
  refine lv_aload_n hx hb dX8_measuredDays_50 rfl (lv_at hl 3 rfl) ?_
  refine dz_get hx hb hts (fun _ h => List.mem_cons_of_mem _ (List.mem_append_left _ (List.mem_append_left _ (List.mem_append_left _ (List.mem_append_left _ (List.mem_append_left _ (List.mem_append_right _ h))))))) hown hE hG ha hco rfl 4 (by decide) (hts _ (List.mem_of_getElem? (i := 5) rfl)) (fun _ h9 => h9) rfl dX8_measuredDays_51 ?_
  refine lv_iload_n hx hb dX8_measuredDays_54 rfl (lv_at hl 4 rfl) ?_
  refine lv_iload_n hx hb dX8_measuredDays_55 rfl (lv_at hl 5 rfl) ?_
  refine lv_iload_n hx hb dX8_measuredDays_56 rfl (lv_at hl 6 rfl) ?_
  refine lv_iload hx hb dX8_measuredDays_57 (lv_at hl 1 rfl) ?_
  refine lv_iload hx hb dX8_measuredDays_59 (lv_at hl 0 rfl) ?_
  refine dz_kMi (va_runV (As := [_, _, _, _, _]) ⟨hx, hb, hml, hown, hts⟩ (c_X0_measure l Z _ _ _ nf fdy lg _ _ sc rk ot _ _ rfl hF hnf h22 h23 (by omega) h6r h6o) (cwV 5 hts gX8_measuredDays_X0_measure rfl rfl rfl (by decide +kernel) ⟨Nat.le_of_ble_eq_true rfl, Nat.le_of_ble_eq_true rfl⟩) (dz_P.preV hE hS hG hF.1 rfl rfl) rfl rfl hl.1 rfl (lv_room (Nat.le_of_ble_eq_true rfl)) dX8_measuredDays_61 ⟨Nat.le_of_ble_eq_true rfl, Nat.le_of_ble_eq_true rfl⟩) hS (fun x_61_1 G_61_1 ad_61_1 H locs hp_61_1 hG hS => ?_)
  obtain ⟨fr_61_1, rfl, g_61_1⟩ := hp_61_1
  refine W.widen (k := 0) (n := 0) (by first | omega | decide) (by first | omega | decide) ?_
  refine W.iret hx hb hrt (fun t ht hW => dz_endM (f := rv_i) _ hE hS hG ?_ ht hW) (fun q h => hS.2.2 q h) dX8_measuredDays_64
  refine ⟨fun r9 n_0 n_1 => (fr_61_1 r9 n_0 n_1), rfl, ?_⟩
  exact g_61_1

set_option maxHeartbeats 4000000 in
set_option maxRecDepth 100000 in
theorem c_mdOut (l : Launch) (Z : dzG) (G : dzW) (ad : dzA) (aX nl nx : Nat) (dy ssf sst cfr grw : Int32) (ns sc rk ot : Nat) (cnt : Nat → Nat) (col row fl : Nat → Int32) (ha : ad (1, 0) = aX) (hco : G (1, 0) = some (eO 9 [.ref (ad (2, 0)), .ref (ad (9, 0)), .int (nI nl), .int (nI nx), .ref (ad (19, 0)), .ref (ad (26, 0)), .int dy, .int ssf, .int sst, .int cfr, .int grw])) (hls : dz_L Z G ad (9, 0) (10, 0) ns (fun i => ad (11, i))) (hsc : sc < ns) (hns : ns ≤ 5) (hso : G (11, sc) = some (eO 7 [.int (col sc), .int (row sc), .int (fl sc), .ref (ad (12, sc)), .int (nI (cnt sc)), .ref (ad (13, sc)), .ref (ad (15, sc))])) (h66 : 6 ≤ rk ∨ 6 ≤ ot) (hrk : rk < 441) (hot : ot < 441) : dzRd l yX8_measuredDays wsX8_measuredDays 4 85 Z G ad [.ref aX, .int (nI sc), .int (nI rk), .int (nI ot)] (some (.int (-1))) := by
  refine Met.ofW (cc := cX8_measuredDays) (maxL := 7) (ret := (some .int)) (by decide) rfl ?_
  intro p e s m args below meth c s₁ B hml hv
  obtain ⟨rfl, hG, hE⟩ := hv
  have hx := B.exec
  have hb := B.bytes
  have hrt := B.returns
  have hts := atoms_spec (ws := wsX8_measuredDays) B.pre
  have hown : s.vm.findClass RX8 = some m.cls := findClass_of_methodNamed B.named
  have hlocks := B.notSynchronized
  have hS : va_S (dz_A Z) s.heap s.heap [] := va_S.rf
  have hl := lv_entry ([.ref aX, .int (nI sc), .int (nI rk), .int (nI ot)]) (n := 7) (Nat.le_of_ble_eq_true rfl)
  rw [lg_entry_eq]
  generalize (lg_sl ([.ref aX, .int (nI sc), .int (nI rk), .int (nI ot)]) ++ List.replicate (7 - (lg_sl ([.ref aX, .int (nI sc), .int (nI rk), .int (nI ot)])).length) Slot.unset).toArray = ls at hl ⊢
  have hl : lv_has ls 7 [(0, .ref aX), (1, .int (nI sc)), (2, .int (nI rk)), (3, .int (nI ot))] := hl
  refine lv_aload_n hx hb dX8_measuredDays_0 rfl (lv_at hl 0 rfl) ?_
  refine lv_iload_n hx hb dX8_measuredDays_1 rfl (lv_at hl 1 rfl) ?_
  refine dz_kRr (va_runV (As := [_]) ⟨hx, hb, hml, hown, hts⟩ (c_sourceIn l Z _ _ _ _ _ _ _ _ _ _ _ _ _ _ _ _ ha hco hls hsc hns hso) (cwV 1 hts gX8_measuredDays_X8_sourceAt rfl rfl rfl (by decide +kernel) ⟨Nat.le_of_ble_eq_true rfl, Nat.le_of_ble_eq_true rfl⟩) (dz_P.preV hE hS hG hco rfl ha) rfl rfl hl.1 rfl (lv_room (Nat.le_of_ble_eq_true rfl)) dX8_measuredDays_2 ⟨Nat.le_of_ble_eq_true rfl, Nat.le_of_ble_eq_true rfl⟩) ?_
  refine lv_astore (lv' := [(4, .ref (ad (11, sc))), (0, .ref aX), (1, .int (nI sc)), (2, .int (nI rk)), (3, .int (nI ot))]) hx hb dX8_measuredDays_5 hl (by decide) rfl (fun ls hl => ?_)
  refine lv_aload hx hb dX8_measuredDays_7 (lv_at hl 0 rfl) ?_
  refine lv_ifnull hx hb dX8_measuredDays_9 ?_
  refine lv_iload_n hx hb dX8_measuredDays_12 rfl (lv_at hl 3 rfl) ?_
  refine lv_bipush (v := 6) hx hb dX8_measuredDays_13 (by decide) ?_
  refine lv_icmp_ge (tgt := 24) hx hb dX8_measuredDays_15 (by decide) (fun c_15 => ?_) (fun c_15 => ?_)
  · refine lv_iconst (v := (-1)) hx hb dX8_measuredDays_24 (by decide) ?_
    refine W.iret hx hb hrt (fun t ht hW => ⟨congrArg (fun x => Outcome.returned (some (Value.int x))) ?_, ht⟩) (fun _ h => by cases h) dX8_measuredDays_25
    rfl
  · have hr6 : ¬ 6 ≤ rk := fun z => c_15 ((nI_leI (a := 6) (by omega) (by omega)).mpr z)
    refine lv_iload_n hx hb dX8_measuredDays_18 rfl (lv_at hl 4 rfl) ?_
    refine lv_bipush (v := 6) hx hb dX8_measuredDays_19 (by decide) ?_
    refine lv_icmp_lt (tgt := 26) hx hb dX8_measuredDays_21 (by decide) (fun c_21 => absurd c_21 (fun z => absurd ((nI_leI (a := 6) (by omega) (by omega)).mpr (h66.resolve_left hr6)) (Int32.not_le.mpr z))) (fun c_21 => ?_)
    refine lv_iconst (v := (-1)) hx hb dX8_measuredDays_24 (by decide) ?_
    refine W.iret hx hb hrt (fun t ht hW => ⟨congrArg (fun x => Outcome.returned (some (Value.int x))) ?_, ht⟩) (fun _ h => by cases h) dX8_measuredDays_25
    rfl
