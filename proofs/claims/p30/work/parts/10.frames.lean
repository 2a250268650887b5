set_option maxHeartbeats 4000000 in
set_option maxRecDepth 100000 in
theorem c_J7_fill_53178 (l : Launch) (Z : dzG) (G : dzW) (ad : dzA) (r : dzR) (a n : Nat) (v : Int32) (f : Nat → Int32) (ha : ad r = a) (hf : G r = some (eI Z n f)) (hn : n ≤ 1000) : dzWr l yJ7_fill_53178 wsJ7_fill_53178 0 0 0 0 Z G ad [.ref a, .int v] rv_v (fun (x : Unit) G1 ad1 => (∀ r9 : dzR, r9 ≠ r → G1 r9 = G r9 ∧ ad1 r9 = ad r9) ∧ ad = ad1 ∧ G1 r = some (eI Z n (fun _ => v))) := by
  refine Met.ofW (cc := cJ7_fill_53178) (maxL := 4) (ret := none) (by decide) rfl ?_
  intro p e s m args below meth c s₁ B hml hv
  obtain ⟨rfl, hG, hE⟩ := hv
  have hx := B.exec
  have hb := B.bytes
  have hrt := B.returns
  have hts := atoms_spec (ws := wsJ7_fill_53178) B.pre
  have hown : s.vm.findClass RJ7 = some m.cls := findClass_of_methodNamed B.named
  have hlocks := B.notSynchronized
  have hS : va_S (dz_A Z) s.heap s.heap [] := va_S.rf
  have hl := lv_entry ([.ref a, .int v]) (n := 4) (Nat.le_of_ble_eq_true rfl)
  rw [lg_entry_eq]
  generalize (lg_sl ([.ref a, .int v]) ++ List.replicate (4 - (lg_sl ([.ref a, .int v])).length) Slot.unset).toArray = ls at hl ⊢
  have hl : lv_has ls 4 [(0, .ref a), (1, .int v)] := hl
  refine lv_iconst (v := 0) hx hb dJ7_fill_53178_0 (by decide) ?_
  refine lv_istore_n (lv' := [(2, .int 0), (0, .ref a), (1, .int v)]) hx hb dJ7_fill_53178_1 rfl hl (by decide) rfl (fun ls hl => ?_)
  refine lv_aload_n hx hb dJ7_fill_53178_2 rfl (lv_at hl 1 rfl) ?_
  refine dz_alen hx hb hE hG ha hf 0 rfl dJ7_fill_53178_3 ?_
  refine lv_istore_n (lv' := [(3, .int (nI n)), (2, .int 0), (0, .ref a), (1, .int v)]) hx hb dJ7_fill_53178_4 rfl hl (by decide) rfl (fun ls hl => ?_)
  refine dz_lw (α := Nat × (Nat → Int32) × dzW × Array Slot) (fun a9 => (fun (k : Nat) (g : Nat → Int32) (G_L5 : dzW) (ls : Array Slot) => n - k) a9.1 a9.2.1 a9.2.2.1 a9.2.2.2) (fun a9 H locs => (fun (k : Nat) (g : Nat → Int32) (G_L5 : dzW) (ls : Array Slot) => (k ≤ n) ∧ (∀ j, j < k → g j = v) ∧ (∀ r9 : dzR, r9 ≠ r → G_L5 r9 = G r9 ∧ ad r9 = ad r9) ∧ (G_L5 r = some (eI Z n g)) ∧ dz_w Z G_L5 ad H ∧ va_S (dz_A Z) s.heap H locs ∧ lv_has ls 4 [(3, .int (nI n)), (2, .int (nI k)), (0, .ref a), (1, .int v)]) a9.1 a9.2.1 a9.2.2.1 a9.2.2.2) (fun a9 => F0 m 5 a9.2.2.2 []) (fun a9 H locs hI ih_5 => ?_) (0, f, G, ls) ⟨(Nat.zero_le _), (fun j hj => absurd hj (Nat.not_lt_zero _)), (fun r9 _ => ⟨rfl, rfl⟩), hf, hG, hS, lv_sub hl [0, 1, 2, 3] rfl⟩
  obtain ⟨k, g, G_L5, ls⟩ := a9
  obtain ⟨hk, hg, fr_L5, hgk, hG, hS, hl⟩ := hI
  have hk : k ≤ n := hk
  have hg : ∀ j, j < k → g j = v := hg
  have fr_L5 : ∀ r9 : dzR, r9 ≠ r → G_L5 r9 = G r9 ∧ ad r9 = ad r9 := fr_L5
  have hgk : G_L5 r = some (eI Z n g) := hgk
  have hG : dz_w Z G_L5 ad H := hG
  have hS : va_S (dz_A Z) s.heap H locs := hS
  have hl : lv_has ls 4 [(3, .int (nI n)), (2, .int (nI k)), (0, .ref a), (1, .int v)] := hl
  refine lv_iload_n hx hb dJ7_fill_53178_5 rfl (lv_at hl 1 rfl) ?_
  refine lv_iload_n hx hb dJ7_fill_53178_6 rfl (lv_at hl 0 rfl) ?_
  refine lv_icmp_ge (tgt := 20) hx hb dJ7_fill_53178_7 (by decide) (fun c_7 => ?_) (fun c_7 => ?_)
  · have hi2 : k = n := by have := (nI_leI (by omega) (by omega)).mp c_7; omega
    obtain ⟨G_1, hG, w_1, o_1⟩ := dz_re (fun _ => v) hG hgk (fun j hj => hg j (by omega))
    refine W.widen (k := 0) (n := 0) (by first | omega | decide) (by first | omega | decide) ?_
    refine W.vret hx hb hrt (fun t ht hW => dz_endM (f := rv_v) () hE hS hG ?_ ht hW) (fun q h => hS.2.2 q h) dJ7_fill_53178_20
    refine ⟨fun r9 n_0 => (dz_tr (o_1 r9 n_0) (fr_L5 r9 n_0)), rfl, ?_⟩
    exact w_1
  · have hlt : k < n := by
      rcases Nat.lt_or_ge k n with q | q
      · exact q
      · exact absurd ((nI_leI (by omega) (by omega)).mpr q) c_7
    refine lv_aload_n hx hb dJ7_fill_53178_10 rfl (lv_at hl 2 rfl) ?_
    refine lv_iload_n hx hb dJ7_fill_53178_11 rfl (lv_at hl 1 rfl) ?_
    refine lv_iload_n hx hb dJ7_fill_53178_12 rfl (lv_at hl 3 rfl) ?_
    refine dz_iast hx hb hE hG ha hS hgk (vp_in_nI hlt (by omega)) dJ7_fill_53178_13 (fun H locs hG hS => ?_)
    obtain ⟨G_2, hG, w_2, o_2⟩ := dz_nm hG
    obtain ⟨v_1, ev_1⟩ : ∃ y : Int32, y = (nI k) + 1 := ⟨_, rfl⟩
    refine lv_iinc (v := v_1) (lv' := [(2, .int v_1), (3, .int (nI n)), (0, .ref a), (1, .int v)]) hx hb dJ7_fill_53178_14 hl (k := 1) rfl (by rw [ev_1]; rfl) (by decide) rfl (fun ls hl => ?_)
    refine lv_goto (tgt := 5) hx hb dJ7_fill_53178_17 (by decide) ?_
    obtain rfl : v_1 = nI (k + 1) := ev_1.trans (nI_1 k)
    exact ih_5 (k + 1, _, G_2, ls) _ _ (by first | (dsimp only; omega) | omega) ⟨(by omega), (m_up (g := fun _ => v) (by omega) hg rfl), (fun r9 n_0 => (dz_tr (o_2 r9 n_0) (fr_L5 r9 n_0))), w_2, hG, hS, lv_sub hl [1, 0, 2, 3] rfl⟩

set_option maxHeartbeats 4000000 in
set_option maxRecDepth 100000 in
theorem c_J7_fill_d0a16 (l : Launch) (Z : dzG) (G : dzW) (ad : dzA) (r : dzR) (a n : Nat) (v : Int64) (f : Nat → Int64) (ha : ad r = a) (hf : G r = some (eJ Z n f)) (hn : n ≤ 1000) : dzWr l yJ7_fill_d0a16 wsJ7_fill_d0a16 0 0 0 0 Z G ad [.ref a, .long v] rv_v (fun (x : Unit) G1 ad1 => (∀ r9 : dzR, r9 ≠ r → G1 r9 = G r9 ∧ ad1 r9 = ad r9) ∧ ad = ad1 ∧ ∃ g : Nat → Int64, G1 r = some (eJ Z n g) ∧ ∀ j, j < n → g j = v) := by
  refine Met.ofW (cc := cJ7_fill_d0a16) (maxL := 5) (ret := none) (by decide) rfl ?_
  intro p e s m args below meth c s₁ B hml hv
  obtain ⟨rfl, hG, hE⟩ := hv
  have hx := B.exec
  have hb := B.bytes
  have hrt := B.returns
  have hts := atoms_spec (ws := wsJ7_fill_d0a16) B.pre
  have hown : s.vm.findClass RJ7 = some m.cls := findClass_of_methodNamed B.named
  have hlocks := B.notSynchronized
  have hS : va_S (dz_A Z) s.heap s.heap [] := va_S.rf
  have hl := lv_entry ([.ref a, .long v]) (n := 5) (Nat.le_of_ble_eq_true rfl)
  rw [lg_entry_eq]
  generalize (lg_sl ([.ref a, .long v]) ++ List.replicate (5 - (lg_sl ([.ref a, .long v])).length) Slot.unset).toArray = ls at hl ⊢
  have hl : lv_has ls 5 [(0, .ref a), (1, .long v)] := hl
  refine lv_iconst (v := 0) hx hb dJ7_fill_d0a16_0 (by decide) ?_
  refine lv_istore_n (lv' := [(3, .int 0), (0, .ref a), (1, .long v)]) hx hb dJ7_fill_d0a16_1 rfl hl (by decide) rfl (fun ls hl => ?_)
  refine lv_aload_n hx hb dJ7_fill_d0a16_2 rfl (lv_at hl 1 rfl) ?_
  refine dz_alen hx hb hE hG ha hf 1 rfl dJ7_fill_d0a16_3 ?_
  refine lv_istore (lv' := [(4, .int (nI n)), (3, .int 0), (0, .ref a), (1, .long v)]) hx hb dJ7_fill_d0a16_4 hl (by decide) rfl (fun ls hl => ?_)
  refine dz_lw (α := Nat × (Nat → Int64) × dzW × Array Slot) (fun a9 => (fun (k : Nat) (g : Nat → Int64) (G_L6 : dzW) (ls : Array Slot) => n - k) a9.1 a9.2.1 a9.2.2.1 a9.2.2.2) (fun a9 H locs => (fun (k : Nat) (g : Nat → Int64) (G_L6 : dzW) (ls : Array Slot) => (k ≤ n) ∧ (∀ j, j < k → g j = v) ∧ (∀ r9 : dzR, r9 ≠ r → G_L6 r9 = G r9 ∧ ad r9 = ad r9) ∧ (G_L6 r = some (eJ Z n g)) ∧ dz_w Z G_L6 ad H ∧ va_S (dz_A Z) s.heap H locs ∧ lv_has ls 5 [(4, .int (nI n)), (3, .int (nI k)), (0, .ref a), (1, .long v)]) a9.1 a9.2.1 a9.2.2.1 a9.2.2.2) (fun a9 => F0 m 6 a9.2.2.2 []) (fun a9 H locs hI ih_6 => ?_) (0, f, G, ls) ⟨(Nat.zero_le _), (fun j hj => absurd hj (Nat.not_lt_zero _)), (fun r9 _ => ⟨rfl, rfl⟩), hf, hG, hS, lv_sub hl [0, 1, 2, 3] rfl⟩
  obtain ⟨k, g, G_L6, ls⟩ := a9
  obtain ⟨hk, hg, fr_L6, hgk, hG, hS, hl⟩ := hI
  have hk : k ≤ n := hk
  have hg : ∀ j, j < k → g j = v := hg
  have fr_L6 : ∀ r9 : dzR, r9 ≠ r → G_L6 r9 = G r9 ∧ ad r9 = ad r9 := fr_L6
  have hgk : G_L6 r = some (eJ Z n g) := hgk
  have hG : dz_w Z G_L6 ad H := hG
  have hS : va_S (dz_A Z) s.heap H locs := hS
  have hl : lv_has ls 5 [(4, .int (nI n)), (3, .int (nI k)), (0, .ref a), (1, .long v)] := hl
  refine lv_iload_n hx hb dJ7_fill_d0a16_6 rfl (lv_at hl 1 rfl) ?_
  refine lv_iload hx hb dJ7_fill_d0a16_7 (lv_at hl 0 rfl) ?_
  refine lv_icmp_ge (tgt := 22) hx hb dJ7_fill_d0a16_9 (by decide) (fun c_9 => ?_) (fun c_9 => ?_)
  · have hi2 : k = n := by have := (nI_leI (by omega) (by omega)).mp c_9; omega
    refine W.widen (k := 0) (n := 0) (by first | omega | decide) (by first | omega | decide) ?_
    refine W.vret hx hb hrt (fun t ht hW => dz_endM (f := rv_v) () hE hS hG ?_ ht hW) (fun q h => hS.2.2 q h) dJ7_fill_d0a16_22
    refine ⟨fun r9 n_0 => (fr_L6 r9 n_0), rfl, ?_⟩
    exact ⟨g, hgk, fun j hj => hg j (by omega)⟩
  · have hlt : k < n := by
      rcases Nat.lt_or_ge k n with q | q
      · exact q
      · exact absurd ((nI_leI (by omega) (by omega)).mpr q) c_9
    refine lv_aload_n hx hb dJ7_fill_d0a16_12 rfl (lv_at hl 2 rfl) ?_
    refine lv_iload_n hx hb dJ7_fill_d0a16_13 rfl (lv_at hl 1 rfl) ?_
    refine lv_lload_n hx hb dJ7_fill_d0a16_14 rfl (lv_at hl 3 rfl) ?_
    refine dz_last hx hb hE hG ha hS hgk (vp_in_nI hlt (by omega)) dJ7_fill_d0a16_15 (fun H locs hG hS => ?_)
    obtain ⟨G_1, hG, w_1, o_1⟩ := dz_nm hG
    obtain ⟨v_1, ev_1⟩ : ∃ y : Int32, y = (nI k) + 1 := ⟨_, rfl⟩
    refine lv_iinc (v := v_1) (lv' := [(3, .int v_1), (4, .int (nI n)), (0, .ref a), (1, .long v)]) hx hb dJ7_fill_d0a16_16 hl (k := 1) rfl (by rw [ev_1]; rfl) (by decide) rfl (fun ls hl => ?_)
    refine lv_goto (tgt := 6) hx hb dJ7_fill_d0a16_19 (by decide) ?_
    obtain rfl : v_1 = nI (k + 1) := ev_1.trans (nI_1 k)
    exact ih_6 (k + 1, _, G_1, ls) _ _ (by first | (dsimp only; omega) | omega) ⟨(by omega), (m_upL (by omega) hg), (fun r9 n_0 => (dz_tr (o_1 r9 n_0) (fr_L6 r9 n_0))), w_1, hG, hS, lv_sub hl [1, 0, 2, 3] rfl⟩

set_option maxHeartbeats 4000000 in
set_option maxRecDepth 100000 in
theorem c_X3_isHeld (l : Launch) (Z : dzG) (G : dzW) (ad : dzA) (i a sc rk : Nat) (dy : Int32) (ha : ad (24, i) = a) (hf : G (24, i) = some (eO 4 [.int dy, .ref (ad (25, i))])) (hsc : sc < 5) (hrk : rk < 6) : dzRd l yX3_isHeld wsX3_isHeld 1 22 Z G ad [.ref a, .int (nI sc), .int (nI rk)] (some (.int 1)) := by
  refine Met.ofW (cc := cX3_isHeld) (maxL := 3) (ret := (some .boolean)) (by decide) rfl ?_
  intro p e s m args below meth c s₁ B hml hv
  obtain ⟨rfl, hG, hE⟩ := hv
  have hx := B.exec
  have hb := B.bytes
  have hrt := B.returns
  have hts := atoms_spec (ws := wsX3_isHeld) B.pre
  have hown : s.vm.findClass RX3 = some m.cls := findClass_of_methodNamed B.named
  have hlocks := B.notSynchronized
  have hS : va_S (dz_A Z) s.heap s.heap [] := va_S.rf
  have hl := lv_entry ([.ref a, .int (nI sc), .int (nI rk)]) (n := 3) (Nat.le_of_ble_eq_true rfl)
  rw [lg_entry_eq]
  generalize (lg_sl ([.ref a, .int (nI sc), .int (nI rk)]) ++ List.replicate (3 - (lg_sl ([.ref a, .int (nI sc), .int (nI rk)])).length) Slot.unset).toArray = ls at hl ⊢
  have hl : lv_has ls 3 [(0, .ref a), (1, .int (nI sc)), (2, .int (nI rk))] := hl
  refine lv_iload_n hx hb dX3_isHeld_0 rfl (lv_at hl 1 rfl) ?_
  refine lv_iconst (v := 0) hx hb dX3_isHeld_1 (by decide) ?_
  refine lv_iconst (v := 4) hx hb dX3_isHeld_2 (by decide) ?_
  refine dz_kRi (va_runSN (As := [_, _, _]) ⟨hx, hb, hml, hown, hts⟩ (c_X8_isWithin l Z _ _ _ _ _ ) ⟨va_cnB (host := "Delaylens") 3 hts gX3_isHeld_X8_isWithin_n29 rfl rfl rfl (hE.2.2.2.2.2.2.2.1 _ (by decide +kernel)) (hts _ (List.mem_of_getElem? (i := 2) rfl)) (by decide +kernel) ⟨Nat.le_of_ble_eq_true rfl, Nat.le_of_ble_eq_true rfl⟩, (hts _ (List.mem_of_getElem? (i := 1) rfl)), trivial⟩ (dz_P.pre hE hS hG) rfl rfl hl.1 rfl (lv_room (Nat.le_of_ble_eq_true rfl)) dX3_isHeld_3 ⟨Nat.le_of_ble_eq_true rfl, Nat.le_of_ble_eq_true rfl⟩) ?_
  refine lv_if_eq (tgt := 22) hx hb dX3_isHeld_6 (by decide) (fun c_6 => absurd c_6 (fun z => dz_bx z ⟨nI_pos' (by omega), (nI_leI (b := 4) (by omega) (by decide)).mpr (by omega)⟩)) (fun c_6 => ?_)
  refine lv_iload_n hx hb dX3_isHeld_9 rfl (lv_at hl 2 rfl) ?_
  refine lv_iconst (v := 0) hx hb dX3_isHeld_10 (by decide) ?_
  refine lv_iconst (v := 5) hx hb dX3_isHeld_11 (by decide) ?_
  refine dz_kRi (va_runSN (As := [_, _, _]) ⟨hx, hb, hml, hown, hts⟩ (c_X8_isWithin l Z _ _ _ _ _ ) ⟨va_cnB (host := "Delaylens") 3 hts gX3_isHeld_X8_isWithin_n29 rfl rfl rfl (hE.2.2.2.2.2.2.2.1 _ (by decide +kernel)) (hts _ (List.mem_of_getElem? (i := 2) rfl)) (by decide +kernel) ⟨Nat.le_of_ble_eq_true rfl, Nat.le_of_ble_eq_true rfl⟩, (hts _ (List.mem_of_getElem? (i := 1) rfl)), trivial⟩ (dz_P.pre hE hS hG) rfl rfl hl.1 rfl (lv_room (Nat.le_of_ble_eq_true rfl)) dX3_isHeld_12 ⟨Nat.le_of_ble_eq_true rfl, Nat.le_of_ble_eq_true rfl⟩) ?_
  refine lv_if_eq (tgt := 22) hx hb dX3_isHeld_15 (by decide) (fun c_15 => absurd c_15 (fun z => dz_bx z ⟨nI_pos' (by omega), (nI_leI (b := 5) (by omega) (by decide)).mpr (by omega)⟩)) (fun c_15 => ?_)
  refine lv_iconst (v := 1) hx hb dX3_isHeld_18 (by decide) ?_
  refine lv_goto (tgt := 23) hx hb dX3_isHeld_19 (by decide) ?_
  refine W.zret hx hb hrt (by decide) (fun t ht hW => ⟨congrArg (fun x => Outcome.returned (some (Value.int x))) ?_, ht⟩) (fun _ h => by cases h) dX3_isHeld_23
  rfl

set_option maxHeartbeats 4000000 in
set_option maxRecDepth 100000 in
theorem c_X3_lightAt (l : Launch) (Z : dzG) (G : dzW) (ad : dzA) (i a sc rk : Nat) (dy : Int32) (g : Nat → Int32) (ha : ad (24, i) = a) (hf : G (24, i) = some (eO 4 [.int dy, .ref (ad (25, i))])) (hg : G (25, i) = some (eI Z 30 g)) (hsc : sc < 5) (hrk : rk < 6) : dzRd l yX3_lightAt wsX3_lightAt 2 44 Z G ad [.ref a, .int (nI sc), .int (nI rk)] (some (.int (g (6 * sc + rk)))) := by
  refine Met.ofW (cc := cX3_lightAt) (maxL := 3) (ret := (some .int)) (by decide) rfl ?_
  intro p e s m args below meth c s₁ B hml hv
  obtain ⟨rfl, hG, hE⟩ := hv
  have hx := B.exec
  have hb := B.bytes
  have hrt := B.returns
  have hts := atoms_spec (ws := wsX3_lightAt) B.pre
  have hown : s.vm.findClass RX3 = some m.cls := findClass_of_methodNamed B.named
  have hlocks := B.notSynchronized
  have hS : va_S (dz_A Z) s.heap s.heap [] := va_S.rf
  have hl := lv_entry ([.ref a, .int (nI sc), .int (nI rk)]) (n := 3) (Nat.le_of_ble_eq_true rfl)
  rw [lg_entry_eq]
  generalize (lg_sl ([.ref a, .int (nI sc), .int (nI rk)]) ++ List.replicate (3 - (lg_sl ([.ref a, .int (nI sc), .int (nI rk)])).length) Slot.unset).toArray = ls at hl ⊢
  have hl : lv_has ls 3 [(0, .ref a), (1, .int (nI sc)), (2, .int (nI rk))] := hl
  refine lv_aload_n hx hb dX3_lightAt_0 rfl (lv_at hl 0 rfl) ?_
  refine lv_iload_n hx hb dX3_lightAt_1 rfl (lv_at hl 1 rfl) ?_
  refine lv_iload_n hx hb dX3_lightAt_2 rfl (lv_at hl 2 rfl) ?_
  refine dz_kRi (va_runV (As := [_, _]) ⟨hx, hb, hml, hown, hts⟩ (c_X3_isHeld l Z _ _ _ _ _ _ _ ha hf hsc hrk) (cwV 2 hts gX3_lightAt_X3_isHeld rfl rfl rfl (by decide +kernel) ⟨Nat.le_of_ble_eq_true rfl, Nat.le_of_ble_eq_true rfl⟩) (dz_P.preV hE hS hG hf rfl ha) rfl rfl hl.1 rfl (lv_room (Nat.le_of_ble_eq_true rfl)) dX3_lightAt_3 ⟨Nat.le_of_ble_eq_true rfl, Nat.le_of_ble_eq_true rfl⟩) ?_
  refine lv_if_eq (tgt := 23) hx hb dX3_lightAt_6 (by decide) (fun c_6 => absurd c_6 (by decide)) (fun c_6 => ?_)
  refine lv_aload_n hx hb dX3_lightAt_9 rfl (lv_at hl 0 rfl) ?_
  refine dz_get hx hb hts (fun _ h => List.mem_cons_of_mem _ (List.mem_append_right _ h)) hown hE hG ha hf rfl 1 (by decide) (hts _ (List.mem_of_getElem? (i := 1) rfl)) (fun _ h9 => h9) rfl dX3_lightAt_10 ?_
  refine lv_iload_n hx hb dX3_lightAt_13 rfl (lv_at hl 1 rfl) ?_
  refine lv_bipush (v := 6) hx hb dX3_lightAt_14 (by decide) ?_
  refine lv_imul hx hb dX3_lightAt_16 ?_
  refine lv_iload_n hx hb dX3_lightAt_17 rfl (lv_at hl 2 rfl) ?_
  refine lv_iadd hx hb dX3_lightAt_18 ?_
  refine lv_topi (fun v_1 ev_1 => ?_)
  obtain rfl : v_1 = nI (6 * sc + rk) := ev_1.trans (by rw [show (6 : Int32) = nI 6 from rfl, pk_mul, nI_add, Nat.mul_comm])
  refine dz_iald hx hb hE hG rfl hg (vp_in_nI (by omega) (by decide)) dX3_lightAt_19 ?_
  refine lv_goto (tgt := 24) hx hb dX3_lightAt_20 (by decide) ?_
  refine W.iret hx hb hrt (fun t ht hW => ⟨congrArg (fun x => Outcome.returned (some (Value.int x))) ?_, ht⟩) (fun _ h => by cases h) dX3_lightAt_24
  rw [nI_clamp (by omega)]

set_option maxHeartbeats 4000000 in
set_option maxRecDepth 100000 in
theorem c_X3_setLight (l : Launch) (Z : dzG) (G : dzW) (ad : dzA) (i a sc rk : Nat) (dy lt : Int32) (g : Nat → Int32) (ha : ad (24, i) = a) (hf : G (24, i) = some (eO 4 [.int dy, .ref (ad (25, i))])) (hg : G (25, i) = some (eI Z 30 g)) (hsc : sc < 5) (hrk : rk < 6) : dzWr l yX3_setLight wsX3_setLight 2 44 0 0 Z G ad [.ref a, .int (nI sc), .int (nI rk), .int lt] rv_v (fun (x : Unit) G1 ad1 => (∀ r9 : dzR, r9 ≠ (25, i) → G1 r9 = G r9 ∧ ad1 r9 = ad r9) ∧ ad = ad1 ∧ G1 (25, i) = some (eI Z 30 (upd g (6 * sc + rk) lt))) := by
  refine Met.ofW (cc := cX3_setLight) (maxL := 4) (ret := none) (by decide) rfl ?_
  intro p e s m args below meth c s₁ B hml hv
  obtain ⟨rfl, hG, hE⟩ := hv
  have hx := B.exec
  have hb := B.bytes
  have hrt := B.returns
  have hts := atoms_spec (ws := wsX3_setLight) B.pre
  have hown : s.vm.findClass RX3 = some m.cls := findClass_of_methodNamed B.named
  have hlocks := B.notSynchronized
  have hS : va_S (dz_A Z) s.heap s.heap [] := va_S.rf
  have hl := lv_entry ([.ref a, .int (nI sc), .int (nI rk), .int lt]) (n := 4) (Nat.le_of_ble_eq_true rfl)
  rw [lg_entry_eq]
  generalize (lg_sl ([.ref a, .int (nI sc), .int (nI rk), .int lt]) ++ List.replicate (4 - (lg_sl ([.ref a, .int (nI sc), .int (nI rk), .int lt])).length) Slot.unset).toArray = ls at hl ⊢
  have hl : lv_has ls 4 [(0, .ref a), (1, .int (nI sc)), (2, .int (nI rk)), (3, .int lt)] := hl
  refine lv_aload_n hx hb dX3_setLight_0 rfl (lv_at hl 0 rfl) ?_
  refine lv_iload_n hx hb dX3_setLight_1 rfl (lv_at hl 1 rfl) ?_
  refine lv_iload_n hx hb dX3_setLight_2 rfl (lv_at hl 2 rfl) ?_
  refine dz_kRi (va_runV (As := [_, _]) ⟨hx, hb, hml, hown, hts⟩ (c_X3_isHeld l Z _ _ _ _ _ _ _ ha hf hsc hrk) (cwV 2 hts gX3_setLight_X3_isHeld rfl rfl rfl (by decide +kernel) ⟨Nat.le_of_ble_eq_true rfl, Nat.le_of_ble_eq_true rfl⟩) (dz_P.preV hE hS hG hf rfl ha) rfl rfl hl.1 rfl (lv_room (Nat.le_of_ble_eq_true rfl)) dX3_setLight_3 ⟨Nat.le_of_ble_eq_true rfl, Nat.le_of_ble_eq_true rfl⟩) ?_
  refine lv_if_eq (tgt := 21) hx hb dX3_setLight_6 (by decide) (fun c_6 => absurd c_6 (by decide)) (fun c_6 => ?_)
  refine lv_aload_n hx hb dX3_setLight_9 rfl (lv_at hl 0 rfl) ?_
  refine dz_get hx hb hts (fun _ h => List.mem_cons_of_mem _ (List.mem_append_right _ h)) hown hE hG ha hf rfl 1 (by decide) (hts _ (List.mem_of_getElem? (i := 1) rfl)) (fun _ h9 => h9) rfl dX3_setLight_10 ?_
  refine lv_iload_n hx hb dX3_setLight_13 rfl (lv_at hl 1 rfl) ?_
  refine lv_bipush (v := 6) hx hb dX3_setLight_14 (by decide) ?_
  refine lv_imul hx hb dX3_setLight_16 ?_
  refine lv_iload_n hx hb dX3_setLight_17 rfl (lv_at hl 2 rfl) ?_
  refine lv_iadd hx hb dX3_setLight_18 ?_
  refine lv_topi (fun v_1 ev_1 => ?_)
  obtain rfl : v_1 = nI (6 * sc + rk) := ev_1.trans (by rw [show (6 : Int32) = nI 6 from rfl, pk_mul, nI_add, Nat.mul_comm])
  refine lv_iload_n hx hb dX3_setLight_19 rfl (lv_at hl 3 rfl) ?_
  refine dz_iast hx hb hE hG rfl hS hg (vp_in_nI (by omega) (by decide)) dX3_setLight_20 (fun H locs hG hS => ?_)
  obtain ⟨G_1, hG, w_1, o_1⟩ := dz_nm hG
  refine W.widen (k := 0) (n := 0) (by first | omega | decide) (by first | omega | decide) ?_
  refine W.vret hx hb hrt (fun t ht hW => dz_endM (f := rv_v) () hE hS hG ?_ ht hW) (fun q h => hS.2.2 q h) dX3_setLight_21
  refine ⟨fun r9 n_0 => (o_1 r9 n_0), rfl, ?_⟩
  have z := w_1
  rw [nI_clamp (by omega)] at z
  exact z

set_option maxHeartbeats 4000000 in
set_option maxRecDepth 100000 in
theorem c_X3_init (l : Launch) (Z : dzG) (G : dzW) (ad : dzA) (i a : Nat) (dy : Int32) (ha : ad (24, i) = a) (hf : G (24, i) = some (eO 4 [.int 0, .null])) : dzWr l yX3_init wsX3_init 1 23 1 30 Z G ad [.ref a, .int dy] rv_v (fun (x : Unit) G1 ad1 => (∀ r9 : dzR, r9 ≠ (24, i) → r9 ≠ (25, i) → G1 r9 = G r9 ∧ ad1 r9 = ad r9) ∧ G1 (24, i) = some (eO 4 [.int dy, .ref (ad1 (25, i))]) ∧ ad1 (24, i) = a ∧ G1 (25, i) = some (eI Z 30 (fun _ => -1))) := by
  refine Met.ofW (cc := cX3_init) (maxL := 2) (ret := none) (by decide) rfl ?_
  intro p e s m args below meth c s₁ B hml hv
  obtain ⟨rfl, hG, hE⟩ := hv
  have hx := B.exec
  have hb := B.bytes
  have hrt := B.returns
  have hts := atoms_spec (ws := wsX3_init) B.pre
  have hown : s.vm.findClass RX3 = some m.cls := findClass_of_methodNamed B.named
  have hlocks := B.notSynchronized
  have hini : meth.name = "<init>" := (name_of_methodNamed B.named B.method).1
  have hS : va_S (dz_A Z) s.heap s.heap [] := va_S.rf
  have hl := lv_entry ([.ref a, .int dy]) (n := 2) (Nat.le_of_ble_eq_true rfl)
  rw [lg_entry_eq]
  generalize (lg_sl ([.ref a, .int dy]) ++ List.replicate (2 - (lg_sl ([.ref a, .int dy])).length) Slot.unset).toArray = ls at hl ⊢
  have hl : lv_has ls 2 [(0, .ref a), (1, .int dy)] := hl
  refine lv_aload_n hx hb dX3_init_0 rfl (lv_at hl 0 rfl) ?_
  refine W.objInit hx hb hown (hts _ (List.mem_of_getElem? (i := 1) rfl)) (hts _ (List.mem_of_getElem? (i := 2) rfl)) (hts _ (List.mem_of_getElem? (i := 3) rfl)) rfl (by rw [hml]; exact hl.1) rfl dX3_init_1 (Nat.le_of_ble_eq_true rfl) (Nat.le_of_ble_eq_true rfl) ?_
  refine W.eq (g2 := F0 m 4 ls []) rfl ?_
  refine lv_aload_n hx hb dX3_init_4 rfl (lv_at hl 0 rfl) ?_
  refine lv_bipush (v := 30) hx hb dX3_init_5 (by decide) ?_
  refine dz_newa (atype := .int) (a0 := (30, .inl (fun _ => 0))) hx hb (hts _ (List.mem_of_getElem? (i := 4) rfl)) hE hG hS (25, i) 0 rfl rfl (by decide) rfl (Nat.le_of_ble_eq_true rfl) (Nat.le_of_ble_eq_true rfl) (Nat.le_of_ble_eq_true rfl) dX3_init_7 (fun q_1 H hG hS => ?_)
  refine W.widen (k := 1) (n := 30) (by omega) (by omega) ?_
  obtain ⟨G_1, ad_1, hG, w_1, a_1, o_1⟩ := dz_nma hG
  refine dz_putF hx hb hts (fun _ h => List.mem_cons_of_mem _ (List.mem_append_right _ h)) tyX3 tyX3_ok nmX3 hown hE hG ((o_1 _ (dz_n rfl)).2.trans ha) hS ((o_1 _ (dz_n rfl)).1.trans hf) rfl 1 (by decide) (hts _ (List.mem_of_getElem? (i := 5) rfl)) (fun _ h9 => h9) rfl hini rfl (ty := .array .int) (by decide +kernel) rfl rfl (fs' := [.int 0, .ref q_1]) rfl (Nat.le_of_ble_eq_true rfl) dX3_init_9 (fun H locs hG hS => ?_)
  obtain ⟨G_2, hG, w_2, o_2⟩ := dz_nm hG
  refine lv_aload_n hx hb dX3_init_12 rfl (lv_at hl 0 rfl) ?_
  refine lv_iload_n hx hb dX3_init_13 rfl (lv_at hl 1 rfl) ?_
  refine dz_putF hx hb hts (fun _ h => List.mem_cons_of_mem _ (List.mem_append_right _ h)) tyX3 tyX3_ok nmX3 hown hE hG ((o_1 _ (dz_n rfl)).2.trans ha) hS w_2 rfl 0 (by decide) (hts _ (List.mem_of_getElem? (i := 6) rfl)) (fun _ h9 => h9) rfl hini rfl (ty := .int) (by decide +kernel) rfl rfl (fs' := [.int dy, .ref q_1]) rfl (Nat.le_of_ble_eq_true rfl) dX3_init_14 (fun H locs hG hS => ?_)
  obtain ⟨G_3, hG, w_3, o_3⟩ := dz_nm hG
  refine lv_aload_n hx hb dX3_init_17 rfl (lv_at hl 0 rfl) ?_
  refine dz_get hx hb hts (fun _ h => List.mem_cons_of_mem _ (List.mem_append_right _ h)) hown hE hG ((o_1 _ (dz_n rfl)).2.trans ha) w_3 rfl 1 (by decide) (hts _ (List.mem_of_getElem? (i := 5) rfl)) (fun _ h9 => h9) rfl dX3_init_18 ?_
  refine lv_iconst (v := (-1)) hx hb dX3_init_21 (by decide) ?_
  refine dz_kMv (va_runS (As := [_, _]) ⟨hx, hb, hml, hown, hts⟩ (c_J7_fill_53178 l Z _ _ _ _ _ _ _ ((o_3 _ (dz_n rfl)).2.trans ((o_2 _ (dz_n rfl)).2.trans a_1)) ((o_3 _ (dz_n rfl)).1.trans ((o_2 _ (dz_n rfl)).1.trans w_1)) (by omega)) (va_cwS 2 hts gX3_init_J7_fill_53178 rfl rfl rfl (by decide +kernel) ⟨Nat.le_of_ble_eq_true rfl, Nat.le_of_ble_eq_true rfl⟩) (dz_P.pre hE hS hG) rfl rfl hl.1 rfl (lv_room (Nat.le_of_ble_eq_true rfl)) dX3_init_22 ⟨Nat.le_of_ble_eq_true rfl, Nat.le_of_ble_eq_true rfl⟩) hS (fun G_22_1 ad_22_1 H locs hp_22_1 hG hS => ?_)
  obtain ⟨fr_22_1, rfl, g_22_1⟩ := hp_22_1
  refine W.widen (k := 1) (n := 30) (by first | omega | decide) (by first | omega | decide) ?_
  refine W.vret hx hb hrt (fun t ht hW => dz_endM (f := rv_v) () hE hS hG ?_ ht hW) (fun q h => hS.2.2 q h) dX3_init_25
  refine ⟨fun r9 n_0 n_1 => (dz_tr (fr_22_1 r9 n_1) (dz_tr (o_3 r9 n_0) (dz_tr (o_2 r9 n_0) (o_1 r9 n_1)))), ?_⟩
  refine ⟨?_, ((fr_22_1 _ (dz_n rfl)).2.trans ((o_1 _ (dz_n rfl)).2.trans ha)), g_22_1⟩
  rw [show ad_1 (25, i) = _ from ((o_3 _ (dz_n rfl)).2.trans ((o_2 _ (dz_n rfl)).2.trans a_1))]
  exact ((fr_22_1 _ (dz_n rfl)).1.trans w_3)

set_option maxHeartbeats 4000000 in
set_option maxRecDepth 100000 in
theorem c_X0_count (l : Launch) (Z : dzG) (G : dzW) (ad : dzA) (aA nf : Nat) (fdy : Nat → Int32) (lg : Nat → Nat → Int32) (ha : ad (19, 0) = aA) (hF : dz_Fr Z G ad nf fdy lg) (hnf : nf ≤ 60) : dzRd l yX0_count wsX0_count 1 20 Z G ad [.ref aA] (some (.int (nI nf))) := by
  refine Met.ofW (cc := cX0_count) (maxL := 1) (ret := (some .int)) (by decide) rfl ?_
  intro p e s m args below meth c s₁ B hml hv
  obtain ⟨rfl, hG, hE⟩ := hv
  have hx := B.exec
  have hb := B.bytes
  have hrt := B.returns
  have hts := atoms_spec (ws := wsX0_count) B.pre
  have hown : s.vm.findClass RX0 = some m.cls := findClass_of_methodNamed B.named
  have hlocks := B.notSynchronized
  have hS : va_S (dz_A Z) s.heap s.heap [] := va_S.rf
  have hl := lv_entry ([.ref aA]) (n := 1) (Nat.le_of_ble_eq_true rfl)
  rw [lg_entry_eq]
  generalize (lg_sl ([.ref aA]) ++ List.replicate (1 - (lg_sl ([.ref aA])).length) Slot.unset).toArray = ls at hl ⊢
  have hl : lv_has ls 1 [(0, .ref aA)] := hl
  refine lv_aload_n hx hb dX0_count_0 rfl (lv_at hl 0 rfl) ?_
  refine dz_get hx hb hts (fun _ h => List.mem_cons_of_mem _ (List.mem_append_left _ (List.mem_append_right _ h))) hown hE hG ha hF.1 rfl 0 (by decide) (hts _ (List.mem_of_getElem? (i := 1) rfl)) (fun _ h9 => h9) rfl dX0_count_1 ?_
  refine dz_kRi (va_runV (As := []) ⟨hx, hb, hml, hown, hts⟩ (c_Jx4a65c_size_8abf5 l Z _ _ _ _ _ _ _ rfl hF.2.1) (cwV 0 hts gX0_count_Jx4a65c_size_8abf5 rfl rfl rfl (by decide +kernel) ⟨Nat.le_of_ble_eq_true rfl, Nat.le_of_ble_eq_true rfl⟩) (dz_P.preL hE hS hG hF.2.1 rfl) rfl rfl hl.1 rfl (lv_room (Nat.le_of_ble_eq_true rfl)) dX0_count_4 ⟨Nat.le_of_ble_eq_true rfl, Nat.le_of_ble_eq_true rfl⟩) ?_
  refine W.iret hx hb hrt (fun t ht hW => ⟨congrArg (fun x => Outcome.returned (some (Value.int x))) ?_, ht⟩) (fun _ h => by cases h) dX0_count_7
  rfl

set_option maxHeartbeats 4000000 in
set_option maxRecDepth 100000 in
theorem c_X0_isFull (l : Launch) (Z : dzG) (G : dzW) (ad : dzA) (aA nf : Nat) (fdy : Nat → Int32) (lg : Nat → Nat → Int32) (ha : ad (19, 0) = aA) (hF : dz_Fr Z G ad nf fdy lg) (hnf : nf ≤ 60) : dzRd l yX0_isFull wsX0_isFull 1 20 Z G ad [.ref aA] (some (.int (dz_b (60 ≤ nf)))) := by
  refine Met.ofW (cc := cX0_isFull) (maxL := 1) (ret := (some .boolean)) (by decide) rfl ?_
  intro p e s m args below meth c s₁ B hml hv
  obtain ⟨rfl, hG, hE⟩ := hv
  have hx := B.exec
  have hb := B.bytes
  have hrt := B.returns
  have hts := atoms_spec (ws := wsX0_isFull) B.pre
  have hown : s.vm.findClass RX0 = some m.cls := findClass_of_methodNamed B.named
  have hlocks := B.notSynchronized
  have hS : va_S (dz_A Z) s.heap s.heap [] := va_S.rf
  have hl := lv_entry ([.ref aA]) (n := 1) (Nat.le_of_ble_eq_true rfl)
  rw [lg_entry_eq]
  generalize (lg_sl ([.ref aA]) ++ List.replicate (1 - (lg_sl ([.ref aA])).length) Slot.unset).toArray = ls at hl ⊢
  have hl : lv_has ls 1 [(0, .ref aA)] := hl
  refine lv_aload_n hx hb dX0_isFull_0 rfl (lv_at hl 0 rfl) ?_
  refine dz_get hx hb hts (fun _ h => List.mem_cons_of_mem _ (List.mem_append_left _ (List.mem_append_right _ h))) hown hE hG ha hF.1 rfl 0 (by decide) (hts _ (List.mem_of_getElem? (i := 1) rfl)) (fun _ h9 => h9) rfl dX0_isFull_1 ?_
  refine dz_kRi (va_runV (As := []) ⟨hx, hb, hml, hown, hts⟩ (c_Jx4a65c_size_8abf5 l Z _ _ _ _ _ _ _ rfl hF.2.1) (cwV 0 hts gX0_isFull_Jx4a65c_size_8abf5 rfl rfl rfl (by decide +kernel) ⟨Nat.le_of_ble_eq_true rfl, Nat.le_of_ble_eq_true rfl⟩) (dz_P.preL hE hS hG hF.2.1 rfl) rfl rfl hl.1 rfl (lv_room (Nat.le_of_ble_eq_true rfl)) dX0_isFull_4 ⟨Nat.le_of_ble_eq_true rfl, Nat.le_of_ble_eq_true rfl⟩) ?_
  refine lv_bipush (v := 60) hx hb dX0_isFull_7 (by decide) ?_
  refine lv_icmp_lt (tgt := 16) hx hb dX0_isFull_9 (by decide) (fun c_9 => ?_) (fun c_9 => ?_)
  · refine lv_iconst (v := 0) hx hb dX0_isFull_16 (by decide) ?_
    refine W.zret hx hb hrt (by decide) (fun t ht hW => ⟨congrArg (fun x => Outcome.returned (some (Value.int x))) ?_, ht⟩) (fun _ h => by cases h) dX0_isFull_17
    first | exact (dz_b0 (fun z => (nI_nlt (a := nf) (b := 60) z (by omega)) c_9)).symm | exact (dz_b1 (Nat.not_lt.mp (fun z => c_9 (nI_lt z (by decide))))).symm
  · refine lv_iconst (v := 1) hx hb dX0_isFull_12 (by decide) ?_
    refine lv_goto (tgt := 17) hx hb dX0_isFull_13 (by decide) ?_
    refine W.zret hx hb hrt (by decide) (fun t ht hW => ⟨congrArg (fun x => Outcome.returned (some (Value.int x))) ?_, ht⟩) (fun _ h => by cases h) dX0_isFull_17
    first | exact (dz_b0 (fun z => (nI_nlt (a := nf) (b := 60) z (by omega)) c_9)).symm | exact (dz_b1 (Nat.not_lt.mp (fun z => c_9 (nI_lt z (by decide))))).symm

set_option maxHeartbeats 4000000 in
set_option maxRecDepth 100000 in
theorem c_frameIn (l : Launch) (Z : dzG) (G : dzW) (ad : dzA) (aA nf : Nat) (fdy : Nat → Int32) (lg : Nat → Nat → Int32) (i : Nat) (ha : ad (19, 0) = aA) (hF : dz_Fr Z G ad nf fdy lg) (hnf : nf ≤ 60) (hi : i < nf) : dzRd l yX0_frameAt wsX0_frameAt 3 64 Z G ad [.ref aA, .int (nI i)] (some (.ref (ad (24, i)))) := by
  refine Met.ofW (cc := cX0_frameAt) (maxL := 2) (ret := (some (.object "Delaylens$Frame"))) (by decide) rfl ?_
  intro p e s m args below meth c s₁ B hml hv
  obtain ⟨rfl, hG, hE⟩ := hv
  have hx := B.exec
  have hb := B.bytes
  have hrt := B.returns
  have hts := atoms_spec (ws := wsX0_frameAt) B.pre
  have hown : s.vm.findClass RX0 = some m.cls := findClass_of_methodNamed B.named
  have hlocks := B.notSynchronized
  have hS : va_S (dz_A Z) s.heap s.heap [] := va_S.rf
  have hl := lv_entry ([.ref aA, .int (nI i)]) (n := 2) (Nat.le_of_ble_eq_true rfl)
  rw [lg_entry_eq]
  generalize (lg_sl ([.ref aA, .int (nI i)]) ++ List.replicate (2 - (lg_sl ([.ref aA, .int (nI i)])).length) Slot.unset).toArray = ls at hl ⊢
  have hl : lv_has ls 2 [(0, .ref aA), (1, .int (nI i))] := hl
  refine lv_iload_n hx hb dX0_frameAt_0 rfl (lv_at hl 1 rfl) ?_
  refine lv_if_lt (tgt := 29) hx hb dX0_frameAt_1 (by decide) (fun c_1 => absurd c_1 (nI_pos (by omega))) (fun c_1 => ?_)
  refine lv_iload_n hx hb dX0_frameAt_4 rfl (lv_at hl 1 rfl) ?_
  refine lv_aload_n hx hb dX0_frameAt_5 rfl (lv_at hl 0 rfl) ?_
  refine dz_get hx hb hts (fun _ h => List.mem_cons_of_mem _ (List.mem_append_left _ (List.mem_append_right _ h))) hown hE hG ha hF.1 rfl 0 (by decide) (hts _ (List.mem_of_getElem? (i := 1) rfl)) (fun _ h9 => h9) rfl dX0_frameAt_6 ?_
  refine dz_kRi (va_runV (As := []) ⟨hx, hb, hml, hown, hts⟩ (c_Jx4a65c_size_8abf5 l Z _ _ _ _ _ _ _ rfl hF.2.1) (cwV 0 hts gX0_frameAt_Jx4a65c_size_8abf5 rfl rfl rfl (by decide +kernel) ⟨Nat.le_of_ble_eq_true rfl, Nat.le_of_ble_eq_true rfl⟩) (dz_P.preL hE hS hG hF.2.1 rfl) rfl rfl hl.1 rfl (lv_room (Nat.le_of_ble_eq_true rfl)) dX0_frameAt_9 ⟨Nat.le_of_ble_eq_true rfl, Nat.le_of_ble_eq_true rfl⟩) ?_
  refine lv_icmp_ge (tgt := 29) hx hb dX0_frameAt_12 (by decide) (fun c_12 => absurd c_12 (nI_ge hi (by omega))) (fun c_12 => ?_)
  refine lv_aload_n hx hb dX0_frameAt_15 rfl (lv_at hl 0 rfl) ?_
  refine dz_get hx hb hts (fun _ h => List.mem_cons_of_mem _ (List.mem_append_left _ (List.mem_append_right _ h))) hown hE hG ha hF.1 rfl 0 (by decide) (hts _ (List.mem_of_getElem? (i := 1) rfl)) (fun _ h9 => h9) rfl dX0_frameAt_16 ?_
  refine lv_iload_n hx hb dX0_frameAt_19 rfl (lv_at hl 1 rfl) ?_
  refine dz_kRr (va_runV (As := [_]) ⟨hx, hb, hml, hown, hts⟩ (c_Jx4a65c_get_915e3 l Z _ _ _ _ _ _ _ _ rfl hF.2.1 hi) (cwV 1 hts gX0_frameAt_Jx4a65c_get_915e3 rfl rfl rfl (by decide +kernel) ⟨Nat.le_of_ble_eq_true rfl, Nat.le_of_ble_eq_true rfl⟩) (dz_P.preL hE hS hG hF.2.1 rfl) rfl rfl hl.1 rfl (lv_room (Nat.le_of_ble_eq_true rfl)) dX0_frameAt_20 ⟨Nat.le_of_ble_eq_true rfl, Nat.le_of_ble_eq_true rfl⟩) ?_
  refine dz_cst hx hb hown (hts _ (List.mem_of_getElem? (i := 2) rfl)) hE hG rfl (hF.2.2 i hi).1 rfl dX0_frameAt_23 ?_
  refine lv_goto (tgt := 30) hx hb dX0_frameAt_26 (by decide) ?_
  refine W.aret hx hb hrt (Or.inl ⟨_, rfl⟩) (Or.inr ⟨_, rfl⟩) (fun t ht hW => ⟨congrArg (fun x => Outcome.returned (some x)) ?_, ht⟩) (fun _ h => by cases h) dX0_frameAt_30
  rfl

set_option maxHeartbeats 4000000 in
set_option maxRecDepth 100000 in
theorem c_frameOut (l : Launch) (Z : dzG) (G : dzW) (ad : dzA) (aA nf : Nat) (fdy : Nat → Int32) (lg : Nat → Nat → Int32) (v : Int32) (ha : ad (19, 0) = aA) (hF : dz_Fr Z G ad nf fdy lg) (hnf : nf ≤ 60) (hv : v < 0 ∨ nI nf ≤ v) : dzRd l yX0_frameAt wsX0_frameAt 1 20 Z G ad [.ref aA, .int v] (some .null) := by
  refine Met.ofW (cc := cX0_frameAt) (maxL := 2) (ret := (some (.object "Delaylens$Frame"))) (by decide) rfl ?_
  intro p e s m args below meth c s₁ B hml hv
  obtain ⟨rfl, hG, hE⟩ := hv
  have hx := B.exec
  have hb := B.bytes
  have hrt := B.returns
  have hts := atoms_spec (ws := wsX0_frameAt) B.pre
  have hown : s.vm.findClass RX0 = some m.cls := findClass_of_methodNamed B.named
  have hlocks := B.notSynchronized
  have hS : va_S (dz_A Z) s.heap s.heap [] := va_S.rf
  have hl := lv_entry ([.ref aA, .int v]) (n := 2) (Nat.le_of_ble_eq_true rfl)
  rw [lg_entry_eq]
  generalize (lg_sl ([.ref aA, .int v]) ++ List.replicate (2 - (lg_sl ([.ref aA, .int v])).length) Slot.unset).toArray = ls at hl ⊢
  have hl : lv_has ls 2 [(0, .ref aA), (1, .int v)] := hl
  refine lv_iload_n hx hb dX0_frameAt_0 rfl (lv_at hl 1 rfl) ?_
  refine lv_if_lt (tgt := 29) hx hb dX0_frameAt_1 (by decide) (fun c_1 => ?_) (fun c_1 => ?_)
  · refine lv_null hx hb dX0_frameAt_29 ?_
    refine W.aret hx hb hrt (Or.inl ⟨_, rfl⟩) (Or.inl rfl) (fun t ht hW => ⟨congrArg (fun x => Outcome.returned (some x)) ?_, ht⟩) (fun _ h => by cases h) dX0_frameAt_30
    rfl
  · refine lv_iload_n hx hb dX0_frameAt_4 rfl (lv_at hl 1 rfl) ?_
    refine lv_aload_n hx hb dX0_frameAt_5 rfl (lv_at hl 0 rfl) ?_
    refine dz_get hx hb hts (fun _ h => List.mem_cons_of_mem _ (List.mem_append_left _ (List.mem_append_right _ h))) hown hE hG ha hF.1 rfl 0 (by decide) (hts _ (List.mem_of_getElem? (i := 1) rfl)) (fun _ h9 => h9) rfl dX0_frameAt_6 ?_
    refine dz_kRi (va_runV (As := []) ⟨hx, hb, hml, hown, hts⟩ (c_Jx4a65c_size_8abf5 l Z _ _ _ _ _ _ _ rfl hF.2.1) (cwV 0 hts gX0_frameAt_Jx4a65c_size_8abf5 rfl rfl rfl (by decide +kernel) ⟨Nat.le_of_ble_eq_true rfl, Nat.le_of_ble_eq_true rfl⟩) (dz_P.preL hE hS hG hF.2.1 rfl) rfl rfl hl.1 rfl (lv_room (Nat.le_of_ble_eq_true rfl)) dX0_frameAt_9 ⟨Nat.le_of_ble_eq_true rfl, Nat.le_of_ble_eq_true rfl⟩) ?_
    refine lv_icmp_ge (tgt := 29) hx hb dX0_frameAt_12 (by decide) (fun c_12 => ?_) (fun c_12 => absurd (hv.resolve_left c_1) c_12)
    refine lv_null hx hb dX0_frameAt_29 ?_
    refine W.aret hx hb hrt (Or.inl ⟨_, rfl⟩) (Or.inl rfl) (fun t ht hW => ⟨congrArg (fun x => Outcome.returned (some x)) ?_, ht⟩) (fun _ h => by cases h) dX0_frameAt_30
    rfl

set_option maxHeartbeats 4000000 in
set_option maxRecDepth 100000 in
theorem c_hfE (l : Launch) (Z : dzG) (G : dzW) (ad : dzA) (aA nf : Nat) (fdy : Nat → Int32) (lg : Nat → Nat → Int32) (dy : Int32) (ha : ad (19, 0) = aA) (hF : dz_Fr Z G ad nf fdy lg) (hnf : nf ≤ 60) (h0 : nf = 0) : dzRd l yX0_hasFrameOf wsX0_hasFrameOf 2 41 Z G ad [.ref aA, .int dy] (some (.int 0)) := by
  refine Met.ofW (cc := cX0_hasFrameOf) (maxL := 3) (ret := (some .boolean)) (by decide) rfl ?_
  intro p e s m args below meth c s₁ B hml hv
  obtain ⟨rfl, hG, hE⟩ := hv
  have hx := B.exec
  have hb := B.bytes
  have hrt := B.returns
  have hts := atoms_spec (ws := wsX0_hasFrameOf) B.pre
  have hown : s.vm.findClass RX0 = some m.cls := findClass_of_methodNamed B.named
  have hlocks := B.notSynchronized
  have hS : va_S (dz_A Z) s.heap s.heap [] := va_S.rf
  have hl := lv_entry ([.ref aA, .int dy]) (n := 3) (Nat.le_of_ble_eq_true rfl)
  rw [lg_entry_eq]
  generalize (lg_sl ([.ref aA, .int dy]) ++ List.replicate (3 - (lg_sl ([.ref aA, .int dy])).length) Slot.unset).toArray = ls at hl ⊢
  have hl : lv_has ls 3 [(0, .ref aA), (1, .int dy)] := hl
  refine lv_aload_n hx hb dX0_hasFrameOf_0 rfl (lv_at hl 0 rfl) ?_
  refine lv_aload_n hx hb dX0_hasFrameOf_1 rfl (lv_at hl 0 rfl) ?_
  refine dz_get hx hb hts (fun _ h => List.mem_cons_of_mem _ (List.mem_append_left _ (List.mem_append_left _ (List.mem_append_right _ h)))) hown hE hG ha hF.1 rfl 0 (by decide) (hts _ (List.mem_of_getElem? (i := 1) rfl)) (fun _ h9 => h9) rfl dX0_hasFrameOf_2 ?_
  refine dz_kRi (va_runV (As := []) ⟨hx, hb, hml, hown, hts⟩ (c_Jx4a65c_size_8abf5 l Z _ _ _ _ _ _ _ rfl hF.2.1) (cwV 0 hts gX0_hasFrameOf_Jx4a65c_size_8abf5 rfl rfl rfl (by decide +kernel) ⟨Nat.le_of_ble_eq_true rfl, Nat.le_of_ble_eq_true rfl⟩) (dz_P.preL hE hS hG hF.2.1 rfl) rfl rfl hl.1 rfl (lv_room (Nat.le_of_ble_eq_true rfl)) dX0_hasFrameOf_5 ⟨Nat.le_of_ble_eq_true rfl, Nat.le_of_ble_eq_true rfl⟩) ?_
  refine lv_iconst (v := 1) hx hb dX0_hasFrameOf_8 (by decide) ?_
  refine lv_isub hx hb dX0_hasFrameOf_9 ?_
  refine lv_topi (fun v_1 ev_1 => ?_)
  obtain rfl : v_1 = -1 := ev_1.trans (by rw [h0]; decide)
  refine dz_kRn (va_runV (As := [_]) ⟨hx, hb, hml, hown, hts⟩ (c_frameOut l Z _ _ _ _ _ _ _ ha hF hnf (Or.inl (by decide))) (cwV 1 hts gX0_hasFrameOf_X0_frameAt rfl rfl rfl (by decide +kernel) ⟨Nat.le_of_ble_eq_true rfl, Nat.le_of_ble_eq_true rfl⟩) (dz_P.preV hE hS hG hF.1 rfl ha) rfl rfl hl.1 rfl (lv_room (Nat.le_of_ble_eq_true rfl)) dX0_hasFrameOf_10 ⟨Nat.le_of_ble_eq_true rfl, Nat.le_of_ble_eq_true rfl⟩) ?_
  refine lv_astore_nN (lv' := [(2, .null), (0, .ref aA), (1, .int dy)]) hx hb dX0_hasFrameOf_13 rfl hl (by decide) rfl (fun ls hl => ?_)
  refine lv_aload_nN hx hb dX0_hasFrameOf_14 rfl (lv_at hl 0 rfl) ?_
  refine lv_ifnullN (tgt := 30) hx hb dX0_hasFrameOf_15 (by decide) ?_
  refine lv_iconst (v := 0) hx hb dX0_hasFrameOf_30 (by decide) ?_
  refine W.zret hx hb hrt (by decide) (fun t ht hW => ⟨congrArg (fun x => Outcome.returned (some (Value.int x))) ?_, ht⟩) (fun _ h => by cases h) dX0_hasFrameOf_31
  rfl

set_option maxHeartbeats 4000000 in
set_option maxRecDepth 100000 in
theorem c_hfN (l : Launch) (Z : dzG) (G : dzW) (ad : dzA) (aA nf : Nat) (fdy : Nat → Int32) (lg : Nat → Nat → Int32) (dy : Int32) (ha : ad (19, 0) = aA) (hF : dz_Fr Z G ad nf fdy lg) (hnf : nf ≤ 60) (h0 : 0 < nf) : dzRd l yX0_hasFrameOf wsX0_hasFrameOf 4 85 Z G ad [.ref aA, .int dy] (some (.int (dz_b (fdy (nf - 1) = dy)))) := by
  refine Met.ofW (cc := cX0_hasFrameOf) (maxL := 3) (ret := (some .boolean)) (by decide) rfl ?_
  intro p e s m args below meth c s₁ B hml hv
  obtain ⟨rfl, hG, hE⟩ := hv
  have hx := B.exec
  have hb := B.bytes
  have hrt := B.returns
  have hts := atoms_spec (ws := wsX0_hasFrameOf) B.pre
  have hown : s.vm.findClass RX0 = some m.cls := findClass_of_methodNamed B.named
  have hlocks := B.notSynchronized
  have hS : va_S (dz_A Z) s.heap s.heap [] := va_S.rf
  have hl := lv_entry ([.ref aA, .int dy]) (n := 3) (Nat.le_of_ble_eq_true rfl)
  rw [lg_entry_eq]
  generalize (lg_sl ([.ref aA, .int dy]) ++ List.replicate (3 - (lg_sl ([.ref aA, .int dy])).length) Slot.unset).toArray = ls at hl ⊢
  have hl : lv_has ls 3 [(0, .ref aA), (1, .int dy)] := hl
  refine lv_aload_n hx hb dX0_hasFrameOf_0 rfl (lv_at hl 0 rfl) ?_
  refine lv_aload_n hx hb dX0_hasFrameOf_1 rfl (lv_at hl 0 rfl) ?_
  refine dz_get hx hb hts (fun _ h => List.mem_cons_of_mem _ (List.mem_append_left _ (List.mem_append_left _ (List.mem_append_right _ h)))) hown hE hG ha hF.1 rfl 0 (by decide) (hts _ (List.mem_of_getElem? (i := 1) rfl)) (fun _ h9 => h9) rfl dX0_hasFrameOf_2 ?_
  refine dz_kRi (va_runV (As := []) ⟨hx, hb, hml, hown, hts⟩ (c_Jx4a65c_size_8abf5 l Z _ _ _ _ _ _ _ rfl hF.2.1) (cwV 0 hts gX0_hasFrameOf_Jx4a65c_size_8abf5 rfl rfl rfl (by decide +kernel) ⟨Nat.le_of_ble_eq_true rfl, Nat.le_of_ble_eq_true rfl⟩) (dz_P.preL hE hS hG hF.2.1 rfl) rfl rfl hl.1 rfl (lv_room (Nat.le_of_ble_eq_true rfl)) dX0_hasFrameOf_5 ⟨Nat.le_of_ble_eq_true rfl, Nat.le_of_ble_eq_true rfl⟩) ?_
  refine lv_iconst (v := 1) hx hb dX0_hasFrameOf_8 (by decide) ?_
  refine lv_isub hx hb dX0_hasFrameOf_9 ?_
  refine lv_topi (fun v_1 ev_1 => ?_)
  obtain rfl : v_1 = nI (nf - 1) := ev_1.trans (pk_sub (a := nf) (b := 1) (by omega))
  refine dz_kRr (va_runV (As := [_]) ⟨hx, hb, hml, hown, hts⟩ (c_frameIn l Z _ _ _ _ _ _ _ ha hF hnf (by omega)) (cwV 1 hts gX0_hasFrameOf_X0_frameAt rfl rfl rfl (by decide +kernel) ⟨Nat.le_of_ble_eq_true rfl, Nat.le_of_ble_eq_true rfl⟩) (dz_P.preV hE hS hG hF.1 rfl ha) rfl rfl hl.1 rfl (lv_room (Nat.le_of_ble_eq_true rfl)) dX0_hasFrameOf_10 ⟨Nat.le_of_ble_eq_true rfl, Nat.le_of_ble_eq_true rfl⟩) ?_
  refine lv_astore_n (lv' := [(2, .ref (ad (24, nf - 1))), (0, .ref aA), (1, .int dy)]) hx hb dX0_hasFrameOf_13 rfl hl (by decide) rfl (fun ls hl => ?_)
  refine lv_aload_n hx hb dX0_hasFrameOf_14 rfl (lv_at hl 0 rfl) ?_
  refine lv_ifnull hx hb dX0_hasFrameOf_15 ?_
  refine lv_aload_n hx hb dX0_hasFrameOf_18 rfl (lv_at hl 0 rfl) ?_
  refine dz_getN (host := "Delaylens") hx hb hts (fun _ h => List.mem_cons_of_mem _ (List.mem_append_left _ (List.mem_append_right _ h))) hown hE hG rfl (hF.2.2 (nf - 1) (by omega)).1 rfl 0 (by decide) (by decide +kernel) (fun _ h9 => h9) rfl dX0_hasFrameOf_19 ?_
  refine lv_iload_n hx hb dX0_hasFrameOf_22 rfl (lv_at hl 2 rfl) ?_
  refine lv_icmp_ne (tgt := 30) hx hb dX0_hasFrameOf_23 (by decide) (fun c_23 => ?_) (fun c_23 => ?_)
  · refine lv_iconst (v := 0) hx hb dX0_hasFrameOf_30 (by decide) ?_
    refine W.zret hx hb hrt (by decide) (fun t ht hW => ⟨congrArg (fun x => Outcome.returned (some (Value.int x))) ?_, ht⟩) (fun _ h => by cases h) dX0_hasFrameOf_31
    first | exact (dz_b1 c_23).symm | exact (dz_b0 c_23).symm
  · refine lv_iconst (v := 1) hx hb dX0_hasFrameOf_26 (by decide) ?_
    refine lv_goto (tgt := 31) hx hb dX0_hasFrameOf_27 (by decide) ?_
    refine W.zret hx hb hrt (by decide) (fun t ht hW => ⟨congrArg (fun x => Outcome.returned (some (Value.int x))) ?_, ht⟩) (fun _ h => by cases h) dX0_hasFrameOf_31
    first | exact (dz_b1 c_23).symm | exact (dz_b0 c_23).symm

set_option maxHeartbeats 4000000 in
set_option maxRecDepth 100000 in
theorem c_X0_add (l : Launch) (Z : dzG) (G : dzW) (ad : dzA) (aA nf : Nat) (fdy : Nat → Int32) (lg : Nat → Nat → Int32) (am : Nat) (ha : ad (19, 0) = aA) (hF : dz_Fr Z G ad nf fdy lg) (hnf : nf ≤ 59) (hm : ad (24, nf) = am) (hM : G (24, nf) = some (eO 4 [.int (fdy nf), .ref (ad (25, nf))]) ∧ G (25, nf) = some (eI Z 30 (lg nf))) : dzWr l yX0_add wsX0_add 7 184 1 100 Z G ad [.ref aA, .ref am] rv_i (fun (x : Int32) G1 ad1 => (∀ r9 : dzR, r9 ≠ (20, 0) → r9 ≠ (21, 0) → r9 ≠ (90, 0) → G1 r9 = G r9 ∧ ad1 r9 = ad r9) ∧ x = nI nf ∧ ad1 (20, 0) = ad (20, 0) ∧ dz_Fr Z G1 ad1 (nf + 1) fdy lg) := by
  refine Met.ofW (cc := cX0_add) (maxL := 2) (ret := (some .int)) (by decide) rfl ?_
  intro p e s m args below meth c s₁ B hml hv
  obtain ⟨rfl, hG, hE⟩ := hv
  have hx := B.exec
  have hb := B.bytes
  have hrt := B.returns
  have hts := atoms_spec (ws := wsX0_add) B.pre
  have hown : s.vm.findClass RX0 = some m.cls := findClass_of_methodNamed B.named
  have hlocks := B.notSynchronized
  have hS : va_S (dz_A Z) s.heap s.heap [] := va_S.rf
  have hl := lv_entry ([.ref aA, .ref am]) (n := 2) (Nat.le_of_ble_eq_true rfl)
  rw [lg_entry_eq]
  generalize (lg_sl ([.ref aA, .ref am]) ++ List.replicate (2 - (lg_sl ([.ref aA, .ref am])).length) Slot.unset).toArray = ls at hl ⊢
  have hl : lv_has ls 2 [(0, .ref aA), (1, .ref am)] := hl
  subst hm
  refine lv_aload_n hx hb dX0_add_0 rfl (lv_at hl 0 rfl) ?_
  refine dz_get hx hb hts (fun _ h => List.mem_cons_of_mem _ (List.mem_append_left _ (List.mem_append_right _ h))) hown hE hG ha hF.1 rfl 0 (by decide) (hts _ (List.mem_of_getElem? (i := 1) rfl)) (fun _ h9 => h9) rfl dX0_add_1 ?_
  refine lv_aload_n hx hb dX0_add_4 rfl (lv_at hl 1 rfl) ?_
  refine dz_kMi (va_runV (As := [_]) ⟨hx, hb, hml, hown, hts⟩ (c_Jx4a65c_add_9ea2d l Z _ _ _ _ _ _ _ _ _ _ _ _ _ _ rfl hF.2.1 (by omega) (fun j hj => ⟨(24, j), _, rfl, (hF.2.2 j hj).1, dz_n rfl, dz_n rfl⟩) (dz_n rfl) (dz_n rfl) (dz_n rfl) (dz_n rfl) (dz_n rfl) (dz_n rfl) (rfl : vwCl[4]? = some (RX3, TX3, 2)) (by decide +kernel) rfl hM.1) (cwV 1 hts gX0_add_Jx4a65c_add_9ea2d rfl rfl rfl (by decide +kernel) ⟨Nat.le_of_ble_eq_true rfl, Nat.le_of_ble_eq_true rfl⟩) (dz_P.preL hE hS hG hF.2.1 rfl) rfl rfl hl.1 rfl (lv_room (Nat.le_of_ble_eq_true rfl)) dX0_add_5 ⟨Nat.le_of_ble_eq_true rfl, Nat.le_of_ble_eq_true rfl⟩) hS (fun x_5_1 G_5_1 ad_5_1 H locs hp_5_1 hG hS => ?_)
  refine W.widen (k := 1) (n := 100) (by omega) (by omega) ?_
  obtain ⟨fr_5_1, e_5_1, g_5_1⟩ := hp_5_1
  have hF2 : dz_Fr Z G_5_1 ad_5_1 (nf + 1) fdy lg := hF.push hM fr_5_1 g_5_1.1 (fun j hj => by
    show ad (24, j) = if j = nf then ad (24, nf) else ad (24, j)
    by_cases c9 : j = nf
    · rw [if_pos c9, c9]
    · rw [if_neg c9]) g_5_1.2
  refine lv_pop hx hb dX0_add_8 rfl ?_
  refine lv_aload_n hx hb dX0_add_9 rfl (lv_at hl 0 rfl) ?_
  refine dz_get hx hb hts (fun _ h => List.mem_cons_of_mem _ (List.mem_append_left _ (List.mem_append_right _ h))) hown hE hG ((fr_5_1 (19, 0) (dz_n rfl) (dz_n rfl) (dz_n rfl)).2.trans ha) hF2.1 rfl 0 (by decide) (hts _ (List.mem_of_getElem? (i := 1) rfl)) (fun _ h9 => h9) rfl dX0_add_10 ?_
  refine dz_kRi (va_runV (As := []) ⟨hx, hb, hml, hown, hts⟩ (c_Jx4a65c_size_8abf5 l Z _ _ _ _ _ _ _ rfl hF2.2.1) (cwV 0 hts gX0_add_Jx4a65c_size_8abf5 rfl rfl rfl (by decide +kernel) ⟨Nat.le_of_ble_eq_true rfl, Nat.le_of_ble_eq_true rfl⟩) (dz_P.preL hE hS hG hF2.2.1 rfl) rfl rfl hl.1 rfl (lv_room (Nat.le_of_ble_eq_true rfl)) dX0_add_13 ⟨Nat.le_of_ble_eq_true rfl, Nat.le_of_ble_eq_true rfl⟩) ?_
  refine lv_iconst (v := 1) hx hb dX0_add_16 (by decide) ?_
  refine lv_isub hx hb dX0_add_17 ?_
  refine lv_topi (fun v_1 ev_1 => ?_)
  obtain rfl : v_1 = nI nf := ev_1.trans ((pk_sub (a := nf + 1) (b := 1) (by omega)).trans (by rw [Nat.add_sub_cancel]))
  refine W.widen (k := 1) (n := 100) (by first | omega | decide) (by first | omega | decide) ?_
  refine W.iret hx hb hrt (fun t ht hW => dz_endM (f := rv_i) _ hE hS hG ?_ ht hW) (fun q h => hS.2.2 q h) dX0_add_18
  refine ⟨fun r9 n_0 n_1 n_2 => (fr_5_1 r9 n_0 n_1 n_2), ?_⟩
  exact ⟨rfl, g_5_1.2, hF2⟩

set_option maxHeartbeats 4000000 in
set_option maxRecDepth 100000 in
theorem c_X0_clear (l : Launch) (Z : dzG) (G : dzW) (ad : dzA) (aA nf : Nat) (fdy : Nat → Int32) (lg : Nat → Nat → Int32) (ha : ad (19, 0) = aA) (hF : dz_Fr Z G ad nf fdy lg) (hnf : nf ≤ 60) : dzWr l yX0_clear wsX0_clear 1 23 0 0 Z G ad [.ref aA] rv_v (fun (x : Unit) G1 ad1 => (∀ r9 : dzR, r9 ≠ (20, 0) → r9 ≠ (21, 0) → G1 r9 = G r9 ∧ ad1 r9 = ad r9) ∧ dz_L Z G1 ad1 (20, 0) (21, 0) 0 (fun i => ad (24, i)) ∧ ad1 (20, 0) = ad (20, 0)) := by
  refine Met.ofW (cc := cX0_clear) (maxL := 1) (ret := none) (by decide) rfl ?_
  intro p e s m args below meth c s₁ B hml hv
  obtain ⟨rfl, hG, hE⟩ := hv
  have hx := B.exec
  have hb := B.bytes
  have hrt := B.returns
  have hts := atoms_spec (ws := wsX0_clear) B.pre
  have hown : s.vm.findClass RX0 = some m.cls := findClass_of_methodNamed B.named
  have hlocks := B.notSynchronized
  have hS : va_S (dz_A Z) s.heap s.heap [] := va_S.rf
  have hl := lv_entry ([.ref aA]) (n := 1) (Nat.le_of_ble_eq_true rfl)
  rw [lg_entry_eq]
  generalize (lg_sl ([.ref aA]) ++ List.replicate (1 - (lg_sl ([.ref aA])).length) Slot.unset).toArray = ls at hl ⊢
  have hl : lv_has ls 1 [(0, .ref aA)] := hl
  refine lv_aload_n hx hb dX0_clear_0 rfl (lv_at hl 0 rfl) ?_
  refine dz_get hx hb hts (fun _ h => List.mem_cons_of_mem _ (List.mem_append_left _ (List.mem_append_right _ h))) hown hE hG ha hF.1 rfl 0 (by decide) (hts _ (List.mem_of_getElem? (i := 1) rfl)) (fun _ h9 => h9) rfl dX0_clear_1 ?_
  refine dz_kMv (va_runV (As := []) ⟨hx, hb, hml, hown, hts⟩ (c_Jx4a65c_clear_da8c8 l Z _ _ _ _ _ _ _ rfl hF.2.1 (dz_n rfl)) (cwV 0 hts gX0_clear_Jx4a65c_clear_da8c8 rfl rfl rfl (by decide +kernel) ⟨Nat.le_of_ble_eq_true rfl, Nat.le_of_ble_eq_true rfl⟩) (dz_P.preL hE hS hG hF.2.1 rfl) rfl rfl hl.1 rfl (lv_room (Nat.le_of_ble_eq_true rfl)) dX0_clear_4 ⟨Nat.le_of_ble_eq_true rfl, Nat.le_of_ble_eq_true rfl⟩) hS (fun G_4_1 ad_4_1 H locs hp_4_1 hG hS => ?_)
  obtain ⟨fr_4_1, g_4_1⟩ := hp_4_1
  refine W.widen (k := 0) (n := 0) (by first | omega | decide) (by first | omega | decide) ?_
  refine W.vret hx hb hrt (fun t ht hW => dz_endM (f := rv_v) () hE hS hG ?_ ht hW) (fun q h => hS.2.2 q h) dX0_clear_7
  refine ⟨fun r9 n_0 n_1 => (fr_4_1 r9 n_0 n_1), ?_⟩
  exact ⟨(g_4_1.1), (g_4_1.2)⟩

set_option maxHeartbeats 4000000 in
set_option maxRecDepth 100000 in
theorem c_X0_addPair (l : Launch) (Z : dzG) (G : dzW) (ad : dzA) (aA : Nat) (dv av : Int32) (S : Nat → Int64) (Q : Nat → Int32) (ha : ad (19, 0) = aA) (ho : G (19, 0) = some (eO 1 [.ref (ad (20, 0)), .ref (ad (22, 0)), .ref (ad (23, 0))])) (h22 : G (22, 0) = some (eJ Z 151 S)) (h23 : G (23, 0) = some (eI Z 151 Q)) : dzWr l yX0_addPair wsX0_addPair 1 22 0 0 Z G ad [.ref aA, .int dv, .int av] rv_v (fun (x : Unit) G1 ad1 => (∀ r9 : dzR, r9 ≠ (22, 0) → r9 ≠ (23, 0) → G1 r9 = G r9 ∧ ad1 r9 = ad r9) ∧ ad = ad1 ∧ G1 (22, 0) = some (eJ Z 151 (m_apS dv av S)) ∧ G1 (23, 0) = some (eI Z 151 (m_apP dv Q))) := by
  refine Met.ofW (cc := cX0_addPair) (maxL := 3) (ret := none) (by decide) rfl ?_
  intro p e s m args below meth c s₁ B hml hv
  obtain ⟨rfl, hG, hE⟩ := hv
  have hx := B.exec
  have hb := B.bytes
  have hrt := B.returns
  have hts := atoms_spec (ws := wsX0_addPair) B.pre
  have hown : s.vm.findClass RX0 = some m.cls := findClass_of_methodNamed B.named
  have hlocks := B.notSynchronized
  have hS : va_S (dz_A Z) s.heap s.heap [] := va_S.rf
  have hl := lv_entry ([.ref aA, .int dv, .int av]) (n := 3) (Nat.le_of_ble_eq_true rfl)
  rw [lg_entry_eq]
  generalize (lg_sl ([.ref aA, .int dv, .int av]) ++ List.replicate (3 - (lg_sl ([.ref aA, .int dv, .int av])).length) Slot.unset).toArray = ls at hl ⊢
  have hl : lv_has ls 3 [(0, .ref aA), (1, .int dv), (2, .int av)] := hl
  refine lv_iload_n hx hb dX0_addPair_0 rfl (lv_at hl 1 rfl) ?_
  refine lv_iconst (v := 0) hx hb dX0_addPair_1 (by decide) ?_
  refine lv_sipush (v := 150) hx hb dX0_addPair_2 (by decide) ?_
  refine dz_kRi (va_runSN (As := [_, _, _]) ⟨hx, hb, hml, hown, hts⟩ (c_X8_isWithin l Z _ _ _ _ _ ) ⟨va_cnB (host := "Delaylens") 3 hts gX0_addPair_X8_isWithin_n71 rfl rfl rfl (hE.2.2.2.2.2.2.2.1 _ (by decide +kernel)) (hts _ (List.mem_of_getElem? (i := 8) rfl)) (by decide +kernel) ⟨Nat.le_of_ble_eq_true rfl, Nat.le_of_ble_eq_true rfl⟩, (hts _ (List.mem_of_getElem? (i := 7) rfl)), trivial⟩ (dz_P.pre hE hS hG) rfl rfl hl.1 rfl (lv_room (Nat.le_of_ble_eq_true rfl)) dX0_addPair_5 ⟨Nat.le_of_ble_eq_true rfl, Nat.le_of_ble_eq_true rfl⟩) ?_
  refine lv_if_eq (tgt := 35) hx hb dX0_addPair_8 (by decide) (fun c_8 => ?_) (fun c_8 => ?_)
  · have hd := dz_bx c_8
    refine W.widen (k := 0) (n := 0) (by first | omega | decide) (by first | omega | decide) ?_
    refine W.vret hx hb hrt (fun t ht hW => dz_endM (f := rv_v) () hE hS hG ?_ ht hW) (fun q h => hS.2.2 q h) dX0_addPair_35
    refine ⟨fun r9 n_0 n_1 => ⟨rfl, rfl⟩, rfl, ?_⟩
    unfold m_apS m_apP
    first | (rw [if_pos hd, if_pos hd]; exact ⟨h22, h23⟩) | (rw [if_neg hd, if_neg hd]; exact ⟨h22, h23⟩)
  · have hd := dz_by c_8
    refine lv_aload_n hx hb dX0_addPair_11 rfl (lv_at hl 0 rfl) ?_
    refine dz_get hx hb hts (fun _ h => List.mem_cons_of_mem _ (List.mem_append_right _ h)) hown hE hG ha ho rfl 1 (by decide) (hts _ (List.mem_of_getElem? (i := 1) rfl)) (fun _ h9 => h9) rfl dX0_addPair_12 ?_
    refine lv_iload_n hx hb dX0_addPair_15 rfl (lv_at hl 1 rfl) ?_
    refine lv_dup2_11 hx hb dX0_addPair_16 rfl rfl ?_
    refine dz_lald hx hb hE hG rfl h22 (m_in150 hd) dX0_addPair_17 ?_
    refine lv_iload_n hx hb dX0_addPair_18 rfl (lv_at hl 2 rfl) ?_
    refine va_mabs hx hb (hml.trans hl.1.symm) hown (hts _ (List.mem_of_getElem? (i := 2) rfl)) (hts _ (List.mem_of_getElem? (i := 3) rfl)) (hts _ (List.mem_of_getElem? (i := 4) rfl)) (hts _ (List.mem_of_getElem? (i := 5) rfl)) (Nat.le_of_ble_eq_true rfl) (Nat.le_of_ble_eq_true rfl) (Nat.le_of_ble_eq_true rfl) (Nat.le_of_ble_eq_true rfl) dX0_addPair_19 ?_
    refine lv_i2l hx hb dX0_addPair_22 rfl ?_
    refine lv_ladd hx hb dX0_addPair_23 ?_
    refine lv_topl (fun v_1 ev_1 => ?_)
    obtain rfl : v_1 = S dv.toNatClampNeg + (m_abs av).toInt64 := ev_1
    refine dz_last hx hb hE hG rfl hS h22 (m_in150 hd) dX0_addPair_24 (fun H locs hG hS => ?_)
    obtain ⟨G_1, hG, w_1, o_1⟩ := dz_nm hG
    refine lv_aload_n hx hb dX0_addPair_25 rfl (lv_at hl 0 rfl) ?_
    refine dz_get hx hb hts (fun _ h => List.mem_cons_of_mem _ (List.mem_append_right _ h)) hown hE hG ((o_1 _ (dz_n rfl)).2.trans ha) ((o_1 _ (dz_n rfl)).1.trans ho) rfl 2 (by decide) (hts _ (List.mem_of_getElem? (i := 6) rfl)) (fun _ h9 => h9) rfl dX0_addPair_26 ?_
    refine lv_iload_n hx hb dX0_addPair_29 rfl (lv_at hl 1 rfl) ?_
    refine lv_dup2_11 hx hb dX0_addPair_30 rfl rfl ?_
    refine dz_iald hx hb hE hG ((o_1 _ (dz_n rfl)).2.trans rfl) ((o_1 _ (dz_n rfl)).1.trans h23) (m_in150 hd) dX0_addPair_31 ?_
    refine lv_iconst (v := 1) hx hb dX0_addPair_32 (by decide) ?_
    refine lv_iadd hx hb dX0_addPair_33 ?_
    refine lv_topi (fun v_2 ev_2 => ?_)
    obtain rfl : v_2 = Q dv.toNatClampNeg + 1 := ev_2
    refine dz_iast hx hb hE hG ((o_1 _ (dz_n rfl)).2.trans rfl) hS ((o_1 _ (dz_n rfl)).1.trans h23) (m_in150 hd) dX0_addPair_34 (fun H locs hG hS => ?_)
    obtain ⟨G_2, hG, w_2, o_2⟩ := dz_nm hG
    refine W.widen (k := 0) (n := 0) (by first | omega | decide) (by first | omega | decide) ?_
    refine W.vret hx hb hrt (fun t ht hW => dz_endM (f := rv_v) () hE hS hG ?_ ht hW) (fun q h => hS.2.2 q h) dX0_addPair_35
    refine ⟨fun r9 n_0 n_1 => (dz_tr (o_2 r9 n_1) (o_1 r9 n_0)), rfl, ?_⟩
    unfold m_apS m_apP
    first | (rw [if_pos hd, if_pos hd]; exact ⟨((o_2 _ (dz_n rfl)).1.trans w_1), w_2⟩) | (rw [if_neg hd, if_neg hd]; exact ⟨((o_2 _ (dz_n rfl)).1.trans w_1), w_2⟩)

set_option maxHeartbeats 4000000 in
set_option maxRecDepth 100000 in
theorem c_X0_bestDelay (l : Launch) (Z : dzG) (G : dzW) (ad : dzA) (aA : Nat) (S : Nat → Int64) (Q : Nat → Int32) (ha : ad (19, 0) = aA) (ho : G (19, 0) = some (eO 1 [.ref (ad (20, 0)), .ref (ad (22, 0)), .ref (ad (23, 0))])) (h22 : G (22, 0) = some (eJ Z 151 S)) (h23 : G (23, 0) = some (eI Z 151 Q)) : dzRd l yX0_bestDelay wsX0_bestDelay 0 0 Z G ad [.ref aA] (some (.int (m_best S Q 151))) := by
  refine Met.ofW (cc := cX0_bestDelay) (maxL := 3) (ret := (some .int)) (by decide) rfl ?_
  intro p e s m args below meth c s₁ B hml hv
  obtain ⟨rfl, hG, hE⟩ := hv
  have hx := B.exec
  have hb := B.bytes
  have hrt := B.returns
  have hts := atoms_spec (ws := wsX0_bestDelay) B.pre
  have hown : s.vm.findClass RX0 = some m.cls := findClass_of_methodNamed B.named
  have hlocks := B.notSynchronized
  have hS : va_S (dz_A Z) s.heap s.heap [] := va_S.rf
  have hl := lv_entry ([.ref aA]) (n := 3) (Nat.le_of_ble_eq_true rfl)
  rw [lg_entry_eq]
  generalize (lg_sl ([.ref aA]) ++ List.replicate (3 - (lg_sl ([.ref aA])).length) Slot.unset).toArray = ls at hl ⊢
  have hl : lv_has ls 3 [(0, .ref aA)] := hl
  refine lv_iconst (v := (-1)) hx hb dX0_bestDelay_0 (by decide) ?_
  refine lv_istore_n (lv' := [(1, .int (-1)), (0, .ref aA)]) hx hb dX0_bestDelay_1 rfl hl (by decide) rfl (fun ls hl => ?_)
  refine lv_iconst (v := 0) hx hb dX0_bestDelay_2 (by decide) ?_
  refine lv_istore_n (lv' := [(2, .int 0), (1, .int (-1)), (0, .ref aA)]) hx hb dX0_bestDelay_3 rfl hl (by decide) rfl (fun ls hl => ?_)
  refine dz_lp (α := Nat × Array Slot) (fun a9 => (fun (d : Nat) (ls : Array Slot) => 151 - d) a9.1 a9.2) (fun a9 => (fun (d : Nat) (ls : Array Slot) => (d ≤ 151) ∧ lv_has ls 3 [(2, .int (nI d)), (1, .int (m_best S Q d)), (0, .ref aA)]) a9.1 a9.2) (fun a9 => F0 m 4 a9.2 []) (fun a9 hI ih_4 => ?_) (0, ls) ⟨(Nat.zero_le _), lv_sub hl [0, 1, 2] rfl⟩
  obtain ⟨d, ls⟩ := a9
  obtain ⟨hd, hl⟩ := hI
  have hd : d ≤ 151 := hd
  have hl : lv_has ls 3 [(2, .int (nI d)), (1, .int (m_best S Q d)), (0, .ref aA)] := hl
  refine lv_iload_n hx hb dX0_bestDelay_4 rfl (lv_at hl 0 rfl) ?_
  refine lv_sipush (v := 150) hx hb dX0_bestDelay_5 (by decide) ?_
  refine lv_icmp_gt (tgt := 66) hx hb dX0_bestDelay_8 (by decide) (fun c_8 => ?_) (fun c_8 => ?_)
  · have hi2 : d = 151 := by have := (nI_ltI (a := 150) (b := d) (by decide) (by omega)).mp c_8; omega
    refine lv_iload_n hx hb dX0_bestDelay_66 rfl (lv_at hl 1 rfl) ?_
    refine W.iret hx hb hrt (fun t ht hW => ⟨congrArg (fun x => Outcome.returned (some (Value.int x))) ?_, ht⟩) (fun _ h => by cases h) dX0_bestDelay_67
    rw [hi2]
  · have hlt : d < 151 := by
      rcases Nat.lt_or_ge d 151 with q | q
      · exact q
      · exact absurd ((nI_ltI (a := 150) (b := d) (by decide) (by omega)).mpr (by omega)) c_8
    have hu : m_best S Q (d + 1) = if Q d < 3 then m_best S Q d else if m_best S Q d = -1 then nI d else if S d * (Q (m_best S Q d).toNatClampNeg).toInt64 < S (m_best S Q d).toNatClampNeg * (Q d).toInt64 then nI d else m_best S Q d := rfl
    refine lv_aload_n hx hb dX0_bestDelay_11 rfl (lv_at hl 2 rfl) ?_
    refine dz_get hx hb hts (fun _ h => List.mem_cons_of_mem _ (List.mem_append_right _ h)) hown hE hG ha ho rfl 2 (by decide) (hts _ (List.mem_of_getElem? (i := 1) rfl)) (fun _ h9 => h9) rfl dX0_bestDelay_12 ?_
    refine lv_iload_n hx hb dX0_bestDelay_15 rfl (lv_at hl 0 rfl) ?_
    refine dz_iald hx hb hE hG rfl h23 (vp_in_nI hlt (by decide)) dX0_bestDelay_16 ?_
    refine lv_topi (fun v_1 ev_1 => ?_)
    obtain rfl : v_1 = Q d := ev_1.trans (by rw [nI_clamp (by omega)])
    refine lv_iconst (v := 3) hx hb dX0_bestDelay_17 (by decide) ?_
    refine lv_icmp_lt (tgt := 60) hx hb dX0_bestDelay_18 (by decide) (fun c_18 => ?_) (fun c_18 => ?_)
    · have hst : m_best S Q (d + 1) = m_best S Q d := by rw [hu, if_pos c_18]
      obtain ⟨v_2, ev_2⟩ : ∃ y : Int32, y = (nI d) + 1 := ⟨_, rfl⟩
      refine lv_iinc (v := v_2) (lv' := [(2, .int v_2), (1, .int (m_best S Q d)), (0, .ref aA)]) hx hb dX0_bestDelay_60 hl (k := 0) rfl (by rw [ev_2]; rfl) (by decide) rfl (fun ls hl => ?_)
      refine lv_goto (tgt := 4) hx hb dX0_bestDelay_63 (by decide) ?_
      obtain rfl : v_2 = nI (d + 1) := ev_2.trans (nI_1 d)
      rw [show (m_best S Q d) = m_best S Q (d + 1) from hst.symm] at hl
      exact ih_4 (d + 1, ls) (by first | (dsimp only; omega) | omega) ⟨(by omega), lv_sub hl [0, 1, 2] rfl⟩
    · refine lv_iload_n hx hb dX0_bestDelay_21 rfl (lv_at hl 1 rfl) ?_
      refine lv_iconst (v := (-1)) hx hb dX0_bestDelay_22 (by decide) ?_
      refine lv_icmp_eq (tgt := 58) hx hb dX0_bestDelay_23 (by decide) (fun c_23 => ?_) (fun c_23 => ?_)
      · have hst : m_best S Q (d + 1) = nI d := by rw [hu, if_neg c_18, if_pos c_23]
        refine lv_iload_n hx hb dX0_bestDelay_58 rfl (lv_at hl 0 rfl) ?_
        refine lv_istore_n (lv' := [(1, .int (nI d)), (2, .int (nI d)), (0, .ref aA)]) hx hb dX0_bestDelay_59 rfl hl (by decide) rfl (fun ls hl => ?_)
        obtain ⟨v_3, ev_3⟩ : ∃ y : Int32, y = (nI d) + 1 := ⟨_, rfl⟩
        refine lv_iinc (v := v_3) (lv' := [(2, .int v_3), (1, .int (nI d)), (0, .ref aA)]) hx hb dX0_bestDelay_60 hl (k := 1) rfl (by rw [ev_3]; rfl) (by decide) rfl (fun ls hl => ?_)
        refine lv_goto (tgt := 4) hx hb dX0_bestDelay_63 (by decide) ?_
        obtain rfl : v_3 = nI (d + 1) := ev_3.trans (nI_1 d)
        rw [show (nI d) = m_best S Q (d + 1) from hst.symm] at hl
        exact ih_4 (d + 1, ls) (by first | (dsimp only; omega) | omega) ⟨(by omega), lv_sub hl [0, 1, 2] rfl⟩
      · have hin : vp_in (m_best S Q d) 151 := by
          rcases m_best_in (S := S) (Q := Q) d with h | ⟨x, h1, h2⟩
          · exact absurd h c_23
          · rw [h2]; exact vp_in_nI (by omega) (by decide)
        refine lv_aload_n hx hb dX0_bestDelay_26 rfl (lv_at hl 2 rfl) ?_
        refine dz_get hx hb hts (fun _ h => List.mem_cons_of_mem _ (List.mem_append_right _ h)) hown hE hG ha ho rfl 1 (by decide) (hts _ (List.mem_of_getElem? (i := 2) rfl)) (fun _ h9 => h9) rfl dX0_bestDelay_27 ?_
        refine lv_iload_n hx hb dX0_bestDelay_30 rfl (lv_at hl 0 rfl) ?_
        refine dz_lald hx hb hE hG rfl h22 (vp_in_nI hlt (by decide)) dX0_bestDelay_31 ?_
        refine lv_topl (fun v_4 ev_4 => ?_)
        obtain rfl : v_4 = S d := ev_4.trans (by rw [nI_clamp (by omega)])
        refine lv_aload_n hx hb dX0_bestDelay_32 rfl (lv_at hl 2 rfl) ?_
        refine dz_get hx hb hts (fun _ h => List.mem_cons_of_mem _ (List.mem_append_right _ h)) hown hE hG ha ho rfl 2 (by decide) (hts _ (List.mem_of_getElem? (i := 1) rfl)) (fun _ h9 => h9) rfl dX0_bestDelay_33 ?_
        refine lv_iload_n hx hb dX0_bestDelay_36 rfl (lv_at hl 1 rfl) ?_
        refine dz_iald hx hb hE hG rfl h23 hin dX0_bestDelay_37 ?_
        refine lv_i2l hx hb dX0_bestDelay_38 rfl ?_
        refine lv_lmul hx hb dX0_bestDelay_39 ?_
        refine lv_aload_n hx hb dX0_bestDelay_40 rfl (lv_at hl 2 rfl) ?_
        refine dz_get hx hb hts (fun _ h => List.mem_cons_of_mem _ (List.mem_append_right _ h)) hown hE hG ha ho rfl 1 (by decide) (hts _ (List.mem_of_getElem? (i := 2) rfl)) (fun _ h9 => h9) rfl dX0_bestDelay_41 ?_
        refine lv_iload_n hx hb dX0_bestDelay_44 rfl (lv_at hl 1 rfl) ?_
        refine dz_lald hx hb hE hG rfl h22 hin dX0_bestDelay_45 ?_
        refine lv_aload_n hx hb dX0_bestDelay_46 rfl (lv_at hl 2 rfl) ?_
        refine dz_get hx hb hts (fun _ h => List.mem_cons_of_mem _ (List.mem_append_right _ h)) hown hE hG ha ho rfl 2 (by decide) (hts _ (List.mem_of_getElem? (i := 1) rfl)) (fun _ h9 => h9) rfl dX0_bestDelay_47 ?_
        refine lv_iload_n hx hb dX0_bestDelay_50 rfl (lv_at hl 0 rfl) ?_
        refine dz_iald hx hb hE hG rfl h23 (vp_in_nI hlt (by decide)) dX0_bestDelay_51 ?_
        refine lv_topi (fun v_5 ev_5 => ?_)
        obtain rfl : v_5 = Q d := ev_5.trans (by rw [nI_clamp (by omega)])
        refine lv_i2l hx hb dX0_bestDelay_52 rfl ?_
        refine lv_lmul hx hb dX0_bestDelay_53 ?_
        refine W.lcmp hx hb dX0_bestDelay_54 ?_
        refine lv_if_ge (tgt := 60) hx hb dX0_bestDelay_55 (by decide) (fun c_55 => ?_) (fun c_55 => ?_)
        · have hst : m_best S Q (d + 1) = m_best S Q d := by rw [hu, if_neg c_18, if_neg c_23, if_neg (Int64.not_lt.mpr ((lg_cmp_ge _ _).mp c_55))]
          obtain ⟨v_6, ev_6⟩ : ∃ y : Int32, y = (nI d) + 1 := ⟨_, rfl⟩
          refine lv_iinc (v := v_6) (lv' := [(2, .int v_6), (1, .int (m_best S Q d)), (0, .ref aA)]) hx hb dX0_bestDelay_60 hl (k := 0) rfl (by rw [ev_6]; rfl) (by decide) rfl (fun ls hl => ?_)
          refine lv_goto (tgt := 4) hx hb dX0_bestDelay_63 (by decide) ?_
          obtain rfl : v_6 = nI (d + 1) := ev_6.trans (nI_1 d)
          rw [show (m_best S Q d) = m_best S Q (d + 1) from hst.symm] at hl
          exact ih_4 (d + 1, ls) (by first | (dsimp only; omega) | omega) ⟨(by omega), lv_sub hl [0, 1, 2] rfl⟩
        · have hst : m_best S Q (d + 1) = nI d := by rw [hu, if_neg c_18, if_neg c_23, if_pos (Int64.not_le.mp (fun z => c_55 ((lg_cmp_ge _ _).mpr z)))]
          refine lv_iload_n hx hb dX0_bestDelay_58 rfl (lv_at hl 0 rfl) ?_
          refine lv_istore_n (lv' := [(1, .int (nI d)), (2, .int (nI d)), (0, .ref aA)]) hx hb dX0_bestDelay_59 rfl hl (by decide) rfl (fun ls hl => ?_)
          obtain ⟨v_7, ev_7⟩ : ∃ y : Int32, y = (nI d) + 1 := ⟨_, rfl⟩
          refine lv_iinc (v := v_7) (lv' := [(2, .int v_7), (1, .int (nI d)), (0, .ref aA)]) hx hb dX0_bestDelay_60 hl (k := 1) rfl (by rw [ev_7]; rfl) (by decide) rfl (fun ls hl => ?_)
          refine lv_goto (tgt := 4) hx hb dX0_bestDelay_63 (by decide) ?_
          obtain rfl : v_7 = nI (d + 1) := ev_7.trans (nI_1 d)
          rw [show (nI d) = m_best S Q (d + 1) from hst.symm] at hl
          exact ih_4 (d + 1, ls) (by first | (dsimp only; omega) | omega) ⟨(by omega), lv_sub hl [0, 1, 2] rfl⟩

set_option maxHeartbeats 4000000 in
set_option maxRecDepth 100000 in
theorem c_X0_measure (l : Launch) (Z : dzG) (G : dzW) (ad : dzA) (aA nf : Nat) (fdy : Nat → Int32) (lg : Nat → Nat → Int32) (S : Nat → Int64) (Q : Nat → Int32) (sc rk ot : Nat) (bo bb : Int32) (ha : ad (19, 0) = aA) (hF : dz_Fr Z G ad nf fdy lg) (hnf : nf ≤ 60) (h22 : G (22, 0) = some (eJ Z 151 S)) (h23 : G (23, 0) = some (eI Z 151 Q)) (hsc : sc < 5) (hrk : rk < 6) (hot : ot < 6) : dzWr l yX0_measure wsX0_measure 3 66 0 0 Z G ad [.ref aA, .int (nI sc), .int (nI rk), .int (nI ot), .int bo, .int bb] rv_i (fun (x : Int32) G1 ad1 => (∀ r9 : dzR, r9 ≠ (22, 0) → r9 ≠ (23, 0) → G1 r9 = G r9 ∧ ad1 r9 = ad r9) ∧ ad = ad1 ∧ ∃ (S0 : Nat → Int64) (S1 : Nat → Int64) (Q1 : Nat → Int32), (∀ j, j < 151 → S0 j = 0) ∧ G1 (22, 0) = some (eJ Z 151 S1) ∧ G1 (23, 0) = some (eI Z 151 Q1) ∧ x = m_best (m_mi fdy (fun i => lg i (6 * sc + rk)) (fun j => lg j (6 * sc + ot)) nf bo bb (S0, fun _ => 0) nf).1 (m_mi fdy (fun i => lg i (6 * sc + rk)) (fun j => lg j (6 * sc + ot)) nf bo bb (S0, fun _ => 0) nf).2 151) := by
  refine Met.ofW (cc := cX0_measure) (maxL := 10) (ret := (some .int)) (by decide) rfl ?_
  intro p e s m args below meth c s₁ B hml hv
  obtain ⟨rfl, hG, hE⟩ := hv
  have hx := B.exec
  have hb := B.bytes
  have hrt := B.returns
  have hts := atoms_spec (ws := wsX0_measure) B.pre
  have hown : s.vm.findClass RX0 = some m.cls := findClass_of_methodNamed B.named
  have hlocks := B.notSynchronized
  have hS : va_S (dz_A Z) s.heap s.heap [] := va_S.rf
  have hl := lv_entry ([.ref aA, .int (nI sc), .int (nI rk), .int (nI ot), .int bo, .int bb]) (n := 10) (Nat.le_of_ble_eq_true rfl)
  rw [lg_entry_eq]
  generalize (lg_sl ([.ref aA, .int (nI sc), .int (nI rk), .int (nI ot), .int bo, .int bb]) ++ List.replicate (10 - (lg_sl ([.ref aA, .int (nI sc), .int (nI rk), .int (nI ot), .int bo, .int bb])).length) Slot.unset).toArray = ls at hl ⊢
  have hl : lv_has ls 10 [(0, .ref aA), (1, .int (nI sc)), (2, .int (nI rk)), (3, .int (nI ot)), (4, .int bo), (5, .int bb)] := hl
  refine lv_aload_n hx hb dX0_measure_0 rfl (lv_at hl 0 rfl) ?_
  refine dz_get hx hb hts (fun _ h => List.mem_cons_of_mem _ (List.mem_append_left _ (List.mem_append_left _ (List.mem_append_right _ h)))) hown hE hG ha hF.1 rfl 1 (by decide) (hts _ (List.mem_of_getElem? (i := 1) rfl)) (fun _ h9 => h9) rfl dX0_measure_1 ?_
  refine lv_lconst (v := 0) hx hb dX0_measure_4 (by decide) ?_
  refine dz_kMv (va_runS (As := [_, _]) ⟨hx, hb, hml, hown, hts⟩ (c_J7_fill_d0a16 l Z _ _ _ _ _ _ _ rfl h22 (by omega)) (va_cwS 2 hts gX0_measure_J7_fill_d0a16 rfl rfl rfl (by decide +kernel) ⟨Nat.le_of_ble_eq_true rfl, Nat.le_of_ble_eq_true rfl⟩) (dz_P.pre hE hS hG) rfl rfl hl.1 rfl (lv_room (Nat.le_of_ble_eq_true rfl)) dX0_measure_5 ⟨Nat.le_of_ble_eq_true rfl, Nat.le_of_ble_eq_true rfl⟩) hS (fun G_5_1 ad_5_1 H locs hp_5_1 hG hS => ?_)
  obtain ⟨fr_5_1, rfl, g_5_1⟩ := hp_5_1
  obtain ⟨gs, hgs, zgs⟩ := g_5_1
  refine lv_aload_n hx hb dX0_measure_8 rfl (lv_at hl 0 rfl) ?_
  refine dz_get hx hb hts (fun _ h => List.mem_cons_of_mem _ (List.mem_append_left _ (List.mem_append_left _ (List.mem_append_right _ h)))) hown hE hG ((fr_5_1 _ (dz_n rfl)).2.trans ha) ((fr_5_1 _ (dz_n rfl)).1.trans hF.1) rfl 2 (by decide) (hts _ (List.mem_of_getElem? (i := 2) rfl)) (fun _ h9 => h9) rfl dX0_measure_9 ?_
  refine lv_iconst (v := 0) hx hb dX0_measure_12 (by decide) ?_
  refine dz_kMv (va_runS (As := [_, _]) ⟨hx, hb, hml, hown, hts⟩ (c_J7_fill_53178 l Z _ _ _ _ _ _ _ ((fr_5_1 _ (dz_n rfl)).2.trans rfl) ((fr_5_1 _ (dz_n rfl)).1.trans h23) (by omega)) (va_cwS 2 hts gX0_measure_J7_fill_53178 rfl rfl rfl (by decide +kernel) ⟨Nat.le_of_ble_eq_true rfl, Nat.le_of_ble_eq_true rfl⟩) (dz_P.pre hE hS hG) rfl rfl hl.1 rfl (lv_room (Nat.le_of_ble_eq_true rfl)) dX0_measure_13 ⟨Nat.le_of_ble_eq_true rfl, Nat.le_of_ble_eq_true rfl⟩) hS (fun G_13_2 ad_13_2 H locs hp_13_2 hG hS => ?_)
  obtain ⟨fr_13_2, rfl, g_13_2⟩ := hp_13_2
  refine lv_iconst (v := 0) hx hb dX0_measure_16 (by decide) ?_
  refine lv_istore (lv' := [(6, .int 0), (0, .ref aA), (1, .int (nI sc)), (2, .int (nI rk)), (3, .int (nI ot)), (4, .int bo), (5, .int bb)]) hx hb dX0_measure_17 hl (by decide) rfl (fun ls hl => ?_)
  refine dz_lw (α := Nat × dzW × Array Slot) (fun a9 => (fun (i : Nat) (G_L19 : dzW) (ls : Array Slot) => nf - i) a9.1 a9.2.1 a9.2.2) (fun a9 H locs => (fun (i : Nat) (G_L19 : dzW) (ls : Array Slot) => (i ≤ nf) ∧ (∀ r9 : dzR, r9 ≠ (22, 0) → r9 ≠ (23, 0) → G_L19 r9 = G_13_2 r9 ∧ ad r9 = ad r9) ∧ (G_L19 (22, 0) = some (eJ Z 151 ((m_mi fdy (fun i => lg i (6 * sc + rk)) (fun j => lg j (6 * sc + ot)) nf bo bb (gs, fun _ => 0) i).1))) ∧ (G_L19 (23, 0) = some (eI Z 151 ((m_mi fdy (fun i => lg i (6 * sc + rk)) (fun j => lg j (6 * sc + ot)) nf bo bb (gs, fun _ => 0) i).2))) ∧ dz_w Z G_L19 ad H ∧ va_S (dz_A Z) s.heap H locs ∧ lv_has ls 10 [(6, .int (nI i)), (0, .ref aA), (1, .int (nI sc)), (2, .int (nI rk)), (3, .int (nI ot)), (4, .int bo), (5, .int bb)]) a9.1 a9.2.1 a9.2.2) (fun a9 => F0 m 19 a9.2.2 []) (fun a9 H locs hI ih_19 => ?_) (0, G_13_2, ls) ⟨(Nat.zero_le _), (fun r9 _ _ => ⟨rfl, rfl⟩), ((fr_13_2 _ (dz_n rfl)).1.trans hgs), g_13_2, hG, hS, lv_sub hl [0, 1, 2, 3, 4, 5, 6] rfl⟩
  obtain ⟨i, G_L19, ls⟩ := a9
  obtain ⟨hi, fr_L19, s1, q1, hG, hS, hl⟩ := hI
  have hi : i ≤ nf := hi
  have fr_L19 : ∀ r9 : dzR, r9 ≠ (22, 0) → r9 ≠ (23, 0) → G_L19 r9 = G_13_2 r9 ∧ ad r9 = ad r9 := fr_L19
  have s1 : G_L19 (22, 0) = some (eJ Z 151 ((m_mi fdy (fun i => lg i (6 * sc + rk)) (fun j => lg j (6 * sc + ot)) nf bo bb (gs, fun _ => 0) i).1)) := s1
  have q1 : G_L19 (23, 0) = some (eI Z 151 ((m_mi fdy (fun i => lg i (6 * sc + rk)) (fun j => lg j (6 * sc + ot)) nf bo bb (gs, fun _ => 0) i).2)) := q1
  have hG : dz_w Z G_L19 ad H := hG
  have hS : va_S (dz_A Z) s.heap H locs := hS
  have hl : lv_has ls 10 [(6, .int (nI i)), (0, .ref aA), (1, .int (nI sc)), (2, .int (nI rk)), (3, .int (nI ot)), (4, .int bo), (5, .int bb)] := hl
  refine lv_iload hx hb dX0_measure_19 (lv_at hl 0 rfl) ?_
  refine lv_aload_n hx hb dX0_measure_21 rfl (lv_at hl 1 rfl) ?_
  refine dz_get hx hb hts (fun _ h => List.mem_cons_of_mem _ (List.mem_append_left _ (List.mem_append_left _ (List.mem_append_right _ h)))) hown hE hG ((fr_L19 _ (dz_n rfl) (dz_n rfl)).2.trans ((fr_13_2 _ (dz_n rfl)).2.trans ((fr_5_1 _ (dz_n rfl)).2.trans ha))) ((fr_L19 _ (dz_n rfl) (dz_n rfl)).1.trans ((fr_13_2 _ (dz_n rfl)).1.trans ((fr_5_1 _ (dz_n rfl)).1.trans hF.1))) rfl 0 (by decide) (hts _ (List.mem_of_getElem? (i := 3) rfl)) (fun _ h9 => h9) rfl dX0_measure_22 ?_
  refine dz_kRi (va_runV (As := []) ⟨hx, hb, hml, hown, hts⟩ (c_Jx4a65c_size_8abf5 l Z _ _ _ _ _ _ _ ((fr_L19 _ (dz_n rfl) (dz_n rfl)).2.trans ((fr_13_2 _ (dz_n rfl)).2.trans ((fr_5_1 _ (dz_n rfl)).2.trans rfl))) (dz_L.frame (dz_L.frame (dz_L.frame hF.2.1 (fr_5_1 _ (dz_n rfl)).1 (fr_5_1 _ (dz_n rfl))) (fr_13_2 _ (dz_n rfl)).1 (fr_13_2 _ (dz_n rfl))) (fr_L19 _ (dz_n rfl) (dz_n rfl)).1 (fr_L19 _ (dz_n rfl) (dz_n rfl)))) (cwV 0 hts gX0_measure_Jx4a65c_size_8abf5 rfl rfl rfl (by decide +kernel) ⟨Nat.le_of_ble_eq_true rfl, Nat.le_of_ble_eq_true rfl⟩) (dz_P.preL hE hS hG (dz_L.frame (dz_L.frame (dz_L.frame hF.2.1 (fr_5_1 _ (dz_n rfl)).1 (fr_5_1 _ (dz_n rfl))) (fr_13_2 _ (dz_n rfl)).1 (fr_13_2 _ (dz_n rfl))) (fr_L19 _ (dz_n rfl) (dz_n rfl)).1 (fr_L19 _ (dz_n rfl) (dz_n rfl))) ((fr_L19 _ (dz_n rfl) (dz_n rfl)).2.trans ((fr_13_2 _ (dz_n rfl)).2.trans ((fr_5_1 _ (dz_n rfl)).2.trans rfl)))) rfl rfl hl.1 rfl (lv_room (Nat.le_of_ble_eq_true rfl)) dX0_measure_25 ⟨Nat.le_of_ble_eq_true rfl, Nat.le_of_ble_eq_true rfl⟩) ?_
  refine lv_icmp_ge (tgt := 155) hx hb dX0_measure_28 (by decide) (fun c_28 => ?_) (fun c_28 => ?_)
  · have hi2 : i = nf := by have := (nI_leI (by omega) (by omega)).mp c_28; omega
    refine lv_aload_n hx hb dX0_measure_155 rfl (lv_at hl 1 rfl) ?_
    refine dz_kRi (va_runV (As := []) ⟨hx, hb, hml, hown, hts⟩ (c_X0_bestDelay l Z _ _ _ _ _ ((fr_L19 _ (dz_n rfl) (dz_n rfl)).2.trans ((fr_13_2 _ (dz_n rfl)).2.trans ((fr_5_1 _ (dz_n rfl)).2.trans ha))) ((fr_L19 _ (dz_n rfl) (dz_n rfl)).1.trans ((fr_13_2 _ (dz_n rfl)).1.trans ((fr_5_1 _ (dz_n rfl)).1.trans hF.1))) s1 q1) (cwV 0 hts gX0_measure_X0_bestDelay rfl rfl rfl (by decide +kernel) ⟨Nat.le_of_ble_eq_true rfl, Nat.le_of_ble_eq_true rfl⟩) (dz_P.preV hE hS hG ((fr_L19 _ (dz_n rfl) (dz_n rfl)).1.trans ((fr_13_2 _ (dz_n rfl)).1.trans ((fr_5_1 _ (dz_n rfl)).1.trans hF.1))) rfl ((fr_L19 _ (dz_n rfl) (dz_n rfl)).2.trans ((fr_13_2 _ (dz_n rfl)).2.trans ((fr_5_1 _ (dz_n rfl)).2.trans ha)))) rfl rfl hl.1 rfl (lv_room (Nat.le_of_ble_eq_true rfl)) dX0_measure_156 ⟨Nat.le_of_ble_eq_true rfl, Nat.le_of_ble_eq_true rfl⟩) ?_
    refine W.widen (k := 0) (n := 0) (by first | omega | decide) (by first | omega | decide) ?_
    refine W.iret hx hb hrt (fun t ht hW => dz_endM (f := rv_i) _ hE hS hG ?_ ht hW) (fun q h => hS.2.2 q h) dX0_measure_159
    refine ⟨fun r9 n_0 n_1 => (dz_tr (fr_L19 r9 n_0 n_1) (dz_tr (fr_13_2 r9 n_1) (fr_5_1 r9 n_0))), rfl, ?_⟩
    exact ⟨gs, _, _, zgs, s1, q1, by rw [hi2]⟩
  · have hlt : i < nf := by
      rcases Nat.lt_or_ge i nf with q | q
      · exact q
      · exact absurd ((nI_leI (by omega) (by omega)).mpr q) c_28
    refine lv_aload_n hx hb dX0_measure_31 rfl (lv_at hl 1 rfl) ?_
    refine dz_get hx hb hts (fun _ h => List.mem_cons_of_mem _ (List.mem_append_left _ (List.mem_append_left _ (List.mem_append_right _ h)))) hown hE hG ((fr_L19 _ (dz_n rfl) (dz_n rfl)).2.trans ((fr_13_2 _ (dz_n rfl)).2.trans ((fr_5_1 _ (dz_n rfl)).2.trans ha))) ((fr_L19 _ (dz_n rfl) (dz_n rfl)).1.trans ((fr_13_2 _ (dz_n rfl)).1.trans ((fr_5_1 _ (dz_n rfl)).1.trans hF.1))) rfl 0 (by decide) (hts _ (List.mem_of_getElem? (i := 3) rfl)) (fun _ h9 => h9) rfl dX0_measure_32 ?_
    refine lv_iload hx hb dX0_measure_35 (lv_at hl 0 rfl) ?_
    refine dz_kRr (va_runV (As := [_]) ⟨hx, hb, hml, hown, hts⟩ (c_Jx4a65c_get_915e3 l Z _ _ _ _ _ _ _ _ ((fr_L19 _ (dz_n rfl) (dz_n rfl)).2.trans ((fr_13_2 _ (dz_n rfl)).2.trans ((fr_5_1 _ (dz_n rfl)).2.trans rfl))) (dz_L.frame (dz_L.frame (dz_L.frame hF.2.1 (fr_5_1 _ (dz_n rfl)).1 (fr_5_1 _ (dz_n rfl))) (fr_13_2 _ (dz_n rfl)).1 (fr_13_2 _ (dz_n rfl))) (fr_L19 _ (dz_n rfl) (dz_n rfl)).1 (fr_L19 _ (dz_n rfl) (dz_n rfl))) hlt) (cwV 1 hts gX0_measure_Jx4a65c_get_915e3 rfl rfl rfl (by decide +kernel) ⟨Nat.le_of_ble_eq_true rfl, Nat.le_of_ble_eq_true rfl⟩) (dz_P.preL hE hS hG (dz_L.frame (dz_L.frame (dz_L.frame hF.2.1 (fr_5_1 _ (dz_n rfl)).1 (fr_5_1 _ (dz_n rfl))) (fr_13_2 _ (dz_n rfl)).1 (fr_13_2 _ (dz_n rfl))) (fr_L19 _ (dz_n rfl) (dz_n rfl)).1 (fr_L19 _ (dz_n rfl) (dz_n rfl))) ((fr_L19 _ (dz_n rfl) (dz_n rfl)).2.trans ((fr_13_2 _ (dz_n rfl)).2.trans ((fr_5_1 _ (dz_n rfl)).2.trans rfl)))) rfl rfl hl.1 rfl (lv_room (Nat.le_of_ble_eq_true rfl)) dX0_measure_37 ⟨Nat.le_of_ble_eq_true rfl, Nat.le_of_ble_eq_true rfl⟩) ?_
    refine dz_cst hx hb hown (hts _ (List.mem_of_getElem? (i := 4) rfl)) hE hG rfl ((dz_Fr.frame (dz_Fr.frame (dz_Fr.frame hF (fun r h => fr_5_1 r (by rintro rfl; simp at h)) (fun _ _ => rfl)) (fun r h => fr_13_2 r (by rintro rfl; simp at h)) (fun _ _ => rfl)) (fun r h => fr_L19 r (by rintro rfl; simp at h) (by rintro rfl; simp at h)) (fun _ _ => rfl)).2.2 i hlt).1 rfl dX0_measure_40 ?_
    refine lv_iload_n hx hb dX0_measure_43 rfl (lv_at hl 2 rfl) ?_
    refine lv_iload_n hx hb dX0_measure_44 rfl (lv_at hl 3 rfl) ?_
    refine dz_kRi (va_runV (As := [_, _]) ⟨hx, hb, hml, hown, hts⟩ (c_X3_lightAt l Z _ _ _ _ _ _ _ _ rfl ((dz_Fr.frame (dz_Fr.frame (dz_Fr.frame hF (fun r h => fr_5_1 r (by rintro rfl; simp at h)) (fun _ _ => rfl)) (fun r h => fr_13_2 r (by rintro rfl; simp at h)) (fun _ _ => rfl)) (fun r h => fr_L19 r (by rintro rfl; simp at h) (by rintro rfl; simp at h)) (fun _ _ => rfl)).2.2 i hlt).1 ((dz_Fr.frame (dz_Fr.frame (dz_Fr.frame hF (fun r h => fr_5_1 r (by rintro rfl; simp at h)) (fun _ _ => rfl)) (fun r h => fr_13_2 r (by rintro rfl; simp at h)) (fun _ _ => rfl)) (fun r h => fr_L19 r (by rintro rfl; simp at h) (by rintro rfl; simp at h)) (fun _ _ => rfl)).2.2 i hlt).2 hsc hrk) (cwV 2 hts gX0_measure_X3_lightAt rfl rfl rfl (by decide +kernel) ⟨Nat.le_of_ble_eq_true rfl, Nat.le_of_ble_eq_true rfl⟩) (dz_P.preV hE hS hG ((dz_Fr.frame (dz_Fr.frame (dz_Fr.frame hF (fun r h => fr_5_1 r (by rintro rfl; simp at h)) (fun _ _ => rfl)) (fun r h => fr_13_2 r (by rintro rfl; simp at h)) (fun _ _ => rfl)) (fun r h => fr_L19 r (by rintro rfl; simp at h) (by rintro rfl; simp at h)) (fun _ _ => rfl)).2.2 i hlt).1 rfl rfl) rfl rfl hl.1 rfl (lv_room (Nat.le_of_ble_eq_true rfl)) dX0_measure_45 ⟨Nat.le_of_ble_eq_true rfl, Nat.le_of_ble_eq_true rfl⟩) ?_
    refine lv_topi (fun v_1 ev_1 => ?_)
    obtain rfl : v_1 = (lg i (6 * sc + rk)) := ev_1
    refine lv_istore (lv' := [(7, .int (lg i (6 * sc + rk))), (6, .int (nI i)), (0, .ref aA), (1, .int (nI sc)), (2, .int (nI rk)), (3, .int (nI ot)), (4, .int bo), (5, .int bb)]) hx hb dX0_measure_48 hl (by decide) rfl (fun ls hl => ?_)
    refine lv_iload hx hb dX0_measure_50 (lv_at hl 1 rfl) ?_
    refine lv_istore (lv' := [(8, .int (nI i)), (7, .int (lg i (6 * sc + rk))), (6, .int (nI i)), (0, .ref aA), (1, .int (nI sc)), (2, .int (nI rk)), (3, .int (nI ot)), (4, .int bo), (5, .int bb)]) hx hb dX0_measure_52 hl (by decide) rfl (fun ls hl => ?_)
    refine dz_lw (α := Nat × dzW × Array Slot) (fun a9 => (fun (t : Nat) (G_L54 : dzW) (ls : Array Slot) => nf - (i + t)) a9.1 a9.2.1 a9.2.2) (fun a9 H locs => (fun (t : Nat) (G_L54 : dzW) (ls : Array Slot) => (i + t ≤ nf) ∧ ((lg i (6 * sc + rk)) = -1 → t = 0) ∧ (∀ r9 : dzR, r9 ≠ (22, 0) → r9 ≠ (23, 0) → G_L54 r9 = G_L19 r9 ∧ ad r9 = ad r9) ∧ (G_L54 (22, 0) = some (eJ Z 151 ((m_mj fdy (fun j => lg j (6 * sc + ot)) (lg i (6 * sc + rk)) i bo bb (m_mi fdy (fun i => lg i (6 * sc + rk)) (fun j => lg j (6 * sc + ot)) nf bo bb (gs, fun _ => 0) i) t).1))) ∧ (G_L54 (23, 0) = some (eI Z 151 ((m_mj fdy (fun j => lg j (6 * sc + ot)) (lg i (6 * sc + rk)) i bo bb (m_mi fdy (fun i => lg i (6 * sc + rk)) (fun j => lg j (6 * sc + ot)) nf bo bb (gs, fun _ => 0) i) t).2))) ∧ dz_w Z G_L54 ad H ∧ va_S (dz_A Z) s.heap H locs ∧ lv_has ls 10 [(8, .int (nI (i + t))), (7, .int (lg i (6 * sc + rk))), (6, .int (nI i)), (0, .ref aA), (1, .int (nI sc)), (2, .int (nI rk)), (3, .int (nI ot)), (4, .int bo), (5, .int bb)]) a9.1 a9.2.1 a9.2.2) (fun a9 => F0 m 54 a9.2.2 []) (fun a9 H locs hI ih_54 => ?_) (0, G_L19, ls) ⟨(by omega), (fun _ => rfl), (fun r9 _ _ => ⟨rfl, rfl⟩), s1, q1, hG, hS, lv_sub hl [0, 1, 2, 3, 4, 5, 6, 7, 8] rfl⟩
    obtain ⟨t, G_L54, ls⟩ := a9
    obtain ⟨ht, ht0, fr_L54, s2, q2, hG, hS, hl⟩ := hI
    have ht : i + t ≤ nf := ht
    have ht0 : (lg i (6 * sc + rk)) = -1 → t = 0 := ht0
    have fr_L54 : ∀ r9 : dzR, r9 ≠ (22, 0) → r9 ≠ (23, 0) → G_L54 r9 = G_L19 r9 ∧ ad r9 = ad r9 := fr_L54
    have s2 : G_L54 (22, 0) = some (eJ Z 151 ((m_mj fdy (fun j => lg j (6 * sc + ot)) (lg i (6 * sc + rk)) i bo bb (m_mi fdy (fun i => lg i (6 * sc + rk)) (fun j => lg j (6 * sc + ot)) nf bo bb (gs, fun _ => 0) i) t).1)) := s2
    have q2 : G_L54 (23, 0) = some (eI Z 151 ((m_mj fdy (fun j => lg j (6 * sc + ot)) (lg i (6 * sc + rk)) i bo bb (m_mi fdy (fun i => lg i (6 * sc + rk)) (fun j => lg j (6 * sc + ot)) nf bo bb (gs, fun _ => 0) i) t).2)) := q2
    have hG : dz_w Z G_L54 ad H := hG
    have hS : va_S (dz_A Z) s.heap H locs := hS
    have hl : lv_has ls 10 [(8, .int (nI (i + t))), (7, .int (lg i (6 * sc + rk))), (6, .int (nI i)), (0, .ref aA), (1, .int (nI sc)), (2, .int (nI rk)), (3, .int (nI ot)), (4, .int bo), (5, .int bb)] := hl
    refine lv_iload hx hb dX0_measure_54 (lv_at hl 1 rfl) ?_
    refine lv_iconst (v := (-1)) hx hb dX0_measure_56 (by decide) ?_
    refine lv_icmp_eq (tgt := 149) hx hb dX0_measure_57 (by decide) (fun c_57 => ?_) (fun c_57 => ?_)
    · have hst2 : (m_mi fdy (fun i => lg i (6 * sc + rk)) (fun j => lg j (6 * sc + ot)) nf bo bb (gs, fun _ => 0) (i + 1)) = (m_mj fdy (fun j => lg j (6 * sc + ot)) (lg i (6 * sc + rk)) i bo bb (m_mi fdy (fun i => lg i (6 * sc + rk)) (fun j => lg j (6 * sc + ot)) nf bo bb (gs, fun _ => 0) i) t) := by
        rw [ht0 c_57]
        exact if_pos c_57
      obtain ⟨v_2, ev_2⟩ : ∃ y : Int32, y = (nI i) + 1 := ⟨_, rfl⟩
      refine lv_iinc (v := v_2) (lv' := [(6, .int v_2), (8, .int (nI (i + t))), (7, .int (lg i (6 * sc + rk))), (0, .ref aA), (1, .int (nI sc)), (2, .int (nI rk)), (3, .int (nI ot)), (4, .int bo), (5, .int bb)]) hx hb dX0_measure_149 hl (k := 2) rfl (by rw [ev_2]; rfl) (by decide) rfl (fun ls hl => ?_)
      refine lv_goto (tgt := 19) hx hb dX0_measure_152 (by decide) ?_
      obtain rfl : v_2 = nI (i + 1) := ev_2.trans (nI_1 i)
      exact ih_19 (i + 1, G_L54, ls) _ _ (by first | (dsimp only; omega) | omega) ⟨(by omega), (fun r9 n_0 n_1 => (dz_tr (fr_L54 r9 n_0 n_1) (fr_L19 r9 n_0 n_1))), (by rw [hst2]; exact s2), (by rw [hst2]; exact q2), hG, hS, lv_sub hl [0, 3, 4, 5, 6, 7, 8] rfl⟩
    · refine lv_iload hx hb dX0_measure_60 (lv_at hl 0 rfl) ?_
      refine lv_aload_n hx hb dX0_measure_62 rfl (lv_at hl 3 rfl) ?_
      refine dz_get hx hb hts (fun _ h => List.mem_cons_of_mem _ (List.mem_append_left _ (List.mem_append_left _ (List.mem_append_right _ h)))) hown hE hG ((fr_L54 _ (dz_n rfl) (dz_n rfl)).2.trans ((fr_L19 _ (dz_n rfl) (dz_n rfl)).2.trans ((fr_13_2 _ (dz_n rfl)).2.trans ((fr_5_1 _ (dz_n rfl)).2.trans ha)))) ((fr_L54 _ (dz_n rfl) (dz_n rfl)).1.trans ((fr_L19 _ (dz_n rfl) (dz_n rfl)).1.trans ((fr_13_2 _ (dz_n rfl)).1.trans ((fr_5_1 _ (dz_n rfl)).1.trans hF.1)))) rfl 0 (by decide) (hts _ (List.mem_of_getElem? (i := 3) rfl)) (fun _ h9 => h9) rfl dX0_measure_63 ?_
      refine dz_kRi (va_runV (As := []) ⟨hx, hb, hml, hown, hts⟩ (c_Jx4a65c_size_8abf5 l Z _ _ _ _ _ _ _ ((fr_L54 _ (dz_n rfl) (dz_n rfl)).2.trans ((fr_L19 _ (dz_n rfl) (dz_n rfl)).2.trans ((fr_13_2 _ (dz_n rfl)).2.trans ((fr_5_1 _ (dz_n rfl)).2.trans rfl)))) (dz_L.frame (dz_L.frame (dz_L.frame (dz_L.frame hF.2.1 (fr_5_1 _ (dz_n rfl)).1 (fr_5_1 _ (dz_n rfl))) (fr_13_2 _ (dz_n rfl)).1 (fr_13_2 _ (dz_n rfl))) (fr_L19 _ (dz_n rfl) (dz_n rfl)).1 (fr_L19 _ (dz_n rfl) (dz_n rfl))) (fr_L54 _ (dz_n rfl) (dz_n rfl)).1 (fr_L54 _ (dz_n rfl) (dz_n rfl)))) (cwV 0 hts gX0_measure_Jx4a65c_size_8abf5 rfl rfl rfl (by decide +kernel) ⟨Nat.le_of_ble_eq_true rfl, Nat.le_of_ble_eq_true rfl⟩) (dz_P.preL hE hS hG (dz_L.frame (dz_L.frame (dz_L.frame (dz_L.frame hF.2.1 (fr_5_1 _ (dz_n rfl)).1 (fr_5_1 _ (dz_n rfl))) (fr_13_2 _ (dz_n rfl)).1 (fr_13_2 _ (dz_n rfl))) (fr_L19 _ (dz_n rfl) (dz_n rfl)).1 (fr_L19 _ (dz_n rfl) (dz_n rfl))) (fr_L54 _ (dz_n rfl) (dz_n rfl)).1 (fr_L54 _ (dz_n rfl) (dz_n rfl))) ((fr_L54 _ (dz_n rfl) (dz_n rfl)).2.trans ((fr_L19 _ (dz_n rfl) (dz_n rfl)).2.trans ((fr_13_2 _ (dz_n rfl)).2.trans ((fr_5_1 _ (dz_n rfl)).2.trans rfl))))) rfl rfl hl.1 rfl (lv_room (Nat.le_of_ble_eq_true rfl)) dX0_measure_66 ⟨Nat.le_of_ble_eq_true rfl, Nat.le_of_ble_eq_true rfl⟩) ?_
      refine lv_icmp_ge (tgt := 149) hx hb dX0_measure_69 (by decide) (fun c_69 => ?_) (fun c_69 => ?_)
      · have hit : i + t = nf := by have := (nI_leI (by omega) (by omega)).mp c_69; omega
        have hst2 : (m_mi fdy (fun i => lg i (6 * sc + rk)) (fun j => lg j (6 * sc + ot)) nf bo bb (gs, fun _ => 0) (i + 1)) = (m_mj fdy (fun j => lg j (6 * sc + ot)) (lg i (6 * sc + rk)) i bo bb (m_mi fdy (fun i => lg i (6 * sc + rk)) (fun j => lg j (6 * sc + ot)) nf bo bb (gs, fun _ => 0) i) t) := by
          rw [show t = nf - i by omega]
          exact if_neg c_57
        obtain ⟨v_3, ev_3⟩ : ∃ y : Int32, y = (nI i) + 1 := ⟨_, rfl⟩
        refine lv_iinc (v := v_3) (lv' := [(6, .int v_3), (8, .int (nI (i + t))), (7, .int (lg i (6 * sc + rk))), (0, .ref aA), (1, .int (nI sc)), (2, .int (nI rk)), (3, .int (nI ot)), (4, .int bo), (5, .int bb)]) hx hb dX0_measure_149 hl (k := 2) rfl (by rw [ev_3]; rfl) (by decide) rfl (fun ls hl => ?_)
        refine lv_goto (tgt := 19) hx hb dX0_measure_152 (by decide) ?_
        obtain rfl : v_3 = nI (i + 1) := ev_3.trans (nI_1 i)
        exact ih_19 (i + 1, G_L54, ls) _ _ (by first | (dsimp only; omega) | omega) ⟨(by omega), (fun r9 n_0 n_1 => (dz_tr (fr_L54 r9 n_0 n_1) (fr_L19 r9 n_0 n_1))), (by rw [hst2]; exact s2), (by rw [hst2]; exact q2), hG, hS, lv_sub hl [0, 3, 4, 5, 6, 7, 8] rfl⟩
      · have hlt2 : i + t < nf := by
          rcases Nat.lt_or_ge (i + t) nf with q | q
          · exact q
          · exact absurd ((nI_leI (by omega) (by omega)).mpr q) c_69
        refine lv_aload_n hx hb dX0_measure_72 rfl (lv_at hl 3 rfl) ?_
        refine dz_get hx hb hts (fun _ h => List.mem_cons_of_mem _ (List.mem_append_left _ (List.mem_append_left _ (List.mem_append_right _ h)))) hown hE hG ((fr_L54 _ (dz_n rfl) (dz_n rfl)).2.trans ((fr_L19 _ (dz_n rfl) (dz_n rfl)).2.trans ((fr_13_2 _ (dz_n rfl)).2.trans ((fr_5_1 _ (dz_n rfl)).2.trans ha)))) ((fr_L54 _ (dz_n rfl) (dz_n rfl)).1.trans ((fr_L19 _ (dz_n rfl) (dz_n rfl)).1.trans ((fr_13_2 _ (dz_n rfl)).1.trans ((fr_5_1 _ (dz_n rfl)).1.trans hF.1)))) rfl 0 (by decide) (hts _ (List.mem_of_getElem? (i := 3) rfl)) (fun _ h9 => h9) rfl dX0_measure_73 ?_
        refine lv_iload hx hb dX0_measure_76 (lv_at hl 0 rfl) ?_
        refine dz_kRr (va_runV (As := [_]) ⟨hx, hb, hml, hown, hts⟩ (c_Jx4a65c_get_915e3 l Z _ _ _ _ _ _ _ _ ((fr_L54 _ (dz_n rfl) (dz_n rfl)).2.trans ((fr_L19 _ (dz_n rfl) (dz_n rfl)).2.trans ((fr_13_2 _ (dz_n rfl)).2.trans ((fr_5_1 _ (dz_n rfl)).2.trans rfl)))) (dz_L.frame (dz_L.frame (dz_L.frame (dz_L.frame hF.2.1 (fr_5_1 _ (dz_n rfl)).1 (fr_5_1 _ (dz_n rfl))) (fr_13_2 _ (dz_n rfl)).1 (fr_13_2 _ (dz_n rfl))) (fr_L19 _ (dz_n rfl) (dz_n rfl)).1 (fr_L19 _ (dz_n rfl) (dz_n rfl))) (fr_L54 _ (dz_n rfl) (dz_n rfl)).1 (fr_L54 _ (dz_n rfl) (dz_n rfl))) hlt2) (cwV 1 hts gX0_measure_Jx4a65c_get_915e3 rfl rfl rfl (by decide +kernel) ⟨Nat.le_of_ble_eq_true rfl, Nat.le_of_ble_eq_true rfl⟩) (dz_P.preL hE hS hG (dz_L.frame (dz_L.frame (dz_L.frame (dz_L.frame hF.2.1 (fr_5_1 _ (dz_n rfl)).1 (fr_5_1 _ (dz_n rfl))) (fr_13_2 _ (dz_n rfl)).1 (fr_13_2 _ (dz_n rfl))) (fr_L19 _ (dz_n rfl) (dz_n rfl)).1 (fr_L19 _ (dz_n rfl) (dz_n rfl))) (fr_L54 _ (dz_n rfl) (dz_n rfl)).1 (fr_L54 _ (dz_n rfl) (dz_n rfl))) ((fr_L54 _ (dz_n rfl) (dz_n rfl)).2.trans ((fr_L19 _ (dz_n rfl) (dz_n rfl)).2.trans ((fr_13_2 _ (dz_n rfl)).2.trans ((fr_5_1 _ (dz_n rfl)).2.trans rfl))))) rfl rfl hl.1 rfl (lv_room (Nat.le_of_ble_eq_true rfl)) dX0_measure_78 ⟨Nat.le_of_ble_eq_true rfl, Nat.le_of_ble_eq_true rfl⟩) ?_
        refine dz_cst hx hb hown (hts _ (List.mem_of_getElem? (i := 4) rfl)) hE hG rfl ((dz_Fr.frame (dz_Fr.frame (dz_Fr.frame (dz_Fr.frame hF (fun r h => fr_5_1 r (by rintro rfl; simp at h)) (fun _ _ => rfl)) (fun r h => fr_13_2 r (by rintro rfl; simp at h)) (fun _ _ => rfl)) (fun r h => fr_L19 r (by rintro rfl; simp at h) (by rintro rfl; simp at h)) (fun _ _ => rfl)) (fun r h => fr_L54 r (by rintro rfl; simp at h) (by rintro rfl; simp at h)) (fun _ _ => rfl)).2.2 (i + t) hlt2).1 rfl dX0_measure_81 ?_
        refine lv_iload_n hx hb dX0_measure_84 rfl (lv_at hl 4 rfl) ?_
        refine lv_iload_n hx hb dX0_measure_85 rfl (lv_at hl 6 rfl) ?_
        refine dz_kRi (va_runV (As := [_, _]) ⟨hx, hb, hml, hown, hts⟩ (c_X3_lightAt l Z _ _ _ _ _ _ _ _ rfl ((dz_Fr.frame (dz_Fr.frame (dz_Fr.frame (dz_Fr.frame hF (fun r h => fr_5_1 r (by rintro rfl; simp at h)) (fun _ _ => rfl)) (fun r h => fr_13_2 r (by rintro rfl; simp at h)) (fun _ _ => rfl)) (fun r h => fr_L19 r (by rintro rfl; simp at h) (by rintro rfl; simp at h)) (fun _ _ => rfl)) (fun r h => fr_L54 r (by rintro rfl; simp at h) (by rintro rfl; simp at h)) (fun _ _ => rfl)).2.2 (i + t) hlt2).1 ((dz_Fr.frame (dz_Fr.frame (dz_Fr.frame (dz_Fr.frame hF (fun r h => fr_5_1 r (by rintro rfl; simp at h)) (fun _ _ => rfl)) (fun r h => fr_13_2 r (by rintro rfl; simp at h)) (fun _ _ => rfl)) (fun r h => fr_L19 r (by rintro rfl; simp at h) (by rintro rfl; simp at h)) (fun _ _ => rfl)) (fun r h => fr_L54 r (by rintro rfl; simp at h) (by rintro rfl; simp at h)) (fun _ _ => rfl)).2.2 (i + t) hlt2).2 hsc hot) (cwV 2 hts gX0_measure_X3_lightAt rfl rfl rfl (by decide +kernel) ⟨Nat.le_of_ble_eq_true rfl, Nat.le_of_ble_eq_true rfl⟩) (dz_P.preV hE hS hG ((dz_Fr.frame (dz_Fr.frame (dz_Fr.frame (dz_Fr.frame hF (fun r h => fr_5_1 r (by rintro rfl; simp at h)) (fun _ _ => rfl)) (fun r h => fr_13_2 r (by rintro rfl; simp at h)) (fun _ _ => rfl)) (fun r h => fr_L19 r (by rintro rfl; simp at h) (by rintro rfl; simp at h)) (fun _ _ => rfl)) (fun r h => fr_L54 r (by rintro rfl; simp at h) (by rintro rfl; simp at h)) (fun _ _ => rfl)).2.2 (i + t) hlt2).1 rfl rfl) rfl rfl hl.1 rfl (lv_room (Nat.le_of_ble_eq_true rfl)) dX0_measure_86 ⟨Nat.le_of_ble_eq_true rfl, Nat.le_of_ble_eq_true rfl⟩) ?_
        refine lv_topi (fun v_4 ev_4 => ?_)
        obtain rfl : v_4 = (lg (i + t) (6 * sc + ot)) := ev_4
        refine lv_istore (lv' := [(9, .int (lg (i + t) (6 * sc + ot))), (8, .int (nI (i + t))), (7, .int (lg i (6 * sc + rk))), (6, .int (nI i)), (0, .ref aA), (1, .int (nI sc)), (2, .int (nI rk)), (3, .int (nI ot)), (4, .int bo), (5, .int bb)]) hx hb dX0_measure_89 hl (by decide) rfl (fun ls hl => ?_)
        refine lv_iload hx hb dX0_measure_91 (lv_at hl 0 rfl) ?_
        refine lv_iconst (v := (-1)) hx hb dX0_measure_93 (by decide) ?_
        refine lv_icmp_eq (tgt := 143) hx hb dX0_measure_94 (by decide) (fun c_94 => ?_) (fun c_94 => ?_)
        · have hst : (m_mj fdy (fun j => lg j (6 * sc + ot)) (lg i (6 * sc + rk)) i bo bb (m_mi fdy (fun i => lg i (6 * sc + rk)) (fun j => lg j (6 * sc + ot)) nf bo bb (gs, fun _ => 0) i) (t + 1)) = (m_mj fdy (fun j => lg j (6 * sc + ot)) (lg i (6 * sc + rk)) i bo bb (m_mi fdy (fun i => lg i (6 * sc + rk)) (fun j => lg j (6 * sc + ot)) nf bo bb (gs, fun _ => 0) i) t) := if_pos c_94
          obtain ⟨v_5, ev_5⟩ : ∃ y : Int32, y = (nI (i + t)) + 1 := ⟨_, rfl⟩
          refine lv_iinc (v := v_5) (lv' := [(8, .int v_5), (9, .int (lg (i + t) (6 * sc + ot))), (7, .int (lg i (6 * sc + rk))), (6, .int (nI i)), (0, .ref aA), (1, .int (nI sc)), (2, .int (nI rk)), (3, .int (nI ot)), (4, .int bo), (5, .int bb)]) hx hb dX0_measure_143 hl (k := 1) rfl (by rw [ev_5]; rfl) (by decide) rfl (fun ls hl => ?_)
          refine lv_goto (tgt := 54) hx hb dX0_measure_146 (by decide) ?_
          obtain rfl : v_5 = nI (i + (t + 1)) := ev_5.trans (nI_1 (i + t))
          exact ih_54 (t + 1, G_L54, ls) _ _ (by first | (dsimp only; omega) | omega) ⟨(by omega), (fun z => absurd z c_57), (fun r9 n_0 n_1 => (fr_L54 r9 n_0 n_1)), (by rw [hst]; exact s2), (by rw [hst]; exact q2), hG, hS, lv_sub hl [0, 2, 3, 4, 5, 6, 7, 8, 9] rfl⟩
        · have hst : (m_mj fdy (fun j => lg j (6 * sc + ot)) (lg i (6 * sc + rk)) i bo bb (m_mi fdy (fun i => lg i (6 * sc + rk)) (fun j => lg j (6 * sc + ot)) nf bo bb (gs, fun _ => 0) i) (t + 1)) = (m_apS (fdy (i + t) - fdy i) ((lg i (6 * sc + rk)) * bb - (lg (i + t) (6 * sc + ot)) * bo) (m_mj fdy (fun j => lg j (6 * sc + ot)) (lg i (6 * sc + rk)) i bo bb (m_mi fdy (fun i => lg i (6 * sc + rk)) (fun j => lg j (6 * sc + ot)) nf bo bb (gs, fun _ => 0) i) t).1, m_apP (fdy (i + t) - fdy i) (m_mj fdy (fun j => lg j (6 * sc + ot)) (lg i (6 * sc + rk)) i bo bb (m_mi fdy (fun i => lg i (6 * sc + rk)) (fun j => lg j (6 * sc + ot)) nf bo bb (gs, fun _ => 0) i) t).2) := if_neg c_94
          refine lv_aload_n hx hb dX0_measure_97 rfl (lv_at hl 4 rfl) ?_
          refine lv_aload_n hx hb dX0_measure_98 rfl (lv_at hl 4 rfl) ?_
          refine dz_get hx hb hts (fun _ h => List.mem_cons_of_mem _ (List.mem_append_left _ (List.mem_append_left _ (List.mem_append_right _ h)))) hown hE hG ((fr_L54 _ (dz_n rfl) (dz_n rfl)).2.trans ((fr_L19 _ (dz_n rfl) (dz_n rfl)).2.trans ((fr_13_2 _ (dz_n rfl)).2.trans ((fr_5_1 _ (dz_n rfl)).2.trans ha)))) ((fr_L54 _ (dz_n rfl) (dz_n rfl)).1.trans ((fr_L19 _ (dz_n rfl) (dz_n rfl)).1.trans ((fr_13_2 _ (dz_n rfl)).1.trans ((fr_5_1 _ (dz_n rfl)).1.trans hF.1)))) rfl 0 (by decide) (hts _ (List.mem_of_getElem? (i := 3) rfl)) (fun _ h9 => h9) rfl dX0_measure_99 ?_
          refine lv_iload hx hb dX0_measure_102 (lv_at hl 1 rfl) ?_
          refine dz_kRr (va_runV (As := [_]) ⟨hx, hb, hml, hown, hts⟩ (c_Jx4a65c_get_915e3 l Z _ _ _ _ _ _ _ _ ((fr_L54 _ (dz_n rfl) (dz_n rfl)).2.trans ((fr_L19 _ (dz_n rfl) (dz_n rfl)).2.trans ((fr_13_2 _ (dz_n rfl)).2.trans ((fr_5_1 _ (dz_n rfl)).2.trans rfl)))) (dz_L.frame (dz_L.frame (dz_L.frame (dz_L.frame hF.2.1 (fr_5_1 _ (dz_n rfl)).1 (fr_5_1 _ (dz_n rfl))) (fr_13_2 _ (dz_n rfl)).1 (fr_13_2 _ (dz_n rfl))) (fr_L19 _ (dz_n rfl) (dz_n rfl)).1 (fr_L19 _ (dz_n rfl) (dz_n rfl))) (fr_L54 _ (dz_n rfl) (dz_n rfl)).1 (fr_L54 _ (dz_n rfl) (dz_n rfl))) hlt2) (cwV 1 hts gX0_measure_Jx4a65c_get_915e3 rfl rfl rfl (by decide +kernel) ⟨Nat.le_of_ble_eq_true rfl, Nat.le_of_ble_eq_true rfl⟩) (dz_P.preL hE hS hG (dz_L.frame (dz_L.frame (dz_L.frame (dz_L.frame hF.2.1 (fr_5_1 _ (dz_n rfl)).1 (fr_5_1 _ (dz_n rfl))) (fr_13_2 _ (dz_n rfl)).1 (fr_13_2 _ (dz_n rfl))) (fr_L19 _ (dz_n rfl) (dz_n rfl)).1 (fr_L19 _ (dz_n rfl) (dz_n rfl))) (fr_L54 _ (dz_n rfl) (dz_n rfl)).1 (fr_L54 _ (dz_n rfl) (dz_n rfl))) ((fr_L54 _ (dz_n rfl) (dz_n rfl)).2.trans ((fr_L19 _ (dz_n rfl) (dz_n rfl)).2.trans ((fr_13_2 _ (dz_n rfl)).2.trans ((fr_5_1 _ (dz_n rfl)).2.trans rfl))))) rfl rfl hl.1 rfl (lv_room (Nat.le_of_ble_eq_true rfl)) dX0_measure_104 ⟨Nat.le_of_ble_eq_true rfl, Nat.le_of_ble_eq_true rfl⟩) ?_
          refine dz_cst hx hb hown (hts _ (List.mem_of_getElem? (i := 4) rfl)) hE hG rfl ((dz_Fr.frame (dz_Fr.frame (dz_Fr.frame (dz_Fr.frame hF (fun r h => fr_5_1 r (by rintro rfl; simp at h)) (fun _ _ => rfl)) (fun r h => fr_13_2 r (by rintro rfl; simp at h)) (fun _ _ => rfl)) (fun r h => fr_L19 r (by rintro rfl; simp at h) (by rintro rfl; simp at h)) (fun _ _ => rfl)) (fun r h => fr_L54 r (by rintro rfl; simp at h) (by rintro rfl; simp at h)) (fun _ _ => rfl)).2.2 (i + t) hlt2).1 rfl dX0_measure_107 ?_
          refine dz_getN (host := "Delaylens") hx hb hts (fun _ h => List.mem_cons_of_mem _ (List.mem_append_left _ (List.mem_append_right _ h))) hown hE hG rfl ((dz_Fr.frame (dz_Fr.frame (dz_Fr.frame (dz_Fr.frame hF (fun r h => fr_5_1 r (by rintro rfl; simp at h)) (fun _ _ => rfl)) (fun r h => fr_13_2 r (by rintro rfl; simp at h)) (fun _ _ => rfl)) (fun r h => fr_L19 r (by rintro rfl; simp at h) (by rintro rfl; simp at h)) (fun _ _ => rfl)) (fun r h => fr_L54 r (by rintro rfl; simp at h) (by rintro rfl; simp at h)) (fun _ _ => rfl)).2.2 (i + t) hlt2).1 rfl 0 (by decide) (by decide +kernel) (fun _ h9 => h9) rfl dX0_measure_110 ?_
          refine lv_aload_n hx hb dX0_measure_113 rfl (lv_at hl 4 rfl) ?_
          refine dz_get hx hb hts (fun _ h => List.mem_cons_of_mem _ (List.mem_append_left _ (List.mem_append_left _ (List.mem_append_right _ h)))) hown hE hG ((fr_L54 _ (dz_n rfl) (dz_n rfl)).2.trans ((fr_L19 _ (dz_n rfl) (dz_n rfl)).2.trans ((fr_13_2 _ (dz_n rfl)).2.trans ((fr_5_1 _ (dz_n rfl)).2.trans ha)))) ((fr_L54 _ (dz_n rfl) (dz_n rfl)).1.trans ((fr_L19 _ (dz_n rfl) (dz_n rfl)).1.trans ((fr_13_2 _ (dz_n rfl)).1.trans ((fr_5_1 _ (dz_n rfl)).1.trans hF.1)))) rfl 0 (by decide) (hts _ (List.mem_of_getElem? (i := 3) rfl)) (fun _ h9 => h9) rfl dX0_measure_114 ?_
          refine lv_iload hx hb dX0_measure_117 (lv_at hl 3 rfl) ?_
          refine dz_kRr (va_runV (As := [_]) ⟨hx, hb, hml, hown, hts⟩ (c_Jx4a65c_get_915e3 l Z _ _ _ _ _ _ _ _ ((fr_L54 _ (dz_n rfl) (dz_n rfl)).2.trans ((fr_L19 _ (dz_n rfl) (dz_n rfl)).2.trans ((fr_13_2 _ (dz_n rfl)).2.trans ((fr_5_1 _ (dz_n rfl)).2.trans rfl)))) (dz_L.frame (dz_L.frame (dz_L.frame (dz_L.frame hF.2.1 (fr_5_1 _ (dz_n rfl)).1 (fr_5_1 _ (dz_n rfl))) (fr_13_2 _ (dz_n rfl)).1 (fr_13_2 _ (dz_n rfl))) (fr_L19 _ (dz_n rfl) (dz_n rfl)).1 (fr_L19 _ (dz_n rfl) (dz_n rfl))) (fr_L54 _ (dz_n rfl) (dz_n rfl)).1 (fr_L54 _ (dz_n rfl) (dz_n rfl))) hlt) (cwV 1 hts gX0_measure_Jx4a65c_get_915e3 rfl rfl rfl (by decide +kernel) ⟨Nat.le_of_ble_eq_true rfl, Nat.le_of_ble_eq_true rfl⟩) (dz_P.preL hE hS hG (dz_L.frame (dz_L.frame (dz_L.frame (dz_L.frame hF.2.1 (fr_5_1 _ (dz_n rfl)).1 (fr_5_1 _ (dz_n rfl))) (fr_13_2 _ (dz_n rfl)).1 (fr_13_2 _ (dz_n rfl))) (fr_L19 _ (dz_n rfl) (dz_n rfl)).1 (fr_L19 _ (dz_n rfl) (dz_n rfl))) (fr_L54 _ (dz_n rfl) (dz_n rfl)).1 (fr_L54 _ (dz_n rfl) (dz_n rfl))) ((fr_L54 _ (dz_n rfl) (dz_n rfl)).2.trans ((fr_L19 _ (dz_n rfl) (dz_n rfl)).2.trans ((fr_13_2 _ (dz_n rfl)).2.trans ((fr_5_1 _ (dz_n rfl)).2.trans rfl))))) rfl rfl hl.1 rfl (lv_room (Nat.le_of_ble_eq_true rfl)) dX0_measure_119 ⟨Nat.le_of_ble_eq_true rfl, Nat.le_of_ble_eq_true rfl⟩) ?_
          refine dz_cst hx hb hown (hts _ (List.mem_of_getElem? (i := 4) rfl)) hE hG ((fr_L54 _ (dz_n rfl) (dz_n rfl)).2.trans rfl) ((fr_L54 _ (dz_n rfl) (dz_n rfl)).1.trans ((dz_Fr.frame (dz_Fr.frame (dz_Fr.frame hF (fun r h => fr_5_1 r (by rintro rfl; simp at h)) (fun _ _ => rfl)) (fun r h => fr_13_2 r (by rintro rfl; simp at h)) (fun _ _ => rfl)) (fun r h => fr_L19 r (by rintro rfl; simp at h) (by rintro rfl; simp at h)) (fun _ _ => rfl)).2.2 i hlt).1) rfl dX0_measure_122 ?_
          refine dz_getN (host := "Delaylens") hx hb hts (fun _ h => List.mem_cons_of_mem _ (List.mem_append_left _ (List.mem_append_right _ h))) hown hE hG ((fr_L54 _ (dz_n rfl) (dz_n rfl)).2.trans rfl) ((fr_L54 _ (dz_n rfl) (dz_n rfl)).1.trans ((dz_Fr.frame (dz_Fr.frame (dz_Fr.frame hF (fun r h => fr_5_1 r (by rintro rfl; simp at h)) (fun _ _ => rfl)) (fun r h => fr_13_2 r (by rintro rfl; simp at h)) (fun _ _ => rfl)) (fun r h => fr_L19 r (by rintro rfl; simp at h) (by rintro rfl; simp at h)) (fun _ _ => rfl)).2.2 i hlt).1) rfl 0 (by decide) (by decide +kernel) (fun _ h9 => h9) rfl dX0_measure_125 ?_
          refine lv_isub hx hb dX0_measure_128 ?_
          refine lv_iload hx hb dX0_measure_129 (lv_at hl 2 rfl) ?_
          refine lv_iload hx hb dX0_measure_131 (lv_at hl 9 rfl) ?_
          refine lv_imul hx hb dX0_measure_133 ?_
          refine lv_iload hx hb dX0_measure_134 (lv_at hl 0 rfl) ?_
          refine lv_iload hx hb dX0_measure_136 (lv_at hl 8 rfl) ?_
          refine lv_imul hx hb dX0_measure_138 ?_
          refine lv_isub hx hb dX0_measure_139 ?_
          refine dz_kMv (va_runV (As := [_, _]) ⟨hx, hb, hml, hown, hts⟩ (c_X0_addPair l Z _ _ _ _ _ _ _ ((fr_L54 _ (dz_n rfl) (dz_n rfl)).2.trans ((fr_L19 _ (dz_n rfl) (dz_n rfl)).2.trans ((fr_13_2 _ (dz_n rfl)).2.trans ((fr_5_1 _ (dz_n rfl)).2.trans ha)))) ((fr_L54 _ (dz_n rfl) (dz_n rfl)).1.trans ((fr_L19 _ (dz_n rfl) (dz_n rfl)).1.trans ((fr_13_2 _ (dz_n rfl)).1.trans ((fr_5_1 _ (dz_n rfl)).1.trans hF.1)))) s2 q2) (cwV 2 hts gX0_measure_X0_addPair rfl rfl rfl (by decide +kernel) ⟨Nat.le_of_ble_eq_true rfl, Nat.le_of_ble_eq_true rfl⟩) (dz_P.preV hE hS hG ((fr_L54 _ (dz_n rfl) (dz_n rfl)).1.trans ((fr_L19 _ (dz_n rfl) (dz_n rfl)).1.trans ((fr_13_2 _ (dz_n rfl)).1.trans ((fr_5_1 _ (dz_n rfl)).1.trans hF.1)))) rfl ((fr_L54 _ (dz_n rfl) (dz_n rfl)).2.trans ((fr_L19 _ (dz_n rfl) (dz_n rfl)).2.trans ((fr_13_2 _ (dz_n rfl)).2.trans ((fr_5_1 _ (dz_n rfl)).2.trans ha))))) rfl rfl hl.1 rfl (lv_room (Nat.le_of_ble_eq_true rfl)) dX0_measure_140 ⟨Nat.le_of_ble_eq_true rfl, Nat.le_of_ble_eq_true rfl⟩) hS (fun G_140_3 ad_140_3 H locs hp_140_3 hG hS => ?_)
          obtain ⟨fr_140_3, rfl, s_140_3, q_140_3⟩ := hp_140_3
          obtain ⟨v_6, ev_6⟩ : ∃ y : Int32, y = (nI (i + t)) + 1 := ⟨_, rfl⟩
          refine lv_iinc (v := v_6) (lv' := [(8, .int v_6), (9, .int (lg (i + t) (6 * sc + ot))), (7, .int (lg i (6 * sc + rk))), (6, .int (nI i)), (0, .ref aA), (1, .int (nI sc)), (2, .int (nI rk)), (3, .int (nI ot)), (4, .int bo), (5, .int bb)]) hx hb dX0_measure_143 hl (k := 1) rfl (by rw [ev_6]; rfl) (by decide) rfl (fun ls hl => ?_)
          refine lv_goto (tgt := 54) hx hb dX0_measure_146 (by decide) ?_
          obtain rfl : v_6 = nI (i + (t + 1)) := ev_6.trans (nI_1 (i + t))
          exact ih_54 (t + 1, G_140_3, ls) _ _ (by first | (dsimp only; omega) | omega) ⟨(by omega), (fun z => absurd z c_57), (fun r9 n_0 n_1 => (dz_tr (fr_140_3 r9 n_0 n_1) (fr_L54 r9 n_0 n_1))), (by rw [hst]; exact s_140_3), (by rw [hst]; exact q_140_3), hG, hS, lv_sub hl [0, 2, 3, 4, 5, 6, 7, 8, 9] rfl⟩

set_option maxHeartbeats 4000000 in
set_option maxRecDepth 100000 in
theorem c_X0_init (l : Launch) (Z : dzG) (G : dzW) (ad : dzA) (aA : Nat) (fdy : Nat → Int32) (lg : Nat → Nat → Int32) (ha : ad (19, 0) = aA) (ho : G (19, 0) = some (eO 1 [.null, .null, .null])) : dzWr l yX0_init wsX0_init 4 80 3 305 Z G ad [.ref aA] rv_v (fun (x : Unit) G1 ad1 => (∀ r9 : dzR, r9 ≠ (19, 0) → r9 ≠ (20, 0) → r9 ≠ (22, 0) → r9 ≠ (23, 0) → G1 r9 = G r9 ∧ ad1 r9 = ad r9) ∧ ad1 (19, 0) = aA ∧ dz_Fr Z G1 ad1 0 fdy lg ∧ G1 (22, 0) = some (eJ Z 151 (fun _ => 0)) ∧ G1 (23, 0) = some (eI Z 151 (fun _ => 0))) := by
  refine Met.ofW (cc := cX0_init) (maxL := 1) (ret := none) (by decide) rfl ?_
  intro p e s m args below meth c s₁ B hml hv
  obtain ⟨rfl, hG, hE⟩ := hv
  have hx := B.exec
  have hb := B.bytes
  have hrt := B.returns
  have hts := atoms_spec (ws := wsX0_init) B.pre
  have hown : s.vm.findClass RX0 = some m.cls := findClass_of_methodNamed B.named
  have hlocks := B.notSynchronized
  have hini : meth.name = "<init>" := (name_of_methodNamed B.named B.method).1
  have hS : va_S (dz_A Z) s.heap s.heap [] := va_S.rf
  have hl := lv_entry ([.ref aA]) (n := 1) (Nat.le_of_ble_eq_true rfl)
  rw [lg_entry_eq]
  generalize (lg_sl ([.ref aA]) ++ List.replicate (1 - (lg_sl ([.ref aA])).length) Slot.unset).toArray = ls at hl ⊢
  have hl : lv_has ls 1 [(0, .ref aA)] := hl
  refine lv_aload_n hx hb dX0_init_0 rfl (lv_at hl 0 rfl) ?_
  refine W.objInit hx hb hown (hts _ (List.mem_of_getElem? (i := 1) rfl)) (hts _ (List.mem_of_getElem? (i := 2) rfl)) (hts _ (List.mem_of_getElem? (i := 3) rfl)) rfl (by rw [hml]; exact hl.1) rfl dX0_init_1 (Nat.le_of_ble_eq_true rfl) (Nat.le_of_ble_eq_true rfl) ?_
  refine W.eq (g2 := F0 m 4 ls []) rfl ?_
  refine lv_aload_n hx hb dX0_init_4 rfl (lv_at hl 0 rfl) ?_
  refine dz_new (ci := 0) hx hb hts (fun _ h => List.mem_cons_of_mem _ (List.mem_append_left _ (List.mem_append_right _ h))) tyJx4a65c tyJx4a65c_ok hown (hts _ (List.mem_of_getElem? (i := 4) rfl)) (hts _ (List.mem_of_getElem? (i := 5) rfl)) (hts _ (List.mem_of_getElem? (i := 6) rfl)) hE hG hS (20, 0) rfl (fs := [.int 0, .null, .int 0]) (fun j hj => by rcases (show j = 0 ∨ j = 1 ∨ j = 2 by omega) with rfl | rfl | rfl <;> rfl) (Nat.le_of_ble_eq_true rfl) (Nat.le_of_ble_eq_true rfl) dX0_init_5 (fun q_1 H hG hS => ?_)
  refine W.widen (k := 1) (n := 3) (by omega) (by omega) ?_
  obtain ⟨G_1, ad_1, hG, w_1, a_1, o_1⟩ := dz_nma hG
  refine lv_dup hx hb dX0_init_8 rfl ?_
  refine dz_kMv (va_runI (As := []) ⟨hx, hb, hml, hown, hts⟩ (c_Jx4a65c_init_da8c8 l Z _ _ _ (21, 0) _ (fun _ => 0) _ a_1 w_1) (cwI 0 hts gX0_init_Jx4a65c_init_da8c8 rfl rfl rfl (hts _ (List.mem_of_getElem? (i := 6) rfl)) (hts _ (List.mem_of_getElem? (i := 12) rfl)) (hts _ (List.mem_of_getElem? (i := 13) rfl)) rfl (by decide +kernel) ⟨Nat.le_of_ble_eq_true rfl, Nat.le_of_ble_eq_true rfl⟩) (dz_P.pre hE hS hG) rfl rfl hl.1 rfl (lv_room (Nat.le_of_ble_eq_true rfl)) dX0_init_9 ⟨Nat.le_of_ble_eq_true rfl, Nat.le_of_ble_eq_true rfl⟩) hS (fun G_9_1 ad_9_1 H locs hp_9_1 hG hS => ?_)
  obtain ⟨fr_9_1, g_9_1⟩ := hp_9_1
  refine dz_putF hx hb hts (fun _ h => List.mem_cons_of_mem _ (List.mem_append_right _ h)) tyX0 tyX0_ok nmX0 hown hE hG ((fr_9_1 _ (dz_n rfl)).2.trans ((o_1 _ (dz_n rfl)).2.trans ha)) hS ((fr_9_1 _ (dz_n rfl)).1.trans ((o_1 _ (dz_n rfl)).1.trans ho)) rfl 0 (by decide) (hts _ (List.mem_of_getElem? (i := 7) rfl)) (fun _ h9 => h9) rfl hini rfl (ty := .object "java/util/ArrayList") (by decide +kernel) rfl rfl (fs' := [.ref q_1, .null, .null]) rfl (Nat.le_of_ble_eq_true rfl) dX0_init_12 (fun H locs hG hS => ?_)
  obtain ⟨G_2, hG, w_2, o_2⟩ := dz_nm hG
  refine lv_aload_n hx hb dX0_init_15 rfl (lv_at hl 0 rfl) ?_
  refine lv_sipush (v := 151) hx hb dX0_init_16 (by decide) ?_
  refine dz_newa (atype := .long) (a0 := (151, .inr (.inl (fun _ => 0)))) hx hb (hts _ (List.mem_of_getElem? (i := 8) rfl)) hE hG hS (22, 0) 1 rfl rfl (by decide) rfl (Nat.le_of_ble_eq_true rfl) (Nat.le_of_ble_eq_true rfl) (Nat.le_of_ble_eq_true rfl) dX0_init_19 (fun q_2 H hG hS => ?_)
  refine W.widen (k := 2) (n := 154) (by omega) (by omega) ?_
  obtain ⟨G_3, ad_3, hG, w_3, a_3, o_3⟩ := dz_nma hG
  refine dz_putF hx hb hts (fun _ h => List.mem_cons_of_mem _ (List.mem_append_right _ h)) tyX0 tyX0_ok nmX0 hown hE hG ((o_3 _ (dz_n rfl)).2.trans ((fr_9_1 _ (dz_n rfl)).2.trans ((o_1 _ (dz_n rfl)).2.trans ha))) hS ((o_3 _ (dz_n rfl)).1.trans w_2) rfl 1 (by decide) (hts _ (List.mem_of_getElem? (i := 9) rfl)) (fun _ h9 => h9) rfl hini rfl (ty := .array .long) (by decide +kernel) rfl rfl (fs' := [.ref q_1, .ref q_2, .null]) rfl (Nat.le_of_ble_eq_true rfl) dX0_init_21 (fun H locs hG hS => ?_)
  obtain ⟨G_4, hG, w_4, o_4⟩ := dz_nm hG
  refine lv_aload_n hx hb dX0_init_24 rfl (lv_at hl 0 rfl) ?_
  refine lv_sipush (v := 151) hx hb dX0_init_25 (by decide) ?_
  refine dz_newa (atype := .int) (a0 := (151, .inl (fun _ => 0))) hx hb (hts _ (List.mem_of_getElem? (i := 10) rfl)) hE hG hS (23, 0) 0 rfl rfl (by decide) rfl (Nat.le_of_ble_eq_true rfl) (Nat.le_of_ble_eq_true rfl) (Nat.le_of_ble_eq_true rfl) dX0_init_28 (fun q_3 H hG hS => ?_)
  refine W.widen (k := 3) (n := 305) (by omega) (by omega) ?_
  obtain ⟨G_5, ad_5, hG, w_5, a_5, o_5⟩ := dz_nma hG
  refine dz_putF hx hb hts (fun _ h => List.mem_cons_of_mem _ (List.mem_append_right _ h)) tyX0 tyX0_ok nmX0 hown hE hG ((o_5 _ (dz_n rfl)).2.trans ((o_3 _ (dz_n rfl)).2.trans ((fr_9_1 _ (dz_n rfl)).2.trans ((o_1 _ (dz_n rfl)).2.trans ha)))) hS ((o_5 _ (dz_n rfl)).1.trans w_4) rfl 2 (by decide) (hts _ (List.mem_of_getElem? (i := 11) rfl)) (fun _ h9 => h9) rfl hini rfl (ty := .array .int) (by decide +kernel) rfl rfl (fs' := [.ref q_1, .ref q_2, .ref q_3]) rfl (Nat.le_of_ble_eq_true rfl) dX0_init_30 (fun H locs hG hS => ?_)
  obtain ⟨G_6, hG, w_6, o_6⟩ := dz_nm hG
  refine W.widen (k := 3) (n := 305) (by first | omega | decide) (by first | omega | decide) ?_
  refine W.vret hx hb hrt (fun t ht hW => dz_endM (f := rv_v) () hE hS hG ?_ ht hW) (fun q h => hS.2.2 q h) dX0_init_33
  refine ⟨fun r9 n_0 n_1 n_2 n_3 => (dz_tr (o_6 r9 n_0) (dz_tr (o_5 r9 n_3) (dz_tr (o_4 r9 n_0) (dz_tr (o_3 r9 n_2) (dz_tr (o_2 r9 n_0) (dz_tr (fr_9_1 r9 n_1) (o_1 r9 n_1))))))), ?_⟩
  refine ⟨((o_5 _ (dz_n rfl)).2.trans ((o_3 _ (dz_n rfl)).2.trans ((fr_9_1 _ (dz_n rfl)).2.trans ((o_1 _ (dz_n rfl)).2.trans ha)))), ⟨?_, (dz_L.frame (dz_L.frame (dz_L.frame (dz_L.frame (dz_L.frame (g_9_1.1) (o_2 _ (dz_n rfl)).1 (o_2 _ (dz_n rfl))) (o_3 _ (dz_n rfl)).1 (o_3 _ (dz_n rfl))) (o_4 _ (dz_n rfl)).1 (o_4 _ (dz_n rfl))) (o_5 _ (dz_n rfl)).1 (o_5 _ (dz_n rfl))) (o_6 _ (dz_n rfl)).1 (o_6 _ (dz_n rfl))).el (fun j hj => absurd hj (Nat.not_lt_zero _)), fun i hi => absurd hi (Nat.not_lt_zero _)⟩, ((o_6 _ (dz_n rfl)).1.trans ((o_5 _ (dz_n rfl)).1.trans ((o_4 _ (dz_n rfl)).1.trans w_3))), ((o_6 _ (dz_n rfl)).1.trans w_5)⟩
  rw [show ad_5 (20, 0) = _ from ((o_6 _ (dz_n rfl)).2.trans ((o_5 _ (dz_n rfl)).2.trans ((o_4 _ (dz_n rfl)).2.trans ((o_3 _ (dz_n rfl)).2.trans ((o_2 _ (dz_n rfl)).2.trans (g_9_1.2)))))), show ad_5 (22, 0) = _ from ((o_6 _ (dz_n rfl)).2.trans ((o_5 _ (dz_n rfl)).2.trans ((o_4 _ (dz_n rfl)).2.trans a_3))), show ad_5 (23, 0) = _ from ((o_6 _ (dz_n rfl)).2.trans a_5)]
  exact w_6
