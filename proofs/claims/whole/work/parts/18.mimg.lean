set_option maxHeartbeats 4000000 in
set_option maxRecDepth 100000 in
theorem c_isImageN (l : Launch) (Z : dzG) (G : dzW) (ad : dzA) (aM nm ns nl nx nf my : Nat) (th dy td ssf sst cfr grw bkk iop : Int32) (v1 v2 : Int32) (ha : ad (39, 0) = aM) (ho : G (39, 0) = some (eO 10 [.int th, .int dy, .int (nI nm), .ref (ad (40, 3)), .ref (ad (40, 4)), .ref (ad (40, 5)), .ref (ad (40, 6)), .int td, .ref (ad (40, 8)), .ref (ad (40, 9)), .ref (ad (40, 10)), .int (nI ns), .ref (ad (40, 12)), .ref (ad (40, 13)), .ref (ad (40, 14)), .int (nI nl), .ref (ad (40, 16)), .ref (ad (40, 17)), .ref (ad (40, 18)), .int (nI nx), .ref (ad (40, 20)), .ref (ad (40, 21)), .ref (ad (40, 22)), .ref (ad (40, 23)), .ref (ad (40, 24)), .int ssf, .int sst, .int cfr, .int grw, .int (nI nf), .ref (ad (40, 30)), .ref (ad (40, 31)), .int bkk, .ref (ad (40, 33)), .ref (ad (40, 34)), .ref (ad (40, 35)), .int iop, .ref (ad (40, 37)), .int (nI my)])) (hv : v1 < 0 ∨ nI ns ≤ v1) (hns : ns ≤ 5) : dzRd l yX9_isImage wsX9_isImage 2 43 Z G ad [.ref aM, .int v1, .int v2] (some (.int 0)) := by
  refine Met.ofW (cc := cX9_isImage) (maxL := 3) (ret := (some .boolean)) (by decide) rfl ?_
  intro p e s m args below meth c s₁ B hml hv
  obtain ⟨rfl, hG, hE⟩ := hv
  have hx := B.exec
  have hb := B.bytes
  have hrt := B.returns
  have hts := atoms_spec (ws := wsX9_isImage) B.pre
  have hown : s.vm.findClass RX9 = some m.cls := findClass_of_methodNamed B.named
  have hlocks := B.notSynchronized
  have hS : va_S (dz_A Z) s.heap s.heap [] := va_S.rf
  have hl := lv_entry ([.ref aM, .int v1, .int v2]) (n := 3) (Nat.le_of_ble_eq_true rfl)
  rw [lg_entry_eq]
  generalize (lg_sl ([.ref aM, .int v1, .int v2]) ++ List.replicate (3 - (lg_sl ([.ref aM, .int v1, .int v2])).length) Slot.unset).toArray = ls at hl ⊢
  have hl : lv_has ls 3 [(0, .ref aM), (1, .int v1), (2, .int v2)] := hl
  refine lv_aload_n hx hb dX9_isImage_0 rfl (lv_at hl 0 rfl) ?_
  refine lv_iload_n hx hb dX9_isImage_1 rfl (lv_at hl 1 rfl) ?_
  refine dz_kRi (va_runV (As := [_]) ⟨hx, hb, hml, hown, hts⟩ (c_X9_isSource l Z _ _ _ _ _ _ _ _ _ _ _ _ _ _ _ _ _ _ _ ha ho hns) (cwV 1 hts gX9_isImage_X9_isSource rfl rfl rfl (by decide +kernel) ⟨Nat.le_of_ble_eq_true rfl, Nat.le_of_ble_eq_true rfl⟩) (dz_P.preV hE hS hG ho rfl ha) rfl rfl hl.1 rfl (lv_room (Nat.le_of_ble_eq_true rfl)) dX9_isImage_2 ⟨Nat.le_of_ble_eq_true rfl, Nat.le_of_ble_eq_true rfl⟩) ?_
  refine lv_topi (fun v_1 ev_1 => ?_)
  obtain rfl : v_1 = 0 := ev_1.trans (dz_b0 (m_ix0 (by omega) hv))
  refine lv_if_ne (tgt := 10) hx hb dX9_isImage_5 (by decide) (fun c_5 => absurd (by decide) c_5) (fun c_5 => ?_)
  refine lv_iconst (v := 0) hx hb dX9_isImage_8 (by decide) ?_
  refine W.zret hx hb hrt (by decide) (fun t ht hW => ⟨congrArg (fun x => Outcome.returned (some (Value.int x))) ?_, ht⟩) (fun _ h => by cases h) dX9_isImage_9
  rfl

set_option maxHeartbeats 4000000 in
set_option maxRecDepth 100000 in
theorem c_isImageY (l : Launch) (Z : dzG) (G : dzW) (ad : dzA) (aM nm ns nl nx nf my : Nat) (th dy td ssf sst cfr grw bkk iop : Int32) (f8 f9 f10 f12 f13 f37 : Nat → Int32) (sc : Nat) (v2 : Int32) (ha : ad (39, 0) = aM) (ho : G (39, 0) = some (eO 10 [.int th, .int dy, .int (nI nm), .ref (ad (40, 3)), .ref (ad (40, 4)), .ref (ad (40, 5)), .ref (ad (40, 6)), .int td, .ref (ad (40, 8)), .ref (ad (40, 9)), .ref (ad (40, 10)), .int (nI ns), .ref (ad (40, 12)), .ref (ad (40, 13)), .ref (ad (40, 14)), .int (nI nl), .ref (ad (40, 16)), .ref (ad (40, 17)), .ref (ad (40, 18)), .int (nI nx), .ref (ad (40, 20)), .ref (ad (40, 21)), .ref (ad (40, 22)), .ref (ad (40, 23)), .ref (ad (40, 24)), .int ssf, .int sst, .int cfr, .int grw, .int (nI nf), .ref (ad (40, 30)), .ref (ad (40, 31)), .int bkk, .ref (ad (40, 33)), .ref (ad (40, 34)), .ref (ad (40, 35)), .int iop, .ref (ad (40, 37)), .int (nI my)])) (h8 : G (40, 8) = some (eI Z 484 f8)) (h9 : G (40, 9) = some (eI Z 484 f9)) (h10 : G (40, 10) = some (eI Z 484 f10)) (h12 : G (40, 12) = some (eI Z 5 f12)) (h13 : G (40, 13) = some (eI Z 5 f13)) (h37 : G (40, 37) = some (eI Z 441 f37)) (hsc : sc < ns) (hns : ns ≤ 5) : dzWr l yX9_isImage wsX9_isImage 2 47 0 0 Z G ad [.ref aM, .int (nI sc), .int v2] rv_i (fun (x : Int32) G1 ad1 => (∀ r9 : dzR, r9 ≠ (39, 0) → r9 ≠ (40, 37) → G1 r9 = G r9 ∧ ad1 r9 = ad r9) ∧ ad = ad1 ∧ x = dz_b ((0 : Int32) ≤ v2 ∧ v2 ≤ nI (m_im f8 f9 f10 f12 f13 sc).1 - 1) ∧ G1 (39, 0) = some (eO 10 [.int th, .int dy, .int (nI nm), .ref (ad (40, 3)), .ref (ad (40, 4)), .ref (ad (40, 5)), .ref (ad (40, 6)), .int td, .ref (ad (40, 8)), .ref (ad (40, 9)), .ref (ad (40, 10)), .int (nI ns), .ref (ad (40, 12)), .ref (ad (40, 13)), .ref (ad (40, 14)), .int (nI nl), .ref (ad (40, 16)), .ref (ad (40, 17)), .ref (ad (40, 18)), .int (nI nx), .ref (ad (40, 20)), .ref (ad (40, 21)), .ref (ad (40, 22)), .ref (ad (40, 23)), .ref (ad (40, 24)), .int ssf, .int sst, .int cfr, .int grw, .int (nI nf), .ref (ad (40, 30)), .ref (ad (40, 31)), .int bkk, .ref (ad (40, 33)), .ref (ad (40, 34)), .ref (ad (40, 35)), .int iop, .ref (ad (40, 37)), .int (nI (m_im f8 f9 f10 f12 f13 sc).1)]) ∧ ∃ g, G1 (40, 37) = some (eI Z 441 g) ∧ ∀ k, k < (m_im f8 f9 f10 f12 f13 sc).1 → g k = (m_im f8 f9 f10 f12 f13 sc).2 k) := by
  refine Met.ofW (cc := cX9_isImage) (maxL := 3) (ret := (some .boolean)) (by decide) rfl ?_
  intro p e s m args below meth c s₁ B hml hv
  obtain ⟨rfl, hG, hE⟩ := hv
  have hx := B.exec
  have hb := B.bytes
  have hrt := B.returns
  have hts := atoms_spec (ws := wsX9_isImage) B.pre
  have hown : s.vm.findClass RX9 = some m.cls := findClass_of_methodNamed B.named
  have hlocks := B.notSynchronized
  have hS : va_S (dz_A Z) s.heap s.heap [] := va_S.rf
  have hl := lv_entry ([.ref aM, .int (nI sc), .int v2]) (n := 3) (Nat.le_of_ble_eq_true rfl)
  rw [lg_entry_eq]
  generalize (lg_sl ([.ref aM, .int (nI sc), .int v2]) ++ List.replicate (3 - (lg_sl ([.ref aM, .int (nI sc), .int v2])).length) Slot.unset).toArray = ls at hl ⊢
  have hl : lv_has ls 3 [(0, .ref aM), (1, .int (nI sc)), (2, .int v2)] := hl
  refine lv_aload_n hx hb dX9_isImage_0 rfl (lv_at hl 0 rfl) ?_
  refine lv_iload_n hx hb dX9_isImage_1 rfl (lv_at hl 1 rfl) ?_
  refine dz_kRi (va_runV (As := [_]) ⟨hx, hb, hml, hown, hts⟩ (c_X9_isSource l Z _ _ _ _ _ _ _ _ _ _ _ _ _ _ _ _ _ _ _ ha ho hns) (cwV 1 hts gX9_isImage_X9_isSource rfl rfl rfl (by decide +kernel) ⟨Nat.le_of_ble_eq_true rfl, Nat.le_of_ble_eq_true rfl⟩) (dz_P.preV hE hS hG ho rfl ha) rfl rfl hl.1 rfl (lv_room (Nat.le_of_ble_eq_true rfl)) dX9_isImage_2 ⟨Nat.le_of_ble_eq_true rfl, Nat.le_of_ble_eq_true rfl⟩) ?_
  refine lv_topi (fun v_1 ev_1 => ?_)
  obtain rfl : v_1 = 1 := ev_1.trans (dz_b1 (m_ix1 (by omega) hsc))
  refine lv_if_ne (tgt := 10) hx hb dX9_isImage_5 (by decide) (fun c_5 => ?_) (fun c_5 => absurd c_5 (by decide))
  refine lv_aload_n hx hb dX9_isImage_10 rfl (lv_at hl 0 rfl) ?_
  refine lv_iload_n hx hb dX9_isImage_11 rfl (lv_at hl 1 rfl) ?_
  refine dz_kMv (va_runV (As := [_]) ⟨hx, hb, hml, hown, hts⟩ (c_X9_look l Z _ _ _ _ _ _ _ _ _ _ _ _ _ _ _ _ _ _ _ _ _ _ _ _ sc ha ho h8 h9 h10 h12 h13 h37 (by omega)) (cwV 1 hts gX9_isImage_X9_look rfl rfl rfl (by decide +kernel) ⟨Nat.le_of_ble_eq_true rfl, Nat.le_of_ble_eq_true rfl⟩) (dz_P.preV hE hS hG ho rfl ha) rfl rfl hl.1 rfl (lv_room (Nat.le_of_ble_eq_true rfl)) dX9_isImage_12 ⟨Nat.le_of_ble_eq_true rfl, Nat.le_of_ble_eq_true rfl⟩) hS (fun G_12_1 ad_12_1 H locs hp_12_1 hG hS => ?_)
  obtain ⟨fr_12_1, rfl, g_12_1⟩ := hp_12_1
  obtain ⟨e1_12_1, e2_12_1⟩ := m_im_e (f8 := f8) (f9 := f9) (f10 := f10) (f12 := f12) (f13 := f13) (f := f37) (sc := sc)
  rw [e1_12_1] at g_12_1
  have hgk : ∀ k, k < (m_im f8 f9 f10 f12 f13 sc).1 → (m_la f10 (fun j => dz_b (m_pc j - f8 j = f12 sc ∧ m_pr j - f9 j = f13 sc)) (0, f37) 21).2 k = (m_im f8 f9 f10 f12 f13 sc).2 k := fun k hk => e2_12_1 k (by rw [e1_12_1]; exact hk)
  refine lv_iload_n hx hb dX9_isImage_15 rfl (lv_at hl 2 rfl) ?_
  refine lv_iconst (v := 0) hx hb dX9_isImage_16 (by decide) ?_
  refine lv_aload_n hx hb dX9_isImage_17 rfl (lv_at hl 0 rfl) ?_
  refine dz_get hx hb hts (fun _ h => List.mem_cons_of_mem _ (List.mem_append_right _ h)) hown hE hG ha g_12_1.1 rfl 38 (by decide) (hts _ (List.mem_of_getElem? (i := 1) rfl)) (fun _ h9 => h9) rfl dX9_isImage_18 ?_
  refine lv_iconst (v := 1) hx hb dX9_isImage_21 (by decide) ?_
  refine lv_isub hx hb dX9_isImage_22 ?_
  refine dz_kRi (va_runS (As := [_, _, _]) ⟨hx, hb, hml, hown, hts⟩ (c_X9_in l Z _ _ _ _ _ ) (va_cwS 3 hts gX9_isImage_X9_in rfl rfl rfl (by decide +kernel) ⟨Nat.le_of_ble_eq_true rfl, Nat.le_of_ble_eq_true rfl⟩) (dz_P.pre hE hS hG) rfl rfl hl.1 rfl (lv_room (Nat.le_of_ble_eq_true rfl)) dX9_isImage_23 ⟨Nat.le_of_ble_eq_true rfl, Nat.le_of_ble_eq_true rfl⟩) ?_
  refine W.widen (k := 0) (n := 0) (by first | omega | decide) (by first | omega | decide) ?_
  refine W.zret hx hb hrt dz_bn (fun t ht hW => dz_endM (f := rv_i) _ hE hS hG ?_ ht hW) (fun q h => hS.2.2 q h) dX9_isImage_26
  refine ⟨fun r9 n_0 n_1 => (fr_12_1 r9 n_0 n_1), rfl, ?_⟩
  exact ⟨rfl, g_12_1.1, _, g_12_1.2, hgk⟩

set_option maxHeartbeats 4000000 in
set_option maxRecDepth 100000 in
theorem c_M_images_no (l : Launch) (Z : dzG) (G : dzW) (ad : dzA) (aM nm ns nl nx nf my : Nat) (th dy td ssf sst cfr grw bkk iop : Int32) (v1 : Int32) (ha : ad (39, 0) = aM) (ho : G (39, 0) = some (eO 10 [.int th, .int dy, .int (nI nm), .ref (ad (40, 3)), .ref (ad (40, 4)), .ref (ad (40, 5)), .ref (ad (40, 6)), .int td, .ref (ad (40, 8)), .ref (ad (40, 9)), .ref (ad (40, 10)), .int (nI ns), .ref (ad (40, 12)), .ref (ad (40, 13)), .ref (ad (40, 14)), .int (nI nl), .ref (ad (40, 16)), .ref (ad (40, 17)), .ref (ad (40, 18)), .int (nI nx), .ref (ad (40, 20)), .ref (ad (40, 21)), .ref (ad (40, 22)), .ref (ad (40, 23)), .ref (ad (40, 24)), .int ssf, .int sst, .int cfr, .int grw, .int (nI nf), .ref (ad (40, 30)), .ref (ad (40, 31)), .int bkk, .ref (ad (40, 33)), .ref (ad (40, 34)), .ref (ad (40, 35)), .int iop, .ref (ad (40, 37)), .int (nI my)])) (hv : v1 < 0 ∨ nI ns ≤ v1) (hns : ns ≤ 5) : dzWr l yX9_images wsX9_images 2 43 0 0 Z G ad [.ref aM, .int v1] rv_i (fun (x : Int32) G1 ad1 => (∀ r9 : dzR, r9 ≠ (39, 0) → G1 r9 = G r9 ∧ ad1 r9 = ad r9) ∧ ad = ad1 ∧ x = 0 ∧ G1 (39, 0) = some (eO 10 [.int 1, .int dy, .int (nI nm), .ref (ad (40, 3)), .ref (ad (40, 4)), .ref (ad (40, 5)), .ref (ad (40, 6)), .int td, .ref (ad (40, 8)), .ref (ad (40, 9)), .ref (ad (40, 10)), .int (nI ns), .ref (ad (40, 12)), .ref (ad (40, 13)), .ref (ad (40, 14)), .int (nI nl), .ref (ad (40, 16)), .ref (ad (40, 17)), .ref (ad (40, 18)), .int (nI nx), .ref (ad (40, 20)), .ref (ad (40, 21)), .ref (ad (40, 22)), .ref (ad (40, 23)), .ref (ad (40, 24)), .int ssf, .int sst, .int cfr, .int grw, .int (nI nf), .ref (ad (40, 30)), .ref (ad (40, 31)), .int bkk, .ref (ad (40, 33)), .ref (ad (40, 34)), .ref (ad (40, 35)), .int iop, .ref (ad (40, 37)), .int (nI my)])) := by
  refine Met.ofW (cc := cX9_images) (maxL := 2) (ret := (some .int)) (by decide) rfl ?_
  intro p e s m args below meth c s₁ B hml hv
  obtain ⟨rfl, hG, hE⟩ := hv
  have hx := B.exec
  have hb := B.bytes
  have hrt := B.returns
  have hts := atoms_spec (ws := wsX9_images) B.pre
  have hown : s.vm.findClass RX9 = some m.cls := findClass_of_methodNamed B.named
  have hlocks := B.notSynchronized
  have hS : va_S (dz_A Z) s.heap s.heap [] := va_S.rf
  have hl := lv_entry ([.ref aM, .int v1]) (n := 2) (Nat.le_of_ble_eq_true rfl)
  rw [lg_entry_eq]
  generalize (lg_sl ([.ref aM, .int v1]) ++ List.replicate (2 - (lg_sl ([.ref aM, .int v1])).length) Slot.unset).toArray = ls at hl ⊢
  have hl : lv_has ls 2 [(0, .ref aM), (1, .int v1)] := hl
  refine lv_aload_n hx hb dX9_images_0 rfl (lv_at hl 0 rfl) ?_
  refine lv_aload_n hx hb dX9_images_1 rfl (lv_at hl 0 rfl) ?_
  refine lv_iload_n hx hb dX9_images_2 rfl (lv_at hl 1 rfl) ?_
  refine dz_kRi (va_runV (As := [_]) ⟨hx, hb, hml, hown, hts⟩ (c_X9_isSource l Z _ _ _ _ _ _ _ _ _ _ _ _ _ _ _ _ _ _ _ ha ho hns) (cwV 1 hts gX9_images_X9_isSource rfl rfl rfl (by decide +kernel) ⟨Nat.le_of_ble_eq_true rfl, Nat.le_of_ble_eq_true rfl⟩) (dz_P.preV hE hS hG ho rfl ha) rfl rfl hl.1 rfl (lv_room (Nat.le_of_ble_eq_true rfl)) dX9_images_3 ⟨Nat.le_of_ble_eq_true rfl, Nat.le_of_ble_eq_true rfl⟩) ?_
  refine lv_topi (fun v_1 ev_1 => ?_)
  obtain rfl : v_1 = 0 := ev_1.trans (dz_b0 (m_ix0 (by omega) hv))
  refine lv_if_eq (tgt := 13) hx hb dX9_images_6 (by decide) (fun c_6 => ?_) (fun c_6 => absurd (by decide) c_6)
  refine lv_iconst (v := 1) hx hb dX9_images_13 (by decide) ?_
  refine dz_kMi (va_runV (As := [_]) ⟨hx, hb, hml, hown, hts⟩ (c_X9_refused l Z _ _ _ _ _ _ _ _ _ _ _ _ _ _ _ _ _ _ _ ha ho) (cwV 1 hts gX9_images_X9_refused rfl rfl rfl (by decide +kernel) ⟨Nat.le_of_ble_eq_true rfl, Nat.le_of_ble_eq_true rfl⟩) (dz_P.preV hE hS hG ho rfl ha) rfl rfl hl.1 rfl (lv_room (Nat.le_of_ble_eq_true rfl)) dX9_images_14 ⟨Nat.le_of_ble_eq_true rfl, Nat.le_of_ble_eq_true rfl⟩) hS (fun x_14_1 G_14_1 ad_14_1 H locs hp_14_1 hG hS => ?_)
  obtain ⟨fr_14_1, rfl, x9_14_1, g_14_1⟩ := hp_14_1
  obtain rfl : x_14_1 = 1 := x9_14_1.trans (by decide)
  refine lv_if_eq (tgt := 22) hx hb dX9_images_17 (by decide) (fun c_17 => absurd c_17 (by decide)) (fun c_17 => ?_)
  refine lv_iconst (v := 0) hx hb dX9_images_20 (by decide) ?_
  refine W.widen (k := 0) (n := 0) (by first | omega | decide) (by first | omega | decide) ?_
  refine W.iret hx hb hrt (fun t ht hW => dz_endM (f := rv_i) _ hE hS hG ?_ ht hW) (fun q h => hS.2.2 q h) dX9_images_21
  refine ⟨fun r9 n_0 => (fr_14_1 r9 n_0), rfl, ?_⟩
  exact ⟨rfl, g_14_1⟩

set_option maxHeartbeats 4000000 in
set_option maxRecDepth 100000 in
theorem c_M_images_ok (l : Launch) (Z : dzG) (G : dzW) (ad : dzA) (aM nm ns nl nx nf my : Nat) (th dy td ssf sst cfr grw bkk iop : Int32) (f8 f9 f10 f12 f13 f37 : Nat → Int32) (sc : Nat) (ha : ad (39, 0) = aM) (ho : G (39, 0) = some (eO 10 [.int th, .int dy, .int (nI nm), .ref (ad (40, 3)), .ref (ad (40, 4)), .ref (ad (40, 5)), .ref (ad (40, 6)), .int td, .ref (ad (40, 8)), .ref (ad (40, 9)), .ref (ad (40, 10)), .int (nI ns), .ref (ad (40, 12)), .ref (ad (40, 13)), .ref (ad (40, 14)), .int (nI nl), .ref (ad (40, 16)), .ref (ad (40, 17)), .ref (ad (40, 18)), .int (nI nx), .ref (ad (40, 20)), .ref (ad (40, 21)), .ref (ad (40, 22)), .ref (ad (40, 23)), .ref (ad (40, 24)), .int ssf, .int sst, .int cfr, .int grw, .int (nI nf), .ref (ad (40, 30)), .ref (ad (40, 31)), .int bkk, .ref (ad (40, 33)), .ref (ad (40, 34)), .ref (ad (40, 35)), .int iop, .ref (ad (40, 37)), .int (nI my)])) (h8 : G (40, 8) = some (eI Z 484 f8)) (h9 : G (40, 9) = some (eI Z 484 f9)) (h10 : G (40, 10) = some (eI Z 484 f10)) (h12 : G (40, 12) = some (eI Z 5 f12)) (h13 : G (40, 13) = some (eI Z 5 f13)) (h37 : G (40, 37) = some (eI Z 441 f37)) (hsc : sc < ns) (hns : ns ≤ 5) : dzWr l yX9_images wsX9_images 2 47 0 0 Z G ad [.ref aM, .int (nI sc)] rv_i (fun (x : Int32) G1 ad1 => (∀ r9 : dzR, r9 ≠ (39, 0) → r9 ≠ (40, 37) → G1 r9 = G r9 ∧ ad1 r9 = ad r9) ∧ ad = ad1 ∧ x = nI (m_im f8 f9 f10 f12 f13 sc).1 ∧ G1 (39, 0) = some (eO 10 [.int 0, .int dy, .int (nI nm), .ref (ad (40, 3)), .ref (ad (40, 4)), .ref (ad (40, 5)), .ref (ad (40, 6)), .int td, .ref (ad (40, 8)), .ref (ad (40, 9)), .ref (ad (40, 10)), .int (nI ns), .ref (ad (40, 12)), .ref (ad (40, 13)), .ref (ad (40, 14)), .int (nI nl), .ref (ad (40, 16)), .ref (ad (40, 17)), .ref (ad (40, 18)), .int (nI nx), .ref (ad (40, 20)), .ref (ad (40, 21)), .ref (ad (40, 22)), .ref (ad (40, 23)), .ref (ad (40, 24)), .int ssf, .int sst, .int cfr, .int grw, .int (nI nf), .ref (ad (40, 30)), .ref (ad (40, 31)), .int bkk, .ref (ad (40, 33)), .ref (ad (40, 34)), .ref (ad (40, 35)), .int iop, .ref (ad (40, 37)), .int (nI (m_im f8 f9 f10 f12 f13 sc).1)]) ∧ ∃ g, G1 (40, 37) = some (eI Z 441 g) ∧ ∀ k, k < (m_im f8 f9 f10 f12 f13 sc).1 → g k = (m_im f8 f9 f10 f12 f13 sc).2 k) := by
  refine Met.ofW (cc := cX9_images) (maxL := 2) (ret := (some .int)) (by decide) rfl ?_
  intro p e s m args below meth c s₁ B hml hv
  obtain ⟨rfl, hG, hE⟩ := hv
  have hx := B.exec
  have hb := B.bytes
  have hrt := B.returns
  have hts := atoms_spec (ws := wsX9_images) B.pre
  have hown : s.vm.findClass RX9 = some m.cls := findClass_of_methodNamed B.named
  have hlocks := B.notSynchronized
  have hS : va_S (dz_A Z) s.heap s.heap [] := va_S.rf
  have hl := lv_entry ([.ref aM, .int (nI sc)]) (n := 2) (Nat.le_of_ble_eq_true rfl)
  rw [lg_entry_eq]
  generalize (lg_sl ([.ref aM, .int (nI sc)]) ++ List.replicate (2 - (lg_sl ([.ref aM, .int (nI sc)])).length) Slot.unset).toArray = ls at hl ⊢
  have hl : lv_has ls 2 [(0, .ref aM), (1, .int (nI sc))] := hl
  have hcn := @m_im_c f8 f9 f10 f12 f13 sc
  refine lv_aload_n hx hb dX9_images_0 rfl (lv_at hl 0 rfl) ?_
  refine lv_aload_n hx hb dX9_images_1 rfl (lv_at hl 0 rfl) ?_
  refine lv_iload_n hx hb dX9_images_2 rfl (lv_at hl 1 rfl) ?_
  refine dz_kRi (va_runV (As := [_]) ⟨hx, hb, hml, hown, hts⟩ (c_X9_isSource l Z _ _ _ _ _ _ _ _ _ _ _ _ _ _ _ _ _ _ _ ha ho hns) (cwV 1 hts gX9_images_X9_isSource rfl rfl rfl (by decide +kernel) ⟨Nat.le_of_ble_eq_true rfl, Nat.le_of_ble_eq_true rfl⟩) (dz_P.preV hE hS hG ho rfl ha) rfl rfl hl.1 rfl (lv_room (Nat.le_of_ble_eq_true rfl)) dX9_images_3 ⟨Nat.le_of_ble_eq_true rfl, Nat.le_of_ble_eq_true rfl⟩) ?_
  refine lv_topi (fun v_1 ev_1 => ?_)
  obtain rfl : v_1 = 1 := ev_1.trans (dz_b1 (m_ix1 (by omega) hsc))
  refine lv_if_eq (tgt := 13) hx hb dX9_images_6 (by decide) (fun c_6 => absurd c_6 (by decide)) (fun c_6 => ?_)
  refine lv_iconst (v := 0) hx hb dX9_images_9 (by decide) ?_
  refine lv_goto (tgt := 14) hx hb dX9_images_10 (by decide) ?_
  refine dz_kMi (va_runV (As := [_]) ⟨hx, hb, hml, hown, hts⟩ (c_X9_refused l Z _ _ _ _ _ _ _ _ _ _ _ _ _ _ _ _ _ _ _ ha ho) (cwV 1 hts gX9_images_X9_refused rfl rfl rfl (by decide +kernel) ⟨Nat.le_of_ble_eq_true rfl, Nat.le_of_ble_eq_true rfl⟩) (dz_P.preV hE hS hG ho rfl ha) rfl rfl hl.1 rfl (lv_room (Nat.le_of_ble_eq_true rfl)) dX9_images_14 ⟨Nat.le_of_ble_eq_true rfl, Nat.le_of_ble_eq_true rfl⟩) hS (fun x_14_1 G_14_1 ad_14_1 H locs hp_14_1 hG hS => ?_)
  obtain ⟨fr_14_1, rfl, x9_14_1, g_14_1⟩ := hp_14_1
  obtain rfl : x_14_1 = 0 := x9_14_1.trans (by decide)
  refine lv_if_eq (tgt := 22) hx hb dX9_images_17 (by decide) (fun c_17 => ?_) (fun c_17 => absurd (by decide) c_17)
  refine lv_aload_n hx hb dX9_images_22 rfl (lv_at hl 0 rfl) ?_
  refine lv_iload_n hx hb dX9_images_23 rfl (lv_at hl 1 rfl) ?_
  refine dz_kMv (va_runV (As := [_]) ⟨hx, hb, hml, hown, hts⟩ (c_X9_look l Z _ _ _ _ _ _ _ _ _ _ _ _ _ _ _ _ _ _ _ _ _ _ _ _ sc ha g_14_1 ((fr_14_1 _ (dz_n rfl)).1.trans h8) ((fr_14_1 _ (dz_n rfl)).1.trans h9) ((fr_14_1 _ (dz_n rfl)).1.trans h10) ((fr_14_1 _ (dz_n rfl)).1.trans h12) ((fr_14_1 _ (dz_n rfl)).1.trans h13) ((fr_14_1 _ (dz_n rfl)).1.trans h37) (by omega)) (cwV 1 hts gX9_images_X9_look rfl rfl rfl (by decide +kernel) ⟨Nat.le_of_ble_eq_true rfl, Nat.le_of_ble_eq_true rfl⟩) (dz_P.preV hE hS hG g_14_1 rfl ha) rfl rfl hl.1 rfl (lv_room (Nat.le_of_ble_eq_true rfl)) dX9_images_24 ⟨Nat.le_of_ble_eq_true rfl, Nat.le_of_ble_eq_true rfl⟩) hS (fun G_24_2 ad_24_2 H locs hp_24_2 hG hS => ?_)
  obtain ⟨fr_24_2, rfl, g_24_2⟩ := hp_24_2
  obtain ⟨e1_24_2, e2_24_2⟩ := m_im_e (f8 := f8) (f9 := f9) (f10 := f10) (f12 := f12) (f13 := f13) (f := f37) (sc := sc)
  rw [e1_24_2] at g_24_2
  have hgk : ∀ k, k < (m_im f8 f9 f10 f12 f13 sc).1 → (m_la f10 (fun j => dz_b (m_pc j - f8 j = f12 sc ∧ m_pr j - f9 j = f13 sc)) (0, f37) 21).2 k = (m_im f8 f9 f10 f12 f13 sc).2 k := fun k hk => e2_24_2 k (by rw [e1_24_2]; exact hk)
  refine lv_aload_n hx hb dX9_images_27 rfl (lv_at hl 0 rfl) ?_
  refine dz_get hx hb hts (fun _ h => List.mem_cons_of_mem _ (List.mem_append_right _ h)) hown hE hG ha g_24_2.1 rfl 38 (by decide) (hts _ (List.mem_of_getElem? (i := 1) rfl)) (fun _ h9 => h9) rfl dX9_images_28 ?_
  refine W.widen (k := 0) (n := 0) (by first | omega | decide) (by first | omega | decide) ?_
  refine W.iret hx hb hrt (fun t ht hW => dz_endM (f := rv_i) _ hE hS hG ?_ ht hW) (fun q h => hS.2.2 q h) dX9_images_31
  refine ⟨fun r9 n_0 n_1 => (dz_tr (fr_24_2 r9 n_0 n_1) (fr_14_1 r9 n_0)), rfl, ?_⟩
  exact ⟨rfl, g_24_2.1, _, g_24_2.2, hgk⟩

set_option maxHeartbeats 4000000 in
set_option maxRecDepth 100000 in
theorem c_M_anew_no (l : Launch) (Z : dzG) (G : dzW) (ad : dzA) (aM nm ns nl nx nf my : Nat) (th dy td ssf sst cfr grw bkk iop : Int32) (v1 : Int32) (ha : ad (39, 0) = aM) (ho : G (39, 0) = some (eO 10 [.int th, .int dy, .int (nI nm), .ref (ad (40, 3)), .ref (ad (40, 4)), .ref (ad (40, 5)), .ref (ad (40, 6)), .int td, .ref (ad (40, 8)), .ref (ad (40, 9)), .ref (ad (40, 10)), .int (nI ns), .ref (ad (40, 12)), .ref (ad (40, 13)), .ref (ad (40, 14)), .int (nI nl), .ref (ad (40, 16)), .ref (ad (40, 17)), .ref (ad (40, 18)), .int (nI nx), .ref (ad (40, 20)), .ref (ad (40, 21)), .ref (ad (40, 22)), .ref (ad (40, 23)), .ref (ad (40, 24)), .int ssf, .int sst, .int cfr, .int grw, .int (nI nf), .ref (ad (40, 30)), .ref (ad (40, 31)), .int bkk, .ref (ad (40, 33)), .ref (ad (40, 34)), .ref (ad (40, 35)), .int iop, .ref (ad (40, 37)), .int (nI my)])) (hv : v1 < 0 ∨ nI ns ≤ v1) (hns : ns ≤ 5) : dzWr l yX9_imagesAnew wsX9_imagesAnew 3 64 0 0 Z G ad [.ref aM, .int v1] rv_i (fun (x : Int32) G1 ad1 => (∀ r9 : dzR, r9 ≠ (39, 0) → G1 r9 = G r9 ∧ ad1 r9 = ad r9) ∧ ad = ad1 ∧ x = 0 ∧ G1 (39, 0) = some (eO 10 [.int 1, .int dy, .int (nI nm), .ref (ad (40, 3)), .ref (ad (40, 4)), .ref (ad (40, 5)), .ref (ad (40, 6)), .int td, .ref (ad (40, 8)), .ref (ad (40, 9)), .ref (ad (40, 10)), .int (nI ns), .ref (ad (40, 12)), .ref (ad (40, 13)), .ref (ad (40, 14)), .int (nI nl), .ref (ad (40, 16)), .ref (ad (40, 17)), .ref (ad (40, 18)), .int (nI nx), .ref (ad (40, 20)), .ref (ad (40, 21)), .ref (ad (40, 22)), .ref (ad (40, 23)), .ref (ad (40, 24)), .int ssf, .int sst, .int cfr, .int grw, .int (nI nf), .ref (ad (40, 30)), .ref (ad (40, 31)), .int bkk, .ref (ad (40, 33)), .ref (ad (40, 34)), .ref (ad (40, 35)), .int iop, .ref (ad (40, 37)), .int (nI my)])) := by
  refine Met.ofW (cc := cX9_imagesAnew) (maxL := 2) (ret := (some .int)) (by decide) rfl ?_
  intro p e s m args below meth c s₁ B hml hv
  obtain ⟨rfl, hG, hE⟩ := hv
  have hx := B.exec
  have hb := B.bytes
  have hrt := B.returns
  have hts := atoms_spec (ws := wsX9_imagesAnew) B.pre
  have hown : s.vm.findClass RX9 = some m.cls := findClass_of_methodNamed B.named
  have hlocks := B.notSynchronized
  have hS : va_S (dz_A Z) s.heap s.heap [] := va_S.rf
  have hl := lv_entry ([.ref aM, .int v1]) (n := 2) (Nat.le_of_ble_eq_true rfl)
  rw [lg_entry_eq]
  generalize (lg_sl ([.ref aM, .int v1]) ++ List.replicate (2 - (lg_sl ([.ref aM, .int v1])).length) Slot.unset).toArray = ls at hl ⊢
  have hl : lv_has ls 2 [(0, .ref aM), (1, .int v1)] := hl
  refine lv_aload_n hx hb dX9_imagesAnew_0 rfl (lv_at hl 0 rfl) ?_
  refine lv_iload_n hx hb dX9_imagesAnew_1 rfl (lv_at hl 1 rfl) ?_
  refine dz_kMi (va_runV (As := [_]) ⟨hx, hb, hml, hown, hts⟩ (c_M_images_no l Z _ _ _ _ _ _ _ _ _ _ _ _ _ _ _ _ _ _ _ ha ho hv hns) (cwV 1 hts gX9_imagesAnew_X9_images rfl rfl rfl (by decide +kernel) ⟨Nat.le_of_ble_eq_true rfl, Nat.le_of_ble_eq_true rfl⟩) (dz_P.preV hE hS hG ho rfl ha) rfl rfl hl.1 rfl (lv_room (Nat.le_of_ble_eq_true rfl)) dX9_imagesAnew_2 ⟨Nat.le_of_ble_eq_true rfl, Nat.le_of_ble_eq_true rfl⟩) hS (fun x_2_1 G_2_1 ad_2_1 H locs hp_2_1 hG hS => ?_)
  obtain ⟨fr_2_1, rfl, g_2_1⟩ := hp_2_1
  obtain rfl : x_2_1 = 0 := g_2_1.1
  refine W.widen (k := 0) (n := 0) (by first | omega | decide) (by first | omega | decide) ?_
  refine W.iret hx hb hrt (fun t ht hW => dz_endM (f := rv_i) _ hE hS hG ?_ ht hW) (fun q h => hS.2.2 q h) dX9_imagesAnew_5
  refine ⟨fun r9 n_0 => (fr_2_1 r9 n_0), rfl, ?_⟩
  exact ⟨rfl, g_2_1.2⟩

set_option maxHeartbeats 4000000 in
set_option maxRecDepth 100000 in
theorem c_M_anew_ok (l : Launch) (Z : dzG) (G : dzW) (ad : dzA) (aM nm ns nl nx nf my : Nat) (th dy td ssf sst cfr grw bkk iop : Int32) (f8 f9 f10 f12 f13 f37 : Nat → Int32) (sc : Nat) (ha : ad (39, 0) = aM) (ho : G (39, 0) = some (eO 10 [.int th, .int dy, .int (nI nm), .ref (ad (40, 3)), .ref (ad (40, 4)), .ref (ad (40, 5)), .ref (ad (40, 6)), .int td, .ref (ad (40, 8)), .ref (ad (40, 9)), .ref (ad (40, 10)), .int (nI ns), .ref (ad (40, 12)), .ref (ad (40, 13)), .ref (ad (40, 14)), .int (nI nl), .ref (ad (40, 16)), .ref (ad (40, 17)), .ref (ad (40, 18)), .int (nI nx), .ref (ad (40, 20)), .ref (ad (40, 21)), .ref (ad (40, 22)), .ref (ad (40, 23)), .ref (ad (40, 24)), .int ssf, .int sst, .int cfr, .int grw, .int (nI nf), .ref (ad (40, 30)), .ref (ad (40, 31)), .int bkk, .ref (ad (40, 33)), .ref (ad (40, 34)), .ref (ad (40, 35)), .int iop, .ref (ad (40, 37)), .int (nI my)])) (h8 : G (40, 8) = some (eI Z 484 f8)) (h9 : G (40, 9) = some (eI Z 484 f9)) (h10 : G (40, 10) = some (eI Z 484 f10)) (h12 : G (40, 12) = some (eI Z 5 f12)) (h13 : G (40, 13) = some (eI Z 5 f13)) (h37 : G (40, 37) = some (eI Z 441 f37)) (hsc : sc < ns) (hns : ns ≤ 5) : dzWr l yX9_imagesAnew wsX9_imagesAnew 3 68 0 0 Z G ad [.ref aM, .int (nI sc)] rv_i (fun (x : Int32) G1 ad1 => (∀ r9 : dzR, r9 ≠ (39, 0) → r9 ≠ (40, 37) → G1 r9 = G r9 ∧ ad1 r9 = ad r9) ∧ ad = ad1 ∧ x = nI (m_im f8 f9 f10 f12 f13 sc).1 ∧ G1 (39, 0) = some (eO 10 [.int 0, .int dy, .int (nI nm), .ref (ad (40, 3)), .ref (ad (40, 4)), .ref (ad (40, 5)), .ref (ad (40, 6)), .int td, .ref (ad (40, 8)), .ref (ad (40, 9)), .ref (ad (40, 10)), .int (nI ns), .ref (ad (40, 12)), .ref (ad (40, 13)), .ref (ad (40, 14)), .int (nI nl), .ref (ad (40, 16)), .ref (ad (40, 17)), .ref (ad (40, 18)), .int (nI nx), .ref (ad (40, 20)), .ref (ad (40, 21)), .ref (ad (40, 22)), .ref (ad (40, 23)), .ref (ad (40, 24)), .int ssf, .int sst, .int cfr, .int grw, .int (nI nf), .ref (ad (40, 30)), .ref (ad (40, 31)), .int bkk, .ref (ad (40, 33)), .ref (ad (40, 34)), .ref (ad (40, 35)), .int iop, .ref (ad (40, 37)), .int (nI (m_im f8 f9 f10 f12 f13 sc).1)]) ∧ ∃ g, G1 (40, 37) = some (eI Z 441 g) ∧ ∀ k, k < (m_im f8 f9 f10 f12 f13 sc).1 → g k = (m_im f8 f9 f10 f12 f13 sc).2 k) := by
  refine Met.ofW (cc := cX9_imagesAnew) (maxL := 2) (ret := (some .int)) (by decide) rfl ?_
  intro p e s m args below meth c s₁ B hml hv
  obtain ⟨rfl, hG, hE⟩ := hv
  have hx := B.exec
  have hb := B.bytes
  have hrt := B.returns
  have hts := atoms_spec (ws := wsX9_imagesAnew) B.pre
  have hown : s.vm.findClass RX9 = some m.cls := findClass_of_methodNamed B.named
  have hlocks := B.notSynchronized
  have hS : va_S (dz_A Z) s.heap s.heap [] := va_S.rf
  have hl := lv_entry ([.ref aM, .int (nI sc)]) (n := 2) (Nat.le_of_ble_eq_true rfl)
  rw [lg_entry_eq]
  generalize (lg_sl ([.ref aM, .int (nI sc)]) ++ List.replicate (2 - (lg_sl ([.ref aM, .int (nI sc)])).length) Slot.unset).toArray = ls at hl ⊢
  have hl : lv_has ls 2 [(0, .ref aM), (1, .int (nI sc))] := hl
  refine lv_aload_n hx hb dX9_imagesAnew_0 rfl (lv_at hl 0 rfl) ?_
  refine lv_iload_n hx hb dX9_imagesAnew_1 rfl (lv_at hl 1 rfl) ?_
  refine dz_kMi (va_runV (As := [_]) ⟨hx, hb, hml, hown, hts⟩ (c_M_images_ok l Z _ _ _ _ _ _ _ _ _ _ _ _ _ _ _ _ _ _ _ _ _ _ _ _ sc ha ho h8 h9 h10 h12 h13 h37 hsc hns) (cwV 1 hts gX9_imagesAnew_X9_images rfl rfl rfl (by decide +kernel) ⟨Nat.le_of_ble_eq_true rfl, Nat.le_of_ble_eq_true rfl⟩) (dz_P.preV hE hS hG ho rfl ha) rfl rfl hl.1 rfl (lv_room (Nat.le_of_ble_eq_true rfl)) dX9_imagesAnew_2 ⟨Nat.le_of_ble_eq_true rfl, Nat.le_of_ble_eq_true rfl⟩) hS (fun x_2_1 G_2_1 ad_2_1 H locs hp_2_1 hG hS => ?_)
  obtain ⟨fr_2_1, rfl, g_2_1⟩ := hp_2_1
  obtain ⟨xe_2_1, o_2_1, gf_2_1, gh_2_1, hgk⟩ := g_2_1
  obtain rfl : x_2_1 = nI (m_im f8 f9 f10 f12 f13 sc).1 := xe_2_1
  refine W.widen (k := 0) (n := 0) (by first | omega | decide) (by first | omega | decide) ?_
  refine W.iret hx hb hrt (fun t ht hW => dz_endM (f := rv_i) _ hE hS hG ?_ ht hW) (fun q h => hS.2.2 q h) dX9_imagesAnew_5
  refine ⟨fun r9 n_0 n_1 => (fr_2_1 r9 n_0 n_1), rfl, ?_⟩
  exact ⟨rfl, o_2_1, _, gh_2_1, hgk⟩

set_option maxHeartbeats 4000000 in
set_option maxRecDepth 100000 in
theorem c_M_imageOf_no (l : Launch) (Z : dzG) (G : dzW) (ad : dzA) (aM nm ns nl nx nf my : Nat) (th dy td ssf sst cfr grw bkk iop : Int32) (v1 v2 v3 : Int32) (ha : ad (39, 0) = aM) (ho : G (39, 0) = some (eO 10 [.int th, .int dy, .int (nI nm), .ref (ad (40, 3)), .ref (ad (40, 4)), .ref (ad (40, 5)), .ref (ad (40, 6)), .int td, .ref (ad (40, 8)), .ref (ad (40, 9)), .ref (ad (40, 10)), .int (nI ns), .ref (ad (40, 12)), .ref (ad (40, 13)), .ref (ad (40, 14)), .int (nI nl), .ref (ad (40, 16)), .ref (ad (40, 17)), .ref (ad (40, 18)), .int (nI nx), .ref (ad (40, 20)), .ref (ad (40, 21)), .ref (ad (40, 22)), .ref (ad (40, 23)), .ref (ad (40, 24)), .int ssf, .int sst, .int cfr, .int grw, .int (nI nf), .ref (ad (40, 30)), .ref (ad (40, 31)), .int bkk, .ref (ad (40, 33)), .ref (ad (40, 34)), .ref (ad (40, 35)), .int iop, .ref (ad (40, 37)), .int (nI my)])) (hv : v1 < 0 ∨ nI ns ≤ v1) (hns : ns ≤ 5) : dzWr l yX9_imageOf wsX9_imageOf 3 65 0 0 Z G ad [.ref aM, .int v1, .int v2, .int v3] rv_i (fun (x : Int32) G1 ad1 => (∀ r9 : dzR, r9 ≠ (39, 0) → G1 r9 = G r9 ∧ ad1 r9 = ad r9) ∧ ad = ad1 ∧ x = 0 ∧ G1 (39, 0) = some (eO 10 [.int 1, .int dy, .int (nI nm), .ref (ad (40, 3)), .ref (ad (40, 4)), .ref (ad (40, 5)), .ref (ad (40, 6)), .int td, .ref (ad (40, 8)), .ref (ad (40, 9)), .ref (ad (40, 10)), .int (nI ns), .ref (ad (40, 12)), .ref (ad (40, 13)), .ref (ad (40, 14)), .int (nI nl), .ref (ad (40, 16)), .ref (ad (40, 17)), .ref (ad (40, 18)), .int (nI nx), .ref (ad (40, 20)), .ref (ad (40, 21)), .ref (ad (40, 22)), .ref (ad (40, 23)), .ref (ad (40, 24)), .int ssf, .int sst, .int cfr, .int grw, .int (nI nf), .ref (ad (40, 30)), .ref (ad (40, 31)), .int bkk, .ref (ad (40, 33)), .ref (ad (40, 34)), .ref (ad (40, 35)), .int iop, .ref (ad (40, 37)), .int (nI my)])) := by
  refine Met.ofW (cc := cX9_imageOf) (maxL := 6) (ret := (some .int)) (by decide) rfl ?_
  intro p e s m args below meth c s₁ B hml hv
  obtain ⟨rfl, hG, hE⟩ := hv
  have hx := B.exec
  have hb := B.bytes
  have hrt := B.returns
  have hts := atoms_spec (ws := wsX9_imageOf) B.pre
  have hown : s.vm.findClass RX9 = some m.cls := findClass_of_methodNamed B.named
  have hlocks := B.notSynchronized
  have hS : va_S (dz_A Z) s.heap s.heap [] := va_S.rf
  have hl := lv_entry ([.ref aM, .int v1, .int v2, .int v3]) (n := 6) (Nat.le_of_ble_eq_true rfl)
  rw [lg_entry_eq]
  generalize (lg_sl ([.ref aM, .int v1, .int v2, .int v3]) ++ List.replicate (6 - (lg_sl ([.ref aM, .int v1, .int v2, .int v3])).length) Slot.unset).toArray = ls at hl ⊢
  have hl : lv_has ls 6 [(0, .ref aM), (1, .int v1), (2, .int v2), (3, .int v3)] := hl
  refine lv_aload_n hx hb dX9_imageOf_0 rfl (lv_at hl 0 rfl) ?_
  refine lv_iload_n hx hb dX9_imageOf_1 rfl (lv_at hl 1 rfl) ?_
  refine lv_iload_n hx hb dX9_imageOf_2 rfl (lv_at hl 2 rfl) ?_
  refine dz_kRi (va_runV (As := [_, _]) ⟨hx, hb, hml, hown, hts⟩ (c_isImageN l Z _ _ _ _ _ _ _ _ _ _ _ _ _ _ _ _ _ _ _ _ ha ho hv hns) (cwV 2 hts gX9_imageOf_X9_isImage rfl rfl rfl (by decide +kernel) ⟨Nat.le_of_ble_eq_true rfl, Nat.le_of_ble_eq_true rfl⟩) (dz_P.preV hE hS hG ho rfl ha) rfl rfl hl.1 rfl (lv_room (Nat.le_of_ble_eq_true rfl)) dX9_imageOf_3 ⟨Nat.le_of_ble_eq_true rfl, Nat.le_of_ble_eq_true rfl⟩) ?_
  refine lv_topi (fun v_1 ev_1 => ?_)
  obtain rfl : v_1 = 0 := ev_1
  refine lv_istore (lv' := [(4, .int 0), (0, .ref aM), (1, .int v1), (2, .int v2), (3, .int v3)]) hx hb dX9_imageOf_6 hl (by decide) rfl (fun ls hl => ?_)
  refine lv_aload_n hx hb dX9_imageOf_8 rfl (lv_at hl 1 rfl) ?_
  refine lv_iload hx hb dX9_imageOf_9 (lv_at hl 0 rfl) ?_
  refine lv_if_ne (tgt := 18) hx hb dX9_imageOf_11 (by decide) (fun c_11 => absurd (by decide) c_11) (fun c_11 => ?_)
  refine lv_iconst (v := 1) hx hb dX9_imageOf_14 (by decide) ?_
  refine lv_goto (tgt := 32) hx hb dX9_imageOf_15 (by decide) ?_
  refine dz_kMi (va_runV (As := [_]) ⟨hx, hb, hml, hown, hts⟩ (c_X9_refused l Z _ _ _ _ _ _ _ _ _ _ _ _ _ _ _ _ _ _ _ ha ho) (cwV 1 hts gX9_imageOf_X9_refused rfl rfl rfl (by decide +kernel) ⟨Nat.le_of_ble_eq_true rfl, Nat.le_of_ble_eq_true rfl⟩) (dz_P.preV hE hS hG ho rfl ha) rfl rfl hl.1 rfl (lv_room (Nat.le_of_ble_eq_true rfl)) dX9_imageOf_32 ⟨Nat.le_of_ble_eq_true rfl, Nat.le_of_ble_eq_true rfl⟩) hS (fun x_32_1 G_32_1 ad_32_1 H locs hp_32_1 hG hS => ?_)
  obtain ⟨fr_32_1, rfl, x9_32_1, g_32_1⟩ := hp_32_1
  obtain rfl : x_32_1 = 1 := x9_32_1.trans (by decide)
  refine lv_if_eq (tgt := 40) hx hb dX9_imageOf_35 (by decide) (fun c_35 => absurd c_35 (by decide)) (fun c_35 => ?_)
  refine lv_iconst (v := 0) hx hb dX9_imageOf_38 (by decide) ?_
  refine W.widen (k := 0) (n := 0) (by first | omega | decide) (by first | omega | decide) ?_
  refine W.iret hx hb hrt (fun t ht hW => dz_endM (f := rv_i) _ hE hS hG ?_ ht hW) (fun q h => hS.2.2 q h) dX9_imageOf_39
  refine ⟨fun r9 n_0 => (fr_32_1 r9 n_0), rfl, ?_⟩
  exact ⟨rfl, g_32_1⟩

set_option maxHeartbeats 4000000 in
set_option maxRecDepth 100000 in
theorem c_M_imageOf_out (l : Launch) (Z : dzG) (G : dzW) (ad : dzA) (aM nm ns nl nx nf my : Nat) (th dy td ssf sst cfr grw bkk iop : Int32) (f8 f9 f10 f12 f13 f37 : Nat → Int32) (sc : Nat) (v2 v3 : Int32) (ha : ad (39, 0) = aM) (ho : G (39, 0) = some (eO 10 [.int th, .int dy, .int (nI nm), .ref (ad (40, 3)), .ref (ad (40, 4)), .ref (ad (40, 5)), .ref (ad (40, 6)), .int td, .ref (ad (40, 8)), .ref (ad (40, 9)), .ref (ad (40, 10)), .int (nI ns), .ref (ad (40, 12)), .ref (ad (40, 13)), .ref (ad (40, 14)), .int (nI nl), .ref (ad (40, 16)), .ref (ad (40, 17)), .ref (ad (40, 18)), .int (nI nx), .ref (ad (40, 20)), .ref (ad (40, 21)), .ref (ad (40, 22)), .ref (ad (40, 23)), .ref (ad (40, 24)), .int ssf, .int sst, .int cfr, .int grw, .int (nI nf), .ref (ad (40, 30)), .ref (ad (40, 31)), .int bkk, .ref (ad (40, 33)), .ref (ad (40, 34)), .ref (ad (40, 35)), .int iop, .ref (ad (40, 37)), .int (nI my)])) (h8 : G (40, 8) = some (eI Z 484 f8)) (h9 : G (40, 9) = some (eI Z 484 f9)) (h10 : G (40, 10) = some (eI Z 484 f10)) (h12 : G (40, 12) = some (eI Z 5 f12)) (h13 : G (40, 13) = some (eI Z 5 f13)) (h37 : G (40, 37) = some (eI Z 441 f37)) (hsc : sc < ns) (hns : ns ≤ 5) (hro : v2 < 0 ∨ nI (m_im f8 f9 f10 f12 f13 sc).1 ≤ v2) : dzWr l yX9_imageOf wsX9_imageOf 3 69 0 0 Z G ad [.ref aM, .int (nI sc), .int v2, .int v3] rv_i (fun (x : Int32) G1 ad1 => (∀ r9 : dzR, r9 ≠ (39, 0) → r9 ≠ (40, 37) → G1 r9 = G r9 ∧ ad1 r9 = ad r9) ∧ ad = ad1 ∧ x = 0 ∧ G1 (39, 0) = some (eO 10 [.int 1, .int dy, .int (nI nm), .ref (ad (40, 3)), .ref (ad (40, 4)), .ref (ad (40, 5)), .ref (ad (40, 6)), .int td, .ref (ad (40, 8)), .ref (ad (40, 9)), .ref (ad (40, 10)), .int (nI ns), .ref (ad (40, 12)), .ref (ad (40, 13)), .ref (ad (40, 14)), .int (nI nl), .ref (ad (40, 16)), .ref (ad (40, 17)), .ref (ad (40, 18)), .int (nI nx), .ref (ad (40, 20)), .ref (ad (40, 21)), .ref (ad (40, 22)), .ref (ad (40, 23)), .ref (ad (40, 24)), .int ssf, .int sst, .int cfr, .int grw, .int (nI nf), .ref (ad (40, 30)), .ref (ad (40, 31)), .int bkk, .ref (ad (40, 33)), .ref (ad (40, 34)), .ref (ad (40, 35)), .int iop, .ref (ad (40, 37)), .int (nI (m_im f8 f9 f10 f12 f13 sc).1)]) ∧ ∃ g, G1 (40, 37) = some (eI Z 441 g) ∧ ∀ k, k < (m_im f8 f9 f10 f12 f13 sc).1 → g k = (m_im f8 f9 f10 f12 f13 sc).2 k) := by
  refine Met.ofW (cc := cX9_imageOf) (maxL := 6) (ret := (some .int)) (by decide) rfl ?_
  intro p e s m args below meth c s₁ B hml hv
  obtain ⟨rfl, hG, hE⟩ := hv
  have hx := B.exec
  have hb := B.bytes
  have hrt := B.returns
  have hts := atoms_spec (ws := wsX9_imageOf) B.pre
  have hown : s.vm.findClass RX9 = some m.cls := findClass_of_methodNamed B.named
  have hlocks := B.notSynchronized
  have hS : va_S (dz_A Z) s.heap s.heap [] := va_S.rf
  have hl := lv_entry ([.ref aM, .int (nI sc), .int v2, .int v3]) (n := 6) (Nat.le_of_ble_eq_true rfl)
  rw [lg_entry_eq]
  generalize (lg_sl ([.ref aM, .int (nI sc), .int v2, .int v3]) ++ List.replicate (6 - (lg_sl ([.ref aM, .int (nI sc), .int v2, .int v3])).length) Slot.unset).toArray = ls at hl ⊢
  have hl : lv_has ls 6 [(0, .ref aM), (1, .int (nI sc)), (2, .int v2), (3, .int v3)] := hl
  have hcn := @m_im_c f8 f9 f10 f12 f13 sc
  refine lv_aload_n hx hb dX9_imageOf_0 rfl (lv_at hl 0 rfl) ?_
  refine lv_iload_n hx hb dX9_imageOf_1 rfl (lv_at hl 1 rfl) ?_
  refine lv_iload_n hx hb dX9_imageOf_2 rfl (lv_at hl 2 rfl) ?_
  refine dz_kMi (va_runV (As := [_, _]) ⟨hx, hb, hml, hown, hts⟩ (c_isImageY l Z _ _ _ _ _ _ _ _ _ _ _ _ _ _ _ _ _ _ _ _ _ _ _ _ sc _ ha ho h8 h9 h10 h12 h13 h37 hsc hns) (cwV 2 hts gX9_imageOf_X9_isImage rfl rfl rfl (by decide +kernel) ⟨Nat.le_of_ble_eq_true rfl, Nat.le_of_ble_eq_true rfl⟩) (dz_P.preV hE hS hG ho rfl ha) rfl rfl hl.1 rfl (lv_room (Nat.le_of_ble_eq_true rfl)) dX9_imageOf_3 ⟨Nat.le_of_ble_eq_true rfl, Nat.le_of_ble_eq_true rfl⟩) hS (fun x_3_1 G_3_1 ad_3_1 H locs hp_3_1 hG hS => ?_)
  obtain ⟨fr_3_1, rfl, x9_3_1, o_3_1, g_3_1⟩ := hp_3_1
  obtain rfl : x_3_1 = 0 := x9_3_1.trans (dz_b0 (m_ix0 (by omega) hro))
  obtain ⟨gf_3_1, gh_3_1, hgk⟩ := g_3_1
  refine lv_istore (lv' := [(4, .int 0), (0, .ref aM), (1, .int (nI sc)), (2, .int v2), (3, .int v3)]) hx hb dX9_imageOf_6 hl (by decide) rfl (fun ls hl => ?_)
  refine lv_aload_n hx hb dX9_imageOf_8 rfl (lv_at hl 1 rfl) ?_
  refine lv_iload hx hb dX9_imageOf_9 (lv_at hl 0 rfl) ?_
  refine lv_if_ne (tgt := 18) hx hb dX9_imageOf_11 (by decide) (fun c_11 => absurd (by decide) c_11) (fun c_11 => ?_)
  refine lv_iconst (v := 1) hx hb dX9_imageOf_14 (by decide) ?_
  refine lv_goto (tgt := 32) hx hb dX9_imageOf_15 (by decide) ?_
  refine dz_kMi (va_runV (As := [_]) ⟨hx, hb, hml, hown, hts⟩ (c_X9_refused l Z _ _ _ _ _ _ _ _ _ _ _ _ _ _ _ _ _ _ _ ha o_3_1) (cwV 1 hts gX9_imageOf_X9_refused rfl rfl rfl (by decide +kernel) ⟨Nat.le_of_ble_eq_true rfl, Nat.le_of_ble_eq_true rfl⟩) (dz_P.preV hE hS hG o_3_1 rfl ha) rfl rfl hl.1 rfl (lv_room (Nat.le_of_ble_eq_true rfl)) dX9_imageOf_32 ⟨Nat.le_of_ble_eq_true rfl, Nat.le_of_ble_eq_true rfl⟩) hS (fun x_32_2 G_32_2 ad_32_2 H locs hp_32_2 hG hS => ?_)
  obtain ⟨fr_32_2, rfl, x9_32_2, g_32_2⟩ := hp_32_2
  obtain rfl : x_32_2 = 1 := x9_32_2.trans (by decide)
  refine lv_if_eq (tgt := 40) hx hb dX9_imageOf_35 (by decide) (fun c_35 => absurd c_35 (by decide)) (fun c_35 => ?_)
  refine lv_iconst (v := 0) hx hb dX9_imageOf_38 (by decide) ?_
  refine W.widen (k := 0) (n := 0) (by first | omega | decide) (by first | omega | decide) ?_
  refine W.iret hx hb hrt (fun t ht hW => dz_endM (f := rv_i) _ hE hS hG ?_ ht hW) (fun q h => hS.2.2 q h) dX9_imageOf_39
  refine ⟨fun r9 n_0 n_1 => (dz_tr (fr_32_2 r9 n_0) (fr_3_1 r9 n_0 n_1)), rfl, ?_⟩
  exact ⟨rfl, g_32_2, _, ((fr_32_2 _ (dz_n rfl)).1.trans gh_3_1), hgk⟩

set_option maxHeartbeats 4000000 in
set_option maxRecDepth 100000 in
theorem c_M_imageOf_bad (l : Launch) (Z : dzG) (G : dzW) (ad : dzA) (aM nm ns nl nx nf my : Nat) (th dy td ssf sst cfr grw bkk iop : Int32) (f8 f9 f10 f12 f13 f37 : Nat → Int32) (sc rk : Nat) (v3 : Int32) (ha : ad (39, 0) = aM) (ho : G (39, 0) = some (eO 10 [.int th, .int dy, .int (nI nm), .ref (ad (40, 3)), .ref (ad (40, 4)), .ref (ad (40, 5)), .ref (ad (40, 6)), .int td, .ref (ad (40, 8)), .ref (ad (40, 9)), .ref (ad (40, 10)), .int (nI ns), .ref (ad (40, 12)), .ref (ad (40, 13)), .ref (ad (40, 14)), .int (nI nl), .ref (ad (40, 16)), .ref (ad (40, 17)), .ref (ad (40, 18)), .int (nI nx), .ref (ad (40, 20)), .ref (ad (40, 21)), .ref (ad (40, 22)), .ref (ad (40, 23)), .ref (ad (40, 24)), .int ssf, .int sst, .int cfr, .int grw, .int (nI nf), .ref (ad (40, 30)), .ref (ad (40, 31)), .int bkk, .ref (ad (40, 33)), .ref (ad (40, 34)), .ref (ad (40, 35)), .int iop, .ref (ad (40, 37)), .int (nI my)])) (h8 : G (40, 8) = some (eI Z 484 f8)) (h9 : G (40, 9) = some (eI Z 484 f9)) (h10 : G (40, 10) = some (eI Z 484 f10)) (h12 : G (40, 12) = some (eI Z 5 f12)) (h13 : G (40, 13) = some (eI Z 5 f13)) (h37 : G (40, 37) = some (eI Z 441 f37)) (hsc : sc < ns) (hns : ns ≤ 5) (hrk : rk < (m_im f8 f9 f10 f12 f13 sc).1) (hbad : ¬ ((0 : Int32) ≤ v3 ∧ v3 ≤ 4)) : dzWr l yX9_imageOf wsX9_imageOf 3 69 0 0 Z G ad [.ref aM, .int (nI sc), .int (nI rk), .int v3] rv_i (fun (x : Int32) G1 ad1 => (∀ r9 : dzR, r9 ≠ (39, 0) → r9 ≠ (40, 37) → G1 r9 = G r9 ∧ ad1 r9 = ad r9) ∧ ad = ad1 ∧ x = 0 ∧ G1 (39, 0) = some (eO 10 [.int 2, .int dy, .int (nI nm), .ref (ad (40, 3)), .ref (ad (40, 4)), .ref (ad (40, 5)), .ref (ad (40, 6)), .int td, .ref (ad (40, 8)), .ref (ad (40, 9)), .ref (ad (40, 10)), .int (nI ns), .ref (ad (40, 12)), .ref (ad (40, 13)), .ref (ad (40, 14)), .int (nI nl), .ref (ad (40, 16)), .ref (ad (40, 17)), .ref (ad (40, 18)), .int (nI nx), .ref (ad (40, 20)), .ref (ad (40, 21)), .ref (ad (40, 22)), .ref (ad (40, 23)), .ref (ad (40, 24)), .int ssf, .int sst, .int cfr, .int grw, .int (nI nf), .ref (ad (40, 30)), .ref (ad (40, 31)), .int bkk, .ref (ad (40, 33)), .ref (ad (40, 34)), .ref (ad (40, 35)), .int iop, .ref (ad (40, 37)), .int (nI (m_im f8 f9 f10 f12 f13 sc).1)]) ∧ ∃ g, G1 (40, 37) = some (eI Z 441 g) ∧ ∀ k, k < (m_im f8 f9 f10 f12 f13 sc).1 → g k = (m_im f8 f9 f10 f12 f13 sc).2 k) := by
  refine Met.ofW (cc := cX9_imageOf) (maxL := 6) (ret := (some .int)) (by decide) rfl ?_
  intro p e s m args below meth c s₁ B hml hv
  obtain ⟨rfl, hG, hE⟩ := hv
  have hx := B.exec
  have hb := B.bytes
  have hrt := B.returns
  have hts := atoms_spec (ws := wsX9_imageOf) B.pre
  have hown : s.vm.findClass RX9 = some m.cls := findClass_of_methodNamed B.named
  have hlocks := B.notSynchronized
  have hS : va_S (dz_A Z) s.heap s.heap [] := va_S.rf
  have hl := lv_entry ([.ref aM, .int (nI sc), .int (nI rk), .int v3]) (n := 6) (Nat.le_of_ble_eq_true rfl)
  rw [lg_entry_eq]
  generalize (lg_sl ([.ref aM, .int (nI sc), .int (nI rk), .int v3]) ++ List.replicate (6 - (lg_sl ([.ref aM, .int (nI sc), .int (nI rk), .int v3])).length) Slot.unset).toArray = ls at hl ⊢
  have hl : lv_has ls 6 [(0, .ref aM), (1, .int (nI sc)), (2, .int (nI rk)), (3, .int v3)] := hl
  have hcn := @m_im_c f8 f9 f10 f12 f13 sc
  refine lv_aload_n hx hb dX9_imageOf_0 rfl (lv_at hl 0 rfl) ?_
  refine lv_iload_n hx hb dX9_imageOf_1 rfl (lv_at hl 1 rfl) ?_
  refine lv_iload_n hx hb dX9_imageOf_2 rfl (lv_at hl 2 rfl) ?_
  refine dz_kMi (va_runV (As := [_, _]) ⟨hx, hb, hml, hown, hts⟩ (c_isImageY l Z _ _ _ _ _ _ _ _ _ _ _ _ _ _ _ _ _ _ _ _ _ _ _ _ sc _ ha ho h8 h9 h10 h12 h13 h37 hsc hns) (cwV 2 hts gX9_imageOf_X9_isImage rfl rfl rfl (by decide +kernel) ⟨Nat.le_of_ble_eq_true rfl, Nat.le_of_ble_eq_true rfl⟩) (dz_P.preV hE hS hG ho rfl ha) rfl rfl hl.1 rfl (lv_room (Nat.le_of_ble_eq_true rfl)) dX9_imageOf_3 ⟨Nat.le_of_ble_eq_true rfl, Nat.le_of_ble_eq_true rfl⟩) hS (fun x_3_1 G_3_1 ad_3_1 H locs hp_3_1 hG hS => ?_)
  obtain ⟨fr_3_1, rfl, x9_3_1, o_3_1, g_3_1⟩ := hp_3_1
  obtain rfl : x_3_1 = 1 := x9_3_1.trans (dz_b1 (m_ix1 (by omega) hrk))
  obtain ⟨gf_3_1, gh_3_1, hgk⟩ := g_3_1
  refine lv_istore (lv' := [(4, .int 1), (0, .ref aM), (1, .int (nI sc)), (2, .int (nI rk)), (3, .int v3)]) hx hb dX9_imageOf_6 hl (by decide) rfl (fun ls hl => ?_)
  refine lv_aload_n hx hb dX9_imageOf_8 rfl (lv_at hl 1 rfl) ?_
  refine lv_iload hx hb dX9_imageOf_9 (lv_at hl 0 rfl) ?_
  refine lv_if_ne (tgt := 18) hx hb dX9_imageOf_11 (by decide) (fun c_11 => ?_) (fun c_11 => absurd c_11 (by decide))
  refine lv_iload_n hx hb dX9_imageOf_18 rfl (lv_at hl 4 rfl) ?_
  refine lv_iconst (v := 0) hx hb dX9_imageOf_19 (by decide) ?_
  refine lv_iconst (v := 4) hx hb dX9_imageOf_20 (by decide) ?_
  refine dz_kRi (va_runS (As := [_, _, _]) ⟨hx, hb, hml, hown, hts⟩ (c_X9_in l Z _ _ _ _ _ ) (va_cwS 3 hts gX9_imageOf_X9_in rfl rfl rfl (by decide +kernel) ⟨Nat.le_of_ble_eq_true rfl, Nat.le_of_ble_eq_true rfl⟩) (dz_P.pre hE hS hG) rfl rfl hl.1 rfl (lv_room (Nat.le_of_ble_eq_true rfl)) dX9_imageOf_21 ⟨Nat.le_of_ble_eq_true rfl, Nat.le_of_ble_eq_true rfl⟩) ?_
  refine lv_topi (fun v_1 ev_1 => ?_)
  obtain rfl : v_1 = 0 := ev_1.trans (dz_b0 hbad)
  refine lv_if_ne (tgt := 31) hx hb dX9_imageOf_24 (by decide) (fun c_24 => absurd (by decide) c_24) (fun c_24 => ?_)
  refine lv_iconst (v := 2) hx hb dX9_imageOf_27 (by decide) ?_
  refine lv_goto (tgt := 32) hx hb dX9_imageOf_28 (by decide) ?_
  refine dz_kMi (va_runV (As := [_]) ⟨hx, hb, hml, hown, hts⟩ (c_X9_refused l Z _ _ _ _ _ _ _ _ _ _ _ _ _ _ _ _ _ _ _ ha o_3_1) (cwV 1 hts gX9_imageOf_X9_refused rfl rfl rfl (by decide +kernel) ⟨Nat.le_of_ble_eq_true rfl, Nat.le_of_ble_eq_true rfl⟩) (dz_P.preV hE hS hG o_3_1 rfl ha) rfl rfl hl.1 rfl (lv_room (Nat.le_of_ble_eq_true rfl)) dX9_imageOf_32 ⟨Nat.le_of_ble_eq_true rfl, Nat.le_of_ble_eq_true rfl⟩) hS (fun x_32_2 G_32_2 ad_32_2 H locs hp_32_2 hG hS => ?_)
  obtain ⟨fr_32_2, rfl, x9_32_2, g_32_2⟩ := hp_32_2
  obtain rfl : x_32_2 = 1 := x9_32_2.trans (by decide)
  refine lv_if_eq (tgt := 40) hx hb dX9_imageOf_35 (by decide) (fun c_35 => absurd c_35 (by decide)) (fun c_35 => ?_)
  refine lv_iconst (v := 0) hx hb dX9_imageOf_38 (by decide) ?_
  refine W.widen (k := 0) (n := 0) (by first | omega | decide) (by first | omega | decide) ?_
  refine W.iret hx hb hrt (fun t ht hW => dz_endM (f := rv_i) _ hE hS hG ?_ ht hW) (fun q h => hS.2.2 q h) dX9_imageOf_39
  refine ⟨fun r9 n_0 n_1 => (dz_tr (fr_32_2 r9 n_0) (fr_3_1 r9 n_0 n_1)), rfl, ?_⟩
  exact ⟨rfl, g_32_2, _, ((fr_32_2 _ (dz_n rfl)).1.trans gh_3_1), hgk⟩

set_option maxHeartbeats 4000000 in
set_option maxRecDepth 100000 in
theorem c_M_imageOf_0 (l : Launch) (Z : dzG) (G : dzW) (ad : dzA) (aM nm ns nl nx nf my : Nat) (th dy td ssf sst cfr grw bkk iop : Int32) (f8 f9 f10 f12 f13 f37 : Nat → Int32) (sc rk j : Nat) (ha : ad (39, 0) = aM) (ho : G (39, 0) = some (eO 10 [.int th, .int dy, .int (nI nm), .ref (ad (40, 3)), .ref (ad (40, 4)), .ref (ad (40, 5)), .ref (ad (40, 6)), .int td, .ref (ad (40, 8)), .ref (ad (40, 9)), .ref (ad (40, 10)), .int (nI ns), .ref (ad (40, 12)), .ref (ad (40, 13)), .ref (ad (40, 14)), .int (nI nl), .ref (ad (40, 16)), .ref (ad (40, 17)), .ref (ad (40, 18)), .int (nI nx), .ref (ad (40, 20)), .ref (ad (40, 21)), .ref (ad (40, 22)), .ref (ad (40, 23)), .ref (ad (40, 24)), .int ssf, .int sst, .int cfr, .int grw, .int (nI nf), .ref (ad (40, 30)), .ref (ad (40, 31)), .int bkk, .ref (ad (40, 33)), .ref (ad (40, 34)), .ref (ad (40, 35)), .int iop, .ref (ad (40, 37)), .int (nI my)])) (h8 : G (40, 8) = some (eI Z 484 f8)) (h9 : G (40, 9) = some (eI Z 484 f9)) (h10 : G (40, 10) = some (eI Z 484 f10)) (h12 : G (40, 12) = some (eI Z 5 f12)) (h13 : G (40, 13) = some (eI Z 5 f13)) (h37 : G (40, 37) = some (eI Z 441 f37)) (hsc : sc < ns) (hns : ns ≤ 5) (hrk : rk < (m_im f8 f9 f10 f12 f13 sc).1) (hij : (m_im f8 f9 f10 f12 f13 sc).2 rk = nI j) (hjj : j + 22 < 484) : dzWr l yX9_imageOf wsX9_imageOf 3 69 0 0 Z G ad [.ref aM, .int (nI sc), .int (nI rk), .int 0] rv_i (fun (x : Int32) G1 ad1 => (∀ r9 : dzR, r9 ≠ (39, 0) → r9 ≠ (40, 37) → G1 r9 = G r9 ∧ ad1 r9 = ad r9) ∧ ad = ad1 ∧ x = m_pc j ∧ G1 (39, 0) = some (eO 10 [.int 0, .int dy, .int (nI nm), .ref (ad (40, 3)), .ref (ad (40, 4)), .ref (ad (40, 5)), .ref (ad (40, 6)), .int td, .ref (ad (40, 8)), .ref (ad (40, 9)), .ref (ad (40, 10)), .int (nI ns), .ref (ad (40, 12)), .ref (ad (40, 13)), .ref (ad (40, 14)), .int (nI nl), .ref (ad (40, 16)), .ref (ad (40, 17)), .ref (ad (40, 18)), .int (nI nx), .ref (ad (40, 20)), .ref (ad (40, 21)), .ref (ad (40, 22)), .ref (ad (40, 23)), .ref (ad (40, 24)), .int ssf, .int sst, .int cfr, .int grw, .int (nI nf), .ref (ad (40, 30)), .ref (ad (40, 31)), .int bkk, .ref (ad (40, 33)), .ref (ad (40, 34)), .ref (ad (40, 35)), .int iop, .ref (ad (40, 37)), .int (nI (m_im f8 f9 f10 f12 f13 sc).1)]) ∧ ∃ g, G1 (40, 37) = some (eI Z 441 g) ∧ ∀ k, k < (m_im f8 f9 f10 f12 f13 sc).1 → g k = (m_im f8 f9 f10 f12 f13 sc).2 k) := by
  refine Met.ofW (cc := cX9_imageOf) (maxL := 6) (ret := (some .int)) (by decide) rfl ?_
  intro p e s m args below meth c s₁ B hml hv
  obtain ⟨rfl, hG, hE⟩ := hv
  have hx := B.exec
  have hb := B.bytes
  have hrt := B.returns
  have hts := atoms_spec (ws := wsX9_imageOf) B.pre
  have hown : s.vm.findClass RX9 = some m.cls := findClass_of_methodNamed B.named
  have hlocks := B.notSynchronized
  have hS : va_S (dz_A Z) s.heap s.heap [] := va_S.rf
  have hl := lv_entry ([.ref aM, .int (nI sc), .int (nI rk), .int 0]) (n := 6) (Nat.le_of_ble_eq_true rfl)
  rw [lg_entry_eq]
  generalize (lg_sl ([.ref aM, .int (nI sc), .int (nI rk), .int 0]) ++ List.replicate (6 - (lg_sl ([.ref aM, .int (nI sc), .int (nI rk), .int 0])).length) Slot.unset).toArray = ls at hl ⊢
  have hl : lv_has ls 6 [(0, .ref aM), (1, .int (nI sc)), (2, .int (nI rk)), (3, .int 0)] := hl
  have hcn := @m_im_c f8 f9 f10 f12 f13 sc
  refine lv_aload_n hx hb dX9_imageOf_0 rfl (lv_at hl 0 rfl) ?_
  refine lv_iload_n hx hb dX9_imageOf_1 rfl (lv_at hl 1 rfl) ?_
  refine lv_iload_n hx hb dX9_imageOf_2 rfl (lv_at hl 2 rfl) ?_
  refine dz_kMi (va_runV (As := [_, _]) ⟨hx, hb, hml, hown, hts⟩ (c_isImageY l Z _ _ _ _ _ _ _ _ _ _ _ _ _ _ _ _ _ _ _ _ _ _ _ _ sc _ ha ho h8 h9 h10 h12 h13 h37 hsc hns) (cwV 2 hts gX9_imageOf_X9_isImage rfl rfl rfl (by decide +kernel) ⟨Nat.le_of_ble_eq_true rfl, Nat.le_of_ble_eq_true rfl⟩) (dz_P.preV hE hS hG ho rfl ha) rfl rfl hl.1 rfl (lv_room (Nat.le_of_ble_eq_true rfl)) dX9_imageOf_3 ⟨Nat.le_of_ble_eq_true rfl, Nat.le_of_ble_eq_true rfl⟩) hS (fun x_3_1 G_3_1 ad_3_1 H locs hp_3_1 hG hS => ?_)
  obtain ⟨fr_3_1, rfl, x9_3_1, o_3_1, g_3_1⟩ := hp_3_1
  obtain rfl : x_3_1 = 1 := x9_3_1.trans (dz_b1 (m_ix1 (by omega) hrk))
  obtain ⟨gf_3_1, gh_3_1, hgk⟩ := g_3_1
  refine lv_istore (lv' := [(4, .int 1), (0, .ref aM), (1, .int (nI sc)), (2, .int (nI rk)), (3, .int 0)]) hx hb dX9_imageOf_6 hl (by decide) rfl (fun ls hl => ?_)
  refine lv_aload_n hx hb dX9_imageOf_8 rfl (lv_at hl 1 rfl) ?_
  refine lv_iload hx hb dX9_imageOf_9 (lv_at hl 0 rfl) ?_
  refine lv_if_ne (tgt := 18) hx hb dX9_imageOf_11 (by decide) (fun c_11 => ?_) (fun c_11 => absurd c_11 (by decide))
  refine lv_iload_n hx hb dX9_imageOf_18 rfl (lv_at hl 4 rfl) ?_
  refine lv_iconst (v := 0) hx hb dX9_imageOf_19 (by decide) ?_
  refine lv_iconst (v := 4) hx hb dX9_imageOf_20 (by decide) ?_
  refine dz_kRi (va_runS (As := [_, _, _]) ⟨hx, hb, hml, hown, hts⟩ (c_X9_in l Z _ _ _ _ _ ) (va_cwS 3 hts gX9_imageOf_X9_in rfl rfl rfl (by decide +kernel) ⟨Nat.le_of_ble_eq_true rfl, Nat.le_of_ble_eq_true rfl⟩) (dz_P.pre hE hS hG) rfl rfl hl.1 rfl (lv_room (Nat.le_of_ble_eq_true rfl)) dX9_imageOf_21 ⟨Nat.le_of_ble_eq_true rfl, Nat.le_of_ble_eq_true rfl⟩) ?_
  refine lv_topi (fun v_1 ev_1 => ?_)
  obtain rfl : v_1 = 1 := ev_1.trans (dz_b1 (by decide))
  refine lv_if_ne (tgt := 31) hx hb dX9_imageOf_24 (by decide) (fun c_24 => ?_) (fun c_24 => absurd c_24 (by decide))
  refine lv_iconst (v := 0) hx hb dX9_imageOf_31 (by decide) ?_
  refine dz_kMi (va_runV (As := [_]) ⟨hx, hb, hml, hown, hts⟩ (c_X9_refused l Z _ _ _ _ _ _ _ _ _ _ _ _ _ _ _ _ _ _ _ ha o_3_1) (cwV 1 hts gX9_imageOf_X9_refused rfl rfl rfl (by decide +kernel) ⟨Nat.le_of_ble_eq_true rfl, Nat.le_of_ble_eq_true rfl⟩) (dz_P.preV hE hS hG o_3_1 rfl ha) rfl rfl hl.1 rfl (lv_room (Nat.le_of_ble_eq_true rfl)) dX9_imageOf_32 ⟨Nat.le_of_ble_eq_true rfl, Nat.le_of_ble_eq_true rfl⟩) hS (fun x_32_2 G_32_2 ad_32_2 H locs hp_32_2 hG hS => ?_)
  obtain ⟨fr_32_2, rfl, x9_32_2, g_32_2⟩ := hp_32_2
  obtain rfl : x_32_2 = 0 := x9_32_2.trans (by decide)
  refine lv_if_eq (tgt := 40) hx hb dX9_imageOf_35 (by decide) (fun c_35 => ?_) (fun c_35 => absurd (by decide) c_35)
  refine lv_aload_n hx hb dX9_imageOf_40 rfl (lv_at hl 1 rfl) ?_
  refine dz_get hx hb hts (fun _ h => List.mem_cons_of_mem _ (List.mem_append_right _ h)) hown hE hG ha g_32_2 rfl 37 (by decide) (hts _ (List.mem_of_getElem? (i := 1) rfl)) (fun _ h9 => h9) rfl dX9_imageOf_41 ?_
  refine lv_iload_n hx hb dX9_imageOf_44 rfl (lv_at hl 3 rfl) ?_
  refine dz_iald hx hb hE hG ((fr_32_2 _ (dz_n rfl)).2.trans rfl) ((fr_32_2 _ (dz_n rfl)).1.trans gh_3_1) (vp_in_nI (by omega) (by decide)) dX9_imageOf_45 ?_
  refine lv_topi (fun v_2 ev_2 => ?_)
  obtain rfl : v_2 = nI j := ev_2.trans (by rw [nI_clamp (by omega)]; exact (hgk rk hrk).trans hij)
  refine lv_istore (lv' := [(5, .int (nI j)), (4, .int 1), (0, .ref aM), (1, .int (nI sc)), (2, .int (nI rk)), (3, .int 0)]) hx hb dX9_imageOf_46 hl (by decide) rfl (fun ls hl => ?_)
  refine lv_iload_n hx hb dX9_imageOf_48 rfl (lv_at hl 5 rfl) ?_
  refine lv_tableIn (off := 31) (tgt := 80) hx hb dX9_imageOf_49 (by decide) (by decide) (by decide) (by decide) ?_
  refine lv_iload hx hb dX9_imageOf_80 (lv_at hl 0 rfl) ?_
  refine lv_bipush (v := 22) hx hb dX9_imageOf_82 (by decide) ?_
  refine lv_irem hx hb dX9_imageOf_84 (by decide) ?_
  refine lv_bipush (v := 10) hx hb dX9_imageOf_85 (by decide) ?_
  refine lv_isub hx hb dX9_imageOf_87 ?_
  refine W.widen (k := 0) (n := 0) (by first | omega | decide) (by first | omega | decide) ?_
  refine W.iret hx hb hrt (fun t ht hW => dz_endM (f := rv_i) _ hE hS hG ?_ ht hW) (fun q h => hS.2.2 q h) dX9_imageOf_88
  refine ⟨fun r9 n_0 n_1 => (dz_tr (fr_32_2 r9 n_0) (fr_3_1 r9 n_0 n_1)), rfl, ?_⟩
  exact ⟨rfl, g_32_2, _, ((fr_32_2 _ (dz_n rfl)).1.trans gh_3_1), hgk⟩

set_option maxHeartbeats 4000000 in
set_option maxRecDepth 100000 in
theorem c_M_imageOf_1 (l : Launch) (Z : dzG) (G : dzW) (ad : dzA) (aM nm ns nl nx nf my : Nat) (th dy td ssf sst cfr grw bkk iop : Int32) (f8 f9 f10 f12 f13 f37 : Nat → Int32) (sc rk j : Nat) (ha : ad (39, 0) = aM) (ho : G (39, 0) = some (eO 10 [.int th, .int dy, .int (nI nm), .ref (ad (40, 3)), .ref (ad (40, 4)), .ref (ad (40, 5)), .ref (ad (40, 6)), .int td, .ref (ad (40, 8)), .ref (ad (40, 9)), .ref (ad (40, 10)), .int (nI ns), .ref (ad (40, 12)), .ref (ad (40, 13)), .ref (ad (40, 14)), .int (nI nl), .ref (ad (40, 16)), .ref (ad (40, 17)), .ref (ad (40, 18)), .int (nI nx), .ref (ad (40, 20)), .ref (ad (40, 21)), .ref (ad (40, 22)), .ref (ad (40, 23)), .ref (ad (40, 24)), .int ssf, .int sst, .int cfr, .int grw, .int (nI nf), .ref (ad (40, 30)), .ref (ad (40, 31)), .int bkk, .ref (ad (40, 33)), .ref (ad (40, 34)), .ref (ad (40, 35)), .int iop, .ref (ad (40, 37)), .int (nI my)])) (h8 : G (40, 8) = some (eI Z 484 f8)) (h9 : G (40, 9) = some (eI Z 484 f9)) (h10 : G (40, 10) = some (eI Z 484 f10)) (h12 : G (40, 12) = some (eI Z 5 f12)) (h13 : G (40, 13) = some (eI Z 5 f13)) (h37 : G (40, 37) = some (eI Z 441 f37)) (hsc : sc < ns) (hns : ns ≤ 5) (hrk : rk < (m_im f8 f9 f10 f12 f13 sc).1) (hij : (m_im f8 f9 f10 f12 f13 sc).2 rk = nI j) (hjj : j + 22 < 484) : dzWr l yX9_imageOf wsX9_imageOf 3 69 0 0 Z G ad [.ref aM, .int (nI sc), .int (nI rk), .int 1] rv_i (fun (x : Int32) G1 ad1 => (∀ r9 : dzR, r9 ≠ (39, 0) → r9 ≠ (40, 37) → G1 r9 = G r9 ∧ ad1 r9 = ad r9) ∧ ad = ad1 ∧ x = m_pr j ∧ G1 (39, 0) = some (eO 10 [.int 0, .int dy, .int (nI nm), .ref (ad (40, 3)), .ref (ad (40, 4)), .ref (ad (40, 5)), .ref (ad (40, 6)), .int td, .ref (ad (40, 8)), .ref (ad (40, 9)), .ref (ad (40, 10)), .int (nI ns), .ref (ad (40, 12)), .ref (ad (40, 13)), .ref (ad (40, 14)), .int (nI nl), .ref (ad (40, 16)), .ref (ad (40, 17)), .ref (ad (40, 18)), .int (nI nx), .ref (ad (40, 20)), .ref (ad (40, 21)), .ref (ad (40, 22)), .ref (ad (40, 23)), .ref (ad (40, 24)), .int ssf, .int sst, .int cfr, .int grw, .int (nI nf), .ref (ad (40, 30)), .ref (ad (40, 31)), .int bkk, .ref (ad (40, 33)), .ref (ad (40, 34)), .ref (ad (40, 35)), .int iop, .ref (ad (40, 37)), .int (nI (m_im f8 f9 f10 f12 f13 sc).1)]) ∧ ∃ g, G1 (40, 37) = some (eI Z 441 g) ∧ ∀ k, k < (m_im f8 f9 f10 f12 f13 sc).1 → g k = (m_im f8 f9 f10 f12 f13 sc).2 k) := by
  refine Met.ofW (cc := cX9_imageOf) (maxL := 6) (ret := (some .int)) (by decide) rfl ?_
  intro p e s m args below meth c s₁ B hml hv
  obtain ⟨rfl, hG, hE⟩ := hv
  have hx := B.exec
  have hb := B.bytes
  have hrt := B.returns
  have hts := atoms_spec (ws := wsX9_imageOf) B.pre
  have hown : s.vm.findClass RX9 = some m.cls := findClass_of_methodNamed B.named
  have hlocks := B.notSynchronized
  have hS : va_S (dz_A Z) s.heap s.heap [] := va_S.rf
  have hl := lv_entry ([.ref aM, .int (nI sc), .int (nI rk), .int 1]) (n := 6) (Nat.le_of_ble_eq_true rfl)
  rw [lg_entry_eq]
  generalize (lg_sl ([.ref aM, .int (nI sc), .int (nI rk), .int 1]) ++ List.replicate (6 - (lg_sl ([.ref aM, .int (nI sc), .int (nI rk), .int 1])).length) Slot.unset).toArray = ls at hl ⊢
  have hl : lv_has ls 6 [(0, .ref aM), (1, .int (nI sc)), (2, .int (nI rk)), (3, .int 1)] := hl
  have hcn := @m_im_c f8 f9 f10 f12 f13 sc
  refine lv_aload_n hx hb dX9_imageOf_0 rfl (lv_at hl 0 rfl) ?_
  refine lv_iload_n hx hb dX9_imageOf_1 rfl (lv_at hl 1 rfl) ?_
  refine lv_iload_n hx hb dX9_imageOf_2 rfl (lv_at hl 2 rfl) ?_
  refine dz_kMi (va_runV (As := [_, _]) ⟨hx, hb, hml, hown, hts⟩ (c_isImageY l Z _ _ _ _ _ _ _ _ _ _ _ _ _ _ _ _ _ _ _ _ _ _ _ _ sc _ ha ho h8 h9 h10 h12 h13 h37 hsc hns) (cwV 2 hts gX9_imageOf_X9_isImage rfl rfl rfl (by decide +kernel) ⟨Nat.le_of_ble_eq_true rfl, Nat.le_of_ble_eq_true rfl⟩) (dz_P.preV hE hS hG ho rfl ha) rfl rfl hl.1 rfl (lv_room (Nat.le_of_ble_eq_true rfl)) dX9_imageOf_3 ⟨Nat.le_of_ble_eq_true rfl, Nat.le_of_ble_eq_true rfl⟩) hS (fun x_3_1 G_3_1 ad_3_1 H locs hp_3_1 hG hS => ?_)
  obtain ⟨fr_3_1, rfl, x9_3_1, o_3_1, g_3_1⟩ := hp_3_1
  obtain rfl : x_3_1 = 1 := x9_3_1.trans (dz_b1 (m_ix1 (by omega) hrk))
  obtain ⟨gf_3_1, gh_3_1, hgk⟩ := g_3_1
  refine lv_istore (lv' := [(4, .int 1), (0, .ref aM), (1, .int (nI sc)), (2, .int (nI rk)), (3, .int 1)]) hx hb dX9_imageOf_6 hl (by decide) rfl (fun ls hl => ?_)
  refine lv_aload_n hx hb dX9_imageOf_8 rfl (lv_at hl 1 rfl) ?_
  refine lv_iload hx hb dX9_imageOf_9 (lv_at hl 0 rfl) ?_
  refine lv_if_ne (tgt := 18) hx hb dX9_imageOf_11 (by decide) (fun c_11 => ?_) (fun c_11 => absurd c_11 (by decide))
  refine lv_iload_n hx hb dX9_imageOf_18 rfl (lv_at hl 4 rfl) ?_
  refine lv_iconst (v := 0) hx hb dX9_imageOf_19 (by decide) ?_
  refine lv_iconst (v := 4) hx hb dX9_imageOf_20 (by decide) ?_
  refine dz_kRi (va_runS (As := [_, _, _]) ⟨hx, hb, hml, hown, hts⟩ (c_X9_in l Z _ _ _ _ _ ) (va_cwS 3 hts gX9_imageOf_X9_in rfl rfl rfl (by decide +kernel) ⟨Nat.le_of_ble_eq_true rfl, Nat.le_of_ble_eq_true rfl⟩) (dz_P.pre hE hS hG) rfl rfl hl.1 rfl (lv_room (Nat.le_of_ble_eq_true rfl)) dX9_imageOf_21 ⟨Nat.le_of_ble_eq_true rfl, Nat.le_of_ble_eq_true rfl⟩) ?_
  refine lv_topi (fun v_1 ev_1 => ?_)
  obtain rfl : v_1 = 1 := ev_1.trans (dz_b1 (by decide))
  refine lv_if_ne (tgt := 31) hx hb dX9_imageOf_24 (by decide) (fun c_24 => ?_) (fun c_24 => absurd c_24 (by decide))
  refine lv_iconst (v := 0) hx hb dX9_imageOf_31 (by decide) ?_
  refine dz_kMi (va_runV (As := [_]) ⟨hx, hb, hml, hown, hts⟩ (c_X9_refused l Z _ _ _ _ _ _ _ _ _ _ _ _ _ _ _ _ _ _ _ ha o_3_1) (cwV 1 hts gX9_imageOf_X9_refused rfl rfl rfl (by decide +kernel) ⟨Nat.le_of_ble_eq_true rfl, Nat.le_of_ble_eq_true rfl⟩) (dz_P.preV hE hS hG o_3_1 rfl ha) rfl rfl hl.1 rfl (lv_room (Nat.le_of_ble_eq_true rfl)) dX9_imageOf_32 ⟨Nat.le_of_ble_eq_true rfl, Nat.le_of_ble_eq_true rfl⟩) hS (fun x_32_2 G_32_2 ad_32_2 H locs hp_32_2 hG hS => ?_)
  obtain ⟨fr_32_2, rfl, x9_32_2, g_32_2⟩ := hp_32_2
  obtain rfl : x_32_2 = 0 := x9_32_2.trans (by decide)
  refine lv_if_eq (tgt := 40) hx hb dX9_imageOf_35 (by decide) (fun c_35 => ?_) (fun c_35 => absurd (by decide) c_35)
  refine lv_aload_n hx hb dX9_imageOf_40 rfl (lv_at hl 1 rfl) ?_
  refine dz_get hx hb hts (fun _ h => List.mem_cons_of_mem _ (List.mem_append_right _ h)) hown hE hG ha g_32_2 rfl 37 (by decide) (hts _ (List.mem_of_getElem? (i := 1) rfl)) (fun _ h9 => h9) rfl dX9_imageOf_41 ?_
  refine lv_iload_n hx hb dX9_imageOf_44 rfl (lv_at hl 3 rfl) ?_
  refine dz_iald hx hb hE hG ((fr_32_2 _ (dz_n rfl)).2.trans rfl) ((fr_32_2 _ (dz_n rfl)).1.trans gh_3_1) (vp_in_nI (by omega) (by decide)) dX9_imageOf_45 ?_
  refine lv_topi (fun v_2 ev_2 => ?_)
  obtain rfl : v_2 = nI j := ev_2.trans (by rw [nI_clamp (by omega)]; exact (hgk rk hrk).trans hij)
  refine lv_istore (lv' := [(5, .int (nI j)), (4, .int 1), (0, .ref aM), (1, .int (nI sc)), (2, .int (nI rk)), (3, .int 1)]) hx hb dX9_imageOf_46 hl (by decide) rfl (fun ls hl => ?_)
  refine lv_iload_n hx hb dX9_imageOf_48 rfl (lv_at hl 5 rfl) ?_
  refine lv_tableIn (off := 40) (tgt := 89) hx hb dX9_imageOf_49 (by decide) (by decide) (by decide) (by decide) ?_
  refine lv_iload hx hb dX9_imageOf_89 (lv_at hl 0 rfl) ?_
  refine lv_bipush (v := 22) hx hb dX9_imageOf_91 (by decide) ?_
  refine lv_idiv hx hb dX9_imageOf_93 (by decide) ?_
  refine lv_bipush (v := 10) hx hb dX9_imageOf_94 (by decide) ?_
  refine lv_isub hx hb dX9_imageOf_96 ?_
  refine W.widen (k := 0) (n := 0) (by first | omega | decide) (by first | omega | decide) ?_
  refine W.iret hx hb hrt (fun t ht hW => dz_endM (f := rv_i) _ hE hS hG ?_ ht hW) (fun q h => hS.2.2 q h) dX9_imageOf_97
  refine ⟨fun r9 n_0 n_1 => (dz_tr (fr_32_2 r9 n_0) (fr_3_1 r9 n_0 n_1)), rfl, ?_⟩
  exact ⟨rfl, g_32_2, _, ((fr_32_2 _ (dz_n rfl)).1.trans gh_3_1), hgk⟩

set_option maxHeartbeats 4000000 in
set_option maxRecDepth 100000 in
theorem c_M_imageOf_2 (l : Launch) (Z : dzG) (G : dzW) (ad : dzA) (aM nm ns nl nx nf my : Nat) (th dy td ssf sst cfr grw bkk iop : Int32) (f8 f9 f10 f12 f13 f37 : Nat → Int32) (sc rk j : Nat) (ha : ad (39, 0) = aM) (ho : G (39, 0) = some (eO 10 [.int th, .int dy, .int (nI nm), .ref (ad (40, 3)), .ref (ad (40, 4)), .ref (ad (40, 5)), .ref (ad (40, 6)), .int td, .ref (ad (40, 8)), .ref (ad (40, 9)), .ref (ad (40, 10)), .int (nI ns), .ref (ad (40, 12)), .ref (ad (40, 13)), .ref (ad (40, 14)), .int (nI nl), .ref (ad (40, 16)), .ref (ad (40, 17)), .ref (ad (40, 18)), .int (nI nx), .ref (ad (40, 20)), .ref (ad (40, 21)), .ref (ad (40, 22)), .ref (ad (40, 23)), .ref (ad (40, 24)), .int ssf, .int sst, .int cfr, .int grw, .int (nI nf), .ref (ad (40, 30)), .ref (ad (40, 31)), .int bkk, .ref (ad (40, 33)), .ref (ad (40, 34)), .ref (ad (40, 35)), .int iop, .ref (ad (40, 37)), .int (nI my)])) (h8 : G (40, 8) = some (eI Z 484 f8)) (h9 : G (40, 9) = some (eI Z 484 f9)) (h10 : G (40, 10) = some (eI Z 484 f10)) (h12 : G (40, 12) = some (eI Z 5 f12)) (h13 : G (40, 13) = some (eI Z 5 f13)) (h37 : G (40, 37) = some (eI Z 441 f37)) (hsc : sc < ns) (hns : ns ≤ 5) (hrk : rk < (m_im f8 f9 f10 f12 f13 sc).1) (hij : (m_im f8 f9 f10 f12 f13 sc).2 rk = nI j) (hjj : j + 22 < 484) : dzWr l yX9_imageOf wsX9_imageOf 3 69 0 0 Z G ad [.ref aM, .int (nI sc), .int (nI rk), .int 2] rv_i (fun (x : Int32) G1 ad1 => (∀ r9 : dzR, r9 ≠ (39, 0) → r9 ≠ (40, 37) → G1 r9 = G r9 ∧ ad1 r9 = ad r9) ∧ ad = ad1 ∧ x = (m_times (m_turn (fun j => m_pc j - f8 j) (fun j => m_pr j - f9 j) j)) ∧ G1 (39, 0) = some (eO 10 [.int 0, .int dy, .int (nI nm), .ref (ad (40, 3)), .ref (ad (40, 4)), .ref (ad (40, 5)), .ref (ad (40, 6)), .int td, .ref (ad (40, 8)), .ref (ad (40, 9)), .ref (ad (40, 10)), .int (nI ns), .ref (ad (40, 12)), .ref (ad (40, 13)), .ref (ad (40, 14)), .int (nI nl), .ref (ad (40, 16)), .ref (ad (40, 17)), .ref (ad (40, 18)), .int (nI nx), .ref (ad (40, 20)), .ref (ad (40, 21)), .ref (ad (40, 22)), .ref (ad (40, 23)), .ref (ad (40, 24)), .int ssf, .int sst, .int cfr, .int grw, .int (nI nf), .ref (ad (40, 30)), .ref (ad (40, 31)), .int bkk, .ref (ad (40, 33)), .ref (ad (40, 34)), .ref (ad (40, 35)), .int iop, .ref (ad (40, 37)), .int (nI (m_im f8 f9 f10 f12 f13 sc).1)]) ∧ ∃ g, G1 (40, 37) = some (eI Z 441 g) ∧ ∀ k, k < (m_im f8 f9 f10 f12 f13 sc).1 → g k = (m_im f8 f9 f10 f12 f13 sc).2 k) := by
  refine Met.ofW (cc := cX9_imageOf) (maxL := 6) (ret := (some .int)) (by decide) rfl ?_
  intro p e s m args below meth c s₁ B hml hv
  obtain ⟨rfl, hG, hE⟩ := hv
  have hx := B.exec
  have hb := B.bytes
  have hrt := B.returns
  have hts := atoms_spec (ws := wsX9_imageOf) B.pre
  have hown : s.vm.findClass RX9 = some m.cls := findClass_of_methodNamed B.named
  have hlocks := B.notSynchronized
  have hS : va_S (dz_A Z) s.heap s.heap [] := va_S.rf
  have hl := lv_entry ([.ref aM, .int (nI sc), .int (nI rk), .int 2]) (n := 6) (Nat.le_of_ble_eq_true rfl)
  rw [lg_entry_eq]
  generalize (lg_sl ([.ref aM, .int (nI sc), .int (nI rk), .int 2]) ++ List.replicate (6 - (lg_sl ([.ref aM, .int (nI sc), .int (nI rk), .int 2])).length) Slot.unset).toArray = ls at hl ⊢
  have hl : lv_has ls 6 [(0, .ref aM), (1, .int (nI sc)), (2, .int (nI rk)), (3, .int 2)] := hl
  have hcn := @m_im_c f8 f9 f10 f12 f13 sc
  refine lv_aload_n hx hb dX9_imageOf_0 rfl (lv_at hl 0 rfl) ?_
  refine lv_iload_n hx hb dX9_imageOf_1 rfl (lv_at hl 1 rfl) ?_
  refine lv_iload_n hx hb dX9_imageOf_2 rfl (lv_at hl 2 rfl) ?_
  refine dz_kMi (va_runV (As := [_, _]) ⟨hx, hb, hml, hown, hts⟩ (c_isImageY l Z _ _ _ _ _ _ _ _ _ _ _ _ _ _ _ _ _ _ _ _ _ _ _ _ sc _ ha ho h8 h9 h10 h12 h13 h37 hsc hns) (cwV 2 hts gX9_imageOf_X9_isImage rfl rfl rfl (by decide +kernel) ⟨Nat.le_of_ble_eq_true rfl, Nat.le_of_ble_eq_true rfl⟩) (dz_P.preV hE hS hG ho rfl ha) rfl rfl hl.1 rfl (lv_room (Nat.le_of_ble_eq_true rfl)) dX9_imageOf_3 ⟨Nat.le_of_ble_eq_true rfl, Nat.le_of_ble_eq_true rfl⟩) hS (fun x_3_1 G_3_1 ad_3_1 H locs hp_3_1 hG hS => ?_)
  obtain ⟨fr_3_1, rfl, x9_3_1, o_3_1, g_3_1⟩ := hp_3_1
  obtain rfl : x_3_1 = 1 := x9_3_1.trans (dz_b1 (m_ix1 (by omega) hrk))
  obtain ⟨gf_3_1, gh_3_1, hgk⟩ := g_3_1
  refine lv_istore (lv' := [(4, .int 1), (0, .ref aM), (1, .int (nI sc)), (2, .int (nI rk)), (3, .int 2)]) hx hb dX9_imageOf_6 hl (by decide) rfl (fun ls hl => ?_)
  refine lv_aload_n hx hb dX9_imageOf_8 rfl (lv_at hl 1 rfl) ?_
  refine lv_iload hx hb dX9_imageOf_9 (lv_at hl 0 rfl) ?_
  refine lv_if_ne (tgt := 18) hx hb dX9_imageOf_11 (by decide) (fun c_11 => ?_) (fun c_11 => absurd c_11 (by decide))
  refine lv_iload_n hx hb dX9_imageOf_18 rfl (lv_at hl 4 rfl) ?_
  refine lv_iconst (v := 0) hx hb dX9_imageOf_19 (by decide) ?_
  refine lv_iconst (v := 4) hx hb dX9_imageOf_20 (by decide) ?_
  refine dz_kRi (va_runS (As := [_, _, _]) ⟨hx, hb, hml, hown, hts⟩ (c_X9_in l Z _ _ _ _ _ ) (va_cwS 3 hts gX9_imageOf_X9_in rfl rfl rfl (by decide +kernel) ⟨Nat.le_of_ble_eq_true rfl, Nat.le_of_ble_eq_true rfl⟩) (dz_P.pre hE hS hG) rfl rfl hl.1 rfl (lv_room (Nat.le_of_ble_eq_true rfl)) dX9_imageOf_21 ⟨Nat.le_of_ble_eq_true rfl, Nat.le_of_ble_eq_true rfl⟩) ?_
  refine lv_topi (fun v_1 ev_1 => ?_)
  obtain rfl : v_1 = 1 := ev_1.trans (dz_b1 (by decide))
  refine lv_if_ne (tgt := 31) hx hb dX9_imageOf_24 (by decide) (fun c_24 => ?_) (fun c_24 => absurd c_24 (by decide))
  refine lv_iconst (v := 0) hx hb dX9_imageOf_31 (by decide) ?_
  refine dz_kMi (va_runV (As := [_]) ⟨hx, hb, hml, hown, hts⟩ (c_X9_refused l Z _ _ _ _ _ _ _ _ _ _ _ _ _ _ _ _ _ _ _ ha o_3_1) (cwV 1 hts gX9_imageOf_X9_refused rfl rfl rfl (by decide +kernel) ⟨Nat.le_of_ble_eq_true rfl, Nat.le_of_ble_eq_true rfl⟩) (dz_P.preV hE hS hG o_3_1 rfl ha) rfl rfl hl.1 rfl (lv_room (Nat.le_of_ble_eq_true rfl)) dX9_imageOf_32 ⟨Nat.le_of_ble_eq_true rfl, Nat.le_of_ble_eq_true rfl⟩) hS (fun x_32_2 G_32_2 ad_32_2 H locs hp_32_2 hG hS => ?_)
  obtain ⟨fr_32_2, rfl, x9_32_2, g_32_2⟩ := hp_32_2
  obtain rfl : x_32_2 = 0 := x9_32_2.trans (by decide)
  refine lv_if_eq (tgt := 40) hx hb dX9_imageOf_35 (by decide) (fun c_35 => ?_) (fun c_35 => absurd (by decide) c_35)
  refine lv_aload_n hx hb dX9_imageOf_40 rfl (lv_at hl 1 rfl) ?_
  refine dz_get hx hb hts (fun _ h => List.mem_cons_of_mem _ (List.mem_append_right _ h)) hown hE hG ha g_32_2 rfl 37 (by decide) (hts _ (List.mem_of_getElem? (i := 1) rfl)) (fun _ h9 => h9) rfl dX9_imageOf_41 ?_
  refine lv_iload_n hx hb dX9_imageOf_44 rfl (lv_at hl 3 rfl) ?_
  refine dz_iald hx hb hE hG ((fr_32_2 _ (dz_n rfl)).2.trans rfl) ((fr_32_2 _ (dz_n rfl)).1.trans gh_3_1) (vp_in_nI (by omega) (by decide)) dX9_imageOf_45 ?_
  refine lv_topi (fun v_2 ev_2 => ?_)
  obtain rfl : v_2 = nI j := ev_2.trans (by rw [nI_clamp (by omega)]; exact (hgk rk hrk).trans hij)
  refine lv_istore (lv' := [(5, .int (nI j)), (4, .int 1), (0, .ref aM), (1, .int (nI sc)), (2, .int (nI rk)), (3, .int 2)]) hx hb dX9_imageOf_46 hl (by decide) rfl (fun ls hl => ?_)
  refine lv_iload_n hx hb dX9_imageOf_48 rfl (lv_at hl 5 rfl) ?_
  refine lv_tableIn (off := 49) (tgt := 98) hx hb dX9_imageOf_49 (by decide) (by decide) (by decide) (by decide) ?_
  refine lv_aload_n hx hb dX9_imageOf_98 rfl (lv_at hl 2 rfl) ?_
  refine lv_iload_n hx hb dX9_imageOf_99 rfl (lv_at hl 4 rfl) ?_
  refine dz_kRi (va_runV (As := [_]) ⟨hx, hb, hml, hown, hts⟩ (c_X9_timesOf l Z _ _ _ _ _ _ _ _ _ _ _ _ _ _ _ _ _ _ _ _ _ _ j ha g_32_2 ((fr_32_2 _ (dz_n rfl)).1.trans ((fr_3_1 _ (dz_n rfl) (dz_n2 (by decide))).1.trans h8)) ((fr_32_2 _ (dz_n rfl)).1.trans ((fr_3_1 _ (dz_n rfl) (dz_n2 (by decide))).1.trans h9)) ((fr_32_2 _ (dz_n rfl)).1.trans gh_3_1) (show rk < 441 from by omega) ((hgk rk hrk).trans hij) hjj) (cwV 1 hts gX9_imageOf_X9_timesOf rfl rfl rfl (by decide +kernel) ⟨Nat.le_of_ble_eq_true rfl, Nat.le_of_ble_eq_true rfl⟩) (dz_P.preV hE hS hG g_32_2 rfl ha) rfl rfl hl.1 rfl (lv_room (Nat.le_of_ble_eq_true rfl)) dX9_imageOf_100 ⟨Nat.le_of_ble_eq_true rfl, Nat.le_of_ble_eq_true rfl⟩) ?_
  refine lv_topi (fun v_3 ev_3 => ?_)
  obtain rfl : v_3 = (m_times (m_turn (fun j => m_pc j - f8 j) (fun j => m_pr j - f9 j) j)) := ev_3
  refine W.widen (k := 0) (n := 0) (by first | omega | decide) (by first | omega | decide) ?_
  refine W.iret hx hb hrt (fun t ht hW => dz_endM (f := rv_i) _ hE hS hG ?_ ht hW) (fun q h => hS.2.2 q h) dX9_imageOf_103
  refine ⟨fun r9 n_0 n_1 => (dz_tr (fr_32_2 r9 n_0) (fr_3_1 r9 n_0 n_1)), rfl, ?_⟩
  exact ⟨rfl, g_32_2, _, ((fr_32_2 _ (dz_n rfl)).1.trans gh_3_1), hgk⟩

set_option maxHeartbeats 4000000 in
set_option maxRecDepth 100000 in
theorem c_M_imageOf_3 (l : Launch) (Z : dzG) (G : dzW) (ad : dzA) (aM nm ns nl nx nf my : Nat) (th dy td ssf sst cfr grw bkk iop : Int32) (f8 f9 f10 f12 f13 f37 : Nat → Int32) (sc rk j : Nat) (ha : ad (39, 0) = aM) (ho : G (39, 0) = some (eO 10 [.int th, .int dy, .int (nI nm), .ref (ad (40, 3)), .ref (ad (40, 4)), .ref (ad (40, 5)), .ref (ad (40, 6)), .int td, .ref (ad (40, 8)), .ref (ad (40, 9)), .ref (ad (40, 10)), .int (nI ns), .ref (ad (40, 12)), .ref (ad (40, 13)), .ref (ad (40, 14)), .int (nI nl), .ref (ad (40, 16)), .ref (ad (40, 17)), .ref (ad (40, 18)), .int (nI nx), .ref (ad (40, 20)), .ref (ad (40, 21)), .ref (ad (40, 22)), .ref (ad (40, 23)), .ref (ad (40, 24)), .int ssf, .int sst, .int cfr, .int grw, .int (nI nf), .ref (ad (40, 30)), .ref (ad (40, 31)), .int bkk, .ref (ad (40, 33)), .ref (ad (40, 34)), .ref (ad (40, 35)), .int iop, .ref (ad (40, 37)), .int (nI my)])) (h8 : G (40, 8) = some (eI Z 484 f8)) (h9 : G (40, 9) = some (eI Z 484 f9)) (h10 : G (40, 10) = some (eI Z 484 f10)) (h12 : G (40, 12) = some (eI Z 5 f12)) (h13 : G (40, 13) = some (eI Z 5 f13)) (h37 : G (40, 37) = some (eI Z 441 f37)) (hsc : sc < ns) (hns : ns ≤ 5) (hrk : rk < (m_im f8 f9 f10 f12 f13 sc).1) (hij : (m_im f8 f9 f10 f12 f13 sc).2 rk = nI j) (hjj : j + 22 < 484) : dzWr l yX9_imageOf wsX9_imageOf 3 69 0 0 Z G ad [.ref aM, .int (nI sc), .int (nI rk), .int 3] rv_i (fun (x : Int32) G1 ad1 => (∀ r9 : dzR, r9 ≠ (39, 0) → r9 ≠ (40, 37) → G1 r9 = G r9 ∧ ad1 r9 = ad r9) ∧ ad = ad1 ∧ x = f10 j ∧ G1 (39, 0) = some (eO 10 [.int 0, .int dy, .int (nI nm), .ref (ad (40, 3)), .ref (ad (40, 4)), .ref (ad (40, 5)), .ref (ad (40, 6)), .int td, .ref (ad (40, 8)), .ref (ad (40, 9)), .ref (ad (40, 10)), .int (nI ns), .ref (ad (40, 12)), .ref (ad (40, 13)), .ref (ad (40, 14)), .int (nI nl), .ref (ad (40, 16)), .ref (ad (40, 17)), .ref (ad (40, 18)), .int (nI nx), .ref (ad (40, 20)), .ref (ad (40, 21)), .ref (ad (40, 22)), .ref (ad (40, 23)), .ref (ad (40, 24)), .int ssf, .int sst, .int cfr, .int grw, .int (nI nf), .ref (ad (40, 30)), .ref (ad (40, 31)), .int bkk, .ref (ad (40, 33)), .ref (ad (40, 34)), .ref (ad (40, 35)), .int iop, .ref (ad (40, 37)), .int (nI (m_im f8 f9 f10 f12 f13 sc).1)]) ∧ ∃ g, G1 (40, 37) = some (eI Z 441 g) ∧ ∀ k, k < (m_im f8 f9 f10 f12 f13 sc).1 → g k = (m_im f8 f9 f10 f12 f13 sc).2 k) := by
  refine Met.ofW (cc := cX9_imageOf) (maxL := 6) (ret := (some .int)) (by decide) rfl ?_
  intro p e s m args below meth c s₁ B hml hv
  obtain ⟨rfl, hG, hE⟩ := hv
  have hx := B.exec
  have hb := B.bytes
  have hrt := B.returns
  have hts := atoms_spec (ws := wsX9_imageOf) B.pre
  have hown : s.vm.findClass RX9 = some m.cls := findClass_of_methodNamed B.named
  have hlocks := B.notSynchronized
  have hS : va_S (dz_A Z) s.heap s.heap [] := va_S.rf
  have hl := lv_entry ([.ref aM, .int (nI sc), .int (nI rk), .int 3]) (n := 6) (Nat.le_of_ble_eq_true rfl)
  rw [lg_entry_eq]
  generalize (lg_sl ([.ref aM, .int (nI sc), .int (nI rk), .int 3]) ++ List.replicate (6 - (lg_sl ([.ref aM, .int (nI sc), .int (nI rk), .int 3])).length) Slot.unset).toArray = ls at hl ⊢
  have hl : lv_has ls 6 [(0, .ref aM), (1, .int (nI sc)), (2, .int (nI rk)), (3, .int 3)] := hl
  have hcn := @m_im_c f8 f9 f10 f12 f13 sc
  refine lv_aload_n hx hb dX9_imageOf_0 rfl (lv_at hl 0 rfl) ?_
  refine lv_iload_n hx hb dX9_imageOf_1 rfl (lv_at hl 1 rfl) ?_
  refine lv_iload_n hx hb dX9_imageOf_2 rfl (lv_at hl 2 rfl) ?_
  refine dz_kMi (va_runV (As := [_, _]) ⟨hx, hb, hml, hown, hts⟩ (c_isImageY l Z _ _ _ _ _ _ _ _ _ _ _ _ _ _ _ _ _ _ _ _ _ _ _ _ sc _ ha ho h8 h9 h10 h12 h13 h37 hsc hns) (cwV 2 hts gX9_imageOf_X9_isImage rfl rfl rfl (by decide +kernel) ⟨Nat.le_of_ble_eq_true rfl, Nat.le_of_ble_eq_true rfl⟩) (dz_P.preV hE hS hG ho rfl ha) rfl rfl hl.1 rfl (lv_room (Nat.le_of_ble_eq_true rfl)) dX9_imageOf_3 ⟨Nat.le_of_ble_eq_true rfl, Nat.le_of_ble_eq_true rfl⟩) hS (fun x_3_1 G_3_1 ad_3_1 H locs hp_3_1 hG hS => ?_)
  obtain ⟨fr_3_1, rfl, x9_3_1, o_3_1, g_3_1⟩ := hp_3_1
  obtain rfl : x_3_1 = 1 := x9_3_1.trans (dz_b1 (m_ix1 (by omega) hrk))
  obtain ⟨gf_3_1, gh_3_1, hgk⟩ := g_3_1
  refine lv_istore (lv' := [(4, .int 1), (0, .ref aM), (1, .int (nI sc)), (2, .int (nI rk)), (3, .int 3)]) hx hb dX9_imageOf_6 hl (by decide) rfl (fun ls hl => ?_)
  refine lv_aload_n hx hb dX9_imageOf_8 rfl (lv_at hl 1 rfl) ?_
  refine lv_iload hx hb dX9_imageOf_9 (lv_at hl 0 rfl) ?_
  refine lv_if_ne (tgt := 18) hx hb dX9_imageOf_11 (by decide) (fun c_11 => ?_) (fun c_11 => absurd c_11 (by decide))
  refine lv_iload_n hx hb dX9_imageOf_18 rfl (lv_at hl 4 rfl) ?_
  refine lv_iconst (v := 0) hx hb dX9_imageOf_19 (by decide) ?_
  refine lv_iconst (v := 4) hx hb dX9_imageOf_20 (by decide) ?_
  refine dz_kRi (va_runS (As := [_, _, _]) ⟨hx, hb, hml, hown, hts⟩ (c_X9_in l Z _ _ _ _ _ ) (va_cwS 3 hts gX9_imageOf_X9_in rfl rfl rfl (by decide +kernel) ⟨Nat.le_of_ble_eq_true rfl, Nat.le_of_ble_eq_true rfl⟩) (dz_P.pre hE hS hG) rfl rfl hl.1 rfl (lv_room (Nat.le_of_ble_eq_true rfl)) dX9_imageOf_21 ⟨Nat.le_of_ble_eq_true rfl, Nat.le_of_ble_eq_true rfl⟩) ?_
  refine lv_topi (fun v_1 ev_1 => ?_)
  obtain rfl : v_1 = 1 := ev_1.trans (dz_b1 (by decide))
  refine lv_if_ne (tgt := 31) hx hb dX9_imageOf_24 (by decide) (fun c_24 => ?_) (fun c_24 => absurd c_24 (by decide))
  refine lv_iconst (v := 0) hx hb dX9_imageOf_31 (by decide) ?_
  refine dz_kMi (va_runV (As := [_]) ⟨hx, hb, hml, hown, hts⟩ (c_X9_refused l Z _ _ _ _ _ _ _ _ _ _ _ _ _ _ _ _ _ _ _ ha o_3_1) (cwV 1 hts gX9_imageOf_X9_refused rfl rfl rfl (by decide +kernel) ⟨Nat.le_of_ble_eq_true rfl, Nat.le_of_ble_eq_true rfl⟩) (dz_P.preV hE hS hG o_3_1 rfl ha) rfl rfl hl.1 rfl (lv_room (Nat.le_of_ble_eq_true rfl)) dX9_imageOf_32 ⟨Nat.le_of_ble_eq_true rfl, Nat.le_of_ble_eq_true rfl⟩) hS (fun x_32_2 G_32_2 ad_32_2 H locs hp_32_2 hG hS => ?_)
  obtain ⟨fr_32_2, rfl, x9_32_2, g_32_2⟩ := hp_32_2
  obtain rfl : x_32_2 = 0 := x9_32_2.trans (by decide)
  refine lv_if_eq (tgt := 40) hx hb dX9_imageOf_35 (by decide) (fun c_35 => ?_) (fun c_35 => absurd (by decide) c_35)
  refine lv_aload_n hx hb dX9_imageOf_40 rfl (lv_at hl 1 rfl) ?_
  refine dz_get hx hb hts (fun _ h => List.mem_cons_of_mem _ (List.mem_append_right _ h)) hown hE hG ha g_32_2 rfl 37 (by decide) (hts _ (List.mem_of_getElem? (i := 1) rfl)) (fun _ h9 => h9) rfl dX9_imageOf_41 ?_
  refine lv_iload_n hx hb dX9_imageOf_44 rfl (lv_at hl 3 rfl) ?_
  refine dz_iald hx hb hE hG ((fr_32_2 _ (dz_n rfl)).2.trans rfl) ((fr_32_2 _ (dz_n rfl)).1.trans gh_3_1) (vp_in_nI (by omega) (by decide)) dX9_imageOf_45 ?_
  refine lv_topi (fun v_2 ev_2 => ?_)
  obtain rfl : v_2 = nI j := ev_2.trans (by rw [nI_clamp (by omega)]; exact (hgk rk hrk).trans hij)
  refine lv_istore (lv' := [(5, .int (nI j)), (4, .int 1), (0, .ref aM), (1, .int (nI sc)), (2, .int (nI rk)), (3, .int 3)]) hx hb dX9_imageOf_46 hl (by decide) rfl (fun ls hl => ?_)
  refine lv_iload_n hx hb dX9_imageOf_48 rfl (lv_at hl 5 rfl) ?_
  refine lv_tableIn (off := 55) (tgt := 104) hx hb dX9_imageOf_49 (by decide) (by decide) (by decide) (by decide) ?_
  refine lv_aload_n hx hb dX9_imageOf_104 rfl (lv_at hl 2 rfl) ?_
  refine dz_get hx hb hts (fun _ h => List.mem_cons_of_mem _ (List.mem_append_right _ h)) hown hE hG ha g_32_2 rfl 10 (by decide) (hts _ (List.mem_of_getElem? (i := 2) rfl)) (fun _ h9 => h9) rfl dX9_imageOf_105 ?_
  refine lv_iload hx hb dX9_imageOf_108 (lv_at hl 0 rfl) ?_
  refine dz_iald hx hb hE hG ((fr_32_2 _ (dz_n rfl)).2.trans ((fr_3_1 _ (dz_n rfl) (dz_n2 (by decide))).2.trans rfl)) ((fr_32_2 _ (dz_n rfl)).1.trans ((fr_3_1 _ (dz_n rfl) (dz_n2 (by decide))).1.trans h10)) (vp_in_nI (by omega) (by decide)) dX9_imageOf_110 ?_
  refine lv_topi (fun v_3 ev_3 => ?_)
  obtain rfl : v_3 = f10 j := ev_3.trans (by rw [nI_clamp (by omega)])
  refine W.widen (k := 0) (n := 0) (by first | omega | decide) (by first | omega | decide) ?_
  refine W.iret hx hb hrt (fun t ht hW => dz_endM (f := rv_i) _ hE hS hG ?_ ht hW) (fun q h => hS.2.2 q h) dX9_imageOf_111
  refine ⟨fun r9 n_0 n_1 => (dz_tr (fr_32_2 r9 n_0) (fr_3_1 r9 n_0 n_1)), rfl, ?_⟩
  exact ⟨rfl, g_32_2, _, ((fr_32_2 _ (dz_n rfl)).1.trans gh_3_1), hgk⟩

set_option maxHeartbeats 4000000 in
set_option maxRecDepth 100000 in
theorem c_M_imageOf_4 (l : Launch) (Z : dzG) (G : dzW) (ad : dzA) (aM nm ns nl nx nf my : Nat) (th dy td ssf sst cfr grw bkk iop : Int32) (f8 f9 f10 f12 f13 f37 : Nat → Int32) (sc rk j : Nat) (j0 : Nat) (ha : ad (39, 0) = aM) (ho : G (39, 0) = some (eO 10 [.int th, .int dy, .int (nI nm), .ref (ad (40, 3)), .ref (ad (40, 4)), .ref (ad (40, 5)), .ref (ad (40, 6)), .int td, .ref (ad (40, 8)), .ref (ad (40, 9)), .ref (ad (40, 10)), .int (nI ns), .ref (ad (40, 12)), .ref (ad (40, 13)), .ref (ad (40, 14)), .int (nI nl), .ref (ad (40, 16)), .ref (ad (40, 17)), .ref (ad (40, 18)), .int (nI nx), .ref (ad (40, 20)), .ref (ad (40, 21)), .ref (ad (40, 22)), .ref (ad (40, 23)), .ref (ad (40, 24)), .int ssf, .int sst, .int cfr, .int grw, .int (nI nf), .ref (ad (40, 30)), .ref (ad (40, 31)), .int bkk, .ref (ad (40, 33)), .ref (ad (40, 34)), .ref (ad (40, 35)), .int iop, .ref (ad (40, 37)), .int (nI my)])) (h8 : G (40, 8) = some (eI Z 484 f8)) (h9 : G (40, 9) = some (eI Z 484 f9)) (h10 : G (40, 10) = some (eI Z 484 f10)) (h12 : G (40, 12) = some (eI Z 5 f12)) (h13 : G (40, 13) = some (eI Z 5 f13)) (h37 : G (40, 37) = some (eI Z 441 f37)) (hsc : sc < ns) (hns : ns ≤ 5) (hrk : rk < (m_im f8 f9 f10 f12 f13 sc).1) (hij : (m_im f8 f9 f10 f12 f13 sc).2 rk = nI j) (hjj : j + 22 < 484) (h00 : (m_im f8 f9 f10 f12 f13 sc).2 0 = nI j0) (hj0 : j0 + 22 < 484) (hgz : ¬ grw = 0) : dzWr l yX9_imageOf wsX9_imageOf 3 69 0 0 Z G ad [.ref aM, .int (nI sc), .int (nI rk), .int 4] rv_i (fun (x : Int32) G1 ad1 => (∀ r9 : dzR, r9 ≠ (39, 0) → r9 ≠ (40, 37) → G1 r9 = G r9 ∧ ad1 r9 = ad r9) ∧ ad = ad1 ∧ x = ((f10 j - f10 j0) * 20 / grw) ∧ G1 (39, 0) = some (eO 10 [.int 0, .int dy, .int (nI nm), .ref (ad (40, 3)), .ref (ad (40, 4)), .ref (ad (40, 5)), .ref (ad (40, 6)), .int td, .ref (ad (40, 8)), .ref (ad (40, 9)), .ref (ad (40, 10)), .int (nI ns), .ref (ad (40, 12)), .ref (ad (40, 13)), .ref (ad (40, 14)), .int (nI nl), .ref (ad (40, 16)), .ref (ad (40, 17)), .ref (ad (40, 18)), .int (nI nx), .ref (ad (40, 20)), .ref (ad (40, 21)), .ref (ad (40, 22)), .ref (ad (40, 23)), .ref (ad (40, 24)), .int ssf, .int sst, .int cfr, .int grw, .int (nI nf), .ref (ad (40, 30)), .ref (ad (40, 31)), .int bkk, .ref (ad (40, 33)), .ref (ad (40, 34)), .ref (ad (40, 35)), .int iop, .ref (ad (40, 37)), .int (nI (m_im f8 f9 f10 f12 f13 sc).1)]) ∧ ∃ g, G1 (40, 37) = some (eI Z 441 g) ∧ ∀ k, k < (m_im f8 f9 f10 f12 f13 sc).1 → g k = (m_im f8 f9 f10 f12 f13 sc).2 k) := by
  refine Met.ofW (cc := cX9_imageOf) (maxL := 6) (ret := (some .int)) (by decide) rfl ?_
  intro p e s m args below meth c s₁ B hml hv
  obtain ⟨rfl, hG, hE⟩ := hv
  have hx := B.exec
  have hb := B.bytes
  have hrt := B.returns
  have hts := atoms_spec (ws := wsX9_imageOf) B.pre
  have hown : s.vm.findClass RX9 = some m.cls := findClass_of_methodNamed B.named
  have hlocks := B.notSynchronized
  have hS : va_S (dz_A Z) s.heap s.heap [] := va_S.rf
  have hl := lv_entry ([.ref aM, .int (nI sc), .int (nI rk), .int 4]) (n := 6) (Nat.le_of_ble_eq_true rfl)
  rw [lg_entry_eq]
  generalize (lg_sl ([.ref aM, .int (nI sc), .int (nI rk), .int 4]) ++ List.replicate (6 - (lg_sl ([.ref aM, .int (nI sc), .int (nI rk), .int 4])).length) Slot.unset).toArray = ls at hl ⊢
  have hl : lv_has ls 6 [(0, .ref aM), (1, .int (nI sc)), (2, .int (nI rk)), (3, .int 4)] := hl
  have hcn := @m_im_c f8 f9 f10 f12 f13 sc
  refine lv_aload_n hx hb dX9_imageOf_0 rfl (lv_at hl 0 rfl) ?_
  refine lv_iload_n hx hb dX9_imageOf_1 rfl (lv_at hl 1 rfl) ?_
  refine lv_iload_n hx hb dX9_imageOf_2 rfl (lv_at hl 2 rfl) ?_
  refine dz_kMi (va_runV (As := [_, _]) ⟨hx, hb, hml, hown, hts⟩ (c_isImageY l Z _ _ _ _ _ _ _ _ _ _ _ _ _ _ _ _ _ _ _ _ _ _ _ _ sc _ ha ho h8 h9 h10 h12 h13 h37 hsc hns) (cwV 2 hts gX9_imageOf_X9_isImage rfl rfl rfl (by decide +kernel) ⟨Nat.le_of_ble_eq_true rfl, Nat.le_of_ble_eq_true rfl⟩) (dz_P.preV hE hS hG ho rfl ha) rfl rfl hl.1 rfl (lv_room (Nat.le_of_ble_eq_true rfl)) dX9_imageOf_3 ⟨Nat.le_of_ble_eq_true rfl, Nat.le_of_ble_eq_true rfl⟩) hS (fun x_3_1 G_3_1 ad_3_1 H locs hp_3_1 hG hS => ?_)
  obtain ⟨fr_3_1, rfl, x9_3_1, o_3_1, g_3_1⟩ := hp_3_1
  obtain rfl : x_3_1 = 1 := x9_3_1.trans (dz_b1 (m_ix1 (by omega) hrk))
  obtain ⟨gf_3_1, gh_3_1, hgk⟩ := g_3_1
  refine lv_istore (lv' := [(4, .int 1), (0, .ref aM), (1, .int (nI sc)), (2, .int (nI rk)), (3, .int 4)]) hx hb dX9_imageOf_6 hl (by decide) rfl (fun ls hl => ?_)
  refine lv_aload_n hx hb dX9_imageOf_8 rfl (lv_at hl 1 rfl) ?_
  refine lv_iload hx hb dX9_imageOf_9 (lv_at hl 0 rfl) ?_
  refine lv_if_ne (tgt := 18) hx hb dX9_imageOf_11 (by decide) (fun c_11 => ?_) (fun c_11 => absurd c_11 (by decide))
  refine lv_iload_n hx hb dX9_imageOf_18 rfl (lv_at hl 4 rfl) ?_
  refine lv_iconst (v := 0) hx hb dX9_imageOf_19 (by decide) ?_
  refine lv_iconst (v := 4) hx hb dX9_imageOf_20 (by decide) ?_
  refine dz_kRi (va_runS (As := [_, _, _]) ⟨hx, hb, hml, hown, hts⟩ (c_X9_in l Z _ _ _ _ _ ) (va_cwS 3 hts gX9_imageOf_X9_in rfl rfl rfl (by decide +kernel) ⟨Nat.le_of_ble_eq_true rfl, Nat.le_of_ble_eq_true rfl⟩) (dz_P.pre hE hS hG) rfl rfl hl.1 rfl (lv_room (Nat.le_of_ble_eq_true rfl)) dX9_imageOf_21 ⟨Nat.le_of_ble_eq_true rfl, Nat.le_of_ble_eq_true rfl⟩) ?_
  refine lv_topi (fun v_1 ev_1 => ?_)
  obtain rfl : v_1 = 1 := ev_1.trans (dz_b1 (by decide))
  refine lv_if_ne (tgt := 31) hx hb dX9_imageOf_24 (by decide) (fun c_24 => ?_) (fun c_24 => absurd c_24 (by decide))
  refine lv_iconst (v := 0) hx hb dX9_imageOf_31 (by decide) ?_
  refine dz_kMi (va_runV (As := [_]) ⟨hx, hb, hml, hown, hts⟩ (c_X9_refused l Z _ _ _ _ _ _ _ _ _ _ _ _ _ _ _ _ _ _ _ ha o_3_1) (cwV 1 hts gX9_imageOf_X9_refused rfl rfl rfl (by decide +kernel) ⟨Nat.le_of_ble_eq_true rfl, Nat.le_of_ble_eq_true rfl⟩) (dz_P.preV hE hS hG o_3_1 rfl ha) rfl rfl hl.1 rfl (lv_room (Nat.le_of_ble_eq_true rfl)) dX9_imageOf_32 ⟨Nat.le_of_ble_eq_true rfl, Nat.le_of_ble_eq_true rfl⟩) hS (fun x_32_2 G_32_2 ad_32_2 H locs hp_32_2 hG hS => ?_)
  obtain ⟨fr_32_2, rfl, x9_32_2, g_32_2⟩ := hp_32_2
  obtain rfl : x_32_2 = 0 := x9_32_2.trans (by decide)
  refine lv_if_eq (tgt := 40) hx hb dX9_imageOf_35 (by decide) (fun c_35 => ?_) (fun c_35 => absurd (by decide) c_35)
  refine lv_aload_n hx hb dX9_imageOf_40 rfl (lv_at hl 1 rfl) ?_
  refine dz_get hx hb hts (fun _ h => List.mem_cons_of_mem _ (List.mem_append_right _ h)) hown hE hG ha g_32_2 rfl 37 (by decide) (hts _ (List.mem_of_getElem? (i := 1) rfl)) (fun _ h9 => h9) rfl dX9_imageOf_41 ?_
  refine lv_iload_n hx hb dX9_imageOf_44 rfl (lv_at hl 3 rfl) ?_
  refine dz_iald hx hb hE hG ((fr_32_2 _ (dz_n rfl)).2.trans rfl) ((fr_32_2 _ (dz_n rfl)).1.trans gh_3_1) (vp_in_nI (by omega) (by decide)) dX9_imageOf_45 ?_
  refine lv_topi (fun v_2 ev_2 => ?_)
  obtain rfl : v_2 = nI j := ev_2.trans (by rw [nI_clamp (by omega)]; exact (hgk rk hrk).trans hij)
  refine lv_istore (lv' := [(5, .int (nI j)), (4, .int 1), (0, .ref aM), (1, .int (nI sc)), (2, .int (nI rk)), (3, .int 4)]) hx hb dX9_imageOf_46 hl (by decide) rfl (fun ls hl => ?_)
  refine lv_iload_n hx hb dX9_imageOf_48 rfl (lv_at hl 5 rfl) ?_
  refine lv_tableOut (tgt := 112) hx hb dX9_imageOf_49 (by decide) (by decide) ?_
  refine lv_aload_n hx hb dX9_imageOf_112 rfl (lv_at hl 2 rfl) ?_
  refine lv_iload_n hx hb dX9_imageOf_113 rfl (lv_at hl 4 rfl) ?_
  refine dz_kRi (va_runV (As := [_]) ⟨hx, hb, hml, hown, hts⟩ (c_X9_lateOf l Z _ _ _ _ _ _ _ _ _ _ _ _ _ _ _ _ _ _ _ _ _ j j0 ha g_32_2 ((fr_32_2 _ (dz_n rfl)).1.trans ((fr_3_1 _ (dz_n rfl) (dz_n2 (by decide))).1.trans h10)) ((fr_32_2 _ (dz_n rfl)).1.trans gh_3_1) (show rk < 441 from by omega) ((hgk rk hrk).trans hij) ((hgk 0 (by omega)).trans h00) (by omega) (by omega) hgz) (cwV 1 hts gX9_imageOf_X9_lateOf rfl rfl rfl (by decide +kernel) ⟨Nat.le_of_ble_eq_true rfl, Nat.le_of_ble_eq_true rfl⟩) (dz_P.preV hE hS hG g_32_2 rfl ha) rfl rfl hl.1 rfl (lv_room (Nat.le_of_ble_eq_true rfl)) dX9_imageOf_114 ⟨Nat.le_of_ble_eq_true rfl, Nat.le_of_ble_eq_true rfl⟩) ?_
  refine lv_topi (fun v_3 ev_3 => ?_)
  obtain rfl : v_3 = ((f10 j - f10 j0) * 20 / grw) := ev_3
  refine W.widen (k := 0) (n := 0) (by first | omega | decide) (by first | omega | decide) ?_
  refine W.iret hx hb hrt (fun t ht hW => dz_endM (f := rv_i) _ hE hS hG ?_ ht hW) (fun q h => hS.2.2 q h) dX9_imageOf_117
  refine ⟨fun r9 n_0 n_1 => (dz_tr (fr_32_2 r9 n_0) (fr_3_1 r9 n_0 n_1)), rfl, ?_⟩
  exact ⟨rfl, g_32_2, _, ((fr_32_2 _ (dz_n rfl)).1.trans gh_3_1), hgk⟩

set_option maxHeartbeats 4000000 in
set_option maxRecDepth 100000 in
theorem c_M_delay_no (l : Launch) (Z : dzG) (G : dzW) (ad : dzA) (aM nm ns nl nx nf my : Nat) (th dy td ssf sst cfr grw bkk iop : Int32) (v1 v2 v3 : Int32) (ha : ad (39, 0) = aM) (ho : G (39, 0) = some (eO 10 [.int th, .int dy, .int (nI nm), .ref (ad (40, 3)), .ref (ad (40, 4)), .ref (ad (40, 5)), .ref (ad (40, 6)), .int td, .ref (ad (40, 8)), .ref (ad (40, 9)), .ref (ad (40, 10)), .int (nI ns), .ref (ad (40, 12)), .ref (ad (40, 13)), .ref (ad (40, 14)), .int (nI nl), .ref (ad (40, 16)), .ref (ad (40, 17)), .ref (ad (40, 18)), .int (nI nx), .ref (ad (40, 20)), .ref (ad (40, 21)), .ref (ad (40, 22)), .ref (ad (40, 23)), .ref (ad (40, 24)), .int ssf, .int sst, .int cfr, .int grw, .int (nI nf), .ref (ad (40, 30)), .ref (ad (40, 31)), .int bkk, .ref (ad (40, 33)), .ref (ad (40, 34)), .ref (ad (40, 35)), .int iop, .ref (ad (40, 37)), .int (nI my)])) (hv : v1 < 0 ∨ nI ns ≤ v1) (hns : ns ≤ 5) : dzWr l yX9_delay wsX9_delay 3 65 0 0 Z G ad [.ref aM, .int v1, .int v2, .int v3] rv_i (fun (x : Int32) G1 ad1 => (∀ r9 : dzR, r9 ≠ (39, 0) → G1 r9 = G r9 ∧ ad1 r9 = ad r9) ∧ ad = ad1 ∧ x = 0 ∧ G1 (39, 0) = some (eO 10 [.int 1, .int dy, .int (nI nm), .ref (ad (40, 3)), .ref (ad (40, 4)), .ref (ad (40, 5)), .ref (ad (40, 6)), .int td, .ref (ad (40, 8)), .ref (ad (40, 9)), .ref (ad (40, 10)), .int (nI ns), .ref (ad (40, 12)), .ref (ad (40, 13)), .ref (ad (40, 14)), .int (nI nl), .ref (ad (40, 16)), .ref (ad (40, 17)), .ref (ad (40, 18)), .int (nI nx), .ref (ad (40, 20)), .ref (ad (40, 21)), .ref (ad (40, 22)), .ref (ad (40, 23)), .ref (ad (40, 24)), .int ssf, .int sst, .int cfr, .int grw, .int (nI nf), .ref (ad (40, 30)), .ref (ad (40, 31)), .int bkk, .ref (ad (40, 33)), .ref (ad (40, 34)), .ref (ad (40, 35)), .int iop, .ref (ad (40, 37)), .int (nI my)])) := by
  refine Met.ofW (cc := cX9_delay) (maxL := 5) (ret := (some .int)) (by decide) rfl ?_
  intro p e s m args below meth c s₁ B hml hv
  obtain ⟨rfl, hG, hE⟩ := hv
  have hx := B.exec
  have hb := B.bytes
  have hrt := B.returns
  have hts := atoms_spec (ws := wsX9_delay) B.pre
  have hown : s.vm.findClass RX9 = some m.cls := findClass_of_methodNamed B.named
  have hlocks := B.notSynchronized
  have hS : va_S (dz_A Z) s.heap s.heap [] := va_S.rf
  have hl := lv_entry ([.ref aM, .int v1, .int v2, .int v3]) (n := 5) (Nat.le_of_ble_eq_true rfl)
  rw [lg_entry_eq]
  generalize (lg_sl ([.ref aM, .int v1, .int v2, .int v3]) ++ List.replicate (5 - (lg_sl ([.ref aM, .int v1, .int v2, .int v3])).length) Slot.unset).toArray = ls at hl ⊢
  have hl : lv_has ls 5 [(0, .ref aM), (1, .int v1), (2, .int v2), (3, .int v3)] := hl
  refine lv_aload_n hx hb dX9_delay_0 rfl (lv_at hl 0 rfl) ?_
  refine lv_iload_n hx hb dX9_delay_1 rfl (lv_at hl 1 rfl) ?_
  refine lv_iload_n hx hb dX9_delay_2 rfl (lv_at hl 2 rfl) ?_
  refine dz_kRi (va_runV (As := [_, _]) ⟨hx, hb, hml, hown, hts⟩ (c_isImageN l Z _ _ _ _ _ _ _ _ _ _ _ _ _ _ _ _ _ _ _ _ ha ho hv hns) (cwV 2 hts gX9_delay_X9_isImage rfl rfl rfl (by decide +kernel) ⟨Nat.le_of_ble_eq_true rfl, Nat.le_of_ble_eq_true rfl⟩) (dz_P.preV hE hS hG ho rfl ha) rfl rfl hl.1 rfl (lv_room (Nat.le_of_ble_eq_true rfl)) dX9_delay_3 ⟨Nat.le_of_ble_eq_true rfl, Nat.le_of_ble_eq_true rfl⟩) ?_
  refine lv_topi (fun v_1 ev_1 => ?_)
  obtain rfl : v_1 = 0 := ev_1
  refine lv_if_eq (tgt := 22) hx hb dX9_delay_6 (by decide) (fun c_6 => ?_) (fun c_6 => absurd (by decide) c_6)
  refine lv_iconst (v := 0) hx hb dX9_delay_22 (by decide) ?_
  refine lv_istore (lv' := [(4, .int 0), (0, .ref aM), (1, .int v1), (2, .int v2), (3, .int v3)]) hx hb dX9_delay_23 hl (by decide) rfl (fun ls hl => ?_)
  refine lv_aload_n hx hb dX9_delay_25 rfl (lv_at hl 1 rfl) ?_
  refine lv_iload hx hb dX9_delay_26 (lv_at hl 0 rfl) ?_
  refine lv_if_eq (tgt := 35) hx hb dX9_delay_28 (by decide) (fun c_28 => ?_) (fun c_28 => absurd (by decide) c_28)
  refine lv_iconst (v := 1) hx hb dX9_delay_35 (by decide) ?_
  refine dz_kMi (va_runV (As := [_]) ⟨hx, hb, hml, hown, hts⟩ (c_X9_refused l Z _ _ _ _ _ _ _ _ _ _ _ _ _ _ _ _ _ _ _ ha ho) (cwV 1 hts gX9_delay_X9_refused rfl rfl rfl (by decide +kernel) ⟨Nat.le_of_ble_eq_true rfl, Nat.le_of_ble_eq_true rfl⟩) (dz_P.preV hE hS hG ho rfl ha) rfl rfl hl.1 rfl (lv_room (Nat.le_of_ble_eq_true rfl)) dX9_delay_36 ⟨Nat.le_of_ble_eq_true rfl, Nat.le_of_ble_eq_true rfl⟩) hS (fun x_36_1 G_36_1 ad_36_1 H locs hp_36_1 hG hS => ?_)
  obtain ⟨fr_36_1, rfl, x9_36_1, g_36_1⟩ := hp_36_1
  obtain rfl : x_36_1 = 1 := x9_36_1.trans (by decide)
  refine lv_if_eq (tgt := 46) hx hb dX9_delay_39 (by decide) (fun c_39 => absurd c_39 (by decide)) (fun c_39 => ?_)
  refine lv_iconst (v := 0) hx hb dX9_delay_42 (by decide) ?_
  refine lv_goto (tgt := 57) hx hb dX9_delay_43 (by decide) ?_
  refine W.widen (k := 0) (n := 0) (by first | omega | decide) (by first | omega | decide) ?_
  refine W.iret hx hb hrt (fun t ht hW => dz_endM (f := rv_i) _ hE hS hG ?_ ht hW) (fun q h => hS.2.2 q h) dX9_delay_57
  refine ⟨fun r9 n_0 => (fr_36_1 r9 n_0), rfl, ?_⟩
  exact ⟨rfl, g_36_1⟩

set_option maxHeartbeats 4000000 in
set_option maxRecDepth 100000 in
theorem c_M_delay_out1 (l : Launch) (Z : dzG) (G : dzW) (ad : dzA) (aM nm ns nl nx nf my : Nat) (th dy td ssf sst cfr grw bkk iop : Int32) (f8 f9 f10 f12 f13 f37 : Nat → Int32) (sc : Nat) (v2 v3 : Int32) (ha : ad (39, 0) = aM) (ho : G (39, 0) = some (eO 10 [.int th, .int dy, .int (nI nm), .ref (ad (40, 3)), .ref (ad (40, 4)), .ref (ad (40, 5)), .ref (ad (40, 6)), .int td, .ref (ad (40, 8)), .ref (ad (40, 9)), .ref (ad (40, 10)), .int (nI ns), .ref (ad (40, 12)), .ref (ad (40, 13)), .ref (ad (40, 14)), .int (nI nl), .ref (ad (40, 16)), .ref (ad (40, 17)), .ref (ad (40, 18)), .int (nI nx), .ref (ad (40, 20)), .ref (ad (40, 21)), .ref (ad (40, 22)), .ref (ad (40, 23)), .ref (ad (40, 24)), .int ssf, .int sst, .int cfr, .int grw, .int (nI nf), .ref (ad (40, 30)), .ref (ad (40, 31)), .int bkk, .ref (ad (40, 33)), .ref (ad (40, 34)), .ref (ad (40, 35)), .int iop, .ref (ad (40, 37)), .int (nI my)])) (h8 : G (40, 8) = some (eI Z 484 f8)) (h9 : G (40, 9) = some (eI Z 484 f9)) (h10 : G (40, 10) = some (eI Z 484 f10)) (h12 : G (40, 12) = some (eI Z 5 f12)) (h13 : G (40, 13) = some (eI Z 5 f13)) (h37 : G (40, 37) = some (eI Z 441 f37)) (hsc : sc < ns) (hns : ns ≤ 5) (hro : v2 < 0 ∨ nI (m_im f8 f9 f10 f12 f13 sc).1 ≤ v2) : dzWr l yX9_delay wsX9_delay 3 69 0 0 Z G ad [.ref aM, .int (nI sc), .int v2, .int v3] rv_i (fun (x : Int32) G1 ad1 => (∀ r9 : dzR, r9 ≠ (39, 0) → r9 ≠ (40, 37) → G1 r9 = G r9 ∧ ad1 r9 = ad r9) ∧ ad = ad1 ∧ x = 0 ∧ G1 (39, 0) = some (eO 10 [.int 1, .int dy, .int (nI nm), .ref (ad (40, 3)), .ref (ad (40, 4)), .ref (ad (40, 5)), .ref (ad (40, 6)), .int td, .ref (ad (40, 8)), .ref (ad (40, 9)), .ref (ad (40, 10)), .int (nI ns), .ref (ad (40, 12)), .ref (ad (40, 13)), .ref (ad (40, 14)), .int (nI nl), .ref (ad (40, 16)), .ref (ad (40, 17)), .ref (ad (40, 18)), .int (nI nx), .ref (ad (40, 20)), .ref (ad (40, 21)), .ref (ad (40, 22)), .ref (ad (40, 23)), .ref (ad (40, 24)), .int ssf, .int sst, .int cfr, .int grw, .int (nI nf), .ref (ad (40, 30)), .ref (ad (40, 31)), .int bkk, .ref (ad (40, 33)), .ref (ad (40, 34)), .ref (ad (40, 35)), .int iop, .ref (ad (40, 37)), .int (nI (m_im f8 f9 f10 f12 f13 sc).1)]) ∧ ∃ g, G1 (40, 37) = some (eI Z 441 g) ∧ ∀ k, k < (m_im f8 f9 f10 f12 f13 sc).1 → g k = (m_im f8 f9 f10 f12 f13 sc).2 k) := by
  refine Met.ofW (cc := cX9_delay) (maxL := 5) (ret := (some .int)) (by decide) rfl ?_
  intro p e s m args below meth c s₁ B hml hv
  obtain ⟨rfl, hG, hE⟩ := hv
  have hx := B.exec
  have hb := B.bytes
  have hrt := B.returns
  have hts := atoms_spec (ws := wsX9_delay) B.pre
  have hown : s.vm.findClass RX9 = some m.cls := findClass_of_methodNamed B.named
  have hlocks := B.notSynchronized
  have hS : va_S (dz_A Z) s.heap s.heap [] := va_S.rf
  have hl := lv_entry ([.ref aM, .int (nI sc), .int v2, .int v3]) (n := 5) (Nat.le_of_ble_eq_true rfl)
  rw [lg_entry_eq]
  generalize (lg_sl ([.ref aM, .int (nI sc), .int v2, .int v3]) ++ List.replicate (5 - (lg_sl ([.ref aM, .int (nI sc), .int v2, .int v3])).length) Slot.unset).toArray = ls at hl ⊢
  have hl : lv_has ls 5 [(0, .ref aM), (1, .int (nI sc)), (2, .int v2), (3, .int v3)] := hl
  have hcn := @m_im_c f8 f9 f10 f12 f13 sc
  refine lv_aload_n hx hb dX9_delay_0 rfl (lv_at hl 0 rfl) ?_
  refine lv_iload_n hx hb dX9_delay_1 rfl (lv_at hl 1 rfl) ?_
  refine lv_iload_n hx hb dX9_delay_2 rfl (lv_at hl 2 rfl) ?_
  refine dz_kMi (va_runV (As := [_, _]) ⟨hx, hb, hml, hown, hts⟩ (c_isImageY l Z _ _ _ _ _ _ _ _ _ _ _ _ _ _ _ _ _ _ _ _ _ _ _ _ sc _ ha ho h8 h9 h10 h12 h13 h37 hsc hns) (cwV 2 hts gX9_delay_X9_isImage rfl rfl rfl (by decide +kernel) ⟨Nat.le_of_ble_eq_true rfl, Nat.le_of_ble_eq_true rfl⟩) (dz_P.preV hE hS hG ho rfl ha) rfl rfl hl.1 rfl (lv_room (Nat.le_of_ble_eq_true rfl)) dX9_delay_3 ⟨Nat.le_of_ble_eq_true rfl, Nat.le_of_ble_eq_true rfl⟩) hS (fun x_3_1 G_3_1 ad_3_1 H locs hp_3_1 hG hS => ?_)
  obtain ⟨fr_3_1, rfl, x9_3_1, o_3_1, g_3_1⟩ := hp_3_1
  obtain rfl : x_3_1 = 0 := x9_3_1.trans (dz_b0 (m_ix0 (by omega) hro))
  obtain ⟨gf_3_1, gh_3_1, hgk⟩ := g_3_1
  refine lv_if_eq (tgt := 22) hx hb dX9_delay_6 (by decide) (fun c_6 => ?_) (fun c_6 => absurd (by decide) c_6)
  refine lv_iconst (v := 0) hx hb dX9_delay_22 (by decide) ?_
  refine lv_istore (lv' := [(4, .int 0), (0, .ref aM), (1, .int (nI sc)), (2, .int v2), (3, .int v3)]) hx hb dX9_delay_23 hl (by decide) rfl (fun ls hl => ?_)
  refine lv_aload_n hx hb dX9_delay_25 rfl (lv_at hl 1 rfl) ?_
  refine lv_iload hx hb dX9_delay_26 (lv_at hl 0 rfl) ?_
  refine lv_if_eq (tgt := 35) hx hb dX9_delay_28 (by decide) (fun c_28 => ?_) (fun c_28 => absurd (by decide) c_28)
  refine lv_iconst (v := 1) hx hb dX9_delay_35 (by decide) ?_
  refine dz_kMi (va_runV (As := [_]) ⟨hx, hb, hml, hown, hts⟩ (c_X9_refused l Z _ _ _ _ _ _ _ _ _ _ _ _ _ _ _ _ _ _ _ ha o_3_1) (cwV 1 hts gX9_delay_X9_refused rfl rfl rfl (by decide +kernel) ⟨Nat.le_of_ble_eq_true rfl, Nat.le_of_ble_eq_true rfl⟩) (dz_P.preV hE hS hG o_3_1 rfl ha) rfl rfl hl.1 rfl (lv_room (Nat.le_of_ble_eq_true rfl)) dX9_delay_36 ⟨Nat.le_of_ble_eq_true rfl, Nat.le_of_ble_eq_true rfl⟩) hS (fun x_36_2 G_36_2 ad_36_2 H locs hp_36_2 hG hS => ?_)
  obtain ⟨fr_36_2, rfl, x9_36_2, g_36_2⟩ := hp_36_2
  obtain rfl : x_36_2 = 1 := x9_36_2.trans (by decide)
  refine lv_if_eq (tgt := 46) hx hb dX9_delay_39 (by decide) (fun c_39 => absurd c_39 (by decide)) (fun c_39 => ?_)
  refine lv_iconst (v := 0) hx hb dX9_delay_42 (by decide) ?_
  refine lv_goto (tgt := 57) hx hb dX9_delay_43 (by decide) ?_
  refine W.widen (k := 0) (n := 0) (by first | omega | decide) (by first | omega | decide) ?_
  refine W.iret hx hb hrt (fun t ht hW => dz_endM (f := rv_i) _ hE hS hG ?_ ht hW) (fun q h => hS.2.2 q h) dX9_delay_57
  refine ⟨fun r9 n_0 n_1 => (dz_tr (fr_36_2 r9 n_0) (fr_3_1 r9 n_0 n_1)), rfl, ?_⟩
  exact ⟨rfl, g_36_2, _, ((fr_36_2 _ (dz_n rfl)).1.trans gh_3_1), hgk⟩

set_option maxHeartbeats 4000000 in
set_option maxRecDepth 100000 in
theorem c_M_delay_out2 (l : Launch) (Z : dzG) (G : dzW) (ad : dzA) (aM nm ns nl nx nf my : Nat) (th dy td ssf sst cfr grw bkk iop : Int32) (f8 f9 f10 f12 f13 f37 : Nat → Int32) (sc rk : Nat) (v3 : Int32) (ha : ad (39, 0) = aM) (ho : G (39, 0) = some (eO 10 [.int th, .int dy, .int (nI nm), .ref (ad (40, 3)), .ref (ad (40, 4)), .ref (ad (40, 5)), .ref (ad (40, 6)), .int td, .ref (ad (40, 8)), .ref (ad (40, 9)), .ref (ad (40, 10)), .int (nI ns), .ref (ad (40, 12)), .ref (ad (40, 13)), .ref (ad (40, 14)), .int (nI nl), .ref (ad (40, 16)), .ref (ad (40, 17)), .ref (ad (40, 18)), .int (nI nx), .ref (ad (40, 20)), .ref (ad (40, 21)), .ref (ad (40, 22)), .ref (ad (40, 23)), .ref (ad (40, 24)), .int ssf, .int sst, .int cfr, .int grw, .int (nI nf), .ref (ad (40, 30)), .ref (ad (40, 31)), .int bkk, .ref (ad (40, 33)), .ref (ad (40, 34)), .ref (ad (40, 35)), .int iop, .ref (ad (40, 37)), .int (nI my)])) (h8 : G (40, 8) = some (eI Z 484 f8)) (h9 : G (40, 9) = some (eI Z 484 f9)) (h10 : G (40, 10) = some (eI Z 484 f10)) (h12 : G (40, 12) = some (eI Z 5 f12)) (h13 : G (40, 13) = some (eI Z 5 f13)) (h37 : G (40, 37) = some (eI Z 441 f37)) (hsc : sc < ns) (hns : ns ≤ 5) (hrk : rk < (m_im f8 f9 f10 f12 f13 sc).1) (hro : v3 < 0 ∨ nI (m_im f8 f9 f10 f12 f13 sc).1 ≤ v3) : dzWr l yX9_delay wsX9_delay 3 69 0 0 Z G ad [.ref aM, .int (nI sc), .int (nI rk), .int v3] rv_i (fun (x : Int32) G1 ad1 => (∀ r9 : dzR, r9 ≠ (39, 0) → r9 ≠ (40, 37) → G1 r9 = G r9 ∧ ad1 r9 = ad r9) ∧ ad = ad1 ∧ x = 0 ∧ G1 (39, 0) = some (eO 10 [.int 1, .int dy, .int (nI nm), .ref (ad (40, 3)), .ref (ad (40, 4)), .ref (ad (40, 5)), .ref (ad (40, 6)), .int td, .ref (ad (40, 8)), .ref (ad (40, 9)), .ref (ad (40, 10)), .int (nI ns), .ref (ad (40, 12)), .ref (ad (40, 13)), .ref (ad (40, 14)), .int (nI nl), .ref (ad (40, 16)), .ref (ad (40, 17)), .ref (ad (40, 18)), .int (nI nx), .ref (ad (40, 20)), .ref (ad (40, 21)), .ref (ad (40, 22)), .ref (ad (40, 23)), .ref (ad (40, 24)), .int ssf, .int sst, .int cfr, .int grw, .int (nI nf), .ref (ad (40, 30)), .ref (ad (40, 31)), .int bkk, .ref (ad (40, 33)), .ref (ad (40, 34)), .ref (ad (40, 35)), .int iop, .ref (ad (40, 37)), .int (nI (m_im f8 f9 f10 f12 f13 sc).1)]) ∧ ∃ g, G1 (40, 37) = some (eI Z 441 g) ∧ ∀ k, k < (m_im f8 f9 f10 f12 f13 sc).1 → g k = (m_im f8 f9 f10 f12 f13 sc).2 k) := by
  refine Met.ofW (cc := cX9_delay) (maxL := 5) (ret := (some .int)) (by decide) rfl ?_
  intro p e s m args below meth c s₁ B hml hv
  obtain ⟨rfl, hG, hE⟩ := hv
  have hx := B.exec
  have hb := B.bytes
  have hrt := B.returns
  have hts := atoms_spec (ws := wsX9_delay) B.pre
  have hown : s.vm.findClass RX9 = some m.cls := findClass_of_methodNamed B.named
  have hlocks := B.notSynchronized
  have hS : va_S (dz_A Z) s.heap s.heap [] := va_S.rf
  have hl := lv_entry ([.ref aM, .int (nI sc), .int (nI rk), .int v3]) (n := 5) (Nat.le_of_ble_eq_true rfl)
  rw [lg_entry_eq]
  generalize (lg_sl ([.ref aM, .int (nI sc), .int (nI rk), .int v3]) ++ List.replicate (5 - (lg_sl ([.ref aM, .int (nI sc), .int (nI rk), .int v3])).length) Slot.unset).toArray = ls at hl ⊢
  have hl : lv_has ls 5 [(0, .ref aM), (1, .int (nI sc)), (2, .int (nI rk)), (3, .int v3)] := hl
  have hcn := @m_im_c f8 f9 f10 f12 f13 sc
  refine lv_aload_n hx hb dX9_delay_0 rfl (lv_at hl 0 rfl) ?_
  refine lv_iload_n hx hb dX9_delay_1 rfl (lv_at hl 1 rfl) ?_
  refine lv_iload_n hx hb dX9_delay_2 rfl (lv_at hl 2 rfl) ?_
  refine dz_kMi (va_runV (As := [_, _]) ⟨hx, hb, hml, hown, hts⟩ (c_isImageY l Z _ _ _ _ _ _ _ _ _ _ _ _ _ _ _ _ _ _ _ _ _ _ _ _ sc _ ha ho h8 h9 h10 h12 h13 h37 hsc hns) (cwV 2 hts gX9_delay_X9_isImage rfl rfl rfl (by decide +kernel) ⟨Nat.le_of_ble_eq_true rfl, Nat.le_of_ble_eq_true rfl⟩) (dz_P.preV hE hS hG ho rfl ha) rfl rfl hl.1 rfl (lv_room (Nat.le_of_ble_eq_true rfl)) dX9_delay_3 ⟨Nat.le_of_ble_eq_true rfl, Nat.le_of_ble_eq_true rfl⟩) hS (fun x_3_1 G_3_1 ad_3_1 H locs hp_3_1 hG hS => ?_)
  obtain ⟨fr_3_1, rfl, x9_3_1, o_3_1, g_3_1⟩ := hp_3_1
  obtain rfl : x_3_1 = 1 := x9_3_1.trans (dz_b1 (m_ix1 (by omega) hrk))
  obtain ⟨gf_3_1, gh_3_1, hgk⟩ := g_3_1
  refine lv_if_eq (tgt := 22) hx hb dX9_delay_6 (by decide) (fun c_6 => absurd c_6 (by decide)) (fun c_6 => ?_)
  refine lv_aload_n hx hb dX9_delay_9 rfl (lv_at hl 0 rfl) ?_
  refine lv_iload_n hx hb dX9_delay_10 rfl (lv_at hl 1 rfl) ?_
  refine lv_iload_n hx hb dX9_delay_11 rfl (lv_at hl 3 rfl) ?_
  refine dz_kMi (va_runV (As := [_, _]) ⟨hx, hb, hml, hown, hts⟩ (c_isImageY l Z _ _ _ _ _ _ _ _ _ _ _ _ _ _ _ _ _ _ _ _ _ _ _ _ sc _ ha o_3_1 ((fr_3_1 _ (dz_n rfl) (dz_n2 (by decide))).1.trans h8) ((fr_3_1 _ (dz_n rfl) (dz_n2 (by decide))).1.trans h9) ((fr_3_1 _ (dz_n rfl) (dz_n2 (by decide))).1.trans h10) ((fr_3_1 _ (dz_n rfl) (dz_n2 (by decide))).1.trans h12) ((fr_3_1 _ (dz_n rfl) (dz_n2 (by decide))).1.trans h13) gh_3_1 hsc hns) (cwV 2 hts gX9_delay_X9_isImage rfl rfl rfl (by decide +kernel) ⟨Nat.le_of_ble_eq_true rfl, Nat.le_of_ble_eq_true rfl⟩) (dz_P.preV hE hS hG o_3_1 rfl ha) rfl rfl hl.1 rfl (lv_room (Nat.le_of_ble_eq_true rfl)) dX9_delay_12 ⟨Nat.le_of_ble_eq_true rfl, Nat.le_of_ble_eq_true rfl⟩) hS (fun x_12_2 G_12_2 ad_12_2 H locs hp_12_2 hG hS => ?_)
  obtain ⟨fr_12_2, rfl, x9_12_2, o_12_2, g_12_2⟩ := hp_12_2
  obtain rfl : x_12_2 = 0 := x9_12_2.trans (dz_b0 (m_ix0 (by omega) hro))
  obtain ⟨gf_12_2, gh_12_2, hgk⟩ := g_12_2
  refine lv_if_eq (tgt := 22) hx hb dX9_delay_15 (by decide) (fun c_15 => ?_) (fun c_15 => absurd (by decide) c_15)
  refine lv_iconst (v := 0) hx hb dX9_delay_22 (by decide) ?_
  refine lv_istore (lv' := [(4, .int 0), (0, .ref aM), (1, .int (nI sc)), (2, .int (nI rk)), (3, .int v3)]) hx hb dX9_delay_23 hl (by decide) rfl (fun ls hl => ?_)
  refine lv_aload_n hx hb dX9_delay_25 rfl (lv_at hl 1 rfl) ?_
  refine lv_iload hx hb dX9_delay_26 (lv_at hl 0 rfl) ?_
  refine lv_if_eq (tgt := 35) hx hb dX9_delay_28 (by decide) (fun c_28 => ?_) (fun c_28 => absurd (by decide) c_28)
  refine lv_iconst (v := 1) hx hb dX9_delay_35 (by decide) ?_
  refine dz_kMi (va_runV (As := [_]) ⟨hx, hb, hml, hown, hts⟩ (c_X9_refused l Z _ _ _ _ _ _ _ _ _ _ _ _ _ _ _ _ _ _ _ ha o_12_2) (cwV 1 hts gX9_delay_X9_refused rfl rfl rfl (by decide +kernel) ⟨Nat.le_of_ble_eq_true rfl, Nat.le_of_ble_eq_true rfl⟩) (dz_P.preV hE hS hG o_12_2 rfl ha) rfl rfl hl.1 rfl (lv_room (Nat.le_of_ble_eq_true rfl)) dX9_delay_36 ⟨Nat.le_of_ble_eq_true rfl, Nat.le_of_ble_eq_true rfl⟩) hS (fun x_36_3 G_36_3 ad_36_3 H locs hp_36_3 hG hS => ?_)
  obtain ⟨fr_36_3, rfl, x9_36_3, g_36_3⟩ := hp_36_3
  obtain rfl : x_36_3 = 1 := x9_36_3.trans (by decide)
  refine lv_if_eq (tgt := 46) hx hb dX9_delay_39 (by decide) (fun c_39 => absurd c_39 (by decide)) (fun c_39 => ?_)
  refine lv_iconst (v := 0) hx hb dX9_delay_42 (by decide) ?_
  refine lv_goto (tgt := 57) hx hb dX9_delay_43 (by decide) ?_
  refine W.widen (k := 0) (n := 0) (by first | omega | decide) (by first | omega | decide) ?_
  refine W.iret hx hb hrt (fun t ht hW => dz_endM (f := rv_i) _ hE hS hG ?_ ht hW) (fun q h => hS.2.2 q h) dX9_delay_57
  refine ⟨fun r9 n_0 n_1 => (dz_tr (fr_36_3 r9 n_0) (dz_tr (fr_12_2 r9 n_0 n_1) (fr_3_1 r9 n_0 n_1))), rfl, ?_⟩
  exact ⟨rfl, g_36_3, _, ((fr_36_3 _ (dz_n rfl)).1.trans gh_12_2), hgk⟩

set_option maxHeartbeats 4000000 in
set_option maxRecDepth 100000 in
theorem c_M_delay_ok (l : Launch) (Z : dzG) (G : dzW) (ad : dzA) (aM nm ns nl nx nf my : Nat) (th dy td ssf sst cfr grw bkk iop : Int32) (f8 f9 f10 f12 f13 f37 : Nat → Int32) (sc rk ot j jo j0 : Nat) (ha : ad (39, 0) = aM) (ho : G (39, 0) = some (eO 10 [.int th, .int dy, .int (nI nm), .ref (ad (40, 3)), .ref (ad (40, 4)), .ref (ad (40, 5)), .ref (ad (40, 6)), .int td, .ref (ad (40, 8)), .ref (ad (40, 9)), .ref (ad (40, 10)), .int (nI ns), .ref (ad (40, 12)), .ref (ad (40, 13)), .ref (ad (40, 14)), .int (nI nl), .ref (ad (40, 16)), .ref (ad (40, 17)), .ref (ad (40, 18)), .int (nI nx), .ref (ad (40, 20)), .ref (ad (40, 21)), .ref (ad (40, 22)), .ref (ad (40, 23)), .ref (ad (40, 24)), .int ssf, .int sst, .int cfr, .int grw, .int (nI nf), .ref (ad (40, 30)), .ref (ad (40, 31)), .int bkk, .ref (ad (40, 33)), .ref (ad (40, 34)), .ref (ad (40, 35)), .int iop, .ref (ad (40, 37)), .int (nI my)])) (h8 : G (40, 8) = some (eI Z 484 f8)) (h9 : G (40, 9) = some (eI Z 484 f9)) (h10 : G (40, 10) = some (eI Z 484 f10)) (h12 : G (40, 12) = some (eI Z 5 f12)) (h13 : G (40, 13) = some (eI Z 5 f13)) (h37 : G (40, 37) = some (eI Z 441 f37)) (hsc : sc < ns) (hns : ns ≤ 5) (hrk : rk < (m_im f8 f9 f10 f12 f13 sc).1) (hij : (m_im f8 f9 f10 f12 f13 sc).2 rk = nI j) (hjj : j + 22 < 484) (hot : ot < (m_im f8 f9 f10 f12 f13 sc).1) (hijo : (m_im f8 f9 f10 f12 f13 sc).2 ot = nI jo) (hjjo : jo + 22 < 484) (h00 : (m_im f8 f9 f10 f12 f13 sc).2 0 = nI j0) (hj0 : j0 + 22 < 484) (hgz : ¬ grw = 0) : dzWr l yX9_delay wsX9_delay 3 69 0 0 Z G ad [.ref aM, .int (nI sc), .int (nI rk), .int (nI ot)] rv_i (fun (x : Int32) G1 ad1 => (∀ r9 : dzR, r9 ≠ (39, 0) → r9 ≠ (40, 37) → G1 r9 = G r9 ∧ ad1 r9 = ad r9) ∧ ad = ad1 ∧ x = ((f10 jo - f10 j0) * 20 / grw) - ((f10 j - f10 j0) * 20 / grw) ∧ G1 (39, 0) = some (eO 10 [.int 0, .int dy, .int (nI nm), .ref (ad (40, 3)), .ref (ad (40, 4)), .ref (ad (40, 5)), .ref (ad (40, 6)), .int td, .ref (ad (40, 8)), .ref (ad (40, 9)), .ref (ad (40, 10)), .int (nI ns), .ref (ad (40, 12)), .ref (ad (40, 13)), .ref (ad (40, 14)), .int (nI nl), .ref (ad (40, 16)), .ref (ad (40, 17)), .ref (ad (40, 18)), .int (nI nx), .ref (ad (40, 20)), .ref (ad (40, 21)), .ref (ad (40, 22)), .ref (ad (40, 23)), .ref (ad (40, 24)), .int ssf, .int sst, .int cfr, .int grw, .int (nI nf), .ref (ad (40, 30)), .ref (ad (40, 31)), .int bkk, .ref (ad (40, 33)), .ref (ad (40, 34)), .ref (ad (40, 35)), .int iop, .ref (ad (40, 37)), .int (nI (m_im f8 f9 f10 f12 f13 sc).1)]) ∧ ∃ g, G1 (40, 37) = some (eI Z 441 g) ∧ ∀ k, k < (m_im f8 f9 f10 f12 f13 sc).1 → g k = (m_im f8 f9 f10 f12 f13 sc).2 k) := by
  refine Met.ofW (cc := cX9_delay) (maxL := 5) (ret := (some .int)) (by decide) rfl ?_
  intro p e s m args below meth c s₁ B hml hv
  obtain ⟨rfl, hG, hE⟩ := hv
  have hx := B.exec
  have hb := B.bytes
  have hrt := B.returns
  have hts := atoms_spec (ws := wsX9_delay) B.pre
  have hown : s.vm.findClass RX9 = some m.cls := findClass_of_methodNamed B.named
  have hlocks := B.notSynchronized
  have hS : va_S (dz_A Z) s.heap s.heap [] := va_S.rf
  have hl := lv_entry ([.ref aM, .int (nI sc), .int (nI rk), .int (nI ot)]) (n := 5) (Nat.le_of_ble_eq_true rfl)
  rw [lg_entry_eq]
  generalize (lg_sl ([.ref aM, .int (nI sc), .int (nI rk), .int (nI ot)]) ++ List.replicate (5 - (lg_sl ([.ref aM, .int (nI sc), .int (nI rk), .int (nI ot)])).length) Slot.unset).toArray = ls at hl ⊢
  have hl : lv_has ls 5 [(0, .ref aM), (1, .int (nI sc)), (2, .int (nI rk)), (3, .int (nI ot))] := hl
  have hcn := @m_im_c f8 f9 f10 f12 f13 sc
  refine lv_aload_n hx hb dX9_delay_0 rfl (lv_at hl 0 rfl) ?_
  refine lv_iload_n hx hb dX9_delay_1 rfl (lv_at hl 1 rfl) ?_
  refine lv_iload_n hx hb dX9_delay_2 rfl (lv_at hl 2 rfl) ?_
  refine dz_kMi (va_runV (As := [_, _]) ⟨hx, hb, hml, hown, hts⟩ (c_isImageY l Z _ _ _ _ _ _ _ _ _ _ _ _ _ _ _ _ _ _ _ _ _ _ _ _ sc _ ha ho h8 h9 h10 h12 h13 h37 hsc hns) (cwV 2 hts gX9_delay_X9_isImage rfl rfl rfl (by decide +kernel) ⟨Nat.le_of_ble_eq_true rfl, Nat.le_of_ble_eq_true rfl⟩) (dz_P.preV hE hS hG ho rfl ha) rfl rfl hl.1 rfl (lv_room (Nat.le_of_ble_eq_true rfl)) dX9_delay_3 ⟨Nat.le_of_ble_eq_true rfl, Nat.le_of_ble_eq_true rfl⟩) hS (fun x_3_1 G_3_1 ad_3_1 H locs hp_3_1 hG hS => ?_)
  obtain ⟨fr_3_1, rfl, x9_3_1, o_3_1, g_3_1⟩ := hp_3_1
  obtain rfl : x_3_1 = 1 := x9_3_1.trans (dz_b1 (m_ix1 (by omega) hrk))
  obtain ⟨gf_3_1, gh_3_1, hgk⟩ := g_3_1
  refine lv_if_eq (tgt := 22) hx hb dX9_delay_6 (by decide) (fun c_6 => absurd c_6 (by decide)) (fun c_6 => ?_)
  refine lv_aload_n hx hb dX9_delay_9 rfl (lv_at hl 0 rfl) ?_
  refine lv_iload_n hx hb dX9_delay_10 rfl (lv_at hl 1 rfl) ?_
  refine lv_iload_n hx hb dX9_delay_11 rfl (lv_at hl 3 rfl) ?_
  refine dz_kMi (va_runV (As := [_, _]) ⟨hx, hb, hml, hown, hts⟩ (c_isImageY l Z _ _ _ _ _ _ _ _ _ _ _ _ _ _ _ _ _ _ _ _ _ _ _ _ sc _ ha o_3_1 ((fr_3_1 _ (dz_n rfl) (dz_n2 (by decide))).1.trans h8) ((fr_3_1 _ (dz_n rfl) (dz_n2 (by decide))).1.trans h9) ((fr_3_1 _ (dz_n rfl) (dz_n2 (by decide))).1.trans h10) ((fr_3_1 _ (dz_n rfl) (dz_n2 (by decide))).1.trans h12) ((fr_3_1 _ (dz_n rfl) (dz_n2 (by decide))).1.trans h13) gh_3_1 hsc hns) (cwV 2 hts gX9_delay_X9_isImage rfl rfl rfl (by decide +kernel) ⟨Nat.le_of_ble_eq_true rfl, Nat.le_of_ble_eq_true rfl⟩) (dz_P.preV hE hS hG o_3_1 rfl ha) rfl rfl hl.1 rfl (lv_room (Nat.le_of_ble_eq_true rfl)) dX9_delay_12 ⟨Nat.le_of_ble_eq_true rfl, Nat.le_of_ble_eq_true rfl⟩) hS (fun x_12_2 G_12_2 ad_12_2 H locs hp_12_2 hG hS => ?_)
  obtain ⟨fr_12_2, rfl, x9_12_2, o_12_2, g_12_2⟩ := hp_12_2
  obtain rfl : x_12_2 = 1 := x9_12_2.trans (dz_b1 (m_ix1 (by omega) hot))
  obtain ⟨gf_12_2, gh_12_2, hgk⟩ := g_12_2
  refine lv_if_eq (tgt := 22) hx hb dX9_delay_15 (by decide) (fun c_15 => absurd c_15 (by decide)) (fun c_15 => ?_)
  refine lv_iconst (v := 1) hx hb dX9_delay_18 (by decide) ?_
  refine lv_goto (tgt := 23) hx hb dX9_delay_19 (by decide) ?_
  refine lv_istore (lv' := [(4, .int 1), (0, .ref aM), (1, .int (nI sc)), (2, .int (nI rk)), (3, .int (nI ot))]) hx hb dX9_delay_23 hl (by decide) rfl (fun ls hl => ?_)
  refine lv_aload_n hx hb dX9_delay_25 rfl (lv_at hl 1 rfl) ?_
  refine lv_iload hx hb dX9_delay_26 (lv_at hl 0 rfl) ?_
  refine lv_if_eq (tgt := 35) hx hb dX9_delay_28 (by decide) (fun c_28 => absurd c_28 (by decide)) (fun c_28 => ?_)
  refine lv_iconst (v := 0) hx hb dX9_delay_31 (by decide) ?_
  refine lv_goto (tgt := 36) hx hb dX9_delay_32 (by decide) ?_
  refine dz_kMi (va_runV (As := [_]) ⟨hx, hb, hml, hown, hts⟩ (c_X9_refused l Z _ _ _ _ _ _ _ _ _ _ _ _ _ _ _ _ _ _ _ ha o_12_2) (cwV 1 hts gX9_delay_X9_refused rfl rfl rfl (by decide +kernel) ⟨Nat.le_of_ble_eq_true rfl, Nat.le_of_ble_eq_true rfl⟩) (dz_P.preV hE hS hG o_12_2 rfl ha) rfl rfl hl.1 rfl (lv_room (Nat.le_of_ble_eq_true rfl)) dX9_delay_36 ⟨Nat.le_of_ble_eq_true rfl, Nat.le_of_ble_eq_true rfl⟩) hS (fun x_36_3 G_36_3 ad_36_3 H locs hp_36_3 hG hS => ?_)
  obtain ⟨fr_36_3, rfl, x9_36_3, g_36_3⟩ := hp_36_3
  obtain rfl : x_36_3 = 0 := x9_36_3.trans (by decide)
  refine lv_if_eq (tgt := 46) hx hb dX9_delay_39 (by decide) (fun c_39 => ?_) (fun c_39 => absurd (by decide) c_39)
  refine lv_aload_n hx hb dX9_delay_46 rfl (lv_at hl 1 rfl) ?_
  refine lv_iload_n hx hb dX9_delay_47 rfl (lv_at hl 4 rfl) ?_
  refine dz_kRi (va_runV (As := [_]) ⟨hx, hb, hml, hown, hts⟩ (c_X9_lateOf l Z _ _ _ _ _ _ _ _ _ _ _ _ _ _ _ _ _ _ _ _ _ jo j0 ha g_36_3 ((fr_36_3 _ (dz_n rfl)).1.trans ((fr_12_2 _ (dz_n rfl) (dz_n2 (by decide))).1.trans ((fr_3_1 _ (dz_n rfl) (dz_n2 (by decide))).1.trans h10))) ((fr_36_3 _ (dz_n rfl)).1.trans gh_12_2) (show ot < 441 from by omega) ((hgk ot hot).trans hijo) ((hgk 0 (by omega)).trans h00) (by omega) (by omega) hgz) (cwV 1 hts gX9_delay_X9_lateOf rfl rfl rfl (by decide +kernel) ⟨Nat.le_of_ble_eq_true rfl, Nat.le_of_ble_eq_true rfl⟩) (dz_P.preV hE hS hG g_36_3 rfl ha) rfl rfl hl.1 rfl (lv_room (Nat.le_of_ble_eq_true rfl)) dX9_delay_48 ⟨Nat.le_of_ble_eq_true rfl, Nat.le_of_ble_eq_true rfl⟩) ?_
  refine lv_topi (fun v_1 ev_1 => ?_)
  obtain rfl : v_1 = ((f10 jo - f10 j0) * 20 / grw) := ev_1
  refine lv_aload_n hx hb dX9_delay_51 rfl (lv_at hl 1 rfl) ?_
  refine lv_iload_n hx hb dX9_delay_52 rfl (lv_at hl 3 rfl) ?_
  refine dz_kRi (va_runV (As := [_]) ⟨hx, hb, hml, hown, hts⟩ (c_X9_lateOf l Z _ _ _ _ _ _ _ _ _ _ _ _ _ _ _ _ _ _ _ _ _ j j0 ha g_36_3 ((fr_36_3 _ (dz_n rfl)).1.trans ((fr_12_2 _ (dz_n rfl) (dz_n2 (by decide))).1.trans ((fr_3_1 _ (dz_n rfl) (dz_n2 (by decide))).1.trans h10))) ((fr_36_3 _ (dz_n rfl)).1.trans gh_12_2) (show rk < 441 from by omega) ((hgk rk hrk).trans hij) ((hgk 0 (by omega)).trans h00) (by omega) (by omega) hgz) (cwV 1 hts gX9_delay_X9_lateOf rfl rfl rfl (by decide +kernel) ⟨Nat.le_of_ble_eq_true rfl, Nat.le_of_ble_eq_true rfl⟩) (dz_P.preV hE hS hG g_36_3 rfl ha) rfl rfl hl.1 rfl (lv_room (Nat.le_of_ble_eq_true rfl)) dX9_delay_53 ⟨Nat.le_of_ble_eq_true rfl, Nat.le_of_ble_eq_true rfl⟩) ?_
  refine lv_topi (fun v_2 ev_2 => ?_)
  obtain rfl : v_2 = ((f10 j - f10 j0) * 20 / grw) := ev_2
  refine lv_isub hx hb dX9_delay_56 ?_
  refine W.widen (k := 0) (n := 0) (by first | omega | decide) (by first | omega | decide) ?_
  refine W.iret hx hb hrt (fun t ht hW => dz_endM (f := rv_i) _ hE hS hG ?_ ht hW) (fun q h => hS.2.2 q h) dX9_delay_57
  refine ⟨fun r9 n_0 n_1 => (dz_tr (fr_36_3 r9 n_0) (dz_tr (fr_12_2 r9 n_0 n_1) (fr_3_1 r9 n_0 n_1))), rfl, ?_⟩
  exact ⟨rfl, g_36_3, _, ((fr_36_3 _ (dz_n rfl)).1.trans gh_12_2), hgk⟩

set_option maxHeartbeats 4000000 in
set_option maxRecDepth 100000 in
theorem c_M_light_no (l : Launch) (Z : dzG) (G : dzW) (ad : dzA) (aM nm ns nl nx nf my : Nat) (th dy td ssf sst cfr grw bkk iop : Int32) (v1 v2 : Int32) (ha : ad (39, 0) = aM) (ho : G (39, 0) = some (eO 10 [.int th, .int dy, .int (nI nm), .ref (ad (40, 3)), .ref (ad (40, 4)), .ref (ad (40, 5)), .ref (ad (40, 6)), .int td, .ref (ad (40, 8)), .ref (ad (40, 9)), .ref (ad (40, 10)), .int (nI ns), .ref (ad (40, 12)), .ref (ad (40, 13)), .ref (ad (40, 14)), .int (nI nl), .ref (ad (40, 16)), .ref (ad (40, 17)), .ref (ad (40, 18)), .int (nI nx), .ref (ad (40, 20)), .ref (ad (40, 21)), .ref (ad (40, 22)), .ref (ad (40, 23)), .ref (ad (40, 24)), .int ssf, .int sst, .int cfr, .int grw, .int (nI nf), .ref (ad (40, 30)), .ref (ad (40, 31)), .int bkk, .ref (ad (40, 33)), .ref (ad (40, 34)), .ref (ad (40, 35)), .int iop, .ref (ad (40, 37)), .int (nI my)])) (hv : v1 < 0 ∨ nI ns ≤ v1) (hns : ns ≤ 5) : dzWr l yX9_light wsX9_light 3 65 0 0 Z G ad [.ref aM, .int v1, .int v2] rv_i (fun (x : Int32) G1 ad1 => (∀ r9 : dzR, r9 ≠ (39, 0) → G1 r9 = G r9 ∧ ad1 r9 = ad r9) ∧ ad = ad1 ∧ x = 0 ∧ G1 (39, 0) = some (eO 10 [.int 1, .int dy, .int (nI nm), .ref (ad (40, 3)), .ref (ad (40, 4)), .ref (ad (40, 5)), .ref (ad (40, 6)), .int td, .ref (ad (40, 8)), .ref (ad (40, 9)), .ref (ad (40, 10)), .int (nI ns), .ref (ad (40, 12)), .ref (ad (40, 13)), .ref (ad (40, 14)), .int (nI nl), .ref (ad (40, 16)), .ref (ad (40, 17)), .ref (ad (40, 18)), .int (nI nx), .ref (ad (40, 20)), .ref (ad (40, 21)), .ref (ad (40, 22)), .ref (ad (40, 23)), .ref (ad (40, 24)), .int ssf, .int sst, .int cfr, .int grw, .int (nI nf), .ref (ad (40, 30)), .ref (ad (40, 31)), .int bkk, .ref (ad (40, 33)), .ref (ad (40, 34)), .ref (ad (40, 35)), .int iop, .ref (ad (40, 37)), .int (nI my)])) := by
  refine Met.ofW (cc := cX9_light) (maxL := 4) (ret := (some .int)) (by decide) rfl ?_
  intro p e s m args below meth c s₁ B hml hv
  obtain ⟨rfl, hG, hE⟩ := hv
  have hx := B.exec
  have hb := B.bytes
  have hrt := B.returns
  have hts := atoms_spec (ws := wsX9_light) B.pre
  have hown : s.vm.findClass RX9 = some m.cls := findClass_of_methodNamed B.named
  have hlocks := B.notSynchronized
  have hS : va_S (dz_A Z) s.heap s.heap [] := va_S.rf
  have hl := lv_entry ([.ref aM, .int v1, .int v2]) (n := 4) (Nat.le_of_ble_eq_true rfl)
  rw [lg_entry_eq]
  generalize (lg_sl ([.ref aM, .int v1, .int v2]) ++ List.replicate (4 - (lg_sl ([.ref aM, .int v1, .int v2])).length) Slot.unset).toArray = ls at hl ⊢
  have hl : lv_has ls 4 [(0, .ref aM), (1, .int v1), (2, .int v2)] := hl
  refine lv_aload_n hx hb dX9_light_0 rfl (lv_at hl 0 rfl) ?_
  refine lv_iload_n hx hb dX9_light_1 rfl (lv_at hl 1 rfl) ?_
  refine lv_iload_n hx hb dX9_light_2 rfl (lv_at hl 2 rfl) ?_
  refine dz_kRi (va_runV (As := [_, _]) ⟨hx, hb, hml, hown, hts⟩ (c_isImageN l Z _ _ _ _ _ _ _ _ _ _ _ _ _ _ _ _ _ _ _ _ ha ho hv hns) (cwV 2 hts gX9_light_X9_isImage rfl rfl rfl (by decide +kernel) ⟨Nat.le_of_ble_eq_true rfl, Nat.le_of_ble_eq_true rfl⟩) (dz_P.preV hE hS hG ho rfl ha) rfl rfl hl.1 rfl (lv_room (Nat.le_of_ble_eq_true rfl)) dX9_light_3 ⟨Nat.le_of_ble_eq_true rfl, Nat.le_of_ble_eq_true rfl⟩) ?_
  refine lv_topi (fun v_1 ev_1 => ?_)
  obtain rfl : v_1 = 0 := ev_1
  refine lv_istore_n (lv' := [(3, .int 0), (0, .ref aM), (1, .int v1), (2, .int v2)]) hx hb dX9_light_6 rfl hl (by decide) rfl (fun ls hl => ?_)
  refine lv_aload_n hx hb dX9_light_7 rfl (lv_at hl 1 rfl) ?_
  refine lv_iload_n hx hb dX9_light_8 rfl (lv_at hl 0 rfl) ?_
  refine lv_if_eq (tgt := 16) hx hb dX9_light_9 (by decide) (fun c_9 => ?_) (fun c_9 => absurd (by decide) c_9)
  refine lv_iconst (v := 1) hx hb dX9_light_16 (by decide) ?_
  refine dz_kMi (va_runV (As := [_]) ⟨hx, hb, hml, hown, hts⟩ (c_X9_refused l Z _ _ _ _ _ _ _ _ _ _ _ _ _ _ _ _ _ _ _ ha ho) (cwV 1 hts gX9_light_X9_refused rfl rfl rfl (by decide +kernel) ⟨Nat.le_of_ble_eq_true rfl, Nat.le_of_ble_eq_true rfl⟩) (dz_P.preV hE hS hG ho rfl ha) rfl rfl hl.1 rfl (lv_room (Nat.le_of_ble_eq_true rfl)) dX9_light_17 ⟨Nat.le_of_ble_eq_true rfl, Nat.le_of_ble_eq_true rfl⟩) hS (fun x_17_1 G_17_1 ad_17_1 H locs hp_17_1 hG hS => ?_)
  obtain ⟨fr_17_1, rfl, x9_17_1, g_17_1⟩ := hp_17_1
  obtain rfl : x_17_1 = 1 := x9_17_1.trans (by decide)
  refine lv_if_eq (tgt := 27) hx hb dX9_light_20 (by decide) (fun c_20 => absurd c_20 (by decide)) (fun c_20 => ?_)
  refine lv_iconst (v := 0) hx hb dX9_light_23 (by decide) ?_
  refine lv_goto (tgt := 33) hx hb dX9_light_24 (by decide) ?_
  refine W.widen (k := 0) (n := 0) (by first | omega | decide) (by first | omega | decide) ?_
  refine W.iret hx hb hrt (fun t ht hW => dz_endM (f := rv_i) _ hE hS hG ?_ ht hW) (fun q h => hS.2.2 q h) dX9_light_33
  refine ⟨fun r9 n_0 => (fr_17_1 r9 n_0), rfl, ?_⟩
  exact ⟨rfl, g_17_1⟩

set_option maxHeartbeats 4000000 in
set_option maxRecDepth 100000 in
theorem c_M_light_out (l : Launch) (Z : dzG) (G : dzW) (ad : dzA) (aM nm ns nl nx nf my : Nat) (th dy td ssf sst cfr grw bkk iop : Int32) (f8 f9 f10 f12 f13 f37 : Nat → Int32) (sc : Nat) (v2 : Int32) (ha : ad (39, 0) = aM) (ho : G (39, 0) = some (eO 10 [.int th, .int dy, .int (nI nm), .ref (ad (40, 3)), .ref (ad (40, 4)), .ref (ad (40, 5)), .ref (ad (40, 6)), .int td, .ref (ad (40, 8)), .ref (ad (40, 9)), .ref (ad (40, 10)), .int (nI ns), .ref (ad (40, 12)), .ref (ad (40, 13)), .ref (ad (40, 14)), .int (nI nl), .ref (ad (40, 16)), .ref (ad (40, 17)), .ref (ad (40, 18)), .int (nI nx), .ref (ad (40, 20)), .ref (ad (40, 21)), .ref (ad (40, 22)), .ref (ad (40, 23)), .ref (ad (40, 24)), .int ssf, .int sst, .int cfr, .int grw, .int (nI nf), .ref (ad (40, 30)), .ref (ad (40, 31)), .int bkk, .ref (ad (40, 33)), .ref (ad (40, 34)), .ref (ad (40, 35)), .int iop, .ref (ad (40, 37)), .int (nI my)])) (h8 : G (40, 8) = some (eI Z 484 f8)) (h9 : G (40, 9) = some (eI Z 484 f9)) (h10 : G (40, 10) = some (eI Z 484 f10)) (h12 : G (40, 12) = some (eI Z 5 f12)) (h13 : G (40, 13) = some (eI Z 5 f13)) (h37 : G (40, 37) = some (eI Z 441 f37)) (hsc : sc < ns) (hns : ns ≤ 5) (hro : v2 < 0 ∨ nI (m_im f8 f9 f10 f12 f13 sc).1 ≤ v2) : dzWr l yX9_light wsX9_light 3 69 0 0 Z G ad [.ref aM, .int (nI sc), .int v2] rv_i (fun (x : Int32) G1 ad1 => (∀ r9 : dzR, r9 ≠ (39, 0) → r9 ≠ (40, 37) → G1 r9 = G r9 ∧ ad1 r9 = ad r9) ∧ ad = ad1 ∧ x = 0 ∧ G1 (39, 0) = some (eO 10 [.int 1, .int dy, .int (nI nm), .ref (ad (40, 3)), .ref (ad (40, 4)), .ref (ad (40, 5)), .ref (ad (40, 6)), .int td, .ref (ad (40, 8)), .ref (ad (40, 9)), .ref (ad (40, 10)), .int (nI ns), .ref (ad (40, 12)), .ref (ad (40, 13)), .ref (ad (40, 14)), .int (nI nl), .ref (ad (40, 16)), .ref (ad (40, 17)), .ref (ad (40, 18)), .int (nI nx), .ref (ad (40, 20)), .ref (ad (40, 21)), .ref (ad (40, 22)), .ref (ad (40, 23)), .ref (ad (40, 24)), .int ssf, .int sst, .int cfr, .int grw, .int (nI nf), .ref (ad (40, 30)), .ref (ad (40, 31)), .int bkk, .ref (ad (40, 33)), .ref (ad (40, 34)), .ref (ad (40, 35)), .int iop, .ref (ad (40, 37)), .int (nI (m_im f8 f9 f10 f12 f13 sc).1)]) ∧ ∃ g, G1 (40, 37) = some (eI Z 441 g) ∧ ∀ k, k < (m_im f8 f9 f10 f12 f13 sc).1 → g k = (m_im f8 f9 f10 f12 f13 sc).2 k) := by
  refine Met.ofW (cc := cX9_light) (maxL := 4) (ret := (some .int)) (by decide) rfl ?_
  intro p e s m args below meth c s₁ B hml hv
  obtain ⟨rfl, hG, hE⟩ := hv
  have hx := B.exec
  have hb := B.bytes
  have hrt := B.returns
  have hts := atoms_spec (ws := wsX9_light) B.pre
  have hown : s.vm.findClass RX9 = some m.cls := findClass_of_methodNamed B.named
  have hlocks := B.notSynchronized
  have hS : va_S (dz_A Z) s.heap s.heap [] := va_S.rf
  have hl := lv_entry ([.ref aM, .int (nI sc), .int v2]) (n := 4) (Nat.le_of_ble_eq_true rfl)
  rw [lg_entry_eq]
  generalize (lg_sl ([.ref aM, .int (nI sc), .int v2]) ++ List.replicate (4 - (lg_sl ([.ref aM, .int (nI sc), .int v2])).length) Slot.unset).toArray = ls at hl ⊢
  have hl : lv_has ls 4 [(0, .ref aM), (1, .int (nI sc)), (2, .int v2)] := hl
  have hcn := @m_im_c f8 f9 f10 f12 f13 sc
  refine lv_aload_n hx hb dX9_light_0 rfl (lv_at hl 0 rfl) ?_
  refine lv_iload_n hx hb dX9_light_1 rfl (lv_at hl 1 rfl) ?_
  refine lv_iload_n hx hb dX9_light_2 rfl (lv_at hl 2 rfl) ?_
  refine dz_kMi (va_runV (As := [_, _]) ⟨hx, hb, hml, hown, hts⟩ (c_isImageY l Z _ _ _ _ _ _ _ _ _ _ _ _ _ _ _ _ _ _ _ _ _ _ _ _ sc _ ha ho h8 h9 h10 h12 h13 h37 hsc hns) (cwV 2 hts gX9_light_X9_isImage rfl rfl rfl (by decide +kernel) ⟨Nat.le_of_ble_eq_true rfl, Nat.le_of_ble_eq_true rfl⟩) (dz_P.preV hE hS hG ho rfl ha) rfl rfl hl.1 rfl (lv_room (Nat.le_of_ble_eq_true rfl)) dX9_light_3 ⟨Nat.le_of_ble_eq_true rfl, Nat.le_of_ble_eq_true rfl⟩) hS (fun x_3_1 G_3_1 ad_3_1 H locs hp_3_1 hG hS => ?_)
  obtain ⟨fr_3_1, rfl, x9_3_1, o_3_1, g_3_1⟩ := hp_3_1
  obtain rfl : x_3_1 = 0 := x9_3_1.trans (dz_b0 (m_ix0 (by omega) hro))
  obtain ⟨gf_3_1, gh_3_1, hgk⟩ := g_3_1
  refine lv_istore_n (lv' := [(3, .int 0), (0, .ref aM), (1, .int (nI sc)), (2, .int v2)]) hx hb dX9_light_6 rfl hl (by decide) rfl (fun ls hl => ?_)
  refine lv_aload_n hx hb dX9_light_7 rfl (lv_at hl 1 rfl) ?_
  refine lv_iload_n hx hb dX9_light_8 rfl (lv_at hl 0 rfl) ?_
  refine lv_if_eq (tgt := 16) hx hb dX9_light_9 (by decide) (fun c_9 => ?_) (fun c_9 => absurd (by decide) c_9)
  refine lv_iconst (v := 1) hx hb dX9_light_16 (by decide) ?_
  refine dz_kMi (va_runV (As := [_]) ⟨hx, hb, hml, hown, hts⟩ (c_X9_refused l Z _ _ _ _ _ _ _ _ _ _ _ _ _ _ _ _ _ _ _ ha o_3_1) (cwV 1 hts gX9_light_X9_refused rfl rfl rfl (by decide +kernel) ⟨Nat.le_of_ble_eq_true rfl, Nat.le_of_ble_eq_true rfl⟩) (dz_P.preV hE hS hG o_3_1 rfl ha) rfl rfl hl.1 rfl (lv_room (Nat.le_of_ble_eq_true rfl)) dX9_light_17 ⟨Nat.le_of_ble_eq_true rfl, Nat.le_of_ble_eq_true rfl⟩) hS (fun x_17_2 G_17_2 ad_17_2 H locs hp_17_2 hG hS => ?_)
  obtain ⟨fr_17_2, rfl, x9_17_2, g_17_2⟩ := hp_17_2
  obtain rfl : x_17_2 = 1 := x9_17_2.trans (by decide)
  refine lv_if_eq (tgt := 27) hx hb dX9_light_20 (by decide) (fun c_20 => absurd c_20 (by decide)) (fun c_20 => ?_)
  refine lv_iconst (v := 0) hx hb dX9_light_23 (by decide) ?_
  refine lv_goto (tgt := 33) hx hb dX9_light_24 (by decide) ?_
  refine W.widen (k := 0) (n := 0) (by first | omega | decide) (by first | omega | decide) ?_
  refine W.iret hx hb hrt (fun t ht hW => dz_endM (f := rv_i) _ hE hS hG ?_ ht hW) (fun q h => hS.2.2 q h) dX9_light_33
  refine ⟨fun r9 n_0 n_1 => (dz_tr (fr_17_2 r9 n_0) (fr_3_1 r9 n_0 n_1)), rfl, ?_⟩
  exact ⟨rfl, g_17_2, _, ((fr_17_2 _ (dz_n rfl)).1.trans gh_3_1), hgk⟩

set_option maxHeartbeats 4000000 in
set_option maxRecDepth 100000 in
theorem c_M_light_ok (l : Launch) (Z : dzG) (G : dzW) (ad : dzA) (aM nm ns nl nx nf my : Nat) (th dy td ssf sst cfr grw bkk iop : Int32) (f8 f9 f10 f12 f13 f14 f16 f17 f18 f20 f21 f22 f23 f24 f37 : Nat → Int32) (sc rk j j0 : Nat) (ha : ad (39, 0) = aM) (ho : G (39, 0) = some (eO 10 [.int th, .int dy, .int (nI nm), .ref (ad (40, 3)), .ref (ad (40, 4)), .ref (ad (40, 5)), .ref (ad (40, 6)), .int td, .ref (ad (40, 8)), .ref (ad (40, 9)), .ref (ad (40, 10)), .int (nI ns), .ref (ad (40, 12)), .ref (ad (40, 13)), .ref (ad (40, 14)), .int (nI nl), .ref (ad (40, 16)), .ref (ad (40, 17)), .ref (ad (40, 18)), .int (nI nx), .ref (ad (40, 20)), .ref (ad (40, 21)), .ref (ad (40, 22)), .ref (ad (40, 23)), .ref (ad (40, 24)), .int ssf, .int sst, .int cfr, .int grw, .int (nI nf), .ref (ad (40, 30)), .ref (ad (40, 31)), .int bkk, .ref (ad (40, 33)), .ref (ad (40, 34)), .ref (ad (40, 35)), .int iop, .ref (ad (40, 37)), .int (nI my)])) (h8 : G (40, 8) = some (eI Z 484 f8)) (h9 : G (40, 9) = some (eI Z 484 f9)) (h10 : G (40, 10) = some (eI Z 484 f10)) (h12 : G (40, 12) = some (eI Z 5 f12)) (h13 : G (40, 13) = some (eI Z 5 f13)) (h14 : G (40, 14) = some (eI Z 5 f14)) (h16 : G (40, 16) = some (eI Z 40 f16)) (h17 : G (40, 17) = some (eI Z 40 f17)) (h18 : G (40, 18) = some (eI Z 40 f18)) (h20 : G (40, 20) = some (eI Z 20 f20)) (h21 : G (40, 21) = some (eI Z 20 f21)) (h22 : G (40, 22) = some (eI Z 20 f22)) (h23 : G (40, 23) = some (eI Z 20 f23)) (h24 : G (40, 24) = some (eI Z 20 f24)) (h37 : G (40, 37) = some (eI Z 441 f37)) (hsc : sc < ns) (hns : ns ≤ 5) (hnl : nl ≤ 40) (hnx : nx ≤ 20) (hrk : rk < (m_im f8 f9 f10 f12 f13 sc).1) (hij : (m_im f8 f9 f10 f12 f13 sc).2 rk = nI j) (hjj : j + 22 < 484) (h00 : (m_im f8 f9 f10 f12 f13 sc).2 0 = nI j0) (hj0 : j0 + 22 < 484) (hgz : ¬ grw = 0) (hsw : ∀ k, k < nx → ¬ f23 k = 0) : dzWr l yX9_light wsX9_light 3 75 0 0 Z G ad [.ref aM, .int (nI sc), .int (nI rk)] rv_i (fun (x : Int32) G1 ad1 => (∀ r9 : dzR, r9 ≠ (39, 0) → r9 ≠ (40, 37) → G1 r9 = G r9 ∧ ad1 r9 = ad r9) ∧ ad = ad1 ∧ x = m_mst (m_abs (m_times (m_turn (fun j => m_pc j - f8 j) (fun j => m_pr j - f9 j) j)) * m_pos (m_mfl (f14 sc) f16 f17 f18 (nI sc) (dy - ((f10 j - f10 j0) * 20 / grw)) nl)) f20 f21 f22 f23 f24 (nI sc) (nI rk) dy nx ∧ G1 (39, 0) = some (eO 10 [.int 0, .int dy, .int (nI nm), .ref (ad (40, 3)), .ref (ad (40, 4)), .ref (ad (40, 5)), .ref (ad (40, 6)), .int td, .ref (ad (40, 8)), .ref (ad (40, 9)), .ref (ad (40, 10)), .int (nI ns), .ref (ad (40, 12)), .ref (ad (40, 13)), .ref (ad (40, 14)), .int (nI nl), .ref (ad (40, 16)), .ref (ad (40, 17)), .ref (ad (40, 18)), .int (nI nx), .ref (ad (40, 20)), .ref (ad (40, 21)), .ref (ad (40, 22)), .ref (ad (40, 23)), .ref (ad (40, 24)), .int ssf, .int sst, .int cfr, .int grw, .int (nI nf), .ref (ad (40, 30)), .ref (ad (40, 31)), .int bkk, .ref (ad (40, 33)), .ref (ad (40, 34)), .ref (ad (40, 35)), .int iop, .ref (ad (40, 37)), .int (nI (m_im f8 f9 f10 f12 f13 sc).1)]) ∧ ∃ g, G1 (40, 37) = some (eI Z 441 g) ∧ ∀ k, k < (m_im f8 f9 f10 f12 f13 sc).1 → g k = (m_im f8 f9 f10 f12 f13 sc).2 k) := by
  refine Met.ofW (cc := cX9_light) (maxL := 4) (ret := (some .int)) (by decide) rfl ?_
  intro p e s m args below meth c s₁ B hml hv
  obtain ⟨rfl, hG, hE⟩ := hv
  have hx := B.exec
  have hb := B.bytes
  have hrt := B.returns
  have hts := atoms_spec (ws := wsX9_light) B.pre
  have hown : s.vm.findClass RX9 = some m.cls := findClass_of_methodNamed B.named
  have hlocks := B.notSynchronized
  have hS : va_S (dz_A Z) s.heap s.heap [] := va_S.rf
  have hl := lv_entry ([.ref aM, .int (nI sc), .int (nI rk)]) (n := 4) (Nat.le_of_ble_eq_true rfl)
  rw [lg_entry_eq]
  generalize (lg_sl ([.ref aM, .int (nI sc), .int (nI rk)]) ++ List.replicate (4 - (lg_sl ([.ref aM, .int (nI sc), .int (nI rk)])).length) Slot.unset).toArray = ls at hl ⊢
  have hl : lv_has ls 4 [(0, .ref aM), (1, .int (nI sc)), (2, .int (nI rk))] := hl
  have hcn := @m_im_c f8 f9 f10 f12 f13 sc
  refine lv_aload_n hx hb dX9_light_0 rfl (lv_at hl 0 rfl) ?_
  refine lv_iload_n hx hb dX9_light_1 rfl (lv_at hl 1 rfl) ?_
  refine lv_iload_n hx hb dX9_light_2 rfl (lv_at hl 2 rfl) ?_
  refine dz_kMi (va_runV (As := [_, _]) ⟨hx, hb, hml, hown, hts⟩ (c_isImageY l Z _ _ _ _ _ _ _ _ _ _ _ _ _ _ _ _ _ _ _ _ _ _ _ _ sc _ ha ho h8 h9 h10 h12 h13 h37 hsc hns) (cwV 2 hts gX9_light_X9_isImage rfl rfl rfl (by decide +kernel) ⟨Nat.le_of_ble_eq_true rfl, Nat.le_of_ble_eq_true rfl⟩) (dz_P.preV hE hS hG ho rfl ha) rfl rfl hl.1 rfl (lv_room (Nat.le_of_ble_eq_true rfl)) dX9_light_3 ⟨Nat.le_of_ble_eq_true rfl, Nat.le_of_ble_eq_true rfl⟩) hS (fun x_3_1 G_3_1 ad_3_1 H locs hp_3_1 hG hS => ?_)
  obtain ⟨fr_3_1, rfl, x9_3_1, o_3_1, g_3_1⟩ := hp_3_1
  obtain rfl : x_3_1 = 1 := x9_3_1.trans (dz_b1 (m_ix1 (by omega) hrk))
  obtain ⟨gf_3_1, gh_3_1, hgk⟩ := g_3_1
  refine lv_istore_n (lv' := [(3, .int 1), (0, .ref aM), (1, .int (nI sc)), (2, .int (nI rk))]) hx hb dX9_light_6 rfl hl (by decide) rfl (fun ls hl => ?_)
  refine lv_aload_n hx hb dX9_light_7 rfl (lv_at hl 1 rfl) ?_
  refine lv_iload_n hx hb dX9_light_8 rfl (lv_at hl 0 rfl) ?_
  refine lv_if_eq (tgt := 16) hx hb dX9_light_9 (by decide) (fun c_9 => absurd c_9 (by decide)) (fun c_9 => ?_)
  refine lv_iconst (v := 0) hx hb dX9_light_12 (by decide) ?_
  refine lv_goto (tgt := 17) hx hb dX9_light_13 (by decide) ?_
  refine dz_kMi (va_runV (As := [_]) ⟨hx, hb, hml, hown, hts⟩ (c_X9_refused l Z _ _ _ _ _ _ _ _ _ _ _ _ _ _ _ _ _ _ _ ha o_3_1) (cwV 1 hts gX9_light_X9_refused rfl rfl rfl (by decide +kernel) ⟨Nat.le_of_ble_eq_true rfl, Nat.le_of_ble_eq_true rfl⟩) (dz_P.preV hE hS hG o_3_1 rfl ha) rfl rfl hl.1 rfl (lv_room (Nat.le_of_ble_eq_true rfl)) dX9_light_17 ⟨Nat.le_of_ble_eq_true rfl, Nat.le_of_ble_eq_true rfl⟩) hS (fun x_17_2 G_17_2 ad_17_2 H locs hp_17_2 hG hS => ?_)
  obtain ⟨fr_17_2, rfl, x9_17_2, g_17_2⟩ := hp_17_2
  obtain rfl : x_17_2 = 0 := x9_17_2.trans (by decide)
  refine lv_if_eq (tgt := 27) hx hb dX9_light_20 (by decide) (fun c_20 => ?_) (fun c_20 => absurd (by decide) c_20)
  refine lv_aload_n hx hb dX9_light_27 rfl (lv_at hl 1 rfl) ?_
  refine lv_iload_n hx hb dX9_light_28 rfl (lv_at hl 2 rfl) ?_
  refine lv_iload_n hx hb dX9_light_29 rfl (lv_at hl 3 rfl) ?_
  refine dz_kRi (va_runV (As := [_, _]) ⟨hx, hb, hml, hown, hts⟩ (c_X9_lightOf l Z _ _ _ _ _ _ _ _ _ _ _ _ _ _ _ _ _ _ _ _ _ _ _ _ _ _ _ _ _ _ _ _ _ j j0 ha g_17_2 ((fr_17_2 _ (dz_n rfl)).1.trans ((fr_3_1 _ (dz_n rfl) (dz_n2 (by decide))).1.trans h8)) ((fr_17_2 _ (dz_n rfl)).1.trans ((fr_3_1 _ (dz_n rfl) (dz_n2 (by decide))).1.trans h9)) ((fr_17_2 _ (dz_n rfl)).1.trans ((fr_3_1 _ (dz_n rfl) (dz_n2 (by decide))).1.trans h10)) ((fr_17_2 _ (dz_n rfl)).1.trans ((fr_3_1 _ (dz_n rfl) (dz_n2 (by decide))).1.trans h14)) ((fr_17_2 _ (dz_n rfl)).1.trans ((fr_3_1 _ (dz_n rfl) (dz_n2 (by decide))).1.trans h16)) ((fr_17_2 _ (dz_n rfl)).1.trans ((fr_3_1 _ (dz_n rfl) (dz_n2 (by decide))).1.trans h17)) ((fr_17_2 _ (dz_n rfl)).1.trans ((fr_3_1 _ (dz_n rfl) (dz_n2 (by decide))).1.trans h18)) ((fr_17_2 _ (dz_n rfl)).1.trans ((fr_3_1 _ (dz_n rfl) (dz_n2 (by decide))).1.trans h20)) ((fr_17_2 _ (dz_n rfl)).1.trans ((fr_3_1 _ (dz_n rfl) (dz_n2 (by decide))).1.trans h21)) ((fr_17_2 _ (dz_n rfl)).1.trans ((fr_3_1 _ (dz_n rfl) (dz_n2 (by decide))).1.trans h22)) ((fr_17_2 _ (dz_n rfl)).1.trans ((fr_3_1 _ (dz_n rfl) (dz_n2 (by decide))).1.trans h23)) ((fr_17_2 _ (dz_n rfl)).1.trans ((fr_3_1 _ (dz_n rfl) (dz_n2 (by decide))).1.trans h24)) ((fr_17_2 _ (dz_n rfl)).1.trans gh_3_1) (by omega) hnl hnx (by omega) ((hgk rk hrk).trans hij) hjj ((hgk 0 (by omega)).trans h00) (by omega) hgz hsw) (cwV 2 hts gX9_light_X9_lightOf rfl rfl rfl (by decide +kernel) ⟨Nat.le_of_ble_eq_true rfl, Nat.le_of_ble_eq_true rfl⟩) (dz_P.preV hE hS hG g_17_2 rfl ha) rfl rfl hl.1 rfl (lv_room (Nat.le_of_ble_eq_true rfl)) dX9_light_30 ⟨Nat.le_of_ble_eq_true rfl, Nat.le_of_ble_eq_true rfl⟩) ?_
  refine lv_topi (fun v_1 ev_1 => ?_)
  obtain rfl : v_1 = (m_mst (m_abs (m_times (m_turn (fun j => m_pc j - f8 j) (fun j => m_pr j - f9 j) j)) * m_pos (m_mfl (f14 sc) f16 f17 f18 (nI sc) (dy - ((f10 j - f10 j0) * 20 / grw)) nl)) f20 f21 f22 f23 f24 (nI sc) (nI rk) dy nx) := ev_1
  refine W.widen (k := 0) (n := 0) (by first | omega | decide) (by first | omega | decide) ?_
  refine W.iret hx hb hrt (fun t ht hW => dz_endM (f := rv_i) _ hE hS hG ?_ ht hW) (fun q h => hS.2.2 q h) dX9_light_33
  refine ⟨fun r9 n_0 n_1 => (dz_tr (fr_17_2 r9 n_0) (fr_3_1 r9 n_0 n_1)), rfl, ?_⟩
  exact ⟨rfl, g_17_2, _, ((fr_17_2 _ (dz_n rfl)).1.trans gh_3_1), hgk⟩

set_option maxHeartbeats 4000000 in
set_option maxRecDepth 100000 in
theorem c_M_meas_no (l : Launch) (Z : dzG) (G : dzW) (ad : dzA) (aM nm ns nl nx nf my : Nat) (th dy td ssf sst cfr grw bkk iop : Int32) (v1 v2 v3 : Int32) (ha : ad (39, 0) = aM) (ho : G (39, 0) = some (eO 10 [.int th, .int dy, .int (nI nm), .ref (ad (40, 3)), .ref (ad (40, 4)), .ref (ad (40, 5)), .ref (ad (40, 6)), .int td, .ref (ad (40, 8)), .ref (ad (40, 9)), .ref (ad (40, 10)), .int (nI ns), .ref (ad (40, 12)), .ref (ad (40, 13)), .ref (ad (40, 14)), .int (nI nl), .ref (ad (40, 16)), .ref (ad (40, 17)), .ref (ad (40, 18)), .int (nI nx), .ref (ad (40, 20)), .ref (ad (40, 21)), .ref (ad (40, 22)), .ref (ad (40, 23)), .ref (ad (40, 24)), .int ssf, .int sst, .int cfr, .int grw, .int (nI nf), .ref (ad (40, 30)), .ref (ad (40, 31)), .int bkk, .ref (ad (40, 33)), .ref (ad (40, 34)), .ref (ad (40, 35)), .int iop, .ref (ad (40, 37)), .int (nI my)])) (hv : v1 < 0 ∨ nI ns ≤ v1) (hns : ns ≤ 5) : dzWr l yX9_measured wsX9_measured 3 65 0 0 Z G ad [.ref aM, .int v1, .int v2, .int v3] rv_i (fun (x : Int32) G1 ad1 => (∀ r9 : dzR, r9 ≠ (39, 0) → G1 r9 = G r9 ∧ ad1 r9 = ad r9) ∧ ad = ad1 ∧ x = 0 ∧ G1 (39, 0) = some (eO 10 [.int 1, .int dy, .int (nI nm), .ref (ad (40, 3)), .ref (ad (40, 4)), .ref (ad (40, 5)), .ref (ad (40, 6)), .int td, .ref (ad (40, 8)), .ref (ad (40, 9)), .ref (ad (40, 10)), .int (nI ns), .ref (ad (40, 12)), .ref (ad (40, 13)), .ref (ad (40, 14)), .int (nI nl), .ref (ad (40, 16)), .ref (ad (40, 17)), .ref (ad (40, 18)), .int (nI nx), .ref (ad (40, 20)), .ref (ad (40, 21)), .ref (ad (40, 22)), .ref (ad (40, 23)), .ref (ad (40, 24)), .int ssf, .int sst, .int cfr, .int grw, .int (nI nf), .ref (ad (40, 30)), .ref (ad (40, 31)), .int bkk, .ref (ad (40, 33)), .ref (ad (40, 34)), .ref (ad (40, 35)), .int iop, .ref (ad (40, 37)), .int (nI my)])) := by
  refine Met.ofW (cc := cX9_measured) (maxL := 5) (ret := (some .int)) (by decide) rfl ?_
  intro p e s m args below meth c s₁ B hml hv
  obtain ⟨rfl, hG, hE⟩ := hv
  have hx := B.exec
  have hb := B.bytes
  have hrt := B.returns
  have hts := atoms_spec (ws := wsX9_measured) B.pre
  have hown : s.vm.findClass RX9 = some m.cls := findClass_of_methodNamed B.named
  have hlocks := B.notSynchronized
  have hS : va_S (dz_A Z) s.heap s.heap [] := va_S.rf
  have hl := lv_entry ([.ref aM, .int v1, .int v2, .int v3]) (n := 5) (Nat.le_of_ble_eq_true rfl)
  rw [lg_entry_eq]
  generalize (lg_sl ([.ref aM, .int v1, .int v2, .int v3]) ++ List.replicate (5 - (lg_sl ([.ref aM, .int v1, .int v2, .int v3])).length) Slot.unset).toArray = ls at hl ⊢
  have hl : lv_has ls 5 [(0, .ref aM), (1, .int v1), (2, .int v2), (3, .int v3)] := hl
  refine lv_aload_n hx hb dX9_measured_0 rfl (lv_at hl 0 rfl) ?_
  refine lv_iload_n hx hb dX9_measured_1 rfl (lv_at hl 1 rfl) ?_
  refine lv_iload_n hx hb dX9_measured_2 rfl (lv_at hl 2 rfl) ?_
  refine dz_kRi (va_runV (As := [_, _]) ⟨hx, hb, hml, hown, hts⟩ (c_isImageN l Z _ _ _ _ _ _ _ _ _ _ _ _ _ _ _ _ _ _ _ _ ha ho hv hns) (cwV 2 hts gX9_measured_X9_isImage rfl rfl rfl (by decide +kernel) ⟨Nat.le_of_ble_eq_true rfl, Nat.le_of_ble_eq_true rfl⟩) (dz_P.preV hE hS hG ho rfl ha) rfl rfl hl.1 rfl (lv_room (Nat.le_of_ble_eq_true rfl)) dX9_measured_3 ⟨Nat.le_of_ble_eq_true rfl, Nat.le_of_ble_eq_true rfl⟩) ?_
  refine lv_topi (fun v_1 ev_1 => ?_)
  obtain rfl : v_1 = 0 := ev_1
  refine lv_if_eq (tgt := 22) hx hb dX9_measured_6 (by decide) (fun c_6 => ?_) (fun c_6 => absurd (by decide) c_6)
  refine lv_iconst (v := 0) hx hb dX9_measured_22 (by decide) ?_
  refine lv_istore (lv' := [(4, .int 0), (0, .ref aM), (1, .int v1), (2, .int v2), (3, .int v3)]) hx hb dX9_measured_23 hl (by decide) rfl (fun ls hl => ?_)
  refine lv_aload_n hx hb dX9_measured_25 rfl (lv_at hl 1 rfl) ?_
  refine lv_iload hx hb dX9_measured_26 (lv_at hl 0 rfl) ?_
  refine lv_if_ne (tgt := 35) hx hb dX9_measured_28 (by decide) (fun c_28 => absurd (by decide) c_28) (fun c_28 => ?_)
  refine lv_iconst (v := 1) hx hb dX9_measured_31 (by decide) ?_
  refine lv_goto (tgt := 57) hx hb dX9_measured_32 (by decide) ?_
  refine dz_kMi (va_runV (As := [_]) ⟨hx, hb, hml, hown, hts⟩ (c_X9_refused l Z _ _ _ _ _ _ _ _ _ _ _ _ _ _ _ _ _ _ _ ha ho) (cwV 1 hts gX9_measured_X9_refused rfl rfl rfl (by decide +kernel) ⟨Nat.le_of_ble_eq_true rfl, Nat.le_of_ble_eq_true rfl⟩) (dz_P.preV hE hS hG ho rfl ha) rfl rfl hl.1 rfl (lv_room (Nat.le_of_ble_eq_true rfl)) dX9_measured_57 ⟨Nat.le_of_ble_eq_true rfl, Nat.le_of_ble_eq_true rfl⟩) hS (fun x_57_1 G_57_1 ad_57_1 H locs hp_57_1 hG hS => ?_)
  obtain ⟨fr_57_1, rfl, x9_57_1, g_57_1⟩ := hp_57_1
  obtain rfl : x_57_1 = 1 := x9_57_1.trans (by decide)
  refine lv_if_eq (tgt := 65) hx hb dX9_measured_60 (by decide) (fun c_60 => absurd c_60 (by decide)) (fun c_60 => ?_)
  refine lv_iconst (v := 0) hx hb dX9_measured_63 (by decide) ?_
  refine W.widen (k := 0) (n := 0) (by first | omega | decide) (by first | omega | decide) ?_
  refine W.iret hx hb hrt (fun t ht hW => dz_endM (f := rv_i) _ hE hS hG ?_ ht hW) (fun q h => hS.2.2 q h) dX9_measured_64
  refine ⟨fun r9 n_0 => (fr_57_1 r9 n_0), rfl, ?_⟩
  exact ⟨rfl, g_57_1⟩

set_option maxHeartbeats 4000000 in
set_option maxRecDepth 100000 in
theorem c_M_meas_out1 (l : Launch) (Z : dzG) (G : dzW) (ad : dzA) (aM nm ns nl nx nf my : Nat) (th dy td ssf sst cfr grw bkk iop : Int32) (f8 f9 f10 f12 f13 f37 : Nat → Int32) (sc : Nat) (v2 v3 : Int32) (ha : ad (39, 0) = aM) (ho : G (39, 0) = some (eO 10 [.int th, .int dy, .int (nI nm), .ref (ad (40, 3)), .ref (ad (40, 4)), .ref (ad (40, 5)), .ref (ad (40, 6)), .int td, .ref (ad (40, 8)), .ref (ad (40, 9)), .ref (ad (40, 10)), .int (nI ns), .ref (ad (40, 12)), .ref (ad (40, 13)), .ref (ad (40, 14)), .int (nI nl), .ref (ad (40, 16)), .ref (ad (40, 17)), .ref (ad (40, 18)), .int (nI nx), .ref (ad (40, 20)), .ref (ad (40, 21)), .ref (ad (40, 22)), .ref (ad (40, 23)), .ref (ad (40, 24)), .int ssf, .int sst, .int cfr, .int grw, .int (nI nf), .ref (ad (40, 30)), .ref (ad (40, 31)), .int bkk, .ref (ad (40, 33)), .ref (ad (40, 34)), .ref (ad (40, 35)), .int iop, .ref (ad (40, 37)), .int (nI my)])) (h8 : G (40, 8) = some (eI Z 484 f8)) (h9 : G (40, 9) = some (eI Z 484 f9)) (h10 : G (40, 10) = some (eI Z 484 f10)) (h12 : G (40, 12) = some (eI Z 5 f12)) (h13 : G (40, 13) = some (eI Z 5 f13)) (h37 : G (40, 37) = some (eI Z 441 f37)) (hsc : sc < ns) (hns : ns ≤ 5) (hro : v2 < 0 ∨ nI (m_im f8 f9 f10 f12 f13 sc).1 ≤ v2) : dzWr l yX9_measured wsX9_measured 3 69 0 0 Z G ad [.ref aM, .int (nI sc), .int v2, .int v3] rv_i (fun (x : Int32) G1 ad1 => (∀ r9 : dzR, r9 ≠ (39, 0) → r9 ≠ (40, 37) → G1 r9 = G r9 ∧ ad1 r9 = ad r9) ∧ ad = ad1 ∧ x = 0 ∧ G1 (39, 0) = some (eO 10 [.int 1, .int dy, .int (nI nm), .ref (ad (40, 3)), .ref (ad (40, 4)), .ref (ad (40, 5)), .ref (ad (40, 6)), .int td, .ref (ad (40, 8)), .ref (ad (40, 9)), .ref (ad (40, 10)), .int (nI ns), .ref (ad (40, 12)), .ref (ad (40, 13)), .ref (ad (40, 14)), .int (nI nl), .ref (ad (40, 16)), .ref (ad (40, 17)), .ref (ad (40, 18)), .int (nI nx), .ref (ad (40, 20)), .ref (ad (40, 21)), .ref (ad (40, 22)), .ref (ad (40, 23)), .ref (ad (40, 24)), .int ssf, .int sst, .int cfr, .int grw, .int (nI nf), .ref (ad (40, 30)), .ref (ad (40, 31)), .int bkk, .ref (ad (40, 33)), .ref (ad (40, 34)), .ref (ad (40, 35)), .int iop, .ref (ad (40, 37)), .int (nI (m_im f8 f9 f10 f12 f13 sc).1)]) ∧ ∃ g, G1 (40, 37) = some (eI Z 441 g) ∧ ∀ k, k < (m_im f8 f9 f10 f12 f13 sc).1 → g k = (m_im f8 f9 f10 f12 f13 sc).2 k) := by
  refine Met.ofW (cc := cX9_measured) (maxL := 5) (ret := (some .int)) (by decide) rfl ?_
  intro p e s m args below meth c s₁ B hml hv
  obtain ⟨rfl, hG, hE⟩ := hv
  have hx := B.exec
  have hb := B.bytes
  have hrt := B.returns
  have hts := atoms_spec (ws := wsX9_measured) B.pre
  have hown : s.vm.findClass RX9 = some m.cls := findClass_of_methodNamed B.named
  have hlocks := B.notSynchronized
  have hS : va_S (dz_A Z) s.heap s.heap [] := va_S.rf
  have hl := lv_entry ([.ref aM, .int (nI sc), .int v2, .int v3]) (n := 5) (Nat.le_of_ble_eq_true rfl)
  rw [lg_entry_eq]
  generalize (lg_sl ([.ref aM, .int (nI sc), .int v2, .int v3]) ++ List.replicate (5 - (lg_sl ([.ref aM, .int (nI sc), .int v2, .int v3])).length) Slot.unset).toArray = ls at hl ⊢
  have hl : lv_has ls 5 [(0, .ref aM), (1, .int (nI sc)), (2, .int v2), (3, .int v3)] := hl
  have hcn := @m_im_c f8 f9 f10 f12 f13 sc
  refine lv_aload_n hx hb dX9_measured_0 rfl (lv_at hl 0 rfl) ?_
  refine lv_iload_n hx hb dX9_measured_1 rfl (lv_at hl 1 rfl) ?_
  refine lv_iload_n hx hb dX9_measured_2 rfl (lv_at hl 2 rfl) ?_
  refine dz_kMi (va_runV (As := [_, _]) ⟨hx, hb, hml, hown, hts⟩ (c_isImageY l Z _ _ _ _ _ _ _ _ _ _ _ _ _ _ _ _ _ _ _ _ _ _ _ _ sc _ ha ho h8 h9 h10 h12 h13 h37 hsc hns) (cwV 2 hts gX9_measured_X9_isImage rfl rfl rfl (by decide +kernel) ⟨Nat.le_of_ble_eq_true rfl, Nat.le_of_ble_eq_true rfl⟩) (dz_P.preV hE hS hG ho rfl ha) rfl rfl hl.1 rfl (lv_room (Nat.le_of_ble_eq_true rfl)) dX9_measured_3 ⟨Nat.le_of_ble_eq_true rfl, Nat.le_of_ble_eq_true rfl⟩) hS (fun x_3_1 G_3_1 ad_3_1 H locs hp_3_1 hG hS => ?_)
  obtain ⟨fr_3_1, rfl, x9_3_1, o_3_1, g_3_1⟩ := hp_3_1
  obtain rfl : x_3_1 = 0 := x9_3_1.trans (dz_b0 (m_ix0 (by omega) hro))
  obtain ⟨gf_3_1, gh_3_1, hgk⟩ := g_3_1
  refine lv_if_eq (tgt := 22) hx hb dX9_measured_6 (by decide) (fun c_6 => ?_) (fun c_6 => absurd (by decide) c_6)
  refine lv_iconst (v := 0) hx hb dX9_measured_22 (by decide) ?_
  refine lv_istore (lv' := [(4, .int 0), (0, .ref aM), (1, .int (nI sc)), (2, .int v2), (3, .int v3)]) hx hb dX9_measured_23 hl (by decide) rfl (fun ls hl => ?_)
  refine lv_aload_n hx hb dX9_measured_25 rfl (lv_at hl 1 rfl) ?_
  refine lv_iload hx hb dX9_measured_26 (lv_at hl 0 rfl) ?_
  refine lv_if_ne (tgt := 35) hx hb dX9_measured_28 (by decide) (fun c_28 => absurd (by decide) c_28) (fun c_28 => ?_)
  refine lv_iconst (v := 1) hx hb dX9_measured_31 (by decide) ?_
  refine lv_goto (tgt := 57) hx hb dX9_measured_32 (by decide) ?_
  refine dz_kMi (va_runV (As := [_]) ⟨hx, hb, hml, hown, hts⟩ (c_X9_refused l Z _ _ _ _ _ _ _ _ _ _ _ _ _ _ _ _ _ _ _ ha o_3_1) (cwV 1 hts gX9_measured_X9_refused rfl rfl rfl (by decide +kernel) ⟨Nat.le_of_ble_eq_true rfl, Nat.le_of_ble_eq_true rfl⟩) (dz_P.preV hE hS hG o_3_1 rfl ha) rfl rfl hl.1 rfl (lv_room (Nat.le_of_ble_eq_true rfl)) dX9_measured_57 ⟨Nat.le_of_ble_eq_true rfl, Nat.le_of_ble_eq_true rfl⟩) hS (fun x_57_2 G_57_2 ad_57_2 H locs hp_57_2 hG hS => ?_)
  obtain ⟨fr_57_2, rfl, x9_57_2, g_57_2⟩ := hp_57_2
  obtain rfl : x_57_2 = 1 := x9_57_2.trans (by decide)
  refine lv_if_eq (tgt := 65) hx hb dX9_measured_60 (by decide) (fun c_60 => absurd c_60 (by decide)) (fun c_60 => ?_)
  refine lv_iconst (v := 0) hx hb dX9_measured_63 (by decide) ?_
  refine W.widen (k := 0) (n := 0) (by first | omega | decide) (by first | omega | decide) ?_
  refine W.iret hx hb hrt (fun t ht hW => dz_endM (f := rv_i) _ hE hS hG ?_ ht hW) (fun q h => hS.2.2 q h) dX9_measured_64
  refine ⟨fun r9 n_0 n_1 => (dz_tr (fr_57_2 r9 n_0) (fr_3_1 r9 n_0 n_1)), rfl, ?_⟩
  exact ⟨rfl, g_57_2, _, ((fr_57_2 _ (dz_n rfl)).1.trans gh_3_1), hgk⟩

set_option maxHeartbeats 4000000 in
set_option maxRecDepth 100000 in
theorem c_M_meas_out2 (l : Launch) (Z : dzG) (G : dzW) (ad : dzA) (aM nm ns nl nx nf my : Nat) (th dy td ssf sst cfr grw bkk iop : Int32) (f8 f9 f10 f12 f13 f37 : Nat → Int32) (sc rk : Nat) (v3 : Int32) (ha : ad (39, 0) = aM) (ho : G (39, 0) = some (eO 10 [.int th, .int dy, .int (nI nm), .ref (ad (40, 3)), .ref (ad (40, 4)), .ref (ad (40, 5)), .ref (ad (40, 6)), .int td, .ref (ad (40, 8)), .ref (ad (40, 9)), .ref (ad (40, 10)), .int (nI ns), .ref (ad (40, 12)), .ref (ad (40, 13)), .ref (ad (40, 14)), .int (nI nl), .ref (ad (40, 16)), .ref (ad (40, 17)), .ref (ad (40, 18)), .int (nI nx), .ref (ad (40, 20)), .ref (ad (40, 21)), .ref (ad (40, 22)), .ref (ad (40, 23)), .ref (ad (40, 24)), .int ssf, .int sst, .int cfr, .int grw, .int (nI nf), .ref (ad (40, 30)), .ref (ad (40, 31)), .int bkk, .ref (ad (40, 33)), .ref (ad (40, 34)), .ref (ad (40, 35)), .int iop, .ref (ad (40, 37)), .int (nI my)])) (h8 : G (40, 8) = some (eI Z 484 f8)) (h9 : G (40, 9) = some (eI Z 484 f9)) (h10 : G (40, 10) = some (eI Z 484 f10)) (h12 : G (40, 12) = some (eI Z 5 f12)) (h13 : G (40, 13) = some (eI Z 5 f13)) (h37 : G (40, 37) = some (eI Z 441 f37)) (hsc : sc < ns) (hns : ns ≤ 5) (hrk : rk < (m_im f8 f9 f10 f12 f13 sc).1) (hro : v3 < 0 ∨ nI (m_im f8 f9 f10 f12 f13 sc).1 ≤ v3) : dzWr l yX9_measured wsX9_measured 3 69 0 0 Z G ad [.ref aM, .int (nI sc), .int (nI rk), .int v3] rv_i (fun (x : Int32) G1 ad1 => (∀ r9 : dzR, r9 ≠ (39, 0) → r9 ≠ (40, 37) → G1 r9 = G r9 ∧ ad1 r9 = ad r9) ∧ ad = ad1 ∧ x = 0 ∧ G1 (39, 0) = some (eO 10 [.int 1, .int dy, .int (nI nm), .ref (ad (40, 3)), .ref (ad (40, 4)), .ref (ad (40, 5)), .ref (ad (40, 6)), .int td, .ref (ad (40, 8)), .ref (ad (40, 9)), .ref (ad (40, 10)), .int (nI ns), .ref (ad (40, 12)), .ref (ad (40, 13)), .ref (ad (40, 14)), .int (nI nl), .ref (ad (40, 16)), .ref (ad (40, 17)), .ref (ad (40, 18)), .int (nI nx), .ref (ad (40, 20)), .ref (ad (40, 21)), .ref (ad (40, 22)), .ref (ad (40, 23)), .ref (ad (40, 24)), .int ssf, .int sst, .int cfr, .int grw, .int (nI nf), .ref (ad (40, 30)), .ref (ad (40, 31)), .int bkk, .ref (ad (40, 33)), .ref (ad (40, 34)), .ref (ad (40, 35)), .int iop, .ref (ad (40, 37)), .int (nI (m_im f8 f9 f10 f12 f13 sc).1)]) ∧ ∃ g, G1 (40, 37) = some (eI Z 441 g) ∧ ∀ k, k < (m_im f8 f9 f10 f12 f13 sc).1 → g k = (m_im f8 f9 f10 f12 f13 sc).2 k) := by
  refine Met.ofW (cc := cX9_measured) (maxL := 5) (ret := (some .int)) (by decide) rfl ?_
  intro p e s m args below meth c s₁ B hml hv
  obtain ⟨rfl, hG, hE⟩ := hv
  have hx := B.exec
  have hb := B.bytes
  have hrt := B.returns
  have hts := atoms_spec (ws := wsX9_measured) B.pre
  have hown : s.vm.findClass RX9 = some m.cls := findClass_of_methodNamed B.named
  have hlocks := B.notSynchronized
  have hS : va_S (dz_A Z) s.heap s.heap [] := va_S.rf
  have hl := lv_entry ([.ref aM, .int (nI sc), .int (nI rk), .int v3]) (n := 5) (Nat.le_of_ble_eq_true rfl)
  rw [lg_entry_eq]
  generalize (lg_sl ([.ref aM, .int (nI sc), .int (nI rk), .int v3]) ++ List.replicate (5 - (lg_sl ([.ref aM, .int (nI sc), .int (nI rk), .int v3])).length) Slot.unset).toArray = ls at hl ⊢
  have hl : lv_has ls 5 [(0, .ref aM), (1, .int (nI sc)), (2, .int (nI rk)), (3, .int v3)] := hl
  have hcn := @m_im_c f8 f9 f10 f12 f13 sc
  refine lv_aload_n hx hb dX9_measured_0 rfl (lv_at hl 0 rfl) ?_
  refine lv_iload_n hx hb dX9_measured_1 rfl (lv_at hl 1 rfl) ?_
  refine lv_iload_n hx hb dX9_measured_2 rfl (lv_at hl 2 rfl) ?_
  refine dz_kMi (va_runV (As := [_, _]) ⟨hx, hb, hml, hown, hts⟩ (c_isImageY l Z _ _ _ _ _ _ _ _ _ _ _ _ _ _ _ _ _ _ _ _ _ _ _ _ sc _ ha ho h8 h9 h10 h12 h13 h37 hsc hns) (cwV 2 hts gX9_measured_X9_isImage rfl rfl rfl (by decide +kernel) ⟨Nat.le_of_ble_eq_true rfl, Nat.le_of_ble_eq_true rfl⟩) (dz_P.preV hE hS hG ho rfl ha) rfl rfl hl.1 rfl (lv_room (Nat.le_of_ble_eq_true rfl)) dX9_measured_3 ⟨Nat.le_of_ble_eq_true rfl, Nat.le_of_ble_eq_true rfl⟩) hS (fun x_3_1 G_3_1 ad_3_1 H locs hp_3_1 hG hS => ?_)
  obtain ⟨fr_3_1, rfl, x9_3_1, o_3_1, g_3_1⟩ := hp_3_1
  obtain rfl : x_3_1 = 1 := x9_3_1.trans (dz_b1 (m_ix1 (by omega) hrk))
  obtain ⟨gf_3_1, gh_3_1, hgk⟩ := g_3_1
  refine lv_if_eq (tgt := 22) hx hb dX9_measured_6 (by decide) (fun c_6 => absurd c_6 (by decide)) (fun c_6 => ?_)
  refine lv_aload_n hx hb dX9_measured_9 rfl (lv_at hl 0 rfl) ?_
  refine lv_iload_n hx hb dX9_measured_10 rfl (lv_at hl 1 rfl) ?_
  refine lv_iload_n hx hb dX9_measured_11 rfl (lv_at hl 3 rfl) ?_
  refine dz_kMi (va_runV (As := [_, _]) ⟨hx, hb, hml, hown, hts⟩ (c_isImageY l Z _ _ _ _ _ _ _ _ _ _ _ _ _ _ _ _ _ _ _ _ _ _ _ _ sc _ ha o_3_1 ((fr_3_1 _ (dz_n rfl) (dz_n2 (by decide))).1.trans h8) ((fr_3_1 _ (dz_n rfl) (dz_n2 (by decide))).1.trans h9) ((fr_3_1 _ (dz_n rfl) (dz_n2 (by decide))).1.trans h10) ((fr_3_1 _ (dz_n rfl) (dz_n2 (by decide))).1.trans h12) ((fr_3_1 _ (dz_n rfl) (dz_n2 (by decide))).1.trans h13) gh_3_1 hsc hns) (cwV 2 hts gX9_measured_X9_isImage rfl rfl rfl (by decide +kernel) ⟨Nat.le_of_ble_eq_true rfl, Nat.le_of_ble_eq_true rfl⟩) (dz_P.preV hE hS hG o_3_1 rfl ha) rfl rfl hl.1 rfl (lv_room (Nat.le_of_ble_eq_true rfl)) dX9_measured_12 ⟨Nat.le_of_ble_eq_true rfl, Nat.le_of_ble_eq_true rfl⟩) hS (fun x_12_2 G_12_2 ad_12_2 H locs hp_12_2 hG hS => ?_)
  obtain ⟨fr_12_2, rfl, x9_12_2, o_12_2, g_12_2⟩ := hp_12_2
  obtain rfl : x_12_2 = 0 := x9_12_2.trans (dz_b0 (m_ix0 (by omega) hro))
  obtain ⟨gf_12_2, gh_12_2, hgk⟩ := g_12_2
  refine lv_if_eq (tgt := 22) hx hb dX9_measured_15 (by decide) (fun c_15 => ?_) (fun c_15 => absurd (by decide) c_15)
  refine lv_iconst (v := 0) hx hb dX9_measured_22 (by decide) ?_
  refine lv_istore (lv' := [(4, .int 0), (0, .ref aM), (1, .int (nI sc)), (2, .int (nI rk)), (3, .int v3)]) hx hb dX9_measured_23 hl (by decide) rfl (fun ls hl => ?_)
  refine lv_aload_n hx hb dX9_measured_25 rfl (lv_at hl 1 rfl) ?_
  refine lv_iload hx hb dX9_measured_26 (lv_at hl 0 rfl) ?_
  refine lv_if_ne (tgt := 35) hx hb dX9_measured_28 (by decide) (fun c_28 => absurd (by decide) c_28) (fun c_28 => ?_)
  refine lv_iconst (v := 1) hx hb dX9_measured_31 (by decide) ?_
  refine lv_goto (tgt := 57) hx hb dX9_measured_32 (by decide) ?_
  refine dz_kMi (va_runV (As := [_]) ⟨hx, hb, hml, hown, hts⟩ (c_X9_refused l Z _ _ _ _ _ _ _ _ _ _ _ _ _ _ _ _ _ _ _ ha o_12_2) (cwV 1 hts gX9_measured_X9_refused rfl rfl rfl (by decide +kernel) ⟨Nat.le_of_ble_eq_true rfl, Nat.le_of_ble_eq_true rfl⟩) (dz_P.preV hE hS hG o_12_2 rfl ha) rfl rfl hl.1 rfl (lv_room (Nat.le_of_ble_eq_true rfl)) dX9_measured_57 ⟨Nat.le_of_ble_eq_true rfl, Nat.le_of_ble_eq_true rfl⟩) hS (fun x_57_3 G_57_3 ad_57_3 H locs hp_57_3 hG hS => ?_)
  obtain ⟨fr_57_3, rfl, x9_57_3, g_57_3⟩ := hp_57_3
  obtain rfl : x_57_3 = 1 := x9_57_3.trans (by decide)
  refine lv_if_eq (tgt := 65) hx hb dX9_measured_60 (by decide) (fun c_60 => absurd c_60 (by decide)) (fun c_60 => ?_)
  refine lv_iconst (v := 0) hx hb dX9_measured_63 (by decide) ?_
  refine W.widen (k := 0) (n := 0) (by first | omega | decide) (by first | omega | decide) ?_
  refine W.iret hx hb hrt (fun t ht hW => dz_endM (f := rv_i) _ hE hS hG ?_ ht hW) (fun q h => hS.2.2 q h) dX9_measured_64
  refine ⟨fun r9 n_0 n_1 => (dz_tr (fr_57_3 r9 n_0) (dz_tr (fr_12_2 r9 n_0 n_1) (fr_3_1 r9 n_0 n_1))), rfl, ?_⟩
  exact ⟨rfl, g_57_3, _, ((fr_57_3 _ (dz_n rfl)).1.trans gh_12_2), hgk⟩

set_option maxHeartbeats 4000000 in
set_option maxRecDepth 100000 in
theorem c_M_meas_bad (l : Launch) (Z : dzG) (G : dzW) (ad : dzA) (aM nm ns nl nx nf my : Nat) (th dy td ssf sst cfr grw bkk iop : Int32) (f8 f9 f10 f12 f13 f37 : Nat → Int32) (sc rk ot : Nat) (ha : ad (39, 0) = aM) (ho : G (39, 0) = some (eO 10 [.int th, .int dy, .int (nI nm), .ref (ad (40, 3)), .ref (ad (40, 4)), .ref (ad (40, 5)), .ref (ad (40, 6)), .int td, .ref (ad (40, 8)), .ref (ad (40, 9)), .ref (ad (40, 10)), .int (nI ns), .ref (ad (40, 12)), .ref (ad (40, 13)), .ref (ad (40, 14)), .int (nI nl), .ref (ad (40, 16)), .ref (ad (40, 17)), .ref (ad (40, 18)), .int (nI nx), .ref (ad (40, 20)), .ref (ad (40, 21)), .ref (ad (40, 22)), .ref (ad (40, 23)), .ref (ad (40, 24)), .int ssf, .int sst, .int cfr, .int grw, .int (nI nf), .ref (ad (40, 30)), .ref (ad (40, 31)), .int bkk, .ref (ad (40, 33)), .ref (ad (40, 34)), .ref (ad (40, 35)), .int iop, .ref (ad (40, 37)), .int (nI my)])) (h8 : G (40, 8) = some (eI Z 484 f8)) (h9 : G (40, 9) = some (eI Z 484 f9)) (h10 : G (40, 10) = some (eI Z 484 f10)) (h12 : G (40, 12) = some (eI Z 5 f12)) (h13 : G (40, 13) = some (eI Z 5 f13)) (h37 : G (40, 37) = some (eI Z 441 f37)) (hsc : sc < ns) (hns : ns ≤ 5) (hrk : rk < (m_im f8 f9 f10 f12 f13 sc).1) (hot : ot < (m_im f8 f9 f10 f12 f13 sc).1) (hbad : rk = ot ∨ 6 ≤ rk ∨ 6 ≤ ot) : dzWr l yX9_measured wsX9_measured 3 69 0 0 Z G ad [.ref aM, .int (nI sc), .int (nI rk), .int (nI ot)] rv_i (fun (x : Int32) G1 ad1 => (∀ r9 : dzR, r9 ≠ (39, 0) → r9 ≠ (40, 37) → G1 r9 = G r9 ∧ ad1 r9 = ad r9) ∧ ad = ad1 ∧ x = 0 ∧ G1 (39, 0) = some (eO 10 [.int 2, .int dy, .int (nI nm), .ref (ad (40, 3)), .ref (ad (40, 4)), .ref (ad (40, 5)), .ref (ad (40, 6)), .int td, .ref (ad (40, 8)), .ref (ad (40, 9)), .ref (ad (40, 10)), .int (nI ns), .ref (ad (40, 12)), .ref (ad (40, 13)), .ref (ad (40, 14)), .int (nI nl), .ref (ad (40, 16)), .ref (ad (40, 17)), .ref (ad (40, 18)), .int (nI nx), .ref (ad (40, 20)), .ref (ad (40, 21)), .ref (ad (40, 22)), .ref (ad (40, 23)), .ref (ad (40, 24)), .int ssf, .int sst, .int cfr, .int grw, .int (nI nf), .ref (ad (40, 30)), .ref (ad (40, 31)), .int bkk, .ref (ad (40, 33)), .ref (ad (40, 34)), .ref (ad (40, 35)), .int iop, .ref (ad (40, 37)), .int (nI (m_im f8 f9 f10 f12 f13 sc).1)]) ∧ ∃ g, G1 (40, 37) = some (eI Z 441 g) ∧ ∀ k, k < (m_im f8 f9 f10 f12 f13 sc).1 → g k = (m_im f8 f9 f10 f12 f13 sc).2 k) := by
  refine Met.ofW (cc := cX9_measured) (maxL := 5) (ret := (some .int)) (by decide) rfl ?_
  intro p e s m args below meth c s₁ B hml hv
  obtain ⟨rfl, hG, hE⟩ := hv
  have hx := B.exec
  have hb := B.bytes
  have hrt := B.returns
  have hts := atoms_spec (ws := wsX9_measured) B.pre
  have hown : s.vm.findClass RX9 = some m.cls := findClass_of_methodNamed B.named
  have hlocks := B.notSynchronized
  have hS : va_S (dz_A Z) s.heap s.heap [] := va_S.rf
  have hl := lv_entry ([.ref aM, .int (nI sc), .int (nI rk), .int (nI ot)]) (n := 5) (Nat.le_of_ble_eq_true rfl)
  rw [lg_entry_eq]
  generalize (lg_sl ([.ref aM, .int (nI sc), .int (nI rk), .int (nI ot)]) ++ List.replicate (5 - (lg_sl ([.ref aM, .int (nI sc), .int (nI rk), .int (nI ot)])).length) Slot.unset).toArray = ls at hl ⊢
  have hl : lv_has ls 5 [(0, .ref aM), (1, .int (nI sc)), (2, .int (nI rk)), (3, .int (nI ot))] := hl
  have hcn := @m_im_c f8 f9 f10 f12 f13 sc
  refine lv_aload_n hx hb dX9_measured_0 rfl (lv_at hl 0 rfl) ?_
  refine lv_iload_n hx hb dX9_measured_1 rfl (lv_at hl 1 rfl) ?_
  refine lv_iload_n hx hb dX9_measured_2 rfl (lv_at hl 2 rfl) ?_
  refine dz_kMi (va_runV (As := [_, _]) ⟨hx, hb, hml, hown, hts⟩ (c_isImageY l Z _ _ _ _ _ _ _ _ _ _ _ _ _ _ _ _ _ _ _ _ _ _ _ _ sc _ ha ho h8 h9 h10 h12 h13 h37 hsc hns) (cwV 2 hts gX9_measured_X9_isImage rfl rfl rfl (by decide +kernel) ⟨Nat.le_of_ble_eq_true rfl, Nat.le_of_ble_eq_true rfl⟩) (dz_P.preV hE hS hG ho rfl ha) rfl rfl hl.1 rfl (lv_room (Nat.le_of_ble_eq_true rfl)) dX9_measured_3 ⟨Nat.le_of_ble_eq_true rfl, Nat.le_of_ble_eq_true rfl⟩) hS (fun x_3_1 G_3_1 ad_3_1 H locs hp_3_1 hG hS => ?_)
  obtain ⟨fr_3_1, rfl, x9_3_1, o_3_1, g_3_1⟩ := hp_3_1
  obtain rfl : x_3_1 = 1 := x9_3_1.trans (dz_b1 (m_ix1 (by omega) hrk))
  obtain ⟨gf_3_1, gh_3_1, hgk⟩ := g_3_1
  refine lv_if_eq (tgt := 22) hx hb dX9_measured_6 (by decide) (fun c_6 => absurd c_6 (by decide)) (fun c_6 => ?_)
  refine lv_aload_n hx hb dX9_measured_9 rfl (lv_at hl 0 rfl) ?_
  refine lv_iload_n hx hb dX9_measured_10 rfl (lv_at hl 1 rfl) ?_
  refine lv_iload_n hx hb dX9_measured_11 rfl (lv_at hl 3 rfl) ?_
  refine dz_kMi (va_runV (As := [_, _]) ⟨hx, hb, hml, hown, hts⟩ (c_isImageY l Z _ _ _ _ _ _ _ _ _ _ _ _ _ _ _ _ _ _ _ _ _ _ _ _ sc _ ha o_3_1 ((fr_3_1 _ (dz_n rfl) (dz_n2 (by decide))).1.trans h8) ((fr_3_1 _ (dz_n rfl) (dz_n2 (by decide))).1.trans h9) ((fr_3_1 _ (dz_n rfl) (dz_n2 (by decide))).1.trans h10) ((fr_3_1 _ (dz_n rfl) (dz_n2 (by decide))).1.trans h12) ((fr_3_1 _ (dz_n rfl) (dz_n2 (by decide))).1.trans h13) gh_3_1 hsc hns) (cwV 2 hts gX9_measured_X9_isImage rfl rfl rfl (by decide +kernel) ⟨Nat.le_of_ble_eq_true rfl, Nat.le_of_ble_eq_true rfl⟩) (dz_P.preV hE hS hG o_3_1 rfl ha) rfl rfl hl.1 rfl (lv_room (Nat.le_of_ble_eq_true rfl)) dX9_measured_12 ⟨Nat.le_of_ble_eq_true rfl, Nat.le_of_ble_eq_true rfl⟩) hS (fun x_12_2 G_12_2 ad_12_2 H locs hp_12_2 hG hS => ?_)
  obtain ⟨fr_12_2, rfl, x9_12_2, o_12_2, g_12_2⟩ := hp_12_2
  obtain rfl : x_12_2 = 1 := x9_12_2.trans (dz_b1 (m_ix1 (by omega) hot))
  obtain ⟨gf_12_2, gh_12_2, hgk⟩ := g_12_2
  refine lv_if_eq (tgt := 22) hx hb dX9_measured_15 (by decide) (fun c_15 => absurd c_15 (by decide)) (fun c_15 => ?_)
  refine lv_iconst (v := 1) hx hb dX9_measured_18 (by decide) ?_
  refine lv_goto (tgt := 23) hx hb dX9_measured_19 (by decide) ?_
  refine lv_istore (lv' := [(4, .int 1), (0, .ref aM), (1, .int (nI sc)), (2, .int (nI rk)), (3, .int (nI ot))]) hx hb dX9_measured_23 hl (by decide) rfl (fun ls hl => ?_)
  refine lv_aload_n hx hb dX9_measured_25 rfl (lv_at hl 1 rfl) ?_
  refine lv_iload hx hb dX9_measured_26 (lv_at hl 0 rfl) ?_
  refine lv_if_ne (tgt := 35) hx hb dX9_measured_28 (by decide) (fun c_28 => ?_) (fun c_28 => absurd c_28 (by decide))
  refine lv_iload_n hx hb dX9_measured_35 rfl (lv_at hl 3 rfl) ?_
  refine lv_iload_n hx hb dX9_measured_36 rfl (lv_at hl 4 rfl) ?_
  refine lv_icmp_eq (tgt := 52) hx hb dX9_measured_37 (by decide) (fun c_37 => ?_) (fun c_37 => ?_)
  · refine lv_iconst (v := 2) hx hb dX9_measured_52 (by decide) ?_
    refine lv_goto (tgt := 57) hx hb dX9_measured_53 (by decide) ?_
    refine dz_kMi (va_runV (As := [_]) ⟨hx, hb, hml, hown, hts⟩ (c_X9_refused l Z _ _ _ _ _ _ _ _ _ _ _ _ _ _ _ _ _ _ _ ha o_12_2) (cwV 1 hts gX9_measured_X9_refused rfl rfl rfl (by decide +kernel) ⟨Nat.le_of_ble_eq_true rfl, Nat.le_of_ble_eq_true rfl⟩) (dz_P.preV hE hS hG o_12_2 rfl ha) rfl rfl hl.1 rfl (lv_room (Nat.le_of_ble_eq_true rfl)) dX9_measured_57 ⟨Nat.le_of_ble_eq_true rfl, Nat.le_of_ble_eq_true rfl⟩) hS (fun x_57_3 G_57_3 ad_57_3 H locs hp_57_3 hG hS => ?_)
    obtain ⟨fr_57_3, rfl, x9_57_3, g_57_3⟩ := hp_57_3
    obtain rfl : x_57_3 = 1 := x9_57_3.trans (by decide)
    refine lv_if_eq (tgt := 65) hx hb dX9_measured_60 (by decide) (fun c_60 => absurd c_60 (by decide)) (fun c_60 => ?_)
    refine lv_iconst (v := 0) hx hb dX9_measured_63 (by decide) ?_
    refine W.widen (k := 0) (n := 0) (by first | omega | decide) (by first | omega | decide) ?_
    refine W.iret hx hb hrt (fun t ht hW => dz_endM (f := rv_i) _ hE hS hG ?_ ht hW) (fun q h => hS.2.2 q h) dX9_measured_64
    refine ⟨fun r9 n_0 n_1 => (dz_tr (fr_57_3 r9 n_0) (dz_tr (fr_12_2 r9 n_0 n_1) (fr_3_1 r9 n_0 n_1))), rfl, ?_⟩
    exact ⟨rfl, g_57_3, _, ((fr_57_3 _ (dz_n rfl)).1.trans gh_12_2), hgk⟩
  · have hne : ¬ rk = ot := fun z => c_37 (by rw [z])
    refine lv_iload_n hx hb dX9_measured_40 rfl (lv_at hl 3 rfl) ?_
    refine lv_bipush (v := 6) hx hb dX9_measured_41 (by decide) ?_
    refine lv_icmp_ge (tgt := 52) hx hb dX9_measured_43 (by decide) (fun c_43 => ?_) (fun c_43 => ?_)
    · refine lv_iconst (v := 2) hx hb dX9_measured_52 (by decide) ?_
      refine lv_goto (tgt := 57) hx hb dX9_measured_53 (by decide) ?_
      refine dz_kMi (va_runV (As := [_]) ⟨hx, hb, hml, hown, hts⟩ (c_X9_refused l Z _ _ _ _ _ _ _ _ _ _ _ _ _ _ _ _ _ _ _ ha o_12_2) (cwV 1 hts gX9_measured_X9_refused rfl rfl rfl (by decide +kernel) ⟨Nat.le_of_ble_eq_true rfl, Nat.le_of_ble_eq_true rfl⟩) (dz_P.preV hE hS hG o_12_2 rfl ha) rfl rfl hl.1 rfl (lv_room (Nat.le_of_ble_eq_true rfl)) dX9_measured_57 ⟨Nat.le_of_ble_eq_true rfl, Nat.le_of_ble_eq_true rfl⟩) hS (fun x_57_4 G_57_4 ad_57_4 H locs hp_57_4 hG hS => ?_)
      obtain ⟨fr_57_4, rfl, x9_57_4, g_57_4⟩ := hp_57_4
      obtain rfl : x_57_4 = 1 := x9_57_4.trans (by decide)
      refine lv_if_eq (tgt := 65) hx hb dX9_measured_60 (by decide) (fun c_60 => absurd c_60 (by decide)) (fun c_60 => ?_)
      refine lv_iconst (v := 0) hx hb dX9_measured_63 (by decide) ?_
      refine W.widen (k := 0) (n := 0) (by first | omega | decide) (by first | omega | decide) ?_
      refine W.iret hx hb hrt (fun t ht hW => dz_endM (f := rv_i) _ hE hS hG ?_ ht hW) (fun q h => hS.2.2 q h) dX9_measured_64
      refine ⟨fun r9 n_0 n_1 => (dz_tr (fr_57_4 r9 n_0) (dz_tr (fr_12_2 r9 n_0 n_1) (fr_3_1 r9 n_0 n_1))), rfl, ?_⟩
      exact ⟨rfl, g_57_4, _, ((fr_57_4 _ (dz_n rfl)).1.trans gh_12_2), hgk⟩
    · have hr6 : ¬ 6 ≤ rk := fun z => c_43 ((nI_leI (a := 6) (by omega) (by omega)).mpr z)
      refine lv_iload_n hx hb dX9_measured_46 rfl (lv_at hl 4 rfl) ?_
      refine lv_bipush (v := 6) hx hb dX9_measured_47 (by decide) ?_
      refine lv_icmp_lt (tgt := 56) hx hb dX9_measured_49 (by decide) (fun c_49 => absurd c_49 (fun z => absurd ((nI_leI (a := 6) (by omega) (by omega)).mpr ((hbad.resolve_left hne).resolve_left hr6)) (Int32.not_le.mpr z))) (fun c_49 => ?_)
      refine lv_iconst (v := 2) hx hb dX9_measured_52 (by decide) ?_
      refine lv_goto (tgt := 57) hx hb dX9_measured_53 (by decide) ?_
      refine dz_kMi (va_runV (As := [_]) ⟨hx, hb, hml, hown, hts⟩ (c_X9_refused l Z _ _ _ _ _ _ _ _ _ _ _ _ _ _ _ _ _ _ _ ha o_12_2) (cwV 1 hts gX9_measured_X9_refused rfl rfl rfl (by decide +kernel) ⟨Nat.le_of_ble_eq_true rfl, Nat.le_of_ble_eq_true rfl⟩) (dz_P.preV hE hS hG o_12_2 rfl ha) rfl rfl hl.1 rfl (lv_room (Nat.le_of_ble_eq_true rfl)) dX9_measured_57 ⟨Nat.le_of_ble_eq_true rfl, Nat.le_of_ble_eq_true rfl⟩) hS (fun x_57_5 G_57_5 ad_57_5 H locs hp_57_5 hG hS => ?_)
      obtain ⟨fr_57_5, rfl, x9_57_5, g_57_5⟩ := hp_57_5
      obtain rfl : x_57_5 = 1 := x9_57_5.trans (by decide)
      refine lv_if_eq (tgt := 65) hx hb dX9_measured_60 (by decide) (fun c_60 => absurd c_60 (by decide)) (fun c_60 => ?_)
      refine lv_iconst (v := 0) hx hb dX9_measured_63 (by decide) ?_
      refine W.widen (k := 0) (n := 0) (by first | omega | decide) (by first | omega | decide) ?_
      refine W.iret hx hb hrt (fun t ht hW => dz_endM (f := rv_i) _ hE hS hG ?_ ht hW) (fun q h => hS.2.2 q h) dX9_measured_64
      refine ⟨fun r9 n_0 n_1 => (dz_tr (fr_57_5 r9 n_0) (dz_tr (fr_12_2 r9 n_0 n_1) (fr_3_1 r9 n_0 n_1))), rfl, ?_⟩
      exact ⟨rfl, g_57_5, _, ((fr_57_5 _ (dz_n rfl)).1.trans gh_12_2), hgk⟩

set_option maxHeartbeats 4000000 in
set_option maxRecDepth 100000 in
theorem c_M_meas_ok (l : Launch) (Z : dzG) (G : dzW) (ad : dzA) (aM nm ns nl nx nf my : Nat) (th dy td ssf sst cfr grw bkk iop : Int32) (f8 f9 f10 f12 f13 f30 f31 f37 : Nat → Int32) (sc rk ot j jo : Nat) (ha : ad (39, 0) = aM) (ho : G (39, 0) = some (eO 10 [.int th, .int dy, .int (nI nm), .ref (ad (40, 3)), .ref (ad (40, 4)), .ref (ad (40, 5)), .ref (ad (40, 6)), .int td, .ref (ad (40, 8)), .ref (ad (40, 9)), .ref (ad (40, 10)), .int (nI ns), .ref (ad (40, 12)), .ref (ad (40, 13)), .ref (ad (40, 14)), .int (nI nl), .ref (ad (40, 16)), .ref (ad (40, 17)), .ref (ad (40, 18)), .int (nI nx), .ref (ad (40, 20)), .ref (ad (40, 21)), .ref (ad (40, 22)), .ref (ad (40, 23)), .ref (ad (40, 24)), .int ssf, .int sst, .int cfr, .int grw, .int (nI nf), .ref (ad (40, 30)), .ref (ad (40, 31)), .int bkk, .ref (ad (40, 33)), .ref (ad (40, 34)), .ref (ad (40, 35)), .int iop, .ref (ad (40, 37)), .int (nI my)])) (h8 : G (40, 8) = some (eI Z 484 f8)) (h9 : G (40, 9) = some (eI Z 484 f9)) (h10 : G (40, 10) = some (eI Z 484 f10)) (h12 : G (40, 12) = some (eI Z 5 f12)) (h13 : G (40, 13) = some (eI Z 5 f13)) (h30 : G (40, 30) = some (eI Z 60 f30)) (h31 : G (40, 31) = some (eI Z 1800 f31)) (h37 : G (40, 37) = some (eI Z 441 f37)) (hsc : sc < ns) (hns : ns ≤ 5) (hnf : nf ≤ 60) (hrk : rk < (m_im f8 f9 f10 f12 f13 sc).1) (hij : (m_im f8 f9 f10 f12 f13 sc).2 rk = nI j) (hjj : j + 22 < 484) (hot : ot < (m_im f8 f9 f10 f12 f13 sc).1) (hijo : (m_im f8 f9 f10 f12 f13 sc).2 ot = nI jo) (hjjo : jo + 22 < 484) (h6r : rk < 6) (h6o : ot < 6) (hne : ¬ rk = ot) : dzWr l yX9_measured wsX9_measured 3 90 0 0 Z G ad [.ref aM, .int (nI sc), .int (nI rk), .int (nI ot)] rv_i (fun (x : Int32) G1 ad1 => (∀ r9 : dzR, r9 ≠ (39, 0) → r9 ≠ (40, 37) → G1 r9 = G r9 ∧ ad1 r9 = ad r9) ∧ ad = ad1 ∧ x = (m_nb f30 (fun i => f31 (30 * i + 6 * sc + rk)) (fun i => f31 (30 * i + 6 * sc + ot)) nf (m_abs (m_times (m_turn (fun j => m_pc j - f8 j) (fun j => m_pr j - f9 j) jo))) (m_abs (m_times (m_turn (fun j => m_pc j - f8 j) (fun j => m_pr j - f9 j) j))) 151).1 ∧ G1 (39, 0) = some (eO 10 [.int 0, .int dy, .int (nI nm), .ref (ad (40, 3)), .ref (ad (40, 4)), .ref (ad (40, 5)), .ref (ad (40, 6)), .int td, .ref (ad (40, 8)), .ref (ad (40, 9)), .ref (ad (40, 10)), .int (nI ns), .ref (ad (40, 12)), .ref (ad (40, 13)), .ref (ad (40, 14)), .int (nI nl), .ref (ad (40, 16)), .ref (ad (40, 17)), .ref (ad (40, 18)), .int (nI nx), .ref (ad (40, 20)), .ref (ad (40, 21)), .ref (ad (40, 22)), .ref (ad (40, 23)), .ref (ad (40, 24)), .int ssf, .int sst, .int cfr, .int grw, .int (nI nf), .ref (ad (40, 30)), .ref (ad (40, 31)), .int bkk, .ref (ad (40, 33)), .ref (ad (40, 34)), .ref (ad (40, 35)), .int iop, .ref (ad (40, 37)), .int (nI (m_im f8 f9 f10 f12 f13 sc).1)]) ∧ ∃ g, G1 (40, 37) = some (eI Z 441 g) ∧ ∀ k, k < (m_im f8 f9 f10 f12 f13 sc).1 → g k = (m_im f8 f9 f10 f12 f13 sc).2 k) := by
  refine Met.ofW (cc := cX9_measured) (maxL := 5) (ret := (some .int)) (by decide) rfl ?_
  intro p e s m args below meth c s₁ B hml hv
  obtain ⟨rfl, hG, hE⟩ := hv
  have hx := B.exec
  have hb := B.bytes
  have hrt := B.returns
  have hts := atoms_spec (ws := wsX9_measured) B.pre
  have hown : s.vm.findClass RX9 = some m.cls := findClass_of_methodNamed B.named
  have hlocks := B.notSynchronized
  have hS : va_S (dz_A Z) s.heap s.heap [] := va_S.rf
  have hl := lv_entry ([.ref aM, .int (nI sc), .int (nI rk), .int (nI ot)]) (n := 5) (Nat.le_of_ble_eq_true rfl)
  rw [lg_entry_eq]
  generalize (lg_sl ([.ref aM, .int (nI sc), .int (nI rk), .int (nI ot)]) ++ List.replicate (5 - (lg_sl ([.ref aM, .int (nI sc), .int (nI rk), .int (nI ot)])).length) Slot.unset).toArray = ls at hl ⊢
  have hl : lv_has ls 5 [(0, .ref aM), (1, .int (nI sc)), (2, .int (nI rk)), (3, .int (nI ot))] := hl
  have hcn := @m_im_c f8 f9 f10 f12 f13 sc
  refine lv_aload_n hx hb dX9_measured_0 rfl (lv_at hl 0 rfl) ?_
  refine lv_iload_n hx hb dX9_measured_1 rfl (lv_at hl 1 rfl) ?_
  refine lv_iload_n hx hb dX9_measured_2 rfl (lv_at hl 2 rfl) ?_
  refine dz_kMi (va_runV (As := [_, _]) ⟨hx, hb, hml, hown, hts⟩ (c_isImageY l Z _ _ _ _ _ _ _ _ _ _ _ _ _ _ _ _ _ _ _ _ _ _ _ _ sc _ ha ho h8 h9 h10 h12 h13 h37 hsc hns) (cwV 2 hts gX9_measured_X9_isImage rfl rfl rfl (by decide +kernel) ⟨Nat.le_of_ble_eq_true rfl, Nat.le_of_ble_eq_true rfl⟩) (dz_P.preV hE hS hG ho rfl ha) rfl rfl hl.1 rfl (lv_room (Nat.le_of_ble_eq_true rfl)) dX9_measured_3 ⟨Nat.le_of_ble_eq_true rfl, Nat.le_of_ble_eq_true rfl⟩) hS (fun x_3_1 G_3_1 ad_3_1 H locs hp_3_1 hG hS => ?_)
  obtain ⟨fr_3_1, rfl, x9_3_1, o_3_1, g_3_1⟩ := hp_3_1
  obtain rfl : x_3_1 = 1 := x9_3_1.trans (dz_b1 (m_ix1 (by omega) hrk))
  obtain ⟨gf_3_1, gh_3_1, hgk⟩ := g_3_1
  refine lv_if_eq (tgt := 22) hx hb dX9_measured_6 (by decide) (fun c_6 => absurd c_6 (by decide)) (fun c_6 => ?_)
  refine lv_aload_n hx hb dX9_measured_9 rfl (lv_at hl 0 rfl) ?_
  refine lv_iload_n hx hb dX9_measured_10 rfl (lv_at hl 1 rfl) ?_
  refine lv_iload_n hx hb dX9_measured_11 rfl (lv_at hl 3 rfl) ?_
  refine dz_kMi (va_runV (As := [_, _]) ⟨hx, hb, hml, hown, hts⟩ (c_isImageY l Z _ _ _ _ _ _ _ _ _ _ _ _ _ _ _ _ _ _ _ _ _ _ _ _ sc _ ha o_3_1 ((fr_3_1 _ (dz_n rfl) (dz_n2 (by decide))).1.trans h8) ((fr_3_1 _ (dz_n rfl) (dz_n2 (by decide))).1.trans h9) ((fr_3_1 _ (dz_n rfl) (dz_n2 (by decide))).1.trans h10) ((fr_3_1 _ (dz_n rfl) (dz_n2 (by decide))).1.trans h12) ((fr_3_1 _ (dz_n rfl) (dz_n2 (by decide))).1.trans h13) gh_3_1 hsc hns) (cwV 2 hts gX9_measured_X9_isImage rfl rfl rfl (by decide +kernel) ⟨Nat.le_of_ble_eq_true rfl, Nat.le_of_ble_eq_true rfl⟩) (dz_P.preV hE hS hG o_3_1 rfl ha) rfl rfl hl.1 rfl (lv_room (Nat.le_of_ble_eq_true rfl)) dX9_measured_12 ⟨Nat.le_of_ble_eq_true rfl, Nat.le_of_ble_eq_true rfl⟩) hS (fun x_12_2 G_12_2 ad_12_2 H locs hp_12_2 hG hS => ?_)
  obtain ⟨fr_12_2, rfl, x9_12_2, o_12_2, g_12_2⟩ := hp_12_2
  obtain rfl : x_12_2 = 1 := x9_12_2.trans (dz_b1 (m_ix1 (by omega) hot))
  obtain ⟨gf_12_2, gh_12_2, hgk⟩ := g_12_2
  refine lv_if_eq (tgt := 22) hx hb dX9_measured_15 (by decide) (fun c_15 => absurd c_15 (by decide)) (fun c_15 => ?_)
  refine lv_iconst (v := 1) hx hb dX9_measured_18 (by decide) ?_
  refine lv_goto (tgt := 23) hx hb dX9_measured_19 (by decide) ?_
  refine lv_istore (lv' := [(4, .int 1), (0, .ref aM), (1, .int (nI sc)), (2, .int (nI rk)), (3, .int (nI ot))]) hx hb dX9_measured_23 hl (by decide) rfl (fun ls hl => ?_)
  refine lv_aload_n hx hb dX9_measured_25 rfl (lv_at hl 1 rfl) ?_
  refine lv_iload hx hb dX9_measured_26 (lv_at hl 0 rfl) ?_
  refine lv_if_ne (tgt := 35) hx hb dX9_measured_28 (by decide) (fun c_28 => ?_) (fun c_28 => absurd c_28 (by decide))
  refine lv_iload_n hx hb dX9_measured_35 rfl (lv_at hl 3 rfl) ?_
  refine lv_iload_n hx hb dX9_measured_36 rfl (lv_at hl 4 rfl) ?_
  refine lv_icmp_eq (tgt := 52) hx hb dX9_measured_37 (by decide) (fun c_37 => absurd c_37 (fun z => hne ((nI_e (by omega) (by omega)).mp z))) (fun c_37 => ?_)
  refine lv_iload_n hx hb dX9_measured_40 rfl (lv_at hl 3 rfl) ?_
  refine lv_bipush (v := 6) hx hb dX9_measured_41 (by decide) ?_
  refine lv_icmp_ge (tgt := 52) hx hb dX9_measured_43 (by decide) (fun c_43 => absurd c_43 (fun z => absurd ((nI_leI (a := 6) (by omega) (by omega)).mp z) (by omega))) (fun c_43 => ?_)
  refine lv_iload_n hx hb dX9_measured_46 rfl (lv_at hl 4 rfl) ?_
  refine lv_bipush (v := 6) hx hb dX9_measured_47 (by decide) ?_
  refine lv_icmp_lt (tgt := 56) hx hb dX9_measured_49 (by decide) (fun c_49 => ?_) (fun c_49 => absurd (nI_lt h6o (by decide)) c_49)
  refine lv_iconst (v := 0) hx hb dX9_measured_56 (by decide) ?_
  refine dz_kMi (va_runV (As := [_]) ⟨hx, hb, hml, hown, hts⟩ (c_X9_refused l Z _ _ _ _ _ _ _ _ _ _ _ _ _ _ _ _ _ _ _ ha o_12_2) (cwV 1 hts gX9_measured_X9_refused rfl rfl rfl (by decide +kernel) ⟨Nat.le_of_ble_eq_true rfl, Nat.le_of_ble_eq_true rfl⟩) (dz_P.preV hE hS hG o_12_2 rfl ha) rfl rfl hl.1 rfl (lv_room (Nat.le_of_ble_eq_true rfl)) dX9_measured_57 ⟨Nat.le_of_ble_eq_true rfl, Nat.le_of_ble_eq_true rfl⟩) hS (fun x_57_3 G_57_3 ad_57_3 H locs hp_57_3 hG hS => ?_)
  obtain ⟨fr_57_3, rfl, x9_57_3, g_57_3⟩ := hp_57_3
  obtain rfl : x_57_3 = 0 := x9_57_3.trans (by decide)
  refine lv_if_eq (tgt := 65) hx hb dX9_measured_60 (by decide) (fun c_60 => ?_) (fun c_60 => absurd (by decide) c_60)
  refine lv_aload_n hx hb dX9_measured_65 rfl (lv_at hl 1 rfl) ?_
  refine lv_iload_n hx hb dX9_measured_66 rfl (lv_at hl 2 rfl) ?_
  refine lv_iload_n hx hb dX9_measured_67 rfl (lv_at hl 3 rfl) ?_
  refine lv_iload_n hx hb dX9_measured_68 rfl (lv_at hl 4 rfl) ?_
  refine dz_kRi (va_runV (As := [_, _, _]) ⟨hx, hb, hml, hown, hts⟩ (c_X9_measure l Z _ _ _ _ _ _ _ _ _ _ _ _ _ _ _ _ _ _ _ _ _ _ _ _ _ _ j jo ha g_57_3 ((fr_57_3 _ (dz_n rfl)).1.trans ((fr_12_2 _ (dz_n rfl) (dz_n2 (by decide))).1.trans ((fr_3_1 _ (dz_n rfl) (dz_n2 (by decide))).1.trans h8))) ((fr_57_3 _ (dz_n rfl)).1.trans ((fr_12_2 _ (dz_n rfl) (dz_n2 (by decide))).1.trans ((fr_3_1 _ (dz_n rfl) (dz_n2 (by decide))).1.trans h9))) ((fr_57_3 _ (dz_n rfl)).1.trans ((fr_12_2 _ (dz_n rfl) (dz_n2 (by decide))).1.trans ((fr_3_1 _ (dz_n rfl) (dz_n2 (by decide))).1.trans h30))) ((fr_57_3 _ (dz_n rfl)).1.trans ((fr_12_2 _ (dz_n rfl) (dz_n2 (by decide))).1.trans ((fr_3_1 _ (dz_n rfl) (dz_n2 (by decide))).1.trans h31))) ((fr_57_3 _ (dz_n rfl)).1.trans gh_12_2) (by omega) hnf h6r h6o ((hgk rk hrk).trans hij) hjj ((hgk ot hot).trans hijo) hjjo) (cwV 3 hts gX9_measured_X9_measure rfl rfl rfl (by decide +kernel) ⟨Nat.le_of_ble_eq_true rfl, Nat.le_of_ble_eq_true rfl⟩) (dz_P.preV hE hS hG g_57_3 rfl ha) rfl rfl hl.1 rfl (lv_room (Nat.le_of_ble_eq_true rfl)) dX9_measured_69 ⟨Nat.le_of_ble_eq_true rfl, Nat.le_of_ble_eq_true rfl⟩) ?_
  refine lv_topi (fun v_1 ev_1 => ?_)
  obtain rfl : v_1 = (m_nb f30 (fun i => f31 (30 * i + 6 * sc + rk)) (fun i => f31 (30 * i + 6 * sc + ot)) nf (m_abs (m_times (m_turn (fun j => m_pc j - f8 j) (fun j => m_pr j - f9 j) jo))) (m_abs (m_times (m_turn (fun j => m_pc j - f8 j) (fun j => m_pr j - f9 j) j))) 151).1 := ev_1
  refine W.widen (k := 0) (n := 0) (by first | omega | decide) (by first | omega | decide) ?_
  refine W.iret hx hb hrt (fun t ht hW => dz_endM (f := rv_i) _ hE hS hG ?_ ht hW) (fun q h => hS.2.2 q h) dX9_measured_72
  refine ⟨fun r9 n_0 n_1 => (dz_tr (fr_57_3 r9 n_0) (dz_tr (fr_12_2 r9 n_0 n_1) (fr_3_1 r9 n_0 n_1))), rfl, ?_⟩
  exact ⟨rfl, g_57_3, _, ((fr_57_3 _ (dz_n rfl)).1.trans gh_12_2), hgk⟩

set_option maxHeartbeats 4000000 in
set_option maxRecDepth 100000 in
theorem c_M_cross_no (l : Launch) (Z : dzG) (G : dzW) (ad : dzA) (aM nm ns nl nx nf my : Nat) (th dy td ssf sst cfr grw bkk iop : Int32) (v1 v2 v3 v4 : Int32) (ha : ad (39, 0) = aM) (ho : G (39, 0) = some (eO 10 [.int th, .int dy, .int (nI nm), .ref (ad (40, 3)), .ref (ad (40, 4)), .ref (ad (40, 5)), .ref (ad (40, 6)), .int td, .ref (ad (40, 8)), .ref (ad (40, 9)), .ref (ad (40, 10)), .int (nI ns), .ref (ad (40, 12)), .ref (ad (40, 13)), .ref (ad (40, 14)), .int (nI nl), .ref (ad (40, 16)), .ref (ad (40, 17)), .ref (ad (40, 18)), .int (nI nx), .ref (ad (40, 20)), .ref (ad (40, 21)), .ref (ad (40, 22)), .ref (ad (40, 23)), .ref (ad (40, 24)), .int ssf, .int sst, .int cfr, .int grw, .int (nI nf), .ref (ad (40, 30)), .ref (ad (40, 31)), .int bkk, .ref (ad (40, 33)), .ref (ad (40, 34)), .ref (ad (40, 35)), .int iop, .ref (ad (40, 37)), .int (nI my)])) (hv : v1 < 0 ∨ nI ns ≤ v1) (hns : ns ≤ 5) : dzWr l yX9_cross wsX9_cross 3 65 0 0 Z G ad [.ref aM, .int v1, .int v2, .int v3, .int v4] rv_v (fun (x : Unit) G1 ad1 => (∀ r9 : dzR, r9 ≠ (39, 0) → G1 r9 = G r9 ∧ ad1 r9 = ad r9) ∧ ad = ad1 ∧ G1 (39, 0) = some (eO 10 [.int 1, .int dy, .int (nI nm), .ref (ad (40, 3)), .ref (ad (40, 4)), .ref (ad (40, 5)), .ref (ad (40, 6)), .int td, .ref (ad (40, 8)), .ref (ad (40, 9)), .ref (ad (40, 10)), .int (nI ns), .ref (ad (40, 12)), .ref (ad (40, 13)), .ref (ad (40, 14)), .int (nI nl), .ref (ad (40, 16)), .ref (ad (40, 17)), .ref (ad (40, 18)), .int (nI nx), .ref (ad (40, 20)), .ref (ad (40, 21)), .ref (ad (40, 22)), .ref (ad (40, 23)), .ref (ad (40, 24)), .int ssf, .int sst, .int cfr, .int grw, .int (nI nf), .ref (ad (40, 30)), .ref (ad (40, 31)), .int bkk, .ref (ad (40, 33)), .ref (ad (40, 34)), .ref (ad (40, 35)), .int iop, .ref (ad (40, 37)), .int (nI my)])) := by
  refine Met.ofW (cc := cX9_cross) (maxL := 7) (ret := none) (by decide) rfl ?_
  intro p e s m args below meth c s₁ B hml hv
  obtain ⟨rfl, hG, hE⟩ := hv
  have hx := B.exec
  have hb := B.bytes
  have hrt := B.returns
  have hts := atoms_spec (ws := wsX9_cross) B.pre
  have hown : s.vm.findClass RX9 = some m.cls := findClass_of_methodNamed B.named
  have hlocks := B.notSynchronized
  have hS : va_S (dz_A Z) s.heap s.heap [] := va_S.rf
  have hl := lv_entry ([.ref aM, .int v1, .int v2, .int v3, .int v4]) (n := 7) (Nat.le_of_ble_eq_true rfl)
  rw [lg_entry_eq]
  generalize (lg_sl ([.ref aM, .int v1, .int v2, .int v3, .int v4]) ++ List.replicate (7 - (lg_sl ([.ref aM, .int v1, .int v2, .int v3, .int v4])).length) Slot.unset).toArray = ls at hl ⊢
  have hl : lv_has ls 7 [(0, .ref aM), (1, .int v1), (2, .int v2), (3, .int v3), (4, .int v4)] := hl
  refine lv_aload_n hx hb dX9_cross_0 rfl (lv_at hl 0 rfl) ?_
  refine lv_iload_n hx hb dX9_cross_1 rfl (lv_at hl 1 rfl) ?_
  refine lv_iload_n hx hb dX9_cross_2 rfl (lv_at hl 2 rfl) ?_
  refine dz_kRi (va_runV (As := [_, _]) ⟨hx, hb, hml, hown, hts⟩ (c_isImageN l Z _ _ _ _ _ _ _ _ _ _ _ _ _ _ _ _ _ _ _ _ ha ho hv hns) (cwV 2 hts gX9_cross_X9_isImage rfl rfl rfl (by decide +kernel) ⟨Nat.le_of_ble_eq_true rfl, Nat.le_of_ble_eq_true rfl⟩) (dz_P.preV hE hS hG ho rfl ha) rfl rfl hl.1 rfl (lv_room (Nat.le_of_ble_eq_true rfl)) dX9_cross_3 ⟨Nat.le_of_ble_eq_true rfl, Nat.le_of_ble_eq_true rfl⟩) ?_
  refine lv_topi (fun v_1 ev_1 => ?_)
  obtain rfl : v_1 = 0 := ev_1
  refine lv_istore (lv' := [(5, .int 0), (0, .ref aM), (1, .int v1), (2, .int v2), (3, .int v3), (4, .int v4)]) hx hb dX9_cross_6 hl (by decide) rfl (fun ls hl => ?_)
  refine lv_iload_n hx hb dX9_cross_8 rfl (lv_at hl 4 rfl) ?_
  refine lv_iconst (v := 1) hx hb dX9_cross_9 (by decide) ?_
  refine lv_bipush (v := 50) hx hb dX9_cross_10 (by decide) ?_
  refine dz_kRi (va_runS (As := [_, _, _]) ⟨hx, hb, hml, hown, hts⟩ (c_X9_in l Z _ _ _ _ _ ) (va_cwS 3 hts gX9_cross_X9_in rfl rfl rfl (by decide +kernel) ⟨Nat.le_of_ble_eq_true rfl, Nat.le_of_ble_eq_true rfl⟩) (dz_P.pre hE hS hG) rfl rfl hl.1 rfl (lv_room (Nat.le_of_ble_eq_true rfl)) dX9_cross_12 ⟨Nat.le_of_ble_eq_true rfl, Nat.le_of_ble_eq_true rfl⟩) ?_
  refine lv_if_eq (tgt := 34) hx hb dX9_cross_15 (by decide) (fun c_15 => ?_) (fun c_15 => ?_)
  · refine lv_iconst (v := 0) hx hb dX9_cross_34 (by decide) ?_
    refine lv_istore (lv' := [(6, .int 0), (5, .int 0), (0, .ref aM), (1, .int v1), (2, .int v2), (3, .int v3), (4, .int v4)]) hx hb dX9_cross_35 hl (by decide) rfl (fun ls hl => ?_)
    refine lv_aload_n hx hb dX9_cross_37 rfl (lv_at hl 2 rfl) ?_
    refine lv_iload hx hb dX9_cross_38 (lv_at hl 1 rfl) ?_
    refine lv_if_ne (tgt := 47) hx hb dX9_cross_40 (by decide) (fun c_40 => absurd (by decide) c_40) (fun c_40 => ?_)
    refine lv_iconst (v := 1) hx hb dX9_cross_43 (by decide) ?_
    refine lv_goto (tgt := 70) hx hb dX9_cross_44 (by decide) ?_
    refine dz_kMi (va_runV (As := [_]) ⟨hx, hb, hml, hown, hts⟩ (c_X9_refused l Z _ _ _ _ _ _ _ _ _ _ _ _ _ _ _ _ _ _ _ ha ho) (cwV 1 hts gX9_cross_X9_refused rfl rfl rfl (by decide +kernel) ⟨Nat.le_of_ble_eq_true rfl, Nat.le_of_ble_eq_true rfl⟩) (dz_P.preV hE hS hG ho rfl ha) rfl rfl hl.1 rfl (lv_room (Nat.le_of_ble_eq_true rfl)) dX9_cross_70 ⟨Nat.le_of_ble_eq_true rfl, Nat.le_of_ble_eq_true rfl⟩) hS (fun x_70_1 G_70_1 ad_70_1 H locs hp_70_1 hG hS => ?_)
    obtain ⟨fr_70_1, rfl, x9_70_1, g_70_1⟩ := hp_70_1
    obtain rfl : x_70_1 = 1 := x9_70_1.trans (by decide)
    refine lv_if_eq (tgt := 77) hx hb dX9_cross_73 (by decide) (fun c_73 => absurd c_73 (by decide)) (fun c_73 => ?_)
    refine W.widen (k := 0) (n := 0) (by first | omega | decide) (by first | omega | decide) ?_
    refine W.vret hx hb hrt (fun t ht hW => dz_endM (f := rv_v) () hE hS hG ?_ ht hW) (fun q h => hS.2.2 q h) dX9_cross_76
    refine ⟨fun r9 n_0 => (fr_70_1 r9 n_0), rfl, ?_⟩
    exact g_70_1
  · refine lv_iload hx hb dX9_cross_18 (lv_at hl 5 rfl) ?_
    refine lv_iconst (v := 1) hx hb dX9_cross_20 (by decide) ?_
    refine lv_sipush (v := 1000) hx hb dX9_cross_21 (by decide) ?_
    refine dz_kRi (va_runS (As := [_, _, _]) ⟨hx, hb, hml, hown, hts⟩ (c_X9_in l Z _ _ _ _ _ ) (va_cwS 3 hts gX9_cross_X9_in rfl rfl rfl (by decide +kernel) ⟨Nat.le_of_ble_eq_true rfl, Nat.le_of_ble_eq_true rfl⟩) (dz_P.pre hE hS hG) rfl rfl hl.1 rfl (lv_room (Nat.le_of_ble_eq_true rfl)) dX9_cross_24 ⟨Nat.le_of_ble_eq_true rfl, Nat.le_of_ble_eq_true rfl⟩) ?_
    refine lv_if_eq (tgt := 34) hx hb dX9_cross_27 (by decide) (fun c_27 => ?_) (fun c_27 => ?_)
    · refine lv_iconst (v := 0) hx hb dX9_cross_34 (by decide) ?_
      refine lv_istore (lv' := [(6, .int 0), (5, .int 0), (0, .ref aM), (1, .int v1), (2, .int v2), (3, .int v3), (4, .int v4)]) hx hb dX9_cross_35 hl (by decide) rfl (fun ls hl => ?_)
      refine lv_aload_n hx hb dX9_cross_37 rfl (lv_at hl 2 rfl) ?_
      refine lv_iload hx hb dX9_cross_38 (lv_at hl 1 rfl) ?_
      refine lv_if_ne (tgt := 47) hx hb dX9_cross_40 (by decide) (fun c_40 => absurd (by decide) c_40) (fun c_40 => ?_)
      refine lv_iconst (v := 1) hx hb dX9_cross_43 (by decide) ?_
      refine lv_goto (tgt := 70) hx hb dX9_cross_44 (by decide) ?_
      refine dz_kMi (va_runV (As := [_]) ⟨hx, hb, hml, hown, hts⟩ (c_X9_refused l Z _ _ _ _ _ _ _ _ _ _ _ _ _ _ _ _ _ _ _ ha ho) (cwV 1 hts gX9_cross_X9_refused rfl rfl rfl (by decide +kernel) ⟨Nat.le_of_ble_eq_true rfl, Nat.le_of_ble_eq_true rfl⟩) (dz_P.preV hE hS hG ho rfl ha) rfl rfl hl.1 rfl (lv_room (Nat.le_of_ble_eq_true rfl)) dX9_cross_70 ⟨Nat.le_of_ble_eq_true rfl, Nat.le_of_ble_eq_true rfl⟩) hS (fun x_70_2 G_70_2 ad_70_2 H locs hp_70_2 hG hS => ?_)
      obtain ⟨fr_70_2, rfl, x9_70_2, g_70_2⟩ := hp_70_2
      obtain rfl : x_70_2 = 1 := x9_70_2.trans (by decide)
      refine lv_if_eq (tgt := 77) hx hb dX9_cross_73 (by decide) (fun c_73 => absurd c_73 (by decide)) (fun c_73 => ?_)
      refine W.widen (k := 0) (n := 0) (by first | omega | decide) (by first | omega | decide) ?_
      refine W.vret hx hb hrt (fun t ht hW => dz_endM (f := rv_v) () hE hS hG ?_ ht hW) (fun q h => hS.2.2 q h) dX9_cross_76
      refine ⟨fun r9 n_0 => (fr_70_2 r9 n_0), rfl, ?_⟩
      exact g_70_2
    · refine lv_iconst (v := 1) hx hb dX9_cross_30 (by decide) ?_
      refine lv_goto (tgt := 35) hx hb dX9_cross_31 (by decide) ?_
      refine lv_istore (lv' := [(6, .int 1), (5, .int 0), (0, .ref aM), (1, .int v1), (2, .int v2), (3, .int v3), (4, .int v4)]) hx hb dX9_cross_35 hl (by decide) rfl (fun ls hl => ?_)
      refine lv_aload_n hx hb dX9_cross_37 rfl (lv_at hl 2 rfl) ?_
      refine lv_iload hx hb dX9_cross_38 (lv_at hl 1 rfl) ?_
      refine lv_if_ne (tgt := 47) hx hb dX9_cross_40 (by decide) (fun c_40 => absurd (by decide) c_40) (fun c_40 => ?_)
      refine lv_iconst (v := 1) hx hb dX9_cross_43 (by decide) ?_
      refine lv_goto (tgt := 70) hx hb dX9_cross_44 (by decide) ?_
      refine dz_kMi (va_runV (As := [_]) ⟨hx, hb, hml, hown, hts⟩ (c_X9_refused l Z _ _ _ _ _ _ _ _ _ _ _ _ _ _ _ _ _ _ _ ha ho) (cwV 1 hts gX9_cross_X9_refused rfl rfl rfl (by decide +kernel) ⟨Nat.le_of_ble_eq_true rfl, Nat.le_of_ble_eq_true rfl⟩) (dz_P.preV hE hS hG ho rfl ha) rfl rfl hl.1 rfl (lv_room (Nat.le_of_ble_eq_true rfl)) dX9_cross_70 ⟨Nat.le_of_ble_eq_true rfl, Nat.le_of_ble_eq_true rfl⟩) hS (fun x_70_3 G_70_3 ad_70_3 H locs hp_70_3 hG hS => ?_)
      obtain ⟨fr_70_3, rfl, x9_70_3, g_70_3⟩ := hp_70_3
      obtain rfl : x_70_3 = 1 := x9_70_3.trans (by decide)
      refine lv_if_eq (tgt := 77) hx hb dX9_cross_73 (by decide) (fun c_73 => absurd c_73 (by decide)) (fun c_73 => ?_)
      refine W.widen (k := 0) (n := 0) (by first | omega | decide) (by first | omega | decide) ?_
      refine W.vret hx hb hrt (fun t ht hW => dz_endM (f := rv_v) () hE hS hG ?_ ht hW) (fun q h => hS.2.2 q h) dX9_cross_76
      refine ⟨fun r9 n_0 => (fr_70_3 r9 n_0), rfl, ?_⟩
      exact g_70_3

set_option maxHeartbeats 4000000 in
set_option maxRecDepth 100000 in
theorem c_M_cross_out (l : Launch) (Z : dzG) (G : dzW) (ad : dzA) (aM nm ns nl nx nf my : Nat) (th dy td ssf sst cfr grw bkk iop : Int32) (f8 f9 f10 f12 f13 f37 : Nat → Int32) (sc : Nat) (v2 v3 v4 : Int32) (ha : ad (39, 0) = aM) (ho : G (39, 0) = some (eO 10 [.int th, .int dy, .int (nI nm), .ref (ad (40, 3)), .ref (ad (40, 4)), .ref (ad (40, 5)), .ref (ad (40, 6)), .int td, .ref (ad (40, 8)), .ref (ad (40, 9)), .ref (ad (40, 10)), .int (nI ns), .ref (ad (40, 12)), .ref (ad (40, 13)), .ref (ad (40, 14)), .int (nI nl), .ref (ad (40, 16)), .ref (ad (40, 17)), .ref (ad (40, 18)), .int (nI nx), .ref (ad (40, 20)), .ref (ad (40, 21)), .ref (ad (40, 22)), .ref (ad (40, 23)), .ref (ad (40, 24)), .int ssf, .int sst, .int cfr, .int grw, .int (nI nf), .ref (ad (40, 30)), .ref (ad (40, 31)), .int bkk, .ref (ad (40, 33)), .ref (ad (40, 34)), .ref (ad (40, 35)), .int iop, .ref (ad (40, 37)), .int (nI my)])) (h8 : G (40, 8) = some (eI Z 484 f8)) (h9 : G (40, 9) = some (eI Z 484 f9)) (h10 : G (40, 10) = some (eI Z 484 f10)) (h12 : G (40, 12) = some (eI Z 5 f12)) (h13 : G (40, 13) = some (eI Z 5 f13)) (h37 : G (40, 37) = some (eI Z 441 f37)) (hsc : sc < ns) (hns : ns ≤ 5) (hro : v2 < 0 ∨ nI (m_im f8 f9 f10 f12 f13 sc).1 ≤ v2) : dzWr l yX9_cross wsX9_cross 3 69 0 0 Z G ad [.ref aM, .int (nI sc), .int v2, .int v3, .int v4] rv_v (fun (x : Unit) G1 ad1 => (∀ r9 : dzR, r9 ≠ (39, 0) → r9 ≠ (40, 37) → G1 r9 = G r9 ∧ ad1 r9 = ad r9) ∧ ad = ad1 ∧ G1 (39, 0) = some (eO 10 [.int 1, .int dy, .int (nI nm), .ref (ad (40, 3)), .ref (ad (40, 4)), .ref (ad (40, 5)), .ref (ad (40, 6)), .int td, .ref (ad (40, 8)), .ref (ad (40, 9)), .ref (ad (40, 10)), .int (nI ns), .ref (ad (40, 12)), .ref (ad (40, 13)), .ref (ad (40, 14)), .int (nI nl), .ref (ad (40, 16)), .ref (ad (40, 17)), .ref (ad (40, 18)), .int (nI nx), .ref (ad (40, 20)), .ref (ad (40, 21)), .ref (ad (40, 22)), .ref (ad (40, 23)), .ref (ad (40, 24)), .int ssf, .int sst, .int cfr, .int grw, .int (nI nf), .ref (ad (40, 30)), .ref (ad (40, 31)), .int bkk, .ref (ad (40, 33)), .ref (ad (40, 34)), .ref (ad (40, 35)), .int iop, .ref (ad (40, 37)), .int (nI (m_im f8 f9 f10 f12 f13 sc).1)]) ∧ ∃ g, G1 (40, 37) = some (eI Z 441 g) ∧ ∀ k, k < (m_im f8 f9 f10 f12 f13 sc).1 → g k = (m_im f8 f9 f10 f12 f13 sc).2 k) := by
  refine Met.ofW (cc := cX9_cross) (maxL := 7) (ret := none) (by decide) rfl ?_
  intro p e s m args below meth c s₁ B hml hv
  obtain ⟨rfl, hG, hE⟩ := hv
  have hx := B.exec
  have hb := B.bytes
  have hrt := B.returns
  have hts := atoms_spec (ws := wsX9_cross) B.pre
  have hown : s.vm.findClass RX9 = some m.cls := findClass_of_methodNamed B.named
  have hlocks := B.notSynchronized
  have hS : va_S (dz_A Z) s.heap s.heap [] := va_S.rf
  have hl := lv_entry ([.ref aM, .int (nI sc), .int v2, .int v3, .int v4]) (n := 7) (Nat.le_of_ble_eq_true rfl)
  rw [lg_entry_eq]
  generalize (lg_sl ([.ref aM, .int (nI sc), .int v2, .int v3, .int v4]) ++ List.replicate (7 - (lg_sl ([.ref aM, .int (nI sc), .int v2, .int v3, .int v4])).length) Slot.unset).toArray = ls at hl ⊢
  have hl : lv_has ls 7 [(0, .ref aM), (1, .int (nI sc)), (2, .int v2), (3, .int v3), (4, .int v4)] := hl
  have hcn := @m_im_c f8 f9 f10 f12 f13 sc
  refine lv_aload_n hx hb dX9_cross_0 rfl (lv_at hl 0 rfl) ?_
  refine lv_iload_n hx hb dX9_cross_1 rfl (lv_at hl 1 rfl) ?_
  refine lv_iload_n hx hb dX9_cross_2 rfl (lv_at hl 2 rfl) ?_
  refine dz_kMi (va_runV (As := [_, _]) ⟨hx, hb, hml, hown, hts⟩ (c_isImageY l Z _ _ _ _ _ _ _ _ _ _ _ _ _ _ _ _ _ _ _ _ _ _ _ _ sc _ ha ho h8 h9 h10 h12 h13 h37 hsc hns) (cwV 2 hts gX9_cross_X9_isImage rfl rfl rfl (by decide +kernel) ⟨Nat.le_of_ble_eq_true rfl, Nat.le_of_ble_eq_true rfl⟩) (dz_P.preV hE hS hG ho rfl ha) rfl rfl hl.1 rfl (lv_room (Nat.le_of_ble_eq_true rfl)) dX9_cross_3 ⟨Nat.le_of_ble_eq_true rfl, Nat.le_of_ble_eq_true rfl⟩) hS (fun x_3_1 G_3_1 ad_3_1 H locs hp_3_1 hG hS => ?_)
  obtain ⟨fr_3_1, rfl, x9_3_1, o_3_1, g_3_1⟩ := hp_3_1
  obtain rfl : x_3_1 = 0 := x9_3_1.trans (dz_b0 (m_ix0 (by omega) hro))
  obtain ⟨gf_3_1, gh_3_1, hgk⟩ := g_3_1
  refine lv_istore (lv' := [(5, .int 0), (0, .ref aM), (1, .int (nI sc)), (2, .int v2), (3, .int v3), (4, .int v4)]) hx hb dX9_cross_6 hl (by decide) rfl (fun ls hl => ?_)
  refine lv_iload_n hx hb dX9_cross_8 rfl (lv_at hl 4 rfl) ?_
  refine lv_iconst (v := 1) hx hb dX9_cross_9 (by decide) ?_
  refine lv_bipush (v := 50) hx hb dX9_cross_10 (by decide) ?_
  refine dz_kRi (va_runS (As := [_, _, _]) ⟨hx, hb, hml, hown, hts⟩ (c_X9_in l Z _ _ _ _ _ ) (va_cwS 3 hts gX9_cross_X9_in rfl rfl rfl (by decide +kernel) ⟨Nat.le_of_ble_eq_true rfl, Nat.le_of_ble_eq_true rfl⟩) (dz_P.pre hE hS hG) rfl rfl hl.1 rfl (lv_room (Nat.le_of_ble_eq_true rfl)) dX9_cross_12 ⟨Nat.le_of_ble_eq_true rfl, Nat.le_of_ble_eq_true rfl⟩) ?_
  refine lv_if_eq (tgt := 34) hx hb dX9_cross_15 (by decide) (fun c_15 => ?_) (fun c_15 => ?_)
  · refine lv_iconst (v := 0) hx hb dX9_cross_34 (by decide) ?_
    refine lv_istore (lv' := [(6, .int 0), (5, .int 0), (0, .ref aM), (1, .int (nI sc)), (2, .int v2), (3, .int v3), (4, .int v4)]) hx hb dX9_cross_35 hl (by decide) rfl (fun ls hl => ?_)
    refine lv_aload_n hx hb dX9_cross_37 rfl (lv_at hl 2 rfl) ?_
    refine lv_iload hx hb dX9_cross_38 (lv_at hl 1 rfl) ?_
    refine lv_if_ne (tgt := 47) hx hb dX9_cross_40 (by decide) (fun c_40 => absurd (by decide) c_40) (fun c_40 => ?_)
    refine lv_iconst (v := 1) hx hb dX9_cross_43 (by decide) ?_
    refine lv_goto (tgt := 70) hx hb dX9_cross_44 (by decide) ?_
    refine dz_kMi (va_runV (As := [_]) ⟨hx, hb, hml, hown, hts⟩ (c_X9_refused l Z _ _ _ _ _ _ _ _ _ _ _ _ _ _ _ _ _ _ _ ha o_3_1) (cwV 1 hts gX9_cross_X9_refused rfl rfl rfl (by decide +kernel) ⟨Nat.le_of_ble_eq_true rfl, Nat.le_of_ble_eq_true rfl⟩) (dz_P.preV hE hS hG o_3_1 rfl ha) rfl rfl hl.1 rfl (lv_room (Nat.le_of_ble_eq_true rfl)) dX9_cross_70 ⟨Nat.le_of_ble_eq_true rfl, Nat.le_of_ble_eq_true rfl⟩) hS (fun x_70_2 G_70_2 ad_70_2 H locs hp_70_2 hG hS => ?_)
    obtain ⟨fr_70_2, rfl, x9_70_2, g_70_2⟩ := hp_70_2
    obtain rfl : x_70_2 = 1 := x9_70_2.trans (by decide)
    refine lv_if_eq (tgt := 77) hx hb dX9_cross_73 (by decide) (fun c_73 => absurd c_73 (by decide)) (fun c_73 => ?_)
    refine W.widen (k := 0) (n := 0) (by first | omega | decide) (by first | omega | decide) ?_
    refine W.vret hx hb hrt (fun t ht hW => dz_endM (f := rv_v) () hE hS hG ?_ ht hW) (fun q h => hS.2.2 q h) dX9_cross_76
    refine ⟨fun r9 n_0 n_1 => (dz_tr (fr_70_2 r9 n_0) (fr_3_1 r9 n_0 n_1)), rfl, ?_⟩
    exact ⟨g_70_2, _, ((fr_70_2 _ (dz_n rfl)).1.trans gh_3_1), hgk⟩
  · refine lv_iload hx hb dX9_cross_18 (lv_at hl 5 rfl) ?_
    refine lv_iconst (v := 1) hx hb dX9_cross_20 (by decide) ?_
    refine lv_sipush (v := 1000) hx hb dX9_cross_21 (by decide) ?_
    refine dz_kRi (va_runS (As := [_, _, _]) ⟨hx, hb, hml, hown, hts⟩ (c_X9_in l Z _ _ _ _ _ ) (va_cwS 3 hts gX9_cross_X9_in rfl rfl rfl (by decide +kernel) ⟨Nat.le_of_ble_eq_true rfl, Nat.le_of_ble_eq_true rfl⟩) (dz_P.pre hE hS hG) rfl rfl hl.1 rfl (lv_room (Nat.le_of_ble_eq_true rfl)) dX9_cross_24 ⟨Nat.le_of_ble_eq_true rfl, Nat.le_of_ble_eq_true rfl⟩) ?_
    refine lv_if_eq (tgt := 34) hx hb dX9_cross_27 (by decide) (fun c_27 => ?_) (fun c_27 => ?_)
    · refine lv_iconst (v := 0) hx hb dX9_cross_34 (by decide) ?_
      refine lv_istore (lv' := [(6, .int 0), (5, .int 0), (0, .ref aM), (1, .int (nI sc)), (2, .int v2), (3, .int v3), (4, .int v4)]) hx hb dX9_cross_35 hl (by decide) rfl (fun ls hl => ?_)
      refine lv_aload_n hx hb dX9_cross_37 rfl (lv_at hl 2 rfl) ?_
      refine lv_iload hx hb dX9_cross_38 (lv_at hl 1 rfl) ?_
      refine lv_if_ne (tgt := 47) hx hb dX9_cross_40 (by decide) (fun c_40 => absurd (by decide) c_40) (fun c_40 => ?_)
      refine lv_iconst (v := 1) hx hb dX9_cross_43 (by decide) ?_
      refine lv_goto (tgt := 70) hx hb dX9_cross_44 (by decide) ?_
      refine dz_kMi (va_runV (As := [_]) ⟨hx, hb, hml, hown, hts⟩ (c_X9_refused l Z _ _ _ _ _ _ _ _ _ _ _ _ _ _ _ _ _ _ _ ha o_3_1) (cwV 1 hts gX9_cross_X9_refused rfl rfl rfl (by decide +kernel) ⟨Nat.le_of_ble_eq_true rfl, Nat.le_of_ble_eq_true rfl⟩) (dz_P.preV hE hS hG o_3_1 rfl ha) rfl rfl hl.1 rfl (lv_room (Nat.le_of_ble_eq_true rfl)) dX9_cross_70 ⟨Nat.le_of_ble_eq_true rfl, Nat.le_of_ble_eq_true rfl⟩) hS (fun x_70_3 G_70_3 ad_70_3 H locs hp_70_3 hG hS => ?_)
      obtain ⟨fr_70_3, rfl, x9_70_3, g_70_3⟩ := hp_70_3
      obtain rfl : x_70_3 = 1 := x9_70_3.trans (by decide)
      refine lv_if_eq (tgt := 77) hx hb dX9_cross_73 (by decide) (fun c_73 => absurd c_73 (by decide)) (fun c_73 => ?_)
      refine W.widen (k := 0) (n := 0) (by first | omega | decide) (by first | omega | decide) ?_
      refine W.vret hx hb hrt (fun t ht hW => dz_endM (f := rv_v) () hE hS hG ?_ ht hW) (fun q h => hS.2.2 q h) dX9_cross_76
      refine ⟨fun r9 n_0 n_1 => (dz_tr (fr_70_3 r9 n_0) (fr_3_1 r9 n_0 n_1)), rfl, ?_⟩
      exact ⟨g_70_3, _, ((fr_70_3 _ (dz_n rfl)).1.trans gh_3_1), hgk⟩
    · refine lv_iconst (v := 1) hx hb dX9_cross_30 (by decide) ?_
      refine lv_goto (tgt := 35) hx hb dX9_cross_31 (by decide) ?_
      refine lv_istore (lv' := [(6, .int 1), (5, .int 0), (0, .ref aM), (1, .int (nI sc)), (2, .int v2), (3, .int v3), (4, .int v4)]) hx hb dX9_cross_35 hl (by decide) rfl (fun ls hl => ?_)
      refine lv_aload_n hx hb dX9_cross_37 rfl (lv_at hl 2 rfl) ?_
      refine lv_iload hx hb dX9_cross_38 (lv_at hl 1 rfl) ?_
      refine lv_if_ne (tgt := 47) hx hb dX9_cross_40 (by decide) (fun c_40 => absurd (by decide) c_40) (fun c_40 => ?_)
      refine lv_iconst (v := 1) hx hb dX9_cross_43 (by decide) ?_
      refine lv_goto (tgt := 70) hx hb dX9_cross_44 (by decide) ?_
      refine dz_kMi (va_runV (As := [_]) ⟨hx, hb, hml, hown, hts⟩ (c_X9_refused l Z _ _ _ _ _ _ _ _ _ _ _ _ _ _ _ _ _ _ _ ha o_3_1) (cwV 1 hts gX9_cross_X9_refused rfl rfl rfl (by decide +kernel) ⟨Nat.le_of_ble_eq_true rfl, Nat.le_of_ble_eq_true rfl⟩) (dz_P.preV hE hS hG o_3_1 rfl ha) rfl rfl hl.1 rfl (lv_room (Nat.le_of_ble_eq_true rfl)) dX9_cross_70 ⟨Nat.le_of_ble_eq_true rfl, Nat.le_of_ble_eq_true rfl⟩) hS (fun x_70_4 G_70_4 ad_70_4 H locs hp_70_4 hG hS => ?_)
      obtain ⟨fr_70_4, rfl, x9_70_4, g_70_4⟩ := hp_70_4
      obtain rfl : x_70_4 = 1 := x9_70_4.trans (by decide)
      refine lv_if_eq (tgt := 77) hx hb dX9_cross_73 (by decide) (fun c_73 => absurd c_73 (by decide)) (fun c_73 => ?_)
      refine W.widen (k := 0) (n := 0) (by first | omega | decide) (by first | omega | decide) ?_
      refine W.vret hx hb hrt (fun t ht hW => dz_endM (f := rv_v) () hE hS hG ?_ ht hW) (fun q h => hS.2.2 q h) dX9_cross_76
      refine ⟨fun r9 n_0 n_1 => (dz_tr (fr_70_4 r9 n_0) (fr_3_1 r9 n_0 n_1)), rfl, ?_⟩
      exact ⟨g_70_4, _, ((fr_70_4 _ (dz_n rfl)).1.trans gh_3_1), hgk⟩

set_option maxHeartbeats 4000000 in
set_option maxRecDepth 100000 in
theorem c_M_cross_bad (l : Launch) (Z : dzG) (G : dzW) (ad : dzA) (aM nm ns nl nx nf my : Nat) (th dy td ssf sst cfr grw bkk iop : Int32) (f8 f9 f10 f12 f13 f37 : Nat → Int32) (sc rk : Nat) (v3 v4 : Int32) (ha : ad (39, 0) = aM) (ho : G (39, 0) = some (eO 10 [.int th, .int dy, .int (nI nm), .ref (ad (40, 3)), .ref (ad (40, 4)), .ref (ad (40, 5)), .ref (ad (40, 6)), .int td, .ref (ad (40, 8)), .ref (ad (40, 9)), .ref (ad (40, 10)), .int (nI ns), .ref (ad (40, 12)), .ref (ad (40, 13)), .ref (ad (40, 14)), .int (nI nl), .ref (ad (40, 16)), .ref (ad (40, 17)), .ref (ad (40, 18)), .int (nI nx), .ref (ad (40, 20)), .ref (ad (40, 21)), .ref (ad (40, 22)), .ref (ad (40, 23)), .ref (ad (40, 24)), .int ssf, .int sst, .int cfr, .int grw, .int (nI nf), .ref (ad (40, 30)), .ref (ad (40, 31)), .int bkk, .ref (ad (40, 33)), .ref (ad (40, 34)), .ref (ad (40, 35)), .int iop, .ref (ad (40, 37)), .int (nI my)])) (h8 : G (40, 8) = some (eI Z 484 f8)) (h9 : G (40, 9) = some (eI Z 484 f9)) (h10 : G (40, 10) = some (eI Z 484 f10)) (h12 : G (40, 12) = some (eI Z 5 f12)) (h13 : G (40, 13) = some (eI Z 5 f13)) (h37 : G (40, 37) = some (eI Z 441 f37)) (hsc : sc < ns) (hns : ns ≤ 5) (hrk : rk < (m_im f8 f9 f10 f12 f13 sc).1) (hbad : ¬ (((1 : Int32) ≤ v3 ∧ v3 ≤ 50) ∧ ((1 : Int32) ≤ v4 ∧ v4 ≤ 1000))) : dzWr l yX9_cross wsX9_cross 3 69 0 0 Z G ad [.ref aM, .int (nI sc), .int (nI rk), .int v3, .int v4] rv_v (fun (x : Unit) G1 ad1 => (∀ r9 : dzR, r9 ≠ (39, 0) → r9 ≠ (40, 37) → G1 r9 = G r9 ∧ ad1 r9 = ad r9) ∧ ad = ad1 ∧ G1 (39, 0) = some (eO 10 [.int 2, .int dy, .int (nI nm), .ref (ad (40, 3)), .ref (ad (40, 4)), .ref (ad (40, 5)), .ref (ad (40, 6)), .int td, .ref (ad (40, 8)), .ref (ad (40, 9)), .ref (ad (40, 10)), .int (nI ns), .ref (ad (40, 12)), .ref (ad (40, 13)), .ref (ad (40, 14)), .int (nI nl), .ref (ad (40, 16)), .ref (ad (40, 17)), .ref (ad (40, 18)), .int (nI nx), .ref (ad (40, 20)), .ref (ad (40, 21)), .ref (ad (40, 22)), .ref (ad (40, 23)), .ref (ad (40, 24)), .int ssf, .int sst, .int cfr, .int grw, .int (nI nf), .ref (ad (40, 30)), .ref (ad (40, 31)), .int bkk, .ref (ad (40, 33)), .ref (ad (40, 34)), .ref (ad (40, 35)), .int iop, .ref (ad (40, 37)), .int (nI (m_im f8 f9 f10 f12 f13 sc).1)]) ∧ ∃ g, G1 (40, 37) = some (eI Z 441 g) ∧ ∀ k, k < (m_im f8 f9 f10 f12 f13 sc).1 → g k = (m_im f8 f9 f10 f12 f13 sc).2 k) := by
  refine Met.ofW (cc := cX9_cross) (maxL := 7) (ret := none) (by decide) rfl ?_
  intro p e s m args below meth c s₁ B hml hv
  obtain ⟨rfl, hG, hE⟩ := hv
  have hx := B.exec
  have hb := B.bytes
  have hrt := B.returns
  have hts := atoms_spec (ws := wsX9_cross) B.pre
  have hown : s.vm.findClass RX9 = some m.cls := findClass_of_methodNamed B.named
  have hlocks := B.notSynchronized
  have hS : va_S (dz_A Z) s.heap s.heap [] := va_S.rf
  have hl := lv_entry ([.ref aM, .int (nI sc), .int (nI rk), .int v3, .int v4]) (n := 7) (Nat.le_of_ble_eq_true rfl)
  rw [lg_entry_eq]
  generalize (lg_sl ([.ref aM, .int (nI sc), .int (nI rk), .int v3, .int v4]) ++ List.replicate (7 - (lg_sl ([.ref aM, .int (nI sc), .int (nI rk), .int v3, .int v4])).length) Slot.unset).toArray = ls at hl ⊢
  have hl : lv_has ls 7 [(0, .ref aM), (1, .int (nI sc)), (2, .int (nI rk)), (3, .int v3), (4, .int v4)] := hl
  have hcn := @m_im_c f8 f9 f10 f12 f13 sc
  refine lv_aload_n hx hb dX9_cross_0 rfl (lv_at hl 0 rfl) ?_
  refine lv_iload_n hx hb dX9_cross_1 rfl (lv_at hl 1 rfl) ?_
  refine lv_iload_n hx hb dX9_cross_2 rfl (lv_at hl 2 rfl) ?_
  refine dz_kMi (va_runV (As := [_, _]) ⟨hx, hb, hml, hown, hts⟩ (c_isImageY l Z _ _ _ _ _ _ _ _ _ _ _ _ _ _ _ _ _ _ _ _ _ _ _ _ sc _ ha ho h8 h9 h10 h12 h13 h37 hsc hns) (cwV 2 hts gX9_cross_X9_isImage rfl rfl rfl (by decide +kernel) ⟨Nat.le_of_ble_eq_true rfl, Nat.le_of_ble_eq_true rfl⟩) (dz_P.preV hE hS hG ho rfl ha) rfl rfl hl.1 rfl (lv_room (Nat.le_of_ble_eq_true rfl)) dX9_cross_3 ⟨Nat.le_of_ble_eq_true rfl, Nat.le_of_ble_eq_true rfl⟩) hS (fun x_3_1 G_3_1 ad_3_1 H locs hp_3_1 hG hS => ?_)
  obtain ⟨fr_3_1, rfl, x9_3_1, o_3_1, g_3_1⟩ := hp_3_1
  obtain rfl : x_3_1 = 1 := x9_3_1.trans (dz_b1 (m_ix1 (by omega) hrk))
  obtain ⟨gf_3_1, gh_3_1, hgk⟩ := g_3_1
  refine lv_istore (lv' := [(5, .int 1), (0, .ref aM), (1, .int (nI sc)), (2, .int (nI rk)), (3, .int v3), (4, .int v4)]) hx hb dX9_cross_6 hl (by decide) rfl (fun ls hl => ?_)
  refine lv_iload_n hx hb dX9_cross_8 rfl (lv_at hl 4 rfl) ?_
  refine lv_iconst (v := 1) hx hb dX9_cross_9 (by decide) ?_
  refine lv_bipush (v := 50) hx hb dX9_cross_10 (by decide) ?_
  refine dz_kRi (va_runS (As := [_, _, _]) ⟨hx, hb, hml, hown, hts⟩ (c_X9_in l Z _ _ _ _ _ ) (va_cwS 3 hts gX9_cross_X9_in rfl rfl rfl (by decide +kernel) ⟨Nat.le_of_ble_eq_true rfl, Nat.le_of_ble_eq_true rfl⟩) (dz_P.pre hE hS hG) rfl rfl hl.1 rfl (lv_room (Nat.le_of_ble_eq_true rfl)) dX9_cross_12 ⟨Nat.le_of_ble_eq_true rfl, Nat.le_of_ble_eq_true rfl⟩) ?_
  refine lv_if_eq (tgt := 34) hx hb dX9_cross_15 (by decide) (fun c_15 => ?_) (fun c_15 => ?_)
  · refine lv_iconst (v := 0) hx hb dX9_cross_34 (by decide) ?_
    refine lv_istore (lv' := [(6, .int 0), (5, .int 1), (0, .ref aM), (1, .int (nI sc)), (2, .int (nI rk)), (3, .int v3), (4, .int v4)]) hx hb dX9_cross_35 hl (by decide) rfl (fun ls hl => ?_)
    refine lv_aload_n hx hb dX9_cross_37 rfl (lv_at hl 2 rfl) ?_
    refine lv_iload hx hb dX9_cross_38 (lv_at hl 1 rfl) ?_
    refine lv_if_ne (tgt := 47) hx hb dX9_cross_40 (by decide) (fun c_40 => ?_) (fun c_40 => absurd c_40 (by decide))
    refine lv_iload hx hb dX9_cross_47 (lv_at hl 0 rfl) ?_
    refine lv_if_ne (tgt := 56) hx hb dX9_cross_49 (by decide) (fun c_49 => absurd (by decide) c_49) (fun c_49 => ?_)
    refine lv_iconst (v := 2) hx hb dX9_cross_52 (by decide) ?_
    refine lv_goto (tgt := 70) hx hb dX9_cross_53 (by decide) ?_
    refine dz_kMi (va_runV (As := [_]) ⟨hx, hb, hml, hown, hts⟩ (c_X9_refused l Z _ _ _ _ _ _ _ _ _ _ _ _ _ _ _ _ _ _ _ ha o_3_1) (cwV 1 hts gX9_cross_X9_refused rfl rfl rfl (by decide +kernel) ⟨Nat.le_of_ble_eq_true rfl, Nat.le_of_ble_eq_true rfl⟩) (dz_P.preV hE hS hG o_3_1 rfl ha) rfl rfl hl.1 rfl (lv_room (Nat.le_of_ble_eq_true rfl)) dX9_cross_70 ⟨Nat.le_of_ble_eq_true rfl, Nat.le_of_ble_eq_true rfl⟩) hS (fun x_70_2 G_70_2 ad_70_2 H locs hp_70_2 hG hS => ?_)
    obtain ⟨fr_70_2, rfl, x9_70_2, g_70_2⟩ := hp_70_2
    obtain rfl : x_70_2 = 1 := x9_70_2.trans (by decide)
    refine lv_if_eq (tgt := 77) hx hb dX9_cross_73 (by decide) (fun c_73 => absurd c_73 (by decide)) (fun c_73 => ?_)
    refine W.widen (k := 0) (n := 0) (by first | omega | decide) (by first | omega | decide) ?_
    refine W.vret hx hb hrt (fun t ht hW => dz_endM (f := rv_v) () hE hS hG ?_ ht hW) (fun q h => hS.2.2 q h) dX9_cross_76
    refine ⟨fun r9 n_0 n_1 => (dz_tr (fr_70_2 r9 n_0) (fr_3_1 r9 n_0 n_1)), rfl, ?_⟩
    exact ⟨g_70_2, _, ((fr_70_2 _ (dz_n rfl)).1.trans gh_3_1), hgk⟩
  · refine lv_iload hx hb dX9_cross_18 (lv_at hl 5 rfl) ?_
    refine lv_iconst (v := 1) hx hb dX9_cross_20 (by decide) ?_
    refine lv_sipush (v := 1000) hx hb dX9_cross_21 (by decide) ?_
    refine dz_kRi (va_runS (As := [_, _, _]) ⟨hx, hb, hml, hown, hts⟩ (c_X9_in l Z _ _ _ _ _ ) (va_cwS 3 hts gX9_cross_X9_in rfl rfl rfl (by decide +kernel) ⟨Nat.le_of_ble_eq_true rfl, Nat.le_of_ble_eq_true rfl⟩) (dz_P.pre hE hS hG) rfl rfl hl.1 rfl (lv_room (Nat.le_of_ble_eq_true rfl)) dX9_cross_24 ⟨Nat.le_of_ble_eq_true rfl, Nat.le_of_ble_eq_true rfl⟩) ?_
    refine lv_if_eq (tgt := 34) hx hb dX9_cross_27 (by decide) (fun c_27 => ?_) (fun c_27 => ?_)
    · refine lv_iconst (v := 0) hx hb dX9_cross_34 (by decide) ?_
      refine lv_istore (lv' := [(6, .int 0), (5, .int 1), (0, .ref aM), (1, .int (nI sc)), (2, .int (nI rk)), (3, .int v3), (4, .int v4)]) hx hb dX9_cross_35 hl (by decide) rfl (fun ls hl => ?_)
      refine lv_aload_n hx hb dX9_cross_37 rfl (lv_at hl 2 rfl) ?_
      refine lv_iload hx hb dX9_cross_38 (lv_at hl 1 rfl) ?_
      refine lv_if_ne (tgt := 47) hx hb dX9_cross_40 (by decide) (fun c_40 => ?_) (fun c_40 => absurd c_40 (by decide))
      refine lv_iload hx hb dX9_cross_47 (lv_at hl 0 rfl) ?_
      refine lv_if_ne (tgt := 56) hx hb dX9_cross_49 (by decide) (fun c_49 => absurd (by decide) c_49) (fun c_49 => ?_)
      refine lv_iconst (v := 2) hx hb dX9_cross_52 (by decide) ?_
      refine lv_goto (tgt := 70) hx hb dX9_cross_53 (by decide) ?_
      refine dz_kMi (va_runV (As := [_]) ⟨hx, hb, hml, hown, hts⟩ (c_X9_refused l Z _ _ _ _ _ _ _ _ _ _ _ _ _ _ _ _ _ _ _ ha o_3_1) (cwV 1 hts gX9_cross_X9_refused rfl rfl rfl (by decide +kernel) ⟨Nat.le_of_ble_eq_true rfl, Nat.le_of_ble_eq_true rfl⟩) (dz_P.preV hE hS hG o_3_1 rfl ha) rfl rfl hl.1 rfl (lv_room (Nat.le_of_ble_eq_true rfl)) dX9_cross_70 ⟨Nat.le_of_ble_eq_true rfl, Nat.le_of_ble_eq_true rfl⟩) hS (fun x_70_3 G_70_3 ad_70_3 H locs hp_70_3 hG hS => ?_)
      obtain ⟨fr_70_3, rfl, x9_70_3, g_70_3⟩ := hp_70_3
      obtain rfl : x_70_3 = 1 := x9_70_3.trans (by decide)
      refine lv_if_eq (tgt := 77) hx hb dX9_cross_73 (by decide) (fun c_73 => absurd c_73 (by decide)) (fun c_73 => ?_)
      refine W.widen (k := 0) (n := 0) (by first | omega | decide) (by first | omega | decide) ?_
      refine W.vret hx hb hrt (fun t ht hW => dz_endM (f := rv_v) () hE hS hG ?_ ht hW) (fun q h => hS.2.2 q h) dX9_cross_76
      refine ⟨fun r9 n_0 n_1 => (dz_tr (fr_70_3 r9 n_0) (fr_3_1 r9 n_0 n_1)), rfl, ?_⟩
      exact ⟨g_70_3, _, ((fr_70_3 _ (dz_n rfl)).1.trans gh_3_1), hgk⟩
    · exact absurd ⟨dz_by c_15, dz_by c_27⟩ hbad

set_option maxHeartbeats 4000000 in
set_option maxRecDepth 100000 in
theorem c_M_cross_full (l : Launch) (Z : dzG) (G : dzW) (ad : dzA) (aM nm ns nl nx nf my : Nat) (th dy td ssf sst cfr grw bkk iop : Int32) (f8 f9 f10 f12 f13 f37 : Nat → Int32) (sc rk : Nat) (v3 v4 : Int32) (ha : ad (39, 0) = aM) (ho : G (39, 0) = some (eO 10 [.int th, .int dy, .int (nI nm), .ref (ad (40, 3)), .ref (ad (40, 4)), .ref (ad (40, 5)), .ref (ad (40, 6)), .int td, .ref (ad (40, 8)), .ref (ad (40, 9)), .ref (ad (40, 10)), .int (nI ns), .ref (ad (40, 12)), .ref (ad (40, 13)), .ref (ad (40, 14)), .int (nI nl), .ref (ad (40, 16)), .ref (ad (40, 17)), .ref (ad (40, 18)), .int (nI nx), .ref (ad (40, 20)), .ref (ad (40, 21)), .ref (ad (40, 22)), .ref (ad (40, 23)), .ref (ad (40, 24)), .int ssf, .int sst, .int cfr, .int grw, .int (nI nf), .ref (ad (40, 30)), .ref (ad (40, 31)), .int bkk, .ref (ad (40, 33)), .ref (ad (40, 34)), .ref (ad (40, 35)), .int iop, .ref (ad (40, 37)), .int (nI my)])) (h8 : G (40, 8) = some (eI Z 484 f8)) (h9 : G (40, 9) = some (eI Z 484 f9)) (h10 : G (40, 10) = some (eI Z 484 f10)) (h12 : G (40, 12) = some (eI Z 5 f12)) (h13 : G (40, 13) = some (eI Z 5 f13)) (h37 : G (40, 37) = some (eI Z 441 f37)) (hsc : sc < ns) (hns : ns ≤ 5) (hrk : rk < (m_im f8 f9 f10 f12 f13 sc).1) (hg : (((1 : Int32) ≤ v3 ∧ v3 ≤ 50) ∧ ((1 : Int32) ≤ v4 ∧ v4 ≤ 1000))) (hnx : nx = 20) : dzWr l yX9_cross wsX9_cross 3 69 0 0 Z G ad [.ref aM, .int (nI sc), .int (nI rk), .int v3, .int v4] rv_v (fun (x : Unit) G1 ad1 => (∀ r9 : dzR, r9 ≠ (39, 0) → r9 ≠ (40, 37) → G1 r9 = G r9 ∧ ad1 r9 = ad r9) ∧ ad = ad1 ∧ G1 (39, 0) = some (eO 10 [.int 3, .int dy, .int (nI nm), .ref (ad (40, 3)), .ref (ad (40, 4)), .ref (ad (40, 5)), .ref (ad (40, 6)), .int td, .ref (ad (40, 8)), .ref (ad (40, 9)), .ref (ad (40, 10)), .int (nI ns), .ref (ad (40, 12)), .ref (ad (40, 13)), .ref (ad (40, 14)), .int (nI nl), .ref (ad (40, 16)), .ref (ad (40, 17)), .ref (ad (40, 18)), .int (nI nx), .ref (ad (40, 20)), .ref (ad (40, 21)), .ref (ad (40, 22)), .ref (ad (40, 23)), .ref (ad (40, 24)), .int ssf, .int sst, .int cfr, .int grw, .int (nI nf), .ref (ad (40, 30)), .ref (ad (40, 31)), .int bkk, .ref (ad (40, 33)), .ref (ad (40, 34)), .ref (ad (40, 35)), .int iop, .ref (ad (40, 37)), .int (nI (m_im f8 f9 f10 f12 f13 sc).1)]) ∧ ∃ g, G1 (40, 37) = some (eI Z 441 g) ∧ ∀ k, k < (m_im f8 f9 f10 f12 f13 sc).1 → g k = (m_im f8 f9 f10 f12 f13 sc).2 k) := by
  refine Met.ofW (cc := cX9_cross) (maxL := 7) (ret := none) (by decide) rfl ?_
  intro p e s m args below meth c s₁ B hml hv
  obtain ⟨rfl, hG, hE⟩ := hv
  have hx := B.exec
  have hb := B.bytes
  have hrt := B.returns
  have hts := atoms_spec (ws := wsX9_cross) B.pre
  have hown : s.vm.findClass RX9 = some m.cls := findClass_of_methodNamed B.named
  have hlocks := B.notSynchronized
  have hS : va_S (dz_A Z) s.heap s.heap [] := va_S.rf
  have hl := lv_entry ([.ref aM, .int (nI sc), .int (nI rk), .int v3, .int v4]) (n := 7) (Nat.le_of_ble_eq_true rfl)
  rw [lg_entry_eq]
  generalize (lg_sl ([.ref aM, .int (nI sc), .int (nI rk), .int v3, .int v4]) ++ List.replicate (7 - (lg_sl ([.ref aM, .int (nI sc), .int (nI rk), .int v3, .int v4])).length) Slot.unset).toArray = ls at hl ⊢
  have hl : lv_has ls 7 [(0, .ref aM), (1, .int (nI sc)), (2, .int (nI rk)), (3, .int v3), (4, .int v4)] := hl
  have hcn := @m_im_c f8 f9 f10 f12 f13 sc
  refine lv_aload_n hx hb dX9_cross_0 rfl (lv_at hl 0 rfl) ?_
  refine lv_iload_n hx hb dX9_cross_1 rfl (lv_at hl 1 rfl) ?_
  refine lv_iload_n hx hb dX9_cross_2 rfl (lv_at hl 2 rfl) ?_
  refine dz_kMi (va_runV (As := [_, _]) ⟨hx, hb, hml, hown, hts⟩ (c_isImageY l Z _ _ _ _ _ _ _ _ _ _ _ _ _ _ _ _ _ _ _ _ _ _ _ _ sc _ ha ho h8 h9 h10 h12 h13 h37 hsc hns) (cwV 2 hts gX9_cross_X9_isImage rfl rfl rfl (by decide +kernel) ⟨Nat.le_of_ble_eq_true rfl, Nat.le_of_ble_eq_true rfl⟩) (dz_P.preV hE hS hG ho rfl ha) rfl rfl hl.1 rfl (lv_room (Nat.le_of_ble_eq_true rfl)) dX9_cross_3 ⟨Nat.le_of_ble_eq_true rfl, Nat.le_of_ble_eq_true rfl⟩) hS (fun x_3_1 G_3_1 ad_3_1 H locs hp_3_1 hG hS => ?_)
  obtain ⟨fr_3_1, rfl, x9_3_1, o_3_1, g_3_1⟩ := hp_3_1
  obtain rfl : x_3_1 = 1 := x9_3_1.trans (dz_b1 (m_ix1 (by omega) hrk))
  obtain ⟨gf_3_1, gh_3_1, hgk⟩ := g_3_1
  refine lv_istore (lv' := [(5, .int 1), (0, .ref aM), (1, .int (nI sc)), (2, .int (nI rk)), (3, .int v3), (4, .int v4)]) hx hb dX9_cross_6 hl (by decide) rfl (fun ls hl => ?_)
  refine lv_iload_n hx hb dX9_cross_8 rfl (lv_at hl 4 rfl) ?_
  refine lv_iconst (v := 1) hx hb dX9_cross_9 (by decide) ?_
  refine lv_bipush (v := 50) hx hb dX9_cross_10 (by decide) ?_
  refine dz_kRi (va_runS (As := [_, _, _]) ⟨hx, hb, hml, hown, hts⟩ (c_X9_in l Z _ _ _ _ _ ) (va_cwS 3 hts gX9_cross_X9_in rfl rfl rfl (by decide +kernel) ⟨Nat.le_of_ble_eq_true rfl, Nat.le_of_ble_eq_true rfl⟩) (dz_P.pre hE hS hG) rfl rfl hl.1 rfl (lv_room (Nat.le_of_ble_eq_true rfl)) dX9_cross_12 ⟨Nat.le_of_ble_eq_true rfl, Nat.le_of_ble_eq_true rfl⟩) ?_
  refine lv_topi (fun v_1 ev_1 => ?_)
  obtain rfl : v_1 = 1 := ev_1.trans (dz_b1 hg.1)
  refine lv_if_eq (tgt := 34) hx hb dX9_cross_15 (by decide) (fun c_15 => absurd c_15 (by decide)) (fun c_15 => ?_)
  refine lv_iload hx hb dX9_cross_18 (lv_at hl 5 rfl) ?_
  refine lv_iconst (v := 1) hx hb dX9_cross_20 (by decide) ?_
  refine lv_sipush (v := 1000) hx hb dX9_cross_21 (by decide) ?_
  refine dz_kRi (va_runS (As := [_, _, _]) ⟨hx, hb, hml, hown, hts⟩ (c_X9_in l Z _ _ _ _ _ ) (va_cwS 3 hts gX9_cross_X9_in rfl rfl rfl (by decide +kernel) ⟨Nat.le_of_ble_eq_true rfl, Nat.le_of_ble_eq_true rfl⟩) (dz_P.pre hE hS hG) rfl rfl hl.1 rfl (lv_room (Nat.le_of_ble_eq_true rfl)) dX9_cross_24 ⟨Nat.le_of_ble_eq_true rfl, Nat.le_of_ble_eq_true rfl⟩) ?_
  refine lv_topi (fun v_2 ev_2 => ?_)
  obtain rfl : v_2 = 1 := ev_2.trans (dz_b1 hg.2)
  refine lv_if_eq (tgt := 34) hx hb dX9_cross_27 (by decide) (fun c_27 => absurd c_27 (by decide)) (fun c_27 => ?_)
  refine lv_iconst (v := 1) hx hb dX9_cross_30 (by decide) ?_
  refine lv_goto (tgt := 35) hx hb dX9_cross_31 (by decide) ?_
  refine lv_istore (lv' := [(6, .int 1), (5, .int 1), (0, .ref aM), (1, .int (nI sc)), (2, .int (nI rk)), (3, .int v3), (4, .int v4)]) hx hb dX9_cross_35 hl (by decide) rfl (fun ls hl => ?_)
  refine lv_aload_n hx hb dX9_cross_37 rfl (lv_at hl 2 rfl) ?_
  refine lv_iload hx hb dX9_cross_38 (lv_at hl 1 rfl) ?_
  refine lv_if_ne (tgt := 47) hx hb dX9_cross_40 (by decide) (fun c_40 => ?_) (fun c_40 => absurd c_40 (by decide))
  refine lv_iload hx hb dX9_cross_47 (lv_at hl 0 rfl) ?_
  refine lv_if_ne (tgt := 56) hx hb dX9_cross_49 (by decide) (fun c_49 => ?_) (fun c_49 => absurd c_49 (by decide))
  refine lv_aload_n hx hb dX9_cross_56 rfl (lv_at hl 2 rfl) ?_
  refine dz_get hx hb hts (fun _ h => List.mem_cons_of_mem _ (List.mem_append_right _ h)) hown hE hG ha o_3_1 rfl 19 (by decide) (hts _ (List.mem_of_getElem? (i := 1) rfl)) (fun _ h9 => h9) rfl dX9_cross_57 ?_
  refine lv_bipush (v := 20) hx hb dX9_cross_60 (by decide) ?_
  refine lv_icmp_ne (tgt := 69) hx hb dX9_cross_62 (by decide) (fun c_62 => absurd (by rw [hnx]; rfl) c_62) (fun c_62 => ?_)
  refine lv_iconst (v := 3) hx hb dX9_cross_65 (by decide) ?_
  refine lv_goto (tgt := 70) hx hb dX9_cross_66 (by decide) ?_
  refine dz_kMi (va_runV (As := [_]) ⟨hx, hb, hml, hown, hts⟩ (c_X9_refused l Z _ _ _ _ _ _ _ _ _ _ _ _ _ _ _ _ _ _ _ ha o_3_1) (cwV 1 hts gX9_cross_X9_refused rfl rfl rfl (by decide +kernel) ⟨Nat.le_of_ble_eq_true rfl, Nat.le_of_ble_eq_true rfl⟩) (dz_P.preV hE hS hG o_3_1 rfl ha) rfl rfl hl.1 rfl (lv_room (Nat.le_of_ble_eq_true rfl)) dX9_cross_70 ⟨Nat.le_of_ble_eq_true rfl, Nat.le_of_ble_eq_true rfl⟩) hS (fun x_70_2 G_70_2 ad_70_2 H locs hp_70_2 hG hS => ?_)
  obtain ⟨fr_70_2, rfl, x9_70_2, g_70_2⟩ := hp_70_2
  obtain rfl : x_70_2 = 1 := x9_70_2.trans (by decide)
  refine lv_if_eq (tgt := 77) hx hb dX9_cross_73 (by decide) (fun c_73 => absurd c_73 (by decide)) (fun c_73 => ?_)
  refine W.widen (k := 0) (n := 0) (by first | omega | decide) (by first | omega | decide) ?_
  refine W.vret hx hb hrt (fun t ht hW => dz_endM (f := rv_v) () hE hS hG ?_ ht hW) (fun q h => hS.2.2 q h) dX9_cross_76
  refine ⟨fun r9 n_0 n_1 => (dz_tr (fr_70_2 r9 n_0) (fr_3_1 r9 n_0 n_1)), rfl, ?_⟩
  exact ⟨g_70_2, _, ((fr_70_2 _ (dz_n rfl)).1.trans gh_3_1), hgk⟩

set_option maxHeartbeats 4000000 in
set_option maxRecDepth 100000 in
theorem c_M_cross_ok (l : Launch) (Z : dzG) (G : dzW) (ad : dzA) (aM nm ns nl nx nf my : Nat) (th dy td ssf sst cfr grw bkk iop : Int32) (f8 f9 f10 f12 f13 f20 f21 f22 f23 f24 f37 : Nat → Int32) (sc rk : Nat) (v3 v4 : Int32) (ha : ad (39, 0) = aM) (ho : G (39, 0) = some (eO 10 [.int th, .int dy, .int (nI nm), .ref (ad (40, 3)), .ref (ad (40, 4)), .ref (ad (40, 5)), .ref (ad (40, 6)), .int td, .ref (ad (40, 8)), .ref (ad (40, 9)), .ref (ad (40, 10)), .int (nI ns), .ref (ad (40, 12)), .ref (ad (40, 13)), .ref (ad (40, 14)), .int (nI nl), .ref (ad (40, 16)), .ref (ad (40, 17)), .ref (ad (40, 18)), .int (nI nx), .ref (ad (40, 20)), .ref (ad (40, 21)), .ref (ad (40, 22)), .ref (ad (40, 23)), .ref (ad (40, 24)), .int ssf, .int sst, .int cfr, .int grw, .int (nI nf), .ref (ad (40, 30)), .ref (ad (40, 31)), .int bkk, .ref (ad (40, 33)), .ref (ad (40, 34)), .ref (ad (40, 35)), .int iop, .ref (ad (40, 37)), .int (nI my)])) (h8 : G (40, 8) = some (eI Z 484 f8)) (h9 : G (40, 9) = some (eI Z 484 f9)) (h10 : G (40, 10) = some (eI Z 484 f10)) (h12 : G (40, 12) = some (eI Z 5 f12)) (h13 : G (40, 13) = some (eI Z 5 f13)) (h20 : G (40, 20) = some (eI Z 20 f20)) (h21 : G (40, 21) = some (eI Z 20 f21)) (h22 : G (40, 22) = some (eI Z 20 f22)) (h23 : G (40, 23) = some (eI Z 20 f23)) (h24 : G (40, 24) = some (eI Z 20 f24)) (h37 : G (40, 37) = some (eI Z 441 f37)) (hsc : sc < ns) (hns : ns ≤ 5) (hrk : rk < (m_im f8 f9 f10 f12 f13 sc).1) (hg : (((1 : Int32) ≤ v3 ∧ v3 ≤ 50) ∧ ((1 : Int32) ≤ v4 ∧ v4 ≤ 1000))) (hnx : nx ≤ 19) : dzWr l yX9_cross wsX9_cross 3 69 0 0 Z G ad [.ref aM, .int (nI sc), .int (nI rk), .int v3, .int v4] rv_v (fun (x : Unit) G1 ad1 => (∀ r9 : dzR, r9 ≠ (39, 0) → r9 ≠ (40, 37) → r9 ≠ (40, 20) → r9 ≠ (40, 21) → r9 ≠ (40, 22) → r9 ≠ (40, 23) → r9 ≠ (40, 24) → G1 r9 = G r9 ∧ ad1 r9 = ad r9) ∧ ad = ad1 ∧ G1 (40, 20) = some (eI Z 20 (upd f20 nx (nI sc))) ∧ G1 (40, 21) = some (eI Z 20 (upd f21 nx (nI rk))) ∧ G1 (40, 22) = some (eI Z 20 (upd f22 nx dy)) ∧ G1 (40, 23) = some (eI Z 20 (upd f23 nx v3)) ∧ G1 (40, 24) = some (eI Z 20 (upd f24 nx v4)) ∧ G1 (39, 0) = some (eO 10 [.int 0, .int dy, .int (nI nm), .ref (ad (40, 3)), .ref (ad (40, 4)), .ref (ad (40, 5)), .ref (ad (40, 6)), .int td, .ref (ad (40, 8)), .ref (ad (40, 9)), .ref (ad (40, 10)), .int (nI ns), .ref (ad (40, 12)), .ref (ad (40, 13)), .ref (ad (40, 14)), .int (nI nl), .ref (ad (40, 16)), .ref (ad (40, 17)), .ref (ad (40, 18)), .int (nI (nx + 1)), .ref (ad (40, 20)), .ref (ad (40, 21)), .ref (ad (40, 22)), .ref (ad (40, 23)), .ref (ad (40, 24)), .int ssf, .int sst, .int cfr, .int grw, .int (nI nf), .ref (ad (40, 30)), .ref (ad (40, 31)), .int bkk, .ref (ad (40, 33)), .ref (ad (40, 34)), .ref (ad (40, 35)), .int iop, .ref (ad (40, 37)), .int (nI (m_im f8 f9 f10 f12 f13 sc).1)]) ∧ ∃ g, G1 (40, 37) = some (eI Z 441 g) ∧ ∀ k, k < (m_im f8 f9 f10 f12 f13 sc).1 → g k = (m_im f8 f9 f10 f12 f13 sc).2 k) := by
  refine Met.ofW (cc := cX9_cross) (maxL := 7) (ret := none) (by decide) rfl ?_
  intro p e s m args below meth c s₁ B hml hv
  obtain ⟨rfl, hG, hE⟩ := hv
  have hx := B.exec
  have hb := B.bytes
  have hrt := B.returns
  have hts := atoms_spec (ws := wsX9_cross) B.pre
  have hown : s.vm.findClass RX9 = some m.cls := findClass_of_methodNamed B.named
  have hlocks := B.notSynchronized
  have hS : va_S (dz_A Z) s.heap s.heap [] := va_S.rf
  have hl := lv_entry ([.ref aM, .int (nI sc), .int (nI rk), .int v3, .int v4]) (n := 7) (Nat.le_of_ble_eq_true rfl)
  rw [lg_entry_eq]
  generalize (lg_sl ([.ref aM, .int (nI sc), .int (nI rk), .int v3, .int v4]) ++ List.replicate (7 - (lg_sl ([.ref aM, .int (nI sc), .int (nI rk), .int v3, .int v4])).length) Slot.unset).toArray = ls at hl ⊢
  have hl : lv_has ls 7 [(0, .ref aM), (1, .int (nI sc)), (2, .int (nI rk)), (3, .int v3), (4, .int v4)] := hl
  have hcn := @m_im_c f8 f9 f10 f12 f13 sc
  refine lv_aload_n hx hb dX9_cross_0 rfl (lv_at hl 0 rfl) ?_
  refine lv_iload_n hx hb dX9_cross_1 rfl (lv_at hl 1 rfl) ?_
  refine lv_iload_n hx hb dX9_cross_2 rfl (lv_at hl 2 rfl) ?_
  refine dz_kMi (va_runV (As := [_, _]) ⟨hx, hb, hml, hown, hts⟩ (c_isImageY l Z _ _ _ _ _ _ _ _ _ _ _ _ _ _ _ _ _ _ _ _ _ _ _ _ sc _ ha ho h8 h9 h10 h12 h13 h37 hsc hns) (cwV 2 hts gX9_cross_X9_isImage rfl rfl rfl (by decide +kernel) ⟨Nat.le_of_ble_eq_true rfl, Nat.le_of_ble_eq_true rfl⟩) (dz_P.preV hE hS hG ho rfl ha) rfl rfl hl.1 rfl (lv_room (Nat.le_of_ble_eq_true rfl)) dX9_cross_3 ⟨Nat.le_of_ble_eq_true rfl, Nat.le_of_ble_eq_true rfl⟩) hS (fun x_3_1 G_3_1 ad_3_1 H locs hp_3_1 hG hS => ?_)
  obtain ⟨fr_3_1, rfl, x9_3_1, o_3_1, g_3_1⟩ := hp_3_1
  obtain rfl : x_3_1 = 1 := x9_3_1.trans (dz_b1 (m_ix1 (by omega) hrk))
  obtain ⟨gf_3_1, gh_3_1, hgk⟩ := g_3_1
  refine lv_istore (lv' := [(5, .int 1), (0, .ref aM), (1, .int (nI sc)), (2, .int (nI rk)), (3, .int v3), (4, .int v4)]) hx hb dX9_cross_6 hl (by decide) rfl (fun ls hl => ?_)
  refine lv_iload_n hx hb dX9_cross_8 rfl (lv_at hl 4 rfl) ?_
  refine lv_iconst (v := 1) hx hb dX9_cross_9 (by decide) ?_
  refine lv_bipush (v := 50) hx hb dX9_cross_10 (by decide) ?_
  refine dz_kRi (va_runS (As := [_, _, _]) ⟨hx, hb, hml, hown, hts⟩ (c_X9_in l Z _ _ _ _ _ ) (va_cwS 3 hts gX9_cross_X9_in rfl rfl rfl (by decide +kernel) ⟨Nat.le_of_ble_eq_true rfl, Nat.le_of_ble_eq_true rfl⟩) (dz_P.pre hE hS hG) rfl rfl hl.1 rfl (lv_room (Nat.le_of_ble_eq_true rfl)) dX9_cross_12 ⟨Nat.le_of_ble_eq_true rfl, Nat.le_of_ble_eq_true rfl⟩) ?_
  refine lv_topi (fun v_1 ev_1 => ?_)
  obtain rfl : v_1 = 1 := ev_1.trans (dz_b1 hg.1)
  refine lv_if_eq (tgt := 34) hx hb dX9_cross_15 (by decide) (fun c_15 => absurd c_15 (by decide)) (fun c_15 => ?_)
  refine lv_iload hx hb dX9_cross_18 (lv_at hl 5 rfl) ?_
  refine lv_iconst (v := 1) hx hb dX9_cross_20 (by decide) ?_
  refine lv_sipush (v := 1000) hx hb dX9_cross_21 (by decide) ?_
  refine dz_kRi (va_runS (As := [_, _, _]) ⟨hx, hb, hml, hown, hts⟩ (c_X9_in l Z _ _ _ _ _ ) (va_cwS 3 hts gX9_cross_X9_in rfl rfl rfl (by decide +kernel) ⟨Nat.le_of_ble_eq_true rfl, Nat.le_of_ble_eq_true rfl⟩) (dz_P.pre hE hS hG) rfl rfl hl.1 rfl (lv_room (Nat.le_of_ble_eq_true rfl)) dX9_cross_24 ⟨Nat.le_of_ble_eq_true rfl, Nat.le_of_ble_eq_true rfl⟩) ?_
  refine lv_topi (fun v_2 ev_2 => ?_)
  obtain rfl : v_2 = 1 := ev_2.trans (dz_b1 hg.2)
  refine lv_if_eq (tgt := 34) hx hb dX9_cross_27 (by decide) (fun c_27 => absurd c_27 (by decide)) (fun c_27 => ?_)
  refine lv_iconst (v := 1) hx hb dX9_cross_30 (by decide) ?_
  refine lv_goto (tgt := 35) hx hb dX9_cross_31 (by decide) ?_
  refine lv_istore (lv' := [(6, .int 1), (5, .int 1), (0, .ref aM), (1, .int (nI sc)), (2, .int (nI rk)), (3, .int v3), (4, .int v4)]) hx hb dX9_cross_35 hl (by decide) rfl (fun ls hl => ?_)
  refine lv_aload_n hx hb dX9_cross_37 rfl (lv_at hl 2 rfl) ?_
  refine lv_iload hx hb dX9_cross_38 (lv_at hl 1 rfl) ?_
  refine lv_if_ne (tgt := 47) hx hb dX9_cross_40 (by decide) (fun c_40 => ?_) (fun c_40 => absurd c_40 (by decide))
  refine lv_iload hx hb dX9_cross_47 (lv_at hl 0 rfl) ?_
  refine lv_if_ne (tgt := 56) hx hb dX9_cross_49 (by decide) (fun c_49 => ?_) (fun c_49 => absurd c_49 (by decide))
  refine lv_aload_n hx hb dX9_cross_56 rfl (lv_at hl 2 rfl) ?_
  refine dz_get hx hb hts (fun _ h => List.mem_cons_of_mem _ (List.mem_append_right _ h)) hown hE hG ha o_3_1 rfl 19 (by decide) (hts _ (List.mem_of_getElem? (i := 1) rfl)) (fun _ h9 => h9) rfl dX9_cross_57 ?_
  refine lv_bipush (v := 20) hx hb dX9_cross_60 (by decide) ?_
  refine lv_icmp_ne (tgt := 69) hx hb dX9_cross_62 (by decide) (fun c_62 => ?_) (fun c_62 => absurd c_62 (fun z => absurd ((nI_e (b := 20) (by omega) (by omega)).mp z) (by omega)))
  refine lv_iconst (v := 0) hx hb dX9_cross_69 (by decide) ?_
  refine dz_kMi (va_runV (As := [_]) ⟨hx, hb, hml, hown, hts⟩ (c_X9_refused l Z _ _ _ _ _ _ _ _ _ _ _ _ _ _ _ _ _ _ _ ha o_3_1) (cwV 1 hts gX9_cross_X9_refused rfl rfl rfl (by decide +kernel) ⟨Nat.le_of_ble_eq_true rfl, Nat.le_of_ble_eq_true rfl⟩) (dz_P.preV hE hS hG o_3_1 rfl ha) rfl rfl hl.1 rfl (lv_room (Nat.le_of_ble_eq_true rfl)) dX9_cross_70 ⟨Nat.le_of_ble_eq_true rfl, Nat.le_of_ble_eq_true rfl⟩) hS (fun x_70_2 G_70_2 ad_70_2 H locs hp_70_2 hG hS => ?_)
  obtain ⟨fr_70_2, rfl, x9_70_2, g_70_2⟩ := hp_70_2
  obtain rfl : x_70_2 = 0 := x9_70_2.trans (by decide)
  refine lv_if_eq (tgt := 77) hx hb dX9_cross_73 (by decide) (fun c_73 => ?_) (fun c_73 => absurd (by decide) c_73)
  refine lv_aload_n hx hb dX9_cross_77 rfl (lv_at hl 2 rfl) ?_
  refine dz_get hx hb hts (fun _ h => List.mem_cons_of_mem _ (List.mem_append_right _ h)) hown hE hG ha g_70_2 rfl 20 (by decide) (hts _ (List.mem_of_getElem? (i := 2) rfl)) (fun _ h9 => h9) rfl dX9_cross_78 ?_
  refine lv_aload_n hx hb dX9_cross_81 rfl (lv_at hl 2 rfl) ?_
  refine dz_get hx hb hts (fun _ h => List.mem_cons_of_mem _ (List.mem_append_right _ h)) hown hE hG ha g_70_2 rfl 19 (by decide) (hts _ (List.mem_of_getElem? (i := 1) rfl)) (fun _ h9 => h9) rfl dX9_cross_82 ?_
  refine lv_iload_n hx hb dX9_cross_85 rfl (lv_at hl 3 rfl) ?_
  refine dz_iast hx hb hE hG ((fr_70_2 _ (dz_n rfl)).2.trans ((fr_3_1 _ (dz_n rfl) (dz_n2 (by decide))).2.trans rfl)) hS ((fr_70_2 _ (dz_n rfl)).1.trans ((fr_3_1 _ (dz_n rfl) (dz_n2 (by decide))).1.trans h20)) (vp_in_nI (by omega) (by decide)) dX9_cross_86 (fun H locs hG hS => ?_)
  rw [nI_clamp (show nx < 2 ^ 31 by omega)] at hG
  obtain ⟨G_1, hG, w_1, o_1⟩ := dz_nm hG
  refine lv_aload_n hx hb dX9_cross_87 rfl (lv_at hl 2 rfl) ?_
  refine dz_get hx hb hts (fun _ h => List.mem_cons_of_mem _ (List.mem_append_right _ h)) hown hE hG ((o_1 _ (dz_n rfl)).2.trans ha) ((o_1 _ (dz_n rfl)).1.trans g_70_2) rfl 21 (by decide) (hts _ (List.mem_of_getElem? (i := 3) rfl)) (fun _ h9 => h9) rfl dX9_cross_88 ?_
  refine lv_aload_n hx hb dX9_cross_91 rfl (lv_at hl 2 rfl) ?_
  refine dz_get hx hb hts (fun _ h => List.mem_cons_of_mem _ (List.mem_append_right _ h)) hown hE hG ((o_1 _ (dz_n rfl)).2.trans ha) ((o_1 _ (dz_n rfl)).1.trans g_70_2) rfl 19 (by decide) (hts _ (List.mem_of_getElem? (i := 1) rfl)) (fun _ h9 => h9) rfl dX9_cross_92 ?_
  refine lv_iload_n hx hb dX9_cross_95 rfl (lv_at hl 4 rfl) ?_
  refine dz_iast hx hb hE hG ((o_1 _ (dz_n2 (by decide))).2.trans ((fr_70_2 _ (dz_n rfl)).2.trans ((fr_3_1 _ (dz_n rfl) (dz_n2 (by decide))).2.trans rfl))) hS ((o_1 _ (dz_n2 (by decide))).1.trans ((fr_70_2 _ (dz_n rfl)).1.trans ((fr_3_1 _ (dz_n rfl) (dz_n2 (by decide))).1.trans h21))) (vp_in_nI (by omega) (by decide)) dX9_cross_96 (fun H locs hG hS => ?_)
  rw [nI_clamp (show nx < 2 ^ 31 by omega)] at hG
  obtain ⟨G_2, hG, w_2, o_2⟩ := dz_nm hG
  refine lv_aload_n hx hb dX9_cross_97 rfl (lv_at hl 2 rfl) ?_
  refine dz_get hx hb hts (fun _ h => List.mem_cons_of_mem _ (List.mem_append_right _ h)) hown hE hG ((o_2 _ (dz_n rfl)).2.trans ((o_1 _ (dz_n rfl)).2.trans ha)) ((o_2 _ (dz_n rfl)).1.trans ((o_1 _ (dz_n rfl)).1.trans g_70_2)) rfl 22 (by decide) (hts _ (List.mem_of_getElem? (i := 4) rfl)) (fun _ h9 => h9) rfl dX9_cross_98 ?_
  refine lv_aload_n hx hb dX9_cross_101 rfl (lv_at hl 2 rfl) ?_
  refine dz_get hx hb hts (fun _ h => List.mem_cons_of_mem _ (List.mem_append_right _ h)) hown hE hG ((o_2 _ (dz_n rfl)).2.trans ((o_1 _ (dz_n rfl)).2.trans ha)) ((o_2 _ (dz_n rfl)).1.trans ((o_1 _ (dz_n rfl)).1.trans g_70_2)) rfl 19 (by decide) (hts _ (List.mem_of_getElem? (i := 1) rfl)) (fun _ h9 => h9) rfl dX9_cross_102 ?_
  refine lv_aload_n hx hb dX9_cross_105 rfl (lv_at hl 2 rfl) ?_
  refine dz_get hx hb hts (fun _ h => List.mem_cons_of_mem _ (List.mem_append_right _ h)) hown hE hG ((o_2 _ (dz_n rfl)).2.trans ((o_1 _ (dz_n rfl)).2.trans ha)) ((o_2 _ (dz_n rfl)).1.trans ((o_1 _ (dz_n rfl)).1.trans g_70_2)) rfl 1 (by decide) (hts _ (List.mem_of_getElem? (i := 5) rfl)) (fun _ h9 => h9) rfl dX9_cross_106 ?_
  refine dz_iast hx hb hE hG ((o_2 _ (dz_n2 (by decide))).2.trans ((o_1 _ (dz_n2 (by decide))).2.trans ((fr_70_2 _ (dz_n rfl)).2.trans ((fr_3_1 _ (dz_n rfl) (dz_n2 (by decide))).2.trans rfl)))) hS ((o_2 _ (dz_n2 (by decide))).1.trans ((o_1 _ (dz_n2 (by decide))).1.trans ((fr_70_2 _ (dz_n rfl)).1.trans ((fr_3_1 _ (dz_n rfl) (dz_n2 (by decide))).1.trans h22)))) (vp_in_nI (by omega) (by decide)) dX9_cross_109 (fun H locs hG hS => ?_)
  rw [nI_clamp (show nx < 2 ^ 31 by omega)] at hG
  obtain ⟨G_3, hG, w_3, o_3⟩ := dz_nm hG
  refine lv_aload_n hx hb dX9_cross_110 rfl (lv_at hl 2 rfl) ?_
  refine dz_get hx hb hts (fun _ h => List.mem_cons_of_mem _ (List.mem_append_right _ h)) hown hE hG ((o_3 _ (dz_n rfl)).2.trans ((o_2 _ (dz_n rfl)).2.trans ((o_1 _ (dz_n rfl)).2.trans ha))) ((o_3 _ (dz_n rfl)).1.trans ((o_2 _ (dz_n rfl)).1.trans ((o_1 _ (dz_n rfl)).1.trans g_70_2))) rfl 23 (by decide) (hts _ (List.mem_of_getElem? (i := 6) rfl)) (fun _ h9 => h9) rfl dX9_cross_111 ?_
  refine lv_aload_n hx hb dX9_cross_114 rfl (lv_at hl 2 rfl) ?_
  refine dz_get hx hb hts (fun _ h => List.mem_cons_of_mem _ (List.mem_append_right _ h)) hown hE hG ((o_3 _ (dz_n rfl)).2.trans ((o_2 _ (dz_n rfl)).2.trans ((o_1 _ (dz_n rfl)).2.trans ha))) ((o_3 _ (dz_n rfl)).1.trans ((o_2 _ (dz_n rfl)).1.trans ((o_1 _ (dz_n rfl)).1.trans g_70_2))) rfl 19 (by decide) (hts _ (List.mem_of_getElem? (i := 1) rfl)) (fun _ h9 => h9) rfl dX9_cross_115 ?_
  refine lv_iload_n hx hb dX9_cross_118 rfl (lv_at hl 5 rfl) ?_
  refine dz_iast hx hb hE hG ((o_3 _ (dz_n2 (by decide))).2.trans ((o_2 _ (dz_n2 (by decide))).2.trans ((o_1 _ (dz_n2 (by decide))).2.trans ((fr_70_2 _ (dz_n rfl)).2.trans ((fr_3_1 _ (dz_n rfl) (dz_n2 (by decide))).2.trans rfl))))) hS ((o_3 _ (dz_n2 (by decide))).1.trans ((o_2 _ (dz_n2 (by decide))).1.trans ((o_1 _ (dz_n2 (by decide))).1.trans ((fr_70_2 _ (dz_n rfl)).1.trans ((fr_3_1 _ (dz_n rfl) (dz_n2 (by decide))).1.trans h23))))) (vp_in_nI (by omega) (by decide)) dX9_cross_119 (fun H locs hG hS => ?_)
  rw [nI_clamp (show nx < 2 ^ 31 by omega)] at hG
  obtain ⟨G_4, hG, w_4, o_4⟩ := dz_nm hG
  refine lv_aload_n hx hb dX9_cross_120 rfl (lv_at hl 2 rfl) ?_
  refine dz_get hx hb hts (fun _ h => List.mem_cons_of_mem _ (List.mem_append_right _ h)) hown hE hG ((o_4 _ (dz_n rfl)).2.trans ((o_3 _ (dz_n rfl)).2.trans ((o_2 _ (dz_n rfl)).2.trans ((o_1 _ (dz_n rfl)).2.trans ha)))) ((o_4 _ (dz_n rfl)).1.trans ((o_3 _ (dz_n rfl)).1.trans ((o_2 _ (dz_n rfl)).1.trans ((o_1 _ (dz_n rfl)).1.trans g_70_2)))) rfl 24 (by decide) (hts _ (List.mem_of_getElem? (i := 7) rfl)) (fun _ h9 => h9) rfl dX9_cross_121 ?_
  refine lv_aload_n hx hb dX9_cross_124 rfl (lv_at hl 2 rfl) ?_
  refine dz_get hx hb hts (fun _ h => List.mem_cons_of_mem _ (List.mem_append_right _ h)) hown hE hG ((o_4 _ (dz_n rfl)).2.trans ((o_3 _ (dz_n rfl)).2.trans ((o_2 _ (dz_n rfl)).2.trans ((o_1 _ (dz_n rfl)).2.trans ha)))) ((o_4 _ (dz_n rfl)).1.trans ((o_3 _ (dz_n rfl)).1.trans ((o_2 _ (dz_n rfl)).1.trans ((o_1 _ (dz_n rfl)).1.trans g_70_2)))) rfl 19 (by decide) (hts _ (List.mem_of_getElem? (i := 1) rfl)) (fun _ h9 => h9) rfl dX9_cross_125 ?_
  refine lv_iload hx hb dX9_cross_128 (lv_at hl 6 rfl) ?_
  refine dz_iast hx hb hE hG ((o_4 _ (dz_n2 (by decide))).2.trans ((o_3 _ (dz_n2 (by decide))).2.trans ((o_2 _ (dz_n2 (by decide))).2.trans ((o_1 _ (dz_n2 (by decide))).2.trans ((fr_70_2 _ (dz_n rfl)).2.trans ((fr_3_1 _ (dz_n rfl) (dz_n2 (by decide))).2.trans rfl)))))) hS ((o_4 _ (dz_n2 (by decide))).1.trans ((o_3 _ (dz_n2 (by decide))).1.trans ((o_2 _ (dz_n2 (by decide))).1.trans ((o_1 _ (dz_n2 (by decide))).1.trans ((fr_70_2 _ (dz_n rfl)).1.trans ((fr_3_1 _ (dz_n rfl) (dz_n2 (by decide))).1.trans h24)))))) (vp_in_nI (by omega) (by decide)) dX9_cross_130 (fun H locs hG hS => ?_)
  rw [nI_clamp (show nx < 2 ^ 31 by omega)] at hG
  obtain ⟨G_5, hG, w_5, o_5⟩ := dz_nm hG
  refine lv_aload_n hx hb dX9_cross_131 rfl (lv_at hl 2 rfl) ?_
  refine lv_dup hx hb dX9_cross_132 rfl ?_
  refine dz_get hx hb hts (fun _ h => List.mem_cons_of_mem _ (List.mem_append_right _ h)) hown hE hG ((o_5 _ (dz_n rfl)).2.trans ((o_4 _ (dz_n rfl)).2.trans ((o_3 _ (dz_n rfl)).2.trans ((o_2 _ (dz_n rfl)).2.trans ((o_1 _ (dz_n rfl)).2.trans ha))))) ((o_5 _ (dz_n rfl)).1.trans ((o_4 _ (dz_n rfl)).1.trans ((o_3 _ (dz_n rfl)).1.trans ((o_2 _ (dz_n rfl)).1.trans ((o_1 _ (dz_n rfl)).1.trans g_70_2))))) rfl 19 (by decide) (hts _ (List.mem_of_getElem? (i := 1) rfl)) (fun _ h9 => h9) rfl dX9_cross_133 ?_
  refine lv_iconst (v := 1) hx hb dX9_cross_136 (by decide) ?_
  refine lv_iadd hx hb dX9_cross_137 ?_
  refine lv_topi (fun v_3 ev_3 => ?_)
  obtain rfl : v_3 = nI (nx + 1) := ev_3.trans (nI_1 nx)
  refine dz_put hx hb hts (fun _ h => List.mem_cons_of_mem _ (List.mem_append_right _ h)) tyX9 tyX9_ok nmX9 hown hE hG ((o_5 _ (dz_n rfl)).2.trans ((o_4 _ (dz_n rfl)).2.trans ((o_3 _ (dz_n rfl)).2.trans ((o_2 _ (dz_n rfl)).2.trans ((o_1 _ (dz_n rfl)).2.trans ha))))) hS ((o_5 _ (dz_n rfl)).1.trans ((o_4 _ (dz_n rfl)).1.trans ((o_3 _ (dz_n rfl)).1.trans ((o_2 _ (dz_n rfl)).1.trans ((o_1 _ (dz_n rfl)).1.trans g_70_2))))) rfl 19 (by decide) (hts _ (List.mem_of_getElem? (i := 1) rfl)) (fun _ h9 => h9) rfl (ty := .int) (by decide +kernel) rfl rfl (fs' := [.int 0, .int dy, .int (nI nm), .ref (ad (40, 3)), .ref (ad (40, 4)), .ref (ad (40, 5)), .ref (ad (40, 6)), .int td, .ref (ad (40, 8)), .ref (ad (40, 9)), .ref (ad (40, 10)), .int (nI ns), .ref (ad (40, 12)), .ref (ad (40, 13)), .ref (ad (40, 14)), .int (nI nl), .ref (ad (40, 16)), .ref (ad (40, 17)), .ref (ad (40, 18)), .int (nI (nx + 1)), .ref (ad (40, 20)), .ref (ad (40, 21)), .ref (ad (40, 22)), .ref (ad (40, 23)), .ref (ad (40, 24)), .int ssf, .int sst, .int cfr, .int grw, .int (nI nf), .ref (ad (40, 30)), .ref (ad (40, 31)), .int bkk, .ref (ad (40, 33)), .ref (ad (40, 34)), .ref (ad (40, 35)), .int iop, .ref (ad (40, 37)), .int (nI (m_im f8 f9 f10 f12 f13 sc).1)]) rfl (Nat.le_of_ble_eq_true rfl) dX9_cross_138 (fun H locs hG hS => ?_)
  obtain ⟨G_6, hG, w_6, o_6⟩ := dz_nm hG
  refine W.widen (k := 0) (n := 0) (by first | omega | decide) (by first | omega | decide) ?_
  refine W.vret hx hb hrt (fun t ht hW => dz_endM (f := rv_v) () hE hS hG ?_ ht hW) (fun q h => hS.2.2 q h) dX9_cross_141
  refine ⟨fun r9 n_0 n_1 n_2 n_3 n_4 n_5 n_6 => (dz_tr (o_6 r9 n_0) (dz_tr (o_5 r9 n_6) (dz_tr (o_4 r9 n_5) (dz_tr (o_3 r9 n_4) (dz_tr (o_2 r9 n_3) (dz_tr (o_1 r9 n_2) (dz_tr (fr_70_2 r9 n_0) (fr_3_1 r9 n_0 n_1)))))))), rfl, ?_⟩
  exact ⟨((o_6 _ (dz_n rfl)).1.trans ((o_5 _ (dz_n2 (by decide))).1.trans ((o_4 _ (dz_n2 (by decide))).1.trans ((o_3 _ (dz_n2 (by decide))).1.trans ((o_2 _ (dz_n2 (by decide))).1.trans w_1))))), ((o_6 _ (dz_n rfl)).1.trans ((o_5 _ (dz_n2 (by decide))).1.trans ((o_4 _ (dz_n2 (by decide))).1.trans ((o_3 _ (dz_n2 (by decide))).1.trans w_2)))), ((o_6 _ (dz_n rfl)).1.trans ((o_5 _ (dz_n2 (by decide))).1.trans ((o_4 _ (dz_n2 (by decide))).1.trans w_3))), ((o_6 _ (dz_n rfl)).1.trans ((o_5 _ (dz_n2 (by decide))).1.trans w_4)), ((o_6 _ (dz_n rfl)).1.trans w_5), w_6, _, ((o_6 _ (dz_n rfl)).1.trans ((o_5 _ (dz_n2 (by decide))).1.trans ((o_4 _ (dz_n2 (by decide))).1.trans ((o_3 _ (dz_n2 (by decide))).1.trans ((o_2 _ (dz_n2 (by decide))).1.trans ((o_1 _ (dz_n2 (by decide))).1.trans ((fr_70_2 _ (dz_n rfl)).1.trans gh_3_1))))))), hgk⟩

set_option maxHeartbeats 4000000 in
set_option maxRecDepth 100000 in
theorem c_M_book_no1 (l : Launch) (Z : dzG) (G : dzW) (ad : dzA) (aM nm ns nl nx nf my : Nat) (th dy td ssf sst cfr grw bkk iop : Int32) (v1 v2 v3 v4 : Int32) (ha : ad (39, 0) = aM) (ho : G (39, 0) = some (eO 10 [.int th, .int dy, .int (nI nm), .ref (ad (40, 3)), .ref (ad (40, 4)), .ref (ad (40, 5)), .ref (ad (40, 6)), .int td, .ref (ad (40, 8)), .ref (ad (40, 9)), .ref (ad (40, 10)), .int (nI ns), .ref (ad (40, 12)), .ref (ad (40, 13)), .ref (ad (40, 14)), .int (nI nl), .ref (ad (40, 16)), .ref (ad (40, 17)), .ref (ad (40, 18)), .int (nI nx), .ref (ad (40, 20)), .ref (ad (40, 21)), .ref (ad (40, 22)), .ref (ad (40, 23)), .ref (ad (40, 24)), .int ssf, .int sst, .int cfr, .int grw, .int (nI nf), .ref (ad (40, 30)), .ref (ad (40, 31)), .int bkk, .ref (ad (40, 33)), .ref (ad (40, 34)), .ref (ad (40, 35)), .int iop, .ref (ad (40, 37)), .int (nI my)])) (hbad : ¬ ((0 : Int32) ≤ v1 ∧ v1 ≤ 1)) : dzWr l yX9_book wsX9_book 1 22 0 0 Z G ad [.ref aM, .int v1, .int v2, .int v3, .int v4] rv_i (fun (x : Int32) G1 ad1 => (∀ r9 : dzR, r9 ≠ (39, 0) → G1 r9 = G r9 ∧ ad1 r9 = ad r9) ∧ ad = ad1 ∧ x = 0 ∧ G1 (39, 0) = some (eO 10 [.int 1, .int dy, .int (nI nm), .ref (ad (40, 3)), .ref (ad (40, 4)), .ref (ad (40, 5)), .ref (ad (40, 6)), .int td, .ref (ad (40, 8)), .ref (ad (40, 9)), .ref (ad (40, 10)), .int (nI ns), .ref (ad (40, 12)), .ref (ad (40, 13)), .ref (ad (40, 14)), .int (nI nl), .ref (ad (40, 16)), .ref (ad (40, 17)), .ref (ad (40, 18)), .int (nI nx), .ref (ad (40, 20)), .ref (ad (40, 21)), .ref (ad (40, 22)), .ref (ad (40, 23)), .ref (ad (40, 24)), .int ssf, .int sst, .int cfr, .int grw, .int (nI nf), .ref (ad (40, 30)), .ref (ad (40, 31)), .int bkk, .ref (ad (40, 33)), .ref (ad (40, 34)), .ref (ad (40, 35)), .int iop, .ref (ad (40, 37)), .int (nI my)])) := by
  refine Met.ofW (cc := cX9_book) (maxL := 8) (ret := (some .int)) (by decide) rfl ?_
  intro p e s m args below meth c s₁ B hml hv
  obtain ⟨rfl, hG, hE⟩ := hv
  have hx := B.exec
  have hb := B.bytes
  have hrt := B.returns
  have hts := atoms_spec (ws := wsX9_book) B.pre
  have hown : s.vm.findClass RX9 = some m.cls := findClass_of_methodNamed B.named
  have hlocks := B.notSynchronized
  have hS : va_S (dz_A Z) s.heap s.heap [] := va_S.rf
  have hl := lv_entry ([.ref aM, .int v1, .int v2, .int v3, .int v4]) (n := 8) (Nat.le_of_ble_eq_true rfl)
  rw [lg_entry_eq]
  generalize (lg_sl ([.ref aM, .int v1, .int v2, .int v3, .int v4]) ++ List.replicate (8 - (lg_sl ([.ref aM, .int v1, .int v2, .int v3, .int v4])).length) Slot.unset).toArray = ls at hl ⊢
  have hl : lv_has ls 8 [(0, .ref aM), (1, .int v1), (2, .int v2), (3, .int v3), (4, .int v4)] := hl
  refine lv_iload_n hx hb dX9_book_0 rfl (lv_at hl 1 rfl) ?_
  refine lv_iconst (v := 0) hx hb dX9_book_1 (by decide) ?_
  refine lv_iconst (v := 1) hx hb dX9_book_2 (by decide) ?_
  refine dz_kRi (va_runS (As := [_, _, _]) ⟨hx, hb, hml, hown, hts⟩ (c_X9_in l Z _ _ _ _ _ ) (va_cwS 3 hts gX9_book_X9_in rfl rfl rfl (by decide +kernel) ⟨Nat.le_of_ble_eq_true rfl, Nat.le_of_ble_eq_true rfl⟩) (dz_P.pre hE hS hG) rfl rfl hl.1 rfl (lv_room (Nat.le_of_ble_eq_true rfl)) dX9_book_3 ⟨Nat.le_of_ble_eq_true rfl, Nat.le_of_ble_eq_true rfl⟩) ?_
  refine lv_topi (fun v_1 ev_1 => ?_)
  obtain rfl : v_1 = 0 := ev_1.trans (dz_b0 hbad)
  refine lv_if_eq (tgt := 32) hx hb dX9_book_6 (by decide) (fun c_6 => ?_) (fun c_6 => absurd (by decide) c_6)
  refine lv_iconst (v := 0) hx hb dX9_book_32 (by decide) ?_
  refine lv_istore (lv' := [(5, .int 0), (0, .ref aM), (1, .int v1), (2, .int v2), (3, .int v3), (4, .int v4)]) hx hb dX9_book_33 hl (by decide) rfl (fun ls hl => ?_)
  refine lv_aload_n hx hb dX9_book_35 rfl (lv_at hl 1 rfl) ?_
  refine lv_iload hx hb dX9_book_36 (lv_at hl 0 rfl) ?_
  refine lv_if_ne (tgt := 45) hx hb dX9_book_38 (by decide) (fun c_38 => absurd (by decide) c_38) (fun c_38 => ?_)
  refine lv_iconst (v := 1) hx hb dX9_book_41 (by decide) ?_
  refine lv_goto (tgt := 56) hx hb dX9_book_42 (by decide) ?_
  refine dz_kMi (va_runV (As := [_]) ⟨hx, hb, hml, hown, hts⟩ (c_X9_refused l Z _ _ _ _ _ _ _ _ _ _ _ _ _ _ _ _ _ _ _ ha ho) (cwV 1 hts gX9_book_X9_refused rfl rfl rfl (by decide +kernel) ⟨Nat.le_of_ble_eq_true rfl, Nat.le_of_ble_eq_true rfl⟩) (dz_P.preV hE hS hG ho rfl ha) rfl rfl hl.1 rfl (lv_room (Nat.le_of_ble_eq_true rfl)) dX9_book_56 ⟨Nat.le_of_ble_eq_true rfl, Nat.le_of_ble_eq_true rfl⟩) hS (fun x_56_1 G_56_1 ad_56_1 H locs hp_56_1 hG hS => ?_)
  obtain ⟨fr_56_1, rfl, x9_56_1, g_56_1⟩ := hp_56_1
  obtain rfl : x_56_1 = 1 := x9_56_1.trans (by decide)
  refine lv_if_eq (tgt := 64) hx hb dX9_book_59 (by decide) (fun c_59 => absurd c_59 (by decide)) (fun c_59 => ?_)
  refine lv_iconst (v := 0) hx hb dX9_book_62 (by decide) ?_
  refine W.widen (k := 0) (n := 0) (by first | omega | decide) (by first | omega | decide) ?_
  refine W.iret hx hb hrt (fun t ht hW => dz_endM (f := rv_i) _ hE hS hG ?_ ht hW) (fun q h => hS.2.2 q h) dX9_book_63
  refine ⟨fun r9 n_0 => (fr_56_1 r9 n_0), rfl, ?_⟩
  exact ⟨rfl, g_56_1⟩

set_option maxHeartbeats 4000000 in
set_option maxRecDepth 100000 in
theorem c_M_book_no2 (l : Launch) (Z : dzG) (G : dzW) (ad : dzA) (aM nm ns nl nx nf my : Nat) (th dy td ssf sst cfr grw bkk iop : Int32) (k : Nat) (v2 v3 v4 : Int32) (ha : ad (39, 0) = aM) (ho : G (39, 0) = some (eO 10 [.int th, .int dy, .int (nI nm), .ref (ad (40, 3)), .ref (ad (40, 4)), .ref (ad (40, 5)), .ref (ad (40, 6)), .int td, .ref (ad (40, 8)), .ref (ad (40, 9)), .ref (ad (40, 10)), .int (nI ns), .ref (ad (40, 12)), .ref (ad (40, 13)), .ref (ad (40, 14)), .int (nI nl), .ref (ad (40, 16)), .ref (ad (40, 17)), .ref (ad (40, 18)), .int (nI nx), .ref (ad (40, 20)), .ref (ad (40, 21)), .ref (ad (40, 22)), .ref (ad (40, 23)), .ref (ad (40, 24)), .int ssf, .int sst, .int cfr, .int grw, .int (nI nf), .ref (ad (40, 30)), .ref (ad (40, 31)), .int bkk, .ref (ad (40, 33)), .ref (ad (40, 34)), .ref (ad (40, 35)), .int iop, .ref (ad (40, 37)), .int (nI my)])) (hk : k < 2) (hv : v2 < 0 ∨ nI ns ≤ v2) (hns : ns ≤ 5) : dzWr l yX9_book wsX9_book 3 65 0 0 Z G ad [.ref aM, .int (nI k), .int v2, .int v3, .int v4] rv_i (fun (x : Int32) G1 ad1 => (∀ r9 : dzR, r9 ≠ (39, 0) → G1 r9 = G r9 ∧ ad1 r9 = ad r9) ∧ ad = ad1 ∧ x = 0 ∧ G1 (39, 0) = some (eO 10 [.int 1, .int dy, .int (nI nm), .ref (ad (40, 3)), .ref (ad (40, 4)), .ref (ad (40, 5)), .ref (ad (40, 6)), .int td, .ref (ad (40, 8)), .ref (ad (40, 9)), .ref (ad (40, 10)), .int (nI ns), .ref (ad (40, 12)), .ref (ad (40, 13)), .ref (ad (40, 14)), .int (nI nl), .ref (ad (40, 16)), .ref (ad (40, 17)), .ref (ad (40, 18)), .int (nI nx), .ref (ad (40, 20)), .ref (ad (40, 21)), .ref (ad (40, 22)), .ref (ad (40, 23)), .ref (ad (40, 24)), .int ssf, .int sst, .int cfr, .int grw, .int (nI nf), .ref (ad (40, 30)), .ref (ad (40, 31)), .int bkk, .ref (ad (40, 33)), .ref (ad (40, 34)), .ref (ad (40, 35)), .int iop, .ref (ad (40, 37)), .int (nI my)])) := by
  refine Met.ofW (cc := cX9_book) (maxL := 8) (ret := (some .int)) (by decide) rfl ?_
  intro p e s m args below meth c s₁ B hml hv
  obtain ⟨rfl, hG, hE⟩ := hv
  have hx := B.exec
  have hb := B.bytes
  have hrt := B.returns
  have hts := atoms_spec (ws := wsX9_book) B.pre
  have hown : s.vm.findClass RX9 = some m.cls := findClass_of_methodNamed B.named
  have hlocks := B.notSynchronized
  have hS : va_S (dz_A Z) s.heap s.heap [] := va_S.rf
  have hl := lv_entry ([.ref aM, .int (nI k), .int v2, .int v3, .int v4]) (n := 8) (Nat.le_of_ble_eq_true rfl)
  rw [lg_entry_eq]
  generalize (lg_sl ([.ref aM, .int (nI k), .int v2, .int v3, .int v4]) ++ List.replicate (8 - (lg_sl ([.ref aM, .int (nI k), .int v2, .int v3, .int v4])).length) Slot.unset).toArray = ls at hl ⊢
  have hl : lv_has ls 8 [(0, .ref aM), (1, .int (nI k)), (2, .int v2), (3, .int v3), (4, .int v4)] := hl
  refine lv_iload_n hx hb dX9_book_0 rfl (lv_at hl 1 rfl) ?_
  refine lv_iconst (v := 0) hx hb dX9_book_1 (by decide) ?_
  refine lv_iconst (v := 1) hx hb dX9_book_2 (by decide) ?_
  refine dz_kRi (va_runS (As := [_, _, _]) ⟨hx, hb, hml, hown, hts⟩ (c_X9_in l Z _ _ _ _ _ ) (va_cwS 3 hts gX9_book_X9_in rfl rfl rfl (by decide +kernel) ⟨Nat.le_of_ble_eq_true rfl, Nat.le_of_ble_eq_true rfl⟩) (dz_P.pre hE hS hG) rfl rfl hl.1 rfl (lv_room (Nat.le_of_ble_eq_true rfl)) dX9_book_3 ⟨Nat.le_of_ble_eq_true rfl, Nat.le_of_ble_eq_true rfl⟩) ?_
  refine lv_topi (fun v_1 ev_1 => ?_)
  obtain rfl : v_1 = 1 := ev_1.trans (dz_b1 (m_ix1 (n := 2) (by omega) hk))
  refine lv_if_eq (tgt := 32) hx hb dX9_book_6 (by decide) (fun c_6 => absurd c_6 (by decide)) (fun c_6 => ?_)
  refine lv_aload_n hx hb dX9_book_9 rfl (lv_at hl 0 rfl) ?_
  refine lv_iload_n hx hb dX9_book_10 rfl (lv_at hl 2 rfl) ?_
  refine lv_iload_n hx hb dX9_book_11 rfl (lv_at hl 3 rfl) ?_
  refine dz_kRi (va_runV (As := [_, _]) ⟨hx, hb, hml, hown, hts⟩ (c_isImageN l Z _ _ _ _ _ _ _ _ _ _ _ _ _ _ _ _ _ _ _ _ ha ho hv hns) (cwV 2 hts gX9_book_X9_isImage rfl rfl rfl (by decide +kernel) ⟨Nat.le_of_ble_eq_true rfl, Nat.le_of_ble_eq_true rfl⟩) (dz_P.preV hE hS hG ho rfl ha) rfl rfl hl.1 rfl (lv_room (Nat.le_of_ble_eq_true rfl)) dX9_book_12 ⟨Nat.le_of_ble_eq_true rfl, Nat.le_of_ble_eq_true rfl⟩) ?_
  refine lv_topi (fun v_2 ev_2 => ?_)
  obtain rfl : v_2 = 0 := ev_2
  refine lv_if_eq (tgt := 32) hx hb dX9_book_15 (by decide) (fun c_15 => ?_) (fun c_15 => absurd (by decide) c_15)
  refine lv_iconst (v := 0) hx hb dX9_book_32 (by decide) ?_
  refine lv_istore (lv' := [(5, .int 0), (0, .ref aM), (1, .int (nI k)), (2, .int v2), (3, .int v3), (4, .int v4)]) hx hb dX9_book_33 hl (by decide) rfl (fun ls hl => ?_)
  refine lv_aload_n hx hb dX9_book_35 rfl (lv_at hl 1 rfl) ?_
  refine lv_iload hx hb dX9_book_36 (lv_at hl 0 rfl) ?_
  refine lv_if_ne (tgt := 45) hx hb dX9_book_38 (by decide) (fun c_38 => absurd (by decide) c_38) (fun c_38 => ?_)
  refine lv_iconst (v := 1) hx hb dX9_book_41 (by decide) ?_
  refine lv_goto (tgt := 56) hx hb dX9_book_42 (by decide) ?_
  refine dz_kMi (va_runV (As := [_]) ⟨hx, hb, hml, hown, hts⟩ (c_X9_refused l Z _ _ _ _ _ _ _ _ _ _ _ _ _ _ _ _ _ _ _ ha ho) (cwV 1 hts gX9_book_X9_refused rfl rfl rfl (by decide +kernel) ⟨Nat.le_of_ble_eq_true rfl, Nat.le_of_ble_eq_true rfl⟩) (dz_P.preV hE hS hG ho rfl ha) rfl rfl hl.1 rfl (lv_room (Nat.le_of_ble_eq_true rfl)) dX9_book_56 ⟨Nat.le_of_ble_eq_true rfl, Nat.le_of_ble_eq_true rfl⟩) hS (fun x_56_1 G_56_1 ad_56_1 H locs hp_56_1 hG hS => ?_)
  obtain ⟨fr_56_1, rfl, x9_56_1, g_56_1⟩ := hp_56_1
  obtain rfl : x_56_1 = 1 := x9_56_1.trans (by decide)
  refine lv_if_eq (tgt := 64) hx hb dX9_book_59 (by decide) (fun c_59 => absurd c_59 (by decide)) (fun c_59 => ?_)
  refine lv_iconst (v := 0) hx hb dX9_book_62 (by decide) ?_
  refine W.widen (k := 0) (n := 0) (by first | omega | decide) (by first | omega | decide) ?_
  refine W.iret hx hb hrt (fun t ht hW => dz_endM (f := rv_i) _ hE hS hG ?_ ht hW) (fun q h => hS.2.2 q h) dX9_book_63
  refine ⟨fun r9 n_0 => (fr_56_1 r9 n_0), rfl, ?_⟩
  exact ⟨rfl, g_56_1⟩

set_option maxHeartbeats 4000000 in
set_option maxRecDepth 100000 in
theorem c_M_book_out1 (l : Launch) (Z : dzG) (G : dzW) (ad : dzA) (aM nm ns nl nx nf my : Nat) (th dy td ssf sst cfr grw bkk iop : Int32) (f8 f9 f10 f12 f13 f37 : Nat → Int32) (k sc : Nat) (v3 v4 : Int32) (ha : ad (39, 0) = aM) (ho : G (39, 0) = some (eO 10 [.int th, .int dy, .int (nI nm), .ref (ad (40, 3)), .ref (ad (40, 4)), .ref (ad (40, 5)), .ref (ad (40, 6)), .int td, .ref (ad (40, 8)), .ref (ad (40, 9)), .ref (ad (40, 10)), .int (nI ns), .ref (ad (40, 12)), .ref (ad (40, 13)), .ref (ad (40, 14)), .int (nI nl), .ref (ad (40, 16)), .ref (ad (40, 17)), .ref (ad (40, 18)), .int (nI nx), .ref (ad (40, 20)), .ref (ad (40, 21)), .ref (ad (40, 22)), .ref (ad (40, 23)), .ref (ad (40, 24)), .int ssf, .int sst, .int cfr, .int grw, .int (nI nf), .ref (ad (40, 30)), .ref (ad (40, 31)), .int bkk, .ref (ad (40, 33)), .ref (ad (40, 34)), .ref (ad (40, 35)), .int iop, .ref (ad (40, 37)), .int (nI my)])) (h8 : G (40, 8) = some (eI Z 484 f8)) (h9 : G (40, 9) = some (eI Z 484 f9)) (h10 : G (40, 10) = some (eI Z 484 f10)) (h12 : G (40, 12) = some (eI Z 5 f12)) (h13 : G (40, 13) = some (eI Z 5 f13)) (h37 : G (40, 37) = some (eI Z 441 f37)) (hk : k < 2) (hsc : sc < ns) (hns : ns ≤ 5) (hro : v3 < 0 ∨ nI (m_im f8 f9 f10 f12 f13 sc).1 ≤ v3) : dzWr l yX9_book wsX9_book 3 69 0 0 Z G ad [.ref aM, .int (nI k), .int (nI sc), .int v3, .int v4] rv_i (fun (x : Int32) G1 ad1 => (∀ r9 : dzR, r9 ≠ (39, 0) → r9 ≠ (40, 37) → G1 r9 = G r9 ∧ ad1 r9 = ad r9) ∧ ad = ad1 ∧ x = 0 ∧ G1 (39, 0) = some (eO 10 [.int 1, .int dy, .int (nI nm), .ref (ad (40, 3)), .ref (ad (40, 4)), .ref (ad (40, 5)), .ref (ad (40, 6)), .int td, .ref (ad (40, 8)), .ref (ad (40, 9)), .ref (ad (40, 10)), .int (nI ns), .ref (ad (40, 12)), .ref (ad (40, 13)), .ref (ad (40, 14)), .int (nI nl), .ref (ad (40, 16)), .ref (ad (40, 17)), .ref (ad (40, 18)), .int (nI nx), .ref (ad (40, 20)), .ref (ad (40, 21)), .ref (ad (40, 22)), .ref (ad (40, 23)), .ref (ad (40, 24)), .int ssf, .int sst, .int cfr, .int grw, .int (nI nf), .ref (ad (40, 30)), .ref (ad (40, 31)), .int bkk, .ref (ad (40, 33)), .ref (ad (40, 34)), .ref (ad (40, 35)), .int iop, .ref (ad (40, 37)), .int (nI (m_im f8 f9 f10 f12 f13 sc).1)]) ∧ ∃ g, G1 (40, 37) = some (eI Z 441 g) ∧ ∀ k, k < (m_im f8 f9 f10 f12 f13 sc).1 → g k = (m_im f8 f9 f10 f12 f13 sc).2 k) := by
  refine Met.ofW (cc := cX9_book) (maxL := 8) (ret := (some .int)) (by decide) rfl ?_
  intro p e s m args below meth c s₁ B hml hv
  obtain ⟨rfl, hG, hE⟩ := hv
  have hx := B.exec
  have hb := B.bytes
  have hrt := B.returns
  have hts := atoms_spec (ws := wsX9_book) B.pre
  have hown : s.vm.findClass RX9 = some m.cls := findClass_of_methodNamed B.named
  have hlocks := B.notSynchronized
  have hS : va_S (dz_A Z) s.heap s.heap [] := va_S.rf
  have hl := lv_entry ([.ref aM, .int (nI k), .int (nI sc), .int v3, .int v4]) (n := 8) (Nat.le_of_ble_eq_true rfl)
  rw [lg_entry_eq]
  generalize (lg_sl ([.ref aM, .int (nI k), .int (nI sc), .int v3, .int v4]) ++ List.replicate (8 - (lg_sl ([.ref aM, .int (nI k), .int (nI sc), .int v3, .int v4])).length) Slot.unset).toArray = ls at hl ⊢
  have hl : lv_has ls 8 [(0, .ref aM), (1, .int (nI k)), (2, .int (nI sc)), (3, .int v3), (4, .int v4)] := hl
  have hcn := @m_im_c f8 f9 f10 f12 f13 sc
  refine lv_iload_n hx hb dX9_book_0 rfl (lv_at hl 1 rfl) ?_
  refine lv_iconst (v := 0) hx hb dX9_book_1 (by decide) ?_
  refine lv_iconst (v := 1) hx hb dX9_book_2 (by decide) ?_
  refine dz_kRi (va_runS (As := [_, _, _]) ⟨hx, hb, hml, hown, hts⟩ (c_X9_in l Z _ _ _ _ _ ) (va_cwS 3 hts gX9_book_X9_in rfl rfl rfl (by decide +kernel) ⟨Nat.le_of_ble_eq_true rfl, Nat.le_of_ble_eq_true rfl⟩) (dz_P.pre hE hS hG) rfl rfl hl.1 rfl (lv_room (Nat.le_of_ble_eq_true rfl)) dX9_book_3 ⟨Nat.le_of_ble_eq_true rfl, Nat.le_of_ble_eq_true rfl⟩) ?_
  refine lv_topi (fun v_1 ev_1 => ?_)
  obtain rfl : v_1 = 1 := ev_1.trans (dz_b1 (m_ix1 (n := 2) (by omega) hk))
  refine lv_if_eq (tgt := 32) hx hb dX9_book_6 (by decide) (fun c_6 => absurd c_6 (by decide)) (fun c_6 => ?_)
  refine lv_aload_n hx hb dX9_book_9 rfl (lv_at hl 0 rfl) ?_
  refine lv_iload_n hx hb dX9_book_10 rfl (lv_at hl 2 rfl) ?_
  refine lv_iload_n hx hb dX9_book_11 rfl (lv_at hl 3 rfl) ?_
  refine dz_kMi (va_runV (As := [_, _]) ⟨hx, hb, hml, hown, hts⟩ (c_isImageY l Z _ _ _ _ _ _ _ _ _ _ _ _ _ _ _ _ _ _ _ _ _ _ _ _ sc _ ha ho h8 h9 h10 h12 h13 h37 hsc hns) (cwV 2 hts gX9_book_X9_isImage rfl rfl rfl (by decide +kernel) ⟨Nat.le_of_ble_eq_true rfl, Nat.le_of_ble_eq_true rfl⟩) (dz_P.preV hE hS hG ho rfl ha) rfl rfl hl.1 rfl (lv_room (Nat.le_of_ble_eq_true rfl)) dX9_book_12 ⟨Nat.le_of_ble_eq_true rfl, Nat.le_of_ble_eq_true rfl⟩) hS (fun x_12_1 G_12_1 ad_12_1 H locs hp_12_1 hG hS => ?_)
  obtain ⟨fr_12_1, rfl, x9_12_1, o_12_1, g_12_1⟩ := hp_12_1
  obtain rfl : x_12_1 = 0 := x9_12_1.trans (dz_b0 (m_ix0 (by omega) hro))
  obtain ⟨gf_12_1, gh_12_1, hgk⟩ := g_12_1
  refine lv_if_eq (tgt := 32) hx hb dX9_book_15 (by decide) (fun c_15 => ?_) (fun c_15 => absurd (by decide) c_15)
  refine lv_iconst (v := 0) hx hb dX9_book_32 (by decide) ?_
  refine lv_istore (lv' := [(5, .int 0), (0, .ref aM), (1, .int (nI k)), (2, .int (nI sc)), (3, .int v3), (4, .int v4)]) hx hb dX9_book_33 hl (by decide) rfl (fun ls hl => ?_)
  refine lv_aload_n hx hb dX9_book_35 rfl (lv_at hl 1 rfl) ?_
  refine lv_iload hx hb dX9_book_36 (lv_at hl 0 rfl) ?_
  refine lv_if_ne (tgt := 45) hx hb dX9_book_38 (by decide) (fun c_38 => absurd (by decide) c_38) (fun c_38 => ?_)
  refine lv_iconst (v := 1) hx hb dX9_book_41 (by decide) ?_
  refine lv_goto (tgt := 56) hx hb dX9_book_42 (by decide) ?_
  refine dz_kMi (va_runV (As := [_]) ⟨hx, hb, hml, hown, hts⟩ (c_X9_refused l Z _ _ _ _ _ _ _ _ _ _ _ _ _ _ _ _ _ _ _ ha o_12_1) (cwV 1 hts gX9_book_X9_refused rfl rfl rfl (by decide +kernel) ⟨Nat.le_of_ble_eq_true rfl, Nat.le_of_ble_eq_true rfl⟩) (dz_P.preV hE hS hG o_12_1 rfl ha) rfl rfl hl.1 rfl (lv_room (Nat.le_of_ble_eq_true rfl)) dX9_book_56 ⟨Nat.le_of_ble_eq_true rfl, Nat.le_of_ble_eq_true rfl⟩) hS (fun x_56_2 G_56_2 ad_56_2 H locs hp_56_2 hG hS => ?_)
  obtain ⟨fr_56_2, rfl, x9_56_2, g_56_2⟩ := hp_56_2
  obtain rfl : x_56_2 = 1 := x9_56_2.trans (by decide)
  refine lv_if_eq (tgt := 64) hx hb dX9_book_59 (by decide) (fun c_59 => absurd c_59 (by decide)) (fun c_59 => ?_)
  refine lv_iconst (v := 0) hx hb dX9_book_62 (by decide) ?_
  refine W.widen (k := 0) (n := 0) (by first | omega | decide) (by first | omega | decide) ?_
  refine W.iret hx hb hrt (fun t ht hW => dz_endM (f := rv_i) _ hE hS hG ?_ ht hW) (fun q h => hS.2.2 q h) dX9_book_63
  refine ⟨fun r9 n_0 n_1 => (dz_tr (fr_56_2 r9 n_0) (fr_12_1 r9 n_0 n_1)), rfl, ?_⟩
  exact ⟨rfl, g_56_2, _, ((fr_56_2 _ (dz_n rfl)).1.trans gh_12_1), hgk⟩

set_option maxHeartbeats 4000000 in
set_option maxRecDepth 100000 in
theorem c_M_book_out2 (l : Launch) (Z : dzG) (G : dzW) (ad : dzA) (aM nm ns nl nx nf my : Nat) (th dy td ssf sst cfr grw bkk iop : Int32) (f8 f9 f10 f12 f13 f37 : Nat → Int32) (k sc rk : Nat) (v4 : Int32) (ha : ad (39, 0) = aM) (ho : G (39, 0) = some (eO 10 [.int th, .int dy, .int (nI nm), .ref (ad (40, 3)), .ref (ad (40, 4)), .ref (ad (40, 5)), .ref (ad (40, 6)), .int td, .ref (ad (40, 8)), .ref (ad (40, 9)), .ref (ad (40, 10)), .int (nI ns), .ref (ad (40, 12)), .ref (ad (40, 13)), .ref (ad (40, 14)), .int (nI nl), .ref (ad (40, 16)), .ref (ad (40, 17)), .ref (ad (40, 18)), .int (nI nx), .ref (ad (40, 20)), .ref (ad (40, 21)), .ref (ad (40, 22)), .ref (ad (40, 23)), .ref (ad (40, 24)), .int ssf, .int sst, .int cfr, .int grw, .int (nI nf), .ref (ad (40, 30)), .ref (ad (40, 31)), .int bkk, .ref (ad (40, 33)), .ref (ad (40, 34)), .ref (ad (40, 35)), .int iop, .ref (ad (40, 37)), .int (nI my)])) (h8 : G (40, 8) = some (eI Z 484 f8)) (h9 : G (40, 9) = some (eI Z 484 f9)) (h10 : G (40, 10) = some (eI Z 484 f10)) (h12 : G (40, 12) = some (eI Z 5 f12)) (h13 : G (40, 13) = some (eI Z 5 f13)) (h37 : G (40, 37) = some (eI Z 441 f37)) (hk : k < 2) (hsc : sc < ns) (hns : ns ≤ 5) (hrk : rk < (m_im f8 f9 f10 f12 f13 sc).1) (hro : v4 < 0 ∨ nI (m_im f8 f9 f10 f12 f13 sc).1 ≤ v4) : dzWr l yX9_book wsX9_book 3 69 0 0 Z G ad [.ref aM, .int (nI k), .int (nI sc), .int (nI rk), .int v4] rv_i (fun (x : Int32) G1 ad1 => (∀ r9 : dzR, r9 ≠ (39, 0) → r9 ≠ (40, 37) → G1 r9 = G r9 ∧ ad1 r9 = ad r9) ∧ ad = ad1 ∧ x = 0 ∧ G1 (39, 0) = some (eO 10 [.int 1, .int dy, .int (nI nm), .ref (ad (40, 3)), .ref (ad (40, 4)), .ref (ad (40, 5)), .ref (ad (40, 6)), .int td, .ref (ad (40, 8)), .ref (ad (40, 9)), .ref (ad (40, 10)), .int (nI ns), .ref (ad (40, 12)), .ref (ad (40, 13)), .ref (ad (40, 14)), .int (nI nl), .ref (ad (40, 16)), .ref (ad (40, 17)), .ref (ad (40, 18)), .int (nI nx), .ref (ad (40, 20)), .ref (ad (40, 21)), .ref (ad (40, 22)), .ref (ad (40, 23)), .ref (ad (40, 24)), .int ssf, .int sst, .int cfr, .int grw, .int (nI nf), .ref (ad (40, 30)), .ref (ad (40, 31)), .int bkk, .ref (ad (40, 33)), .ref (ad (40, 34)), .ref (ad (40, 35)), .int iop, .ref (ad (40, 37)), .int (nI (m_im f8 f9 f10 f12 f13 sc).1)]) ∧ ∃ g, G1 (40, 37) = some (eI Z 441 g) ∧ ∀ k, k < (m_im f8 f9 f10 f12 f13 sc).1 → g k = (m_im f8 f9 f10 f12 f13 sc).2 k) := by
  refine Met.ofW (cc := cX9_book) (maxL := 8) (ret := (some .int)) (by decide) rfl ?_
  intro p e s m args below meth c s₁ B hml hv
  obtain ⟨rfl, hG, hE⟩ := hv
  have hx := B.exec
  have hb := B.bytes
  have hrt := B.returns
  have hts := atoms_spec (ws := wsX9_book) B.pre
  have hown : s.vm.findClass RX9 = some m.cls := findClass_of_methodNamed B.named
  have hlocks := B.notSynchronized
  have hS : va_S (dz_A Z) s.heap s.heap [] := va_S.rf
  have hl := lv_entry ([.ref aM, .int (nI k), .int (nI sc), .int (nI rk), .int v4]) (n := 8) (Nat.le_of_ble_eq_true rfl)
  rw [lg_entry_eq]
  generalize (lg_sl ([.ref aM, .int (nI k), .int (nI sc), .int (nI rk), .int v4]) ++ List.replicate (8 - (lg_sl ([.ref aM, .int (nI k), .int (nI sc), .int (nI rk), .int v4])).length) Slot.unset).toArray = ls at hl ⊢
  have hl : lv_has ls 8 [(0, .ref aM), (1, .int (nI k)), (2, .int (nI sc)), (3, .int (nI rk)), (4, .int v4)] := hl
  have hcn := @m_im_c f8 f9 f10 f12 f13 sc
  refine lv_iload_n hx hb dX9_book_0 rfl (lv_at hl 1 rfl) ?_
  refine lv_iconst (v := 0) hx hb dX9_book_1 (by decide) ?_
  refine lv_iconst (v := 1) hx hb dX9_book_2 (by decide) ?_
  refine dz_kRi (va_runS (As := [_, _, _]) ⟨hx, hb, hml, hown, hts⟩ (c_X9_in l Z _ _ _ _ _ ) (va_cwS 3 hts gX9_book_X9_in rfl rfl rfl (by decide +kernel) ⟨Nat.le_of_ble_eq_true rfl, Nat.le_of_ble_eq_true rfl⟩) (dz_P.pre hE hS hG) rfl rfl hl.1 rfl (lv_room (Nat.le_of_ble_eq_true rfl)) dX9_book_3 ⟨Nat.le_of_ble_eq_true rfl, Nat.le_of_ble_eq_true rfl⟩) ?_
  refine lv_topi (fun v_1 ev_1 => ?_)
  obtain rfl : v_1 = 1 := ev_1.trans (dz_b1 (m_ix1 (n := 2) (by omega) hk))
  refine lv_if_eq (tgt := 32) hx hb dX9_book_6 (by decide) (fun c_6 => absurd c_6 (by decide)) (fun c_6 => ?_)
  refine lv_aload_n hx hb dX9_book_9 rfl (lv_at hl 0 rfl) ?_
  refine lv_iload_n hx hb dX9_book_10 rfl (lv_at hl 2 rfl) ?_
  refine lv_iload_n hx hb dX9_book_11 rfl (lv_at hl 3 rfl) ?_
  refine dz_kMi (va_runV (As := [_, _]) ⟨hx, hb, hml, hown, hts⟩ (c_isImageY l Z _ _ _ _ _ _ _ _ _ _ _ _ _ _ _ _ _ _ _ _ _ _ _ _ sc _ ha ho h8 h9 h10 h12 h13 h37 hsc hns) (cwV 2 hts gX9_book_X9_isImage rfl rfl rfl (by decide +kernel) ⟨Nat.le_of_ble_eq_true rfl, Nat.le_of_ble_eq_true rfl⟩) (dz_P.preV hE hS hG ho rfl ha) rfl rfl hl.1 rfl (lv_room (Nat.le_of_ble_eq_true rfl)) dX9_book_12 ⟨Nat.le_of_ble_eq_true rfl, Nat.le_of_ble_eq_true rfl⟩) hS (fun x_12_1 G_12_1 ad_12_1 H locs hp_12_1 hG hS => ?_)
  obtain ⟨fr_12_1, rfl, x9_12_1, o_12_1, g_12_1⟩ := hp_12_1
  obtain rfl : x_12_1 = 1 := x9_12_1.trans (dz_b1 (m_ix1 (by omega) hrk))
  obtain ⟨gf_12_1, gh_12_1, hgk⟩ := g_12_1
  refine lv_if_eq (tgt := 32) hx hb dX9_book_15 (by decide) (fun c_15 => absurd c_15 (by decide)) (fun c_15 => ?_)
  refine lv_aload_n hx hb dX9_book_18 rfl (lv_at hl 0 rfl) ?_
  refine lv_iload_n hx hb dX9_book_19 rfl (lv_at hl 2 rfl) ?_
  refine lv_iload hx hb dX9_book_20 (lv_at hl 4 rfl) ?_
  refine dz_kMi (va_runV (As := [_, _]) ⟨hx, hb, hml, hown, hts⟩ (c_isImageY l Z _ _ _ _ _ _ _ _ _ _ _ _ _ _ _ _ _ _ _ _ _ _ _ _ sc _ ha o_12_1 ((fr_12_1 _ (dz_n rfl) (dz_n2 (by decide))).1.trans h8) ((fr_12_1 _ (dz_n rfl) (dz_n2 (by decide))).1.trans h9) ((fr_12_1 _ (dz_n rfl) (dz_n2 (by decide))).1.trans h10) ((fr_12_1 _ (dz_n rfl) (dz_n2 (by decide))).1.trans h12) ((fr_12_1 _ (dz_n rfl) (dz_n2 (by decide))).1.trans h13) gh_12_1 hsc hns) (cwV 2 hts gX9_book_X9_isImage rfl rfl rfl (by decide +kernel) ⟨Nat.le_of_ble_eq_true rfl, Nat.le_of_ble_eq_true rfl⟩) (dz_P.preV hE hS hG o_12_1 rfl ha) rfl rfl hl.1 rfl (lv_room (Nat.le_of_ble_eq_true rfl)) dX9_book_22 ⟨Nat.le_of_ble_eq_true rfl, Nat.le_of_ble_eq_true rfl⟩) hS (fun x_22_2 G_22_2 ad_22_2 H locs hp_22_2 hG hS => ?_)
  obtain ⟨fr_22_2, rfl, x9_22_2, o_22_2, g_22_2⟩ := hp_22_2
  obtain rfl : x_22_2 = 0 := x9_22_2.trans (dz_b0 (m_ix0 (by omega) hro))
  obtain ⟨gf_22_2, gh_22_2, hgk⟩ := g_22_2
  refine lv_if_eq (tgt := 32) hx hb dX9_book_25 (by decide) (fun c_25 => ?_) (fun c_25 => absurd (by decide) c_25)
  refine lv_iconst (v := 0) hx hb dX9_book_32 (by decide) ?_
  refine lv_istore (lv' := [(5, .int 0), (0, .ref aM), (1, .int (nI k)), (2, .int (nI sc)), (3, .int (nI rk)), (4, .int v4)]) hx hb dX9_book_33 hl (by decide) rfl (fun ls hl => ?_)
  refine lv_aload_n hx hb dX9_book_35 rfl (lv_at hl 1 rfl) ?_
  refine lv_iload hx hb dX9_book_36 (lv_at hl 0 rfl) ?_
  refine lv_if_ne (tgt := 45) hx hb dX9_book_38 (by decide) (fun c_38 => absurd (by decide) c_38) (fun c_38 => ?_)
  refine lv_iconst (v := 1) hx hb dX9_book_41 (by decide) ?_
  refine lv_goto (tgt := 56) hx hb dX9_book_42 (by decide) ?_
  refine dz_kMi (va_runV (As := [_]) ⟨hx, hb, hml, hown, hts⟩ (c_X9_refused l Z _ _ _ _ _ _ _ _ _ _ _ _ _ _ _ _ _ _ _ ha o_22_2) (cwV 1 hts gX9_book_X9_refused rfl rfl rfl (by decide +kernel) ⟨Nat.le_of_ble_eq_true rfl, Nat.le_of_ble_eq_true rfl⟩) (dz_P.preV hE hS hG o_22_2 rfl ha) rfl rfl hl.1 rfl (lv_room (Nat.le_of_ble_eq_true rfl)) dX9_book_56 ⟨Nat.le_of_ble_eq_true rfl, Nat.le_of_ble_eq_true rfl⟩) hS (fun x_56_3 G_56_3 ad_56_3 H locs hp_56_3 hG hS => ?_)
  obtain ⟨fr_56_3, rfl, x9_56_3, g_56_3⟩ := hp_56_3
  obtain rfl : x_56_3 = 1 := x9_56_3.trans (by decide)
  refine lv_if_eq (tgt := 64) hx hb dX9_book_59 (by decide) (fun c_59 => absurd c_59 (by decide)) (fun c_59 => ?_)
  refine lv_iconst (v := 0) hx hb dX9_book_62 (by decide) ?_
  refine W.widen (k := 0) (n := 0) (by first | omega | decide) (by first | omega | decide) ?_
  refine W.iret hx hb hrt (fun t ht hW => dz_endM (f := rv_i) _ hE hS hG ?_ ht hW) (fun q h => hS.2.2 q h) dX9_book_63
  refine ⟨fun r9 n_0 n_1 => (dz_tr (fr_56_3 r9 n_0) (dz_tr (fr_22_2 r9 n_0 n_1) (fr_12_1 r9 n_0 n_1))), rfl, ?_⟩
  exact ⟨rfl, g_56_3, _, ((fr_56_3 _ (dz_n rfl)).1.trans gh_22_2), hgk⟩

set_option maxHeartbeats 4000000 in
set_option maxRecDepth 100000 in
theorem c_M_book_same (l : Launch) (Z : dzG) (G : dzW) (ad : dzA) (aM nm ns nl nx nf my : Nat) (th dy td ssf sst cfr grw bkk iop : Int32) (f8 f9 f10 f12 f13 f37 : Nat → Int32) (k sc rk : Nat) (ha : ad (39, 0) = aM) (ho : G (39, 0) = some (eO 10 [.int th, .int dy, .int (nI nm), .ref (ad (40, 3)), .ref (ad (40, 4)), .ref (ad (40, 5)), .ref (ad (40, 6)), .int td, .ref (ad (40, 8)), .ref (ad (40, 9)), .ref (ad (40, 10)), .int (nI ns), .ref (ad (40, 12)), .ref (ad (40, 13)), .ref (ad (40, 14)), .int (nI nl), .ref (ad (40, 16)), .ref (ad (40, 17)), .ref (ad (40, 18)), .int (nI nx), .ref (ad (40, 20)), .ref (ad (40, 21)), .ref (ad (40, 22)), .ref (ad (40, 23)), .ref (ad (40, 24)), .int ssf, .int sst, .int cfr, .int grw, .int (nI nf), .ref (ad (40, 30)), .ref (ad (40, 31)), .int bkk, .ref (ad (40, 33)), .ref (ad (40, 34)), .ref (ad (40, 35)), .int iop, .ref (ad (40, 37)), .int (nI my)])) (h8 : G (40, 8) = some (eI Z 484 f8)) (h9 : G (40, 9) = some (eI Z 484 f9)) (h10 : G (40, 10) = some (eI Z 484 f10)) (h12 : G (40, 12) = some (eI Z 5 f12)) (h13 : G (40, 13) = some (eI Z 5 f13)) (h37 : G (40, 37) = some (eI Z 441 f37)) (hk : k < 2) (hsc : sc < ns) (hns : ns ≤ 5) (hrk : rk < (m_im f8 f9 f10 f12 f13 sc).1) : dzWr l yX9_book wsX9_book 3 69 0 0 Z G ad [.ref aM, .int (nI k), .int (nI sc), .int (nI rk), .int (nI rk)] rv_i (fun (x : Int32) G1 ad1 => (∀ r9 : dzR, r9 ≠ (39, 0) → r9 ≠ (40, 37) → G1 r9 = G r9 ∧ ad1 r9 = ad r9) ∧ ad = ad1 ∧ x = 0 ∧ G1 (39, 0) = some (eO 10 [.int 2, .int dy, .int (nI nm), .ref (ad (40, 3)), .ref (ad (40, 4)), .ref (ad (40, 5)), .ref (ad (40, 6)), .int td, .ref (ad (40, 8)), .ref (ad (40, 9)), .ref (ad (40, 10)), .int (nI ns), .ref (ad (40, 12)), .ref (ad (40, 13)), .ref (ad (40, 14)), .int (nI nl), .ref (ad (40, 16)), .ref (ad (40, 17)), .ref (ad (40, 18)), .int (nI nx), .ref (ad (40, 20)), .ref (ad (40, 21)), .ref (ad (40, 22)), .ref (ad (40, 23)), .ref (ad (40, 24)), .int ssf, .int sst, .int cfr, .int grw, .int (nI nf), .ref (ad (40, 30)), .ref (ad (40, 31)), .int bkk, .ref (ad (40, 33)), .ref (ad (40, 34)), .ref (ad (40, 35)), .int iop, .ref (ad (40, 37)), .int (nI (m_im f8 f9 f10 f12 f13 sc).1)]) ∧ ∃ g, G1 (40, 37) = some (eI Z 441 g) ∧ ∀ k, k < (m_im f8 f9 f10 f12 f13 sc).1 → g k = (m_im f8 f9 f10 f12 f13 sc).2 k) := by
  refine Met.ofW (cc := cX9_book) (maxL := 8) (ret := (some .int)) (by decide) rfl ?_
  intro p e s m args below meth c s₁ B hml hv
  obtain ⟨rfl, hG, hE⟩ := hv
  have hx := B.exec
  have hb := B.bytes
  have hrt := B.returns
  have hts := atoms_spec (ws := wsX9_book) B.pre
  have hown : s.vm.findClass RX9 = some m.cls := findClass_of_methodNamed B.named
  have hlocks := B.notSynchronized
  have hS : va_S (dz_A Z) s.heap s.heap [] := va_S.rf
  have hl := lv_entry ([.ref aM, .int (nI k), .int (nI sc), .int (nI rk), .int (nI rk)]) (n := 8) (Nat.le_of_ble_eq_true rfl)
  rw [lg_entry_eq]
  generalize (lg_sl ([.ref aM, .int (nI k), .int (nI sc), .int (nI rk), .int (nI rk)]) ++ List.replicate (8 - (lg_sl ([.ref aM, .int (nI k), .int (nI sc), .int (nI rk), .int (nI rk)])).length) Slot.unset).toArray = ls at hl ⊢
  have hl : lv_has ls 8 [(0, .ref aM), (1, .int (nI k)), (2, .int (nI sc)), (3, .int (nI rk)), (4, .int (nI rk))] := hl
  have hcn := @m_im_c f8 f9 f10 f12 f13 sc
  refine lv_iload_n hx hb dX9_book_0 rfl (lv_at hl 1 rfl) ?_
  refine lv_iconst (v := 0) hx hb dX9_book_1 (by decide) ?_
  refine lv_iconst (v := 1) hx hb dX9_book_2 (by decide) ?_
  refine dz_kRi (va_runS (As := [_, _, _]) ⟨hx, hb, hml, hown, hts⟩ (c_X9_in l Z _ _ _ _ _ ) (va_cwS 3 hts gX9_book_X9_in rfl rfl rfl (by decide +kernel) ⟨Nat.le_of_ble_eq_true rfl, Nat.le_of_ble_eq_true rfl⟩) (dz_P.pre hE hS hG) rfl rfl hl.1 rfl (lv_room (Nat.le_of_ble_eq_true rfl)) dX9_book_3 ⟨Nat.le_of_ble_eq_true rfl, Nat.le_of_ble_eq_true rfl⟩) ?_
  refine lv_topi (fun v_1 ev_1 => ?_)
  obtain rfl : v_1 = 1 := ev_1.trans (dz_b1 (m_ix1 (n := 2) (by omega) hk))
  refine lv_if_eq (tgt := 32) hx hb dX9_book_6 (by decide) (fun c_6 => absurd c_6 (by decide)) (fun c_6 => ?_)
  refine lv_aload_n hx hb dX9_book_9 rfl (lv_at hl 0 rfl) ?_
  refine lv_iload_n hx hb dX9_book_10 rfl (lv_at hl 2 rfl) ?_
  refine lv_iload_n hx hb dX9_book_11 rfl (lv_at hl 3 rfl) ?_
  refine dz_kMi (va_runV (As := [_, _]) ⟨hx, hb, hml, hown, hts⟩ (c_isImageY l Z _ _ _ _ _ _ _ _ _ _ _ _ _ _ _ _ _ _ _ _ _ _ _ _ sc _ ha ho h8 h9 h10 h12 h13 h37 hsc hns) (cwV 2 hts gX9_book_X9_isImage rfl rfl rfl (by decide +kernel) ⟨Nat.le_of_ble_eq_true rfl, Nat.le_of_ble_eq_true rfl⟩) (dz_P.preV hE hS hG ho rfl ha) rfl rfl hl.1 rfl (lv_room (Nat.le_of_ble_eq_true rfl)) dX9_book_12 ⟨Nat.le_of_ble_eq_true rfl, Nat.le_of_ble_eq_true rfl⟩) hS (fun x_12_1 G_12_1 ad_12_1 H locs hp_12_1 hG hS => ?_)
  obtain ⟨fr_12_1, rfl, x9_12_1, o_12_1, g_12_1⟩ := hp_12_1
  obtain rfl : x_12_1 = 1 := x9_12_1.trans (dz_b1 (m_ix1 (by omega) hrk))
  obtain ⟨gf_12_1, gh_12_1, hgk⟩ := g_12_1
  refine lv_if_eq (tgt := 32) hx hb dX9_book_15 (by decide) (fun c_15 => absurd c_15 (by decide)) (fun c_15 => ?_)
  refine lv_aload_n hx hb dX9_book_18 rfl (lv_at hl 0 rfl) ?_
  refine lv_iload_n hx hb dX9_book_19 rfl (lv_at hl 2 rfl) ?_
  refine lv_iload hx hb dX9_book_20 (lv_at hl 4 rfl) ?_
  refine dz_kMi (va_runV (As := [_, _]) ⟨hx, hb, hml, hown, hts⟩ (c_isImageY l Z _ _ _ _ _ _ _ _ _ _ _ _ _ _ _ _ _ _ _ _ _ _ _ _ sc _ ha o_12_1 ((fr_12_1 _ (dz_n rfl) (dz_n2 (by decide))).1.trans h8) ((fr_12_1 _ (dz_n rfl) (dz_n2 (by decide))).1.trans h9) ((fr_12_1 _ (dz_n rfl) (dz_n2 (by decide))).1.trans h10) ((fr_12_1 _ (dz_n rfl) (dz_n2 (by decide))).1.trans h12) ((fr_12_1 _ (dz_n rfl) (dz_n2 (by decide))).1.trans h13) gh_12_1 hsc hns) (cwV 2 hts gX9_book_X9_isImage rfl rfl rfl (by decide +kernel) ⟨Nat.le_of_ble_eq_true rfl, Nat.le_of_ble_eq_true rfl⟩) (dz_P.preV hE hS hG o_12_1 rfl ha) rfl rfl hl.1 rfl (lv_room (Nat.le_of_ble_eq_true rfl)) dX9_book_22 ⟨Nat.le_of_ble_eq_true rfl, Nat.le_of_ble_eq_true rfl⟩) hS (fun x_22_2 G_22_2 ad_22_2 H locs hp_22_2 hG hS => ?_)
  obtain ⟨fr_22_2, rfl, x9_22_2, o_22_2, g_22_2⟩ := hp_22_2
  obtain rfl : x_22_2 = 1 := x9_22_2.trans (dz_b1 (m_ix1 (by omega) hrk))
  obtain ⟨gf_22_2, gh_22_2, hgk⟩ := g_22_2
  refine lv_if_eq (tgt := 32) hx hb dX9_book_25 (by decide) (fun c_25 => absurd c_25 (by decide)) (fun c_25 => ?_)
  refine lv_iconst (v := 1) hx hb dX9_book_28 (by decide) ?_
  refine lv_goto (tgt := 33) hx hb dX9_book_29 (by decide) ?_
  refine lv_istore (lv' := [(5, .int 1), (0, .ref aM), (1, .int (nI k)), (2, .int (nI sc)), (3, .int (nI rk)), (4, .int (nI rk))]) hx hb dX9_book_33 hl (by decide) rfl (fun ls hl => ?_)
  refine lv_aload_n hx hb dX9_book_35 rfl (lv_at hl 1 rfl) ?_
  refine lv_iload hx hb dX9_book_36 (lv_at hl 0 rfl) ?_
  refine lv_if_ne (tgt := 45) hx hb dX9_book_38 (by decide) (fun c_38 => ?_) (fun c_38 => absurd c_38 (by decide))
  refine lv_iload_n hx hb dX9_book_45 rfl (lv_at hl 4 rfl) ?_
  refine lv_iload hx hb dX9_book_46 (lv_at hl 5 rfl) ?_
  refine lv_icmp_ne (tgt := 55) hx hb dX9_book_48 (by decide) (fun c_48 => absurd rfl c_48) (fun c_48 => ?_)
  refine lv_iconst (v := 2) hx hb dX9_book_51 (by decide) ?_
  refine lv_goto (tgt := 56) hx hb dX9_book_52 (by decide) ?_
  refine dz_kMi (va_runV (As := [_]) ⟨hx, hb, hml, hown, hts⟩ (c_X9_refused l Z _ _ _ _ _ _ _ _ _ _ _ _ _ _ _ _ _ _ _ ha o_22_2) (cwV 1 hts gX9_book_X9_refused rfl rfl rfl (by decide +kernel) ⟨Nat.le_of_ble_eq_true rfl, Nat.le_of_ble_eq_true rfl⟩) (dz_P.preV hE hS hG o_22_2 rfl ha) rfl rfl hl.1 rfl (lv_room (Nat.le_of_ble_eq_true rfl)) dX9_book_56 ⟨Nat.le_of_ble_eq_true rfl, Nat.le_of_ble_eq_true rfl⟩) hS (fun x_56_3 G_56_3 ad_56_3 H locs hp_56_3 hG hS => ?_)
  obtain ⟨fr_56_3, rfl, x9_56_3, g_56_3⟩ := hp_56_3
  obtain rfl : x_56_3 = 1 := x9_56_3.trans (by decide)
  refine lv_if_eq (tgt := 64) hx hb dX9_book_59 (by decide) (fun c_59 => absurd c_59 (by decide)) (fun c_59 => ?_)
  refine lv_iconst (v := 0) hx hb dX9_book_62 (by decide) ?_
  refine W.widen (k := 0) (n := 0) (by first | omega | decide) (by first | omega | decide) ?_
  refine W.iret hx hb hrt (fun t ht hW => dz_endM (f := rv_i) _ hE hS hG ?_ ht hW) (fun q h => hS.2.2 q h) dX9_book_63
  refine ⟨fun r9 n_0 n_1 => (dz_tr (fr_56_3 r9 n_0) (dz_tr (fr_22_2 r9 n_0 n_1) (fr_12_1 r9 n_0 n_1))), rfl, ?_⟩
  exact ⟨rfl, g_56_3, _, ((fr_56_3 _ (dz_n rfl)).1.trans gh_22_2), hgk⟩

set_option maxHeartbeats 4000000 in
set_option maxRecDepth 100000 in
theorem c_M_book_in (l : Launch) (Z : dzG) (G : dzW) (ad : dzA) (aM nm ns nl nx nf my : Nat) (th dy td ssf sst cfr grw bkk iop : Int32) (f8 f9 f10 f12 f13 f30 f31 f33 f34 f37 : Nat → Int32) (k sc rk ot j jo : Nat) (ha : ad (39, 0) = aM) (ho : G (39, 0) = some (eO 10 [.int th, .int dy, .int (nI nm), .ref (ad (40, 3)), .ref (ad (40, 4)), .ref (ad (40, 5)), .ref (ad (40, 6)), .int td, .ref (ad (40, 8)), .ref (ad (40, 9)), .ref (ad (40, 10)), .int (nI ns), .ref (ad (40, 12)), .ref (ad (40, 13)), .ref (ad (40, 14)), .int (nI nl), .ref (ad (40, 16)), .ref (ad (40, 17)), .ref (ad (40, 18)), .int (nI nx), .ref (ad (40, 20)), .ref (ad (40, 21)), .ref (ad (40, 22)), .ref (ad (40, 23)), .ref (ad (40, 24)), .int ssf, .int sst, .int cfr, .int grw, .int (nI nf), .ref (ad (40, 30)), .ref (ad (40, 31)), .int bkk, .ref (ad (40, 33)), .ref (ad (40, 34)), .ref (ad (40, 35)), .int iop, .ref (ad (40, 37)), .int (nI my)])) (h8 : G (40, 8) = some (eI Z 484 f8)) (h9 : G (40, 9) = some (eI Z 484 f9)) (h10 : G (40, 10) = some (eI Z 484 f10)) (h12 : G (40, 12) = some (eI Z 5 f12)) (h13 : G (40, 13) = some (eI Z 5 f13)) (h30 : G (40, 30) = some (eI Z 60 f30)) (h31 : G (40, 31) = some (eI Z 1800 f31)) (h33 : G (40, 33) = some (eI Z 2 f33)) (h34 : G (40, 34) = some (eI Z 2 f34)) (h37 : G (40, 37) = some (eI Z 441 f37)) (hk : k < 2) (hsc : sc < ns) (hns : ns ≤ 5) (hnf : nf ≤ 60) (hrk : rk < (m_im f8 f9 f10 f12 f13 sc).1) (hij : (m_im f8 f9 f10 f12 f13 sc).2 rk = nI j) (hjj : j + 22 < 484) (hot : ot < (m_im f8 f9 f10 f12 f13 sc).1) (hijo : (m_im f8 f9 f10 f12 f13 sc).2 ot = nI jo) (hjjo : jo + 22 < 484) (hne : ¬ rk = ot) (h6r : rk < 6) (h6o : ot < 6) : dzWr l yX9_book wsX9_book 3 90 0 0 Z G ad [.ref aM, .int (nI k), .int (nI sc), .int (nI rk), .int (nI ot)] rv_i (fun (x : Int32) G1 ad1 => (∀ r9 : dzR, r9 ≠ (39, 0) → r9 ≠ (40, 37) → r9 ≠ (40, 33) → r9 ≠ (40, 34) → G1 r9 = G r9 ∧ ad1 r9 = ad r9) ∧ ad = ad1 ∧ x = bkk + 1 ∧ G1 (40, 33) = some (eI Z 2 (upd f33 k (if ((m_nb f30 (fun i => f31 (30 * i + 6 * sc + rk)) (fun i => f31 (30 * i + 6 * sc + ot)) nf (m_abs (m_times (m_turn (fun j => m_pc j - f8 j) (fun j => m_pr j - f9 j) jo))) (m_abs (m_times (m_turn (fun j => m_pc j - f8 j) (fun j => m_pr j - f9 j) j))) 151).1) ≤ 0 ∨ (f10 jo - f10 j) ≤ 0 then -1 else (f10 jo - f10 j) * 20 / ((m_nb f30 (fun i => f31 (30 * i + 6 * sc + rk)) (fun i => f31 (30 * i + 6 * sc + ot)) nf (m_abs (m_times (m_turn (fun j => m_pc j - f8 j) (fun j => m_pr j - f9 j) jo))) (m_abs (m_times (m_turn (fun j => m_pc j - f8 j) (fun j => m_pr j - f9 j) j))) 151).1)))) ∧ G1 (40, 34) = some (eI Z 2 (upd f34 k td)) ∧ G1 (39, 0) = some (eO 10 [.int 0, .int dy, .int (nI nm), .ref (ad (40, 3)), .ref (ad (40, 4)), .ref (ad (40, 5)), .ref (ad (40, 6)), .int td, .ref (ad (40, 8)), .ref (ad (40, 9)), .ref (ad (40, 10)), .int (nI ns), .ref (ad (40, 12)), .ref (ad (40, 13)), .ref (ad (40, 14)), .int (nI nl), .ref (ad (40, 16)), .ref (ad (40, 17)), .ref (ad (40, 18)), .int (nI nx), .ref (ad (40, 20)), .ref (ad (40, 21)), .ref (ad (40, 22)), .ref (ad (40, 23)), .ref (ad (40, 24)), .int ssf, .int sst, .int cfr, .int grw, .int (nI nf), .ref (ad (40, 30)), .ref (ad (40, 31)), .int (bkk + 1), .ref (ad (40, 33)), .ref (ad (40, 34)), .ref (ad (40, 35)), .int iop, .ref (ad (40, 37)), .int (nI (m_im f8 f9 f10 f12 f13 sc).1)]) ∧ ∃ g, G1 (40, 37) = some (eI Z 441 g) ∧ ∀ k, k < (m_im f8 f9 f10 f12 f13 sc).1 → g k = (m_im f8 f9 f10 f12 f13 sc).2 k) := by
  refine Met.ofW (cc := cX9_book) (maxL := 8) (ret := (some .int)) (by decide) rfl ?_
  intro p e s m args below meth c s₁ B hml hv
  obtain ⟨rfl, hG, hE⟩ := hv
  have hx := B.exec
  have hb := B.bytes
  have hrt := B.returns
  have hts := atoms_spec (ws := wsX9_book) B.pre
  have hown : s.vm.findClass RX9 = some m.cls := findClass_of_methodNamed B.named
  have hlocks := B.notSynchronized
  have hS : va_S (dz_A Z) s.heap s.heap [] := va_S.rf
  have hl := lv_entry ([.ref aM, .int (nI k), .int (nI sc), .int (nI rk), .int (nI ot)]) (n := 8) (Nat.le_of_ble_eq_true rfl)
  rw [lg_entry_eq]
  generalize (lg_sl ([.ref aM, .int (nI k), .int (nI sc), .int (nI rk), .int (nI ot)]) ++ List.replicate (8 - (lg_sl ([.ref aM, .int (nI k), .int (nI sc), .int (nI rk), .int (nI ot)])).length) Slot.unset).toArray = ls at hl ⊢
  have hl : lv_has ls 8 [(0, .ref aM), (1, .int (nI k)), (2, .int (nI sc)), (3, .int (nI rk)), (4, .int (nI ot))] := hl
  have hcn := @m_im_c f8 f9 f10 f12 f13 sc
  refine lv_iload_n hx hb dX9_book_0 rfl (lv_at hl 1 rfl) ?_
  refine lv_iconst (v := 0) hx hb dX9_book_1 (by decide) ?_
  refine lv_iconst (v := 1) hx hb dX9_book_2 (by decide) ?_
  refine dz_kRi (va_runS (As := [_, _, _]) ⟨hx, hb, hml, hown, hts⟩ (c_X9_in l Z _ _ _ _ _ ) (va_cwS 3 hts gX9_book_X9_in rfl rfl rfl (by decide +kernel) ⟨Nat.le_of_ble_eq_true rfl, Nat.le_of_ble_eq_true rfl⟩) (dz_P.pre hE hS hG) rfl rfl hl.1 rfl (lv_room (Nat.le_of_ble_eq_true rfl)) dX9_book_3 ⟨Nat.le_of_ble_eq_true rfl, Nat.le_of_ble_eq_true rfl⟩) ?_
  refine lv_topi (fun v_1 ev_1 => ?_)
  obtain rfl : v_1 = 1 := ev_1.trans (dz_b1 (m_ix1 (n := 2) (by omega) hk))
  refine lv_if_eq (tgt := 32) hx hb dX9_book_6 (by decide) (fun c_6 => absurd c_6 (by decide)) (fun c_6 => ?_)
  refine lv_aload_n hx hb dX9_book_9 rfl (lv_at hl 0 rfl) ?_
  refine lv_iload_n hx hb dX9_book_10 rfl (lv_at hl 2 rfl) ?_
  refine lv_iload_n hx hb dX9_book_11 rfl (lv_at hl 3 rfl) ?_
  refine dz_kMi (va_runV (As := [_, _]) ⟨hx, hb, hml, hown, hts⟩ (c_isImageY l Z _ _ _ _ _ _ _ _ _ _ _ _ _ _ _ _ _ _ _ _ _ _ _ _ sc _ ha ho h8 h9 h10 h12 h13 h37 hsc hns) (cwV 2 hts gX9_book_X9_isImage rfl rfl rfl (by decide +kernel) ⟨Nat.le_of_ble_eq_true rfl, Nat.le_of_ble_eq_true rfl⟩) (dz_P.preV hE hS hG ho rfl ha) rfl rfl hl.1 rfl (lv_room (Nat.le_of_ble_eq_true rfl)) dX9_book_12 ⟨Nat.le_of_ble_eq_true rfl, Nat.le_of_ble_eq_true rfl⟩) hS (fun x_12_1 G_12_1 ad_12_1 H locs hp_12_1 hG hS => ?_)
  obtain ⟨fr_12_1, rfl, x9_12_1, o_12_1, g_12_1⟩ := hp_12_1
  obtain rfl : x_12_1 = 1 := x9_12_1.trans (dz_b1 (m_ix1 (by omega) hrk))
  obtain ⟨gf_12_1, gh_12_1, hgk⟩ := g_12_1
  refine lv_if_eq (tgt := 32) hx hb dX9_book_15 (by decide) (fun c_15 => absurd c_15 (by decide)) (fun c_15 => ?_)
  refine lv_aload_n hx hb dX9_book_18 rfl (lv_at hl 0 rfl) ?_
  refine lv_iload_n hx hb dX9_book_19 rfl (lv_at hl 2 rfl) ?_
  refine lv_iload hx hb dX9_book_20 (lv_at hl 4 rfl) ?_
  refine dz_kMi (va_runV (As := [_, _]) ⟨hx, hb, hml, hown, hts⟩ (c_isImageY l Z _ _ _ _ _ _ _ _ _ _ _ _ _ _ _ _ _ _ _ _ _ _ _ _ sc _ ha o_12_1 ((fr_12_1 _ (dz_n rfl) (dz_n2 (by decide))).1.trans h8) ((fr_12_1 _ (dz_n rfl) (dz_n2 (by decide))).1.trans h9) ((fr_12_1 _ (dz_n rfl) (dz_n2 (by decide))).1.trans h10) ((fr_12_1 _ (dz_n rfl) (dz_n2 (by decide))).1.trans h12) ((fr_12_1 _ (dz_n rfl) (dz_n2 (by decide))).1.trans h13) gh_12_1 hsc hns) (cwV 2 hts gX9_book_X9_isImage rfl rfl rfl (by decide +kernel) ⟨Nat.le_of_ble_eq_true rfl, Nat.le_of_ble_eq_true rfl⟩) (dz_P.preV hE hS hG o_12_1 rfl ha) rfl rfl hl.1 rfl (lv_room (Nat.le_of_ble_eq_true rfl)) dX9_book_22 ⟨Nat.le_of_ble_eq_true rfl, Nat.le_of_ble_eq_true rfl⟩) hS (fun x_22_2 G_22_2 ad_22_2 H locs hp_22_2 hG hS => ?_)
  obtain ⟨fr_22_2, rfl, x9_22_2, o_22_2, g_22_2⟩ := hp_22_2
  obtain rfl : x_22_2 = 1 := x9_22_2.trans (dz_b1 (m_ix1 (by omega) hot))
  obtain ⟨gf_22_2, gh_22_2, hgk⟩ := g_22_2
  refine lv_if_eq (tgt := 32) hx hb dX9_book_25 (by decide) (fun c_25 => absurd c_25 (by decide)) (fun c_25 => ?_)
  refine lv_iconst (v := 1) hx hb dX9_book_28 (by decide) ?_
  refine lv_goto (tgt := 33) hx hb dX9_book_29 (by decide) ?_
  refine lv_istore (lv' := [(5, .int 1), (0, .ref aM), (1, .int (nI k)), (2, .int (nI sc)), (3, .int (nI rk)), (4, .int (nI ot))]) hx hb dX9_book_33 hl (by decide) rfl (fun ls hl => ?_)
  refine lv_aload_n hx hb dX9_book_35 rfl (lv_at hl 1 rfl) ?_
  refine lv_iload hx hb dX9_book_36 (lv_at hl 0 rfl) ?_
  refine lv_if_ne (tgt := 45) hx hb dX9_book_38 (by decide) (fun c_38 => ?_) (fun c_38 => absurd c_38 (by decide))
  refine lv_iload_n hx hb dX9_book_45 rfl (lv_at hl 4 rfl) ?_
  refine lv_iload hx hb dX9_book_46 (lv_at hl 5 rfl) ?_
  refine lv_icmp_ne (tgt := 55) hx hb dX9_book_48 (by decide) (fun c_48 => ?_) (fun c_48 => absurd c_48 (fun z => hne ((nI_e (by omega) (by omega)).mp z)))
  refine lv_iconst (v := 0) hx hb dX9_book_55 (by decide) ?_
  refine dz_kMi (va_runV (As := [_]) ⟨hx, hb, hml, hown, hts⟩ (c_X9_refused l Z _ _ _ _ _ _ _ _ _ _ _ _ _ _ _ _ _ _ _ ha o_22_2) (cwV 1 hts gX9_book_X9_refused rfl rfl rfl (by decide +kernel) ⟨Nat.le_of_ble_eq_true rfl, Nat.le_of_ble_eq_true rfl⟩) (dz_P.preV hE hS hG o_22_2 rfl ha) rfl rfl hl.1 rfl (lv_room (Nat.le_of_ble_eq_true rfl)) dX9_book_56 ⟨Nat.le_of_ble_eq_true rfl, Nat.le_of_ble_eq_true rfl⟩) hS (fun x_56_3 G_56_3 ad_56_3 H locs hp_56_3 hG hS => ?_)
  obtain ⟨fr_56_3, rfl, x9_56_3, g_56_3⟩ := hp_56_3
  obtain rfl : x_56_3 = 0 := x9_56_3.trans (by decide)
  refine lv_if_eq (tgt := 64) hx hb dX9_book_59 (by decide) (fun c_59 => ?_) (fun c_59 => absurd (by decide) c_59)
  refine lv_aload_n hx hb dX9_book_64 rfl (lv_at hl 1 rfl) ?_
  refine lv_iload_n hx hb dX9_book_65 rfl (lv_at hl 3 rfl) ?_
  refine lv_iload_n hx hb dX9_book_66 rfl (lv_at hl 4 rfl) ?_
  refine lv_iload hx hb dX9_book_67 (lv_at hl 5 rfl) ?_
  refine dz_kRi (va_runV (As := [_, _, _]) ⟨hx, hb, hml, hown, hts⟩ (c_X9_measure l Z _ _ _ _ _ _ _ _ _ _ _ _ _ _ _ _ _ _ _ _ _ _ _ _ _ _ j jo ha g_56_3 ((fr_56_3 _ (dz_n rfl)).1.trans ((fr_22_2 _ (dz_n rfl) (dz_n2 (by decide))).1.trans ((fr_12_1 _ (dz_n rfl) (dz_n2 (by decide))).1.trans h8))) ((fr_56_3 _ (dz_n rfl)).1.trans ((fr_22_2 _ (dz_n rfl) (dz_n2 (by decide))).1.trans ((fr_12_1 _ (dz_n rfl) (dz_n2 (by decide))).1.trans h9))) ((fr_56_3 _ (dz_n rfl)).1.trans ((fr_22_2 _ (dz_n rfl) (dz_n2 (by decide))).1.trans ((fr_12_1 _ (dz_n rfl) (dz_n2 (by decide))).1.trans h30))) ((fr_56_3 _ (dz_n rfl)).1.trans ((fr_22_2 _ (dz_n rfl) (dz_n2 (by decide))).1.trans ((fr_12_1 _ (dz_n rfl) (dz_n2 (by decide))).1.trans h31))) ((fr_56_3 _ (dz_n rfl)).1.trans gh_22_2) (by omega) hnf h6r h6o ((hgk rk hrk).trans hij) hjj ((hgk ot hot).trans hijo) hjjo) (cwV 3 hts gX9_book_X9_measure rfl rfl rfl (by decide +kernel) ⟨Nat.le_of_ble_eq_true rfl, Nat.le_of_ble_eq_true rfl⟩) (dz_P.preV hE hS hG g_56_3 rfl ha) rfl rfl hl.1 rfl (lv_room (Nat.le_of_ble_eq_true rfl)) dX9_book_69 ⟨Nat.le_of_ble_eq_true rfl, Nat.le_of_ble_eq_true rfl⟩) ?_
  refine lv_topi (fun v_2 ev_2 => ?_)
  obtain rfl : v_2 = (m_nb f30 (fun i => f31 (30 * i + 6 * sc + rk)) (fun i => f31 (30 * i + 6 * sc + ot)) nf (m_abs (m_times (m_turn (fun j => m_pc j - f8 j) (fun j => m_pr j - f9 j) jo))) (m_abs (m_times (m_turn (fun j => m_pc j - f8 j) (fun j => m_pr j - f9 j) j))) 151).1 := ev_2
  refine lv_istore (lv' := [(6, .int ((m_nb f30 (fun i => f31 (30 * i + 6 * sc + rk)) (fun i => f31 (30 * i + 6 * sc + ot)) nf (m_abs (m_times (m_turn (fun j => m_pc j - f8 j) (fun j => m_pr j - f9 j) jo))) (m_abs (m_times (m_turn (fun j => m_pc j - f8 j) (fun j => m_pr j - f9 j) j))) 151).1)), (5, .int 1), (0, .ref aM), (1, .int (nI k)), (2, .int (nI sc)), (3, .int (nI rk)), (4, .int (nI ot))]) hx hb dX9_book_72 hl (by decide) rfl (fun ls hl => ?_)
  refine lv_aload_n hx hb dX9_book_74 rfl (lv_at hl 2 rfl) ?_
  refine dz_get hx hb hts (fun _ h => List.mem_cons_of_mem _ (List.mem_append_right _ h)) hown hE hG ha g_56_3 rfl 10 (by decide) (hts _ (List.mem_of_getElem? (i := 1) rfl)) (fun _ h9 => h9) rfl dX9_book_75 ?_
  refine lv_aload_n hx hb dX9_book_78 rfl (lv_at hl 2 rfl) ?_
  refine dz_get hx hb hts (fun _ h => List.mem_cons_of_mem _ (List.mem_append_right _ h)) hown hE hG ha g_56_3 rfl 37 (by decide) (hts _ (List.mem_of_getElem? (i := 2) rfl)) (fun _ h9 => h9) rfl dX9_book_79 ?_
  refine lv_iload hx hb dX9_book_82 (lv_at hl 6 rfl) ?_
  refine dz_iald hx hb hE hG ((fr_56_3 _ (dz_n rfl)).2.trans rfl) ((fr_56_3 _ (dz_n rfl)).1.trans gh_22_2) (vp_in_nI (by omega) (by decide)) dX9_book_84 ?_
  refine lv_topi (fun v_3 ev_3 => ?_)
  obtain rfl : v_3 = nI jo := ev_3.trans (by rw [nI_clamp (by omega)]; exact (hgk ot hot).trans hijo)
  refine dz_iald hx hb hE hG ((fr_56_3 _ (dz_n rfl)).2.trans ((fr_22_2 _ (dz_n rfl) (dz_n2 (by decide))).2.trans ((fr_12_1 _ (dz_n rfl) (dz_n2 (by decide))).2.trans rfl))) ((fr_56_3 _ (dz_n rfl)).1.trans ((fr_22_2 _ (dz_n rfl) (dz_n2 (by decide))).1.trans ((fr_12_1 _ (dz_n rfl) (dz_n2 (by decide))).1.trans h10))) (vp_in_nI (by omega) (by decide)) dX9_book_85 ?_
  refine lv_topi (fun v_4 ev_4 => ?_)
  obtain rfl : v_4 = f10 jo := ev_4.trans (by rw [nI_clamp (by omega)])
  refine lv_aload_n hx hb dX9_book_86 rfl (lv_at hl 2 rfl) ?_
  refine dz_get hx hb hts (fun _ h => List.mem_cons_of_mem _ (List.mem_append_right _ h)) hown hE hG ha g_56_3 rfl 10 (by decide) (hts _ (List.mem_of_getElem? (i := 1) rfl)) (fun _ h9 => h9) rfl dX9_book_87 ?_
  refine lv_aload_n hx hb dX9_book_90 rfl (lv_at hl 2 rfl) ?_
  refine dz_get hx hb hts (fun _ h => List.mem_cons_of_mem _ (List.mem_append_right _ h)) hown hE hG ha g_56_3 rfl 37 (by decide) (hts _ (List.mem_of_getElem? (i := 2) rfl)) (fun _ h9 => h9) rfl dX9_book_91 ?_
  refine lv_iload_n hx hb dX9_book_94 rfl (lv_at hl 5 rfl) ?_
  refine dz_iald hx hb hE hG ((fr_56_3 _ (dz_n rfl)).2.trans rfl) ((fr_56_3 _ (dz_n rfl)).1.trans gh_22_2) (vp_in_nI (by omega) (by decide)) dX9_book_95 ?_
  refine lv_topi (fun v_5 ev_5 => ?_)
  obtain rfl : v_5 = nI j := ev_5.trans (by rw [nI_clamp (by omega)]; exact (hgk rk hrk).trans hij)
  refine dz_iald hx hb hE hG ((fr_56_3 _ (dz_n rfl)).2.trans ((fr_22_2 _ (dz_n rfl) (dz_n2 (by decide))).2.trans ((fr_12_1 _ (dz_n rfl) (dz_n2 (by decide))).2.trans rfl))) ((fr_56_3 _ (dz_n rfl)).1.trans ((fr_22_2 _ (dz_n rfl) (dz_n2 (by decide))).1.trans ((fr_12_1 _ (dz_n rfl) (dz_n2 (by decide))).1.trans h10))) (vp_in_nI (by omega) (by decide)) dX9_book_96 ?_
  refine lv_topi (fun v_6 ev_6 => ?_)
  obtain rfl : v_6 = f10 j := ev_6.trans (by rw [nI_clamp (by omega)])
  refine lv_isub hx hb dX9_book_97 ?_
  refine lv_topi (fun v_7 ev_7 => ?_)
  obtain rfl : v_7 = (f10 jo - f10 j) := ev_7
  refine lv_istore (lv' := [(7, .int (f10 jo - f10 j)), (6, .int ((m_nb f30 (fun i => f31 (30 * i + 6 * sc + rk)) (fun i => f31 (30 * i + 6 * sc + ot)) nf (m_abs (m_times (m_turn (fun j => m_pc j - f8 j) (fun j => m_pr j - f9 j) jo))) (m_abs (m_times (m_turn (fun j => m_pc j - f8 j) (fun j => m_pr j - f9 j) j))) 151).1)), (5, .int 1), (0, .ref aM), (1, .int (nI k)), (2, .int (nI sc)), (3, .int (nI rk)), (4, .int (nI ot))]) hx hb dX9_book_98 hl (by decide) rfl (fun ls hl => ?_)
  refine lv_aload_n hx hb dX9_book_100 rfl (lv_at hl 3 rfl) ?_
  refine dz_get hx hb hts (fun _ h => List.mem_cons_of_mem _ (List.mem_append_right _ h)) hown hE hG ha g_56_3 rfl 33 (by decide) (hts _ (List.mem_of_getElem? (i := 3) rfl)) (fun _ h9 => h9) rfl dX9_book_101 ?_
  refine lv_iload_n hx hb dX9_book_104 rfl (lv_at hl 4 rfl) ?_
  refine lv_iload hx hb dX9_book_105 (lv_at hl 1 rfl) ?_
  refine lv_if_le (tgt := 115) hx hb dX9_book_107 (by decide) (fun c_107 => ?_) (fun c_107 => ?_)
  · refine lv_iconst (v := (-1)) hx hb dX9_book_115 (by decide) ?_
    refine lv_goto (tgt := 127) hx hb dX9_book_116 (by decide) ?_
    refine lv_topi (fun v_8 ev_8 => ?_)
    obtain rfl : v_8 = (if ((m_nb f30 (fun i => f31 (30 * i + 6 * sc + rk)) (fun i => f31 (30 * i + 6 * sc + ot)) nf (m_abs (m_times (m_turn (fun j => m_pc j - f8 j) (fun j => m_pr j - f9 j) jo))) (m_abs (m_times (m_turn (fun j => m_pc j - f8 j) (fun j => m_pr j - f9 j) j))) 151).1) ≤ 0 ∨ (f10 jo - f10 j) ≤ 0 then -1 else (f10 jo - f10 j) * 20 / ((m_nb f30 (fun i => f31 (30 * i + 6 * sc + rk)) (fun i => f31 (30 * i + 6 * sc + ot)) nf (m_abs (m_times (m_turn (fun j => m_pc j - f8 j) (fun j => m_pr j - f9 j) jo))) (m_abs (m_times (m_turn (fun j => m_pc j - f8 j) (fun j => m_pr j - f9 j) j))) 151).1)) := ev_8.trans (by first | exact (if_pos (Or.inl c_107)).symm | exact (if_pos (Or.inr (Int32.not_lt.mp (fun z => c_112 z)))).symm | exact (if_neg (fun z => z.elim c_107 (Int32.not_le.mpr c_112))).symm)
    refine dz_iast hx hb hE hG ((fr_56_3 _ (dz_n rfl)).2.trans ((fr_22_2 _ (dz_n rfl) (dz_n2 (by decide))).2.trans ((fr_12_1 _ (dz_n rfl) (dz_n2 (by decide))).2.trans rfl))) hS ((fr_56_3 _ (dz_n rfl)).1.trans ((fr_22_2 _ (dz_n rfl) (dz_n2 (by decide))).1.trans ((fr_12_1 _ (dz_n rfl) (dz_n2 (by decide))).1.trans h33))) (vp_in_nI (by omega) (by decide)) dX9_book_127 (fun H locs hG hS => ?_)
    rw [nI_clamp (show k < 2 ^ 31 by omega)] at hG
    obtain ⟨G_1, hG, w_1, o_1⟩ := dz_nm hG
    refine lv_aload_n hx hb dX9_book_128 rfl (lv_at hl 3 rfl) ?_
    refine dz_get hx hb hts (fun _ h => List.mem_cons_of_mem _ (List.mem_append_right _ h)) hown hE hG ((o_1 _ (dz_n rfl)).2.trans ha) ((o_1 _ (dz_n rfl)).1.trans g_56_3) rfl 34 (by decide) (hts _ (List.mem_of_getElem? (i := 4) rfl)) (fun _ h9 => h9) rfl dX9_book_129 ?_
    refine lv_iload_n hx hb dX9_book_132 rfl (lv_at hl 4 rfl) ?_
    refine lv_aload_n hx hb dX9_book_133 rfl (lv_at hl 3 rfl) ?_
    refine dz_get hx hb hts (fun _ h => List.mem_cons_of_mem _ (List.mem_append_right _ h)) hown hE hG ((o_1 _ (dz_n rfl)).2.trans ha) ((o_1 _ (dz_n rfl)).1.trans g_56_3) rfl 7 (by decide) (hts _ (List.mem_of_getElem? (i := 5) rfl)) (fun _ h9 => h9) rfl dX9_book_134 ?_
    refine dz_iast hx hb hE hG ((o_1 _ (dz_n2 (by decide))).2.trans ((fr_56_3 _ (dz_n rfl)).2.trans ((fr_22_2 _ (dz_n rfl) (dz_n2 (by decide))).2.trans ((fr_12_1 _ (dz_n rfl) (dz_n2 (by decide))).2.trans rfl)))) hS ((o_1 _ (dz_n2 (by decide))).1.trans ((fr_56_3 _ (dz_n rfl)).1.trans ((fr_22_2 _ (dz_n rfl) (dz_n2 (by decide))).1.trans ((fr_12_1 _ (dz_n rfl) (dz_n2 (by decide))).1.trans h34)))) (vp_in_nI (by omega) (by decide)) dX9_book_137 (fun H locs hG hS => ?_)
    rw [nI_clamp (show k < 2 ^ 31 by omega)] at hG
    obtain ⟨G_2, hG, w_2, o_2⟩ := dz_nm hG
    refine lv_aload_n hx hb dX9_book_138 rfl (lv_at hl 3 rfl) ?_
    refine lv_dup hx hb dX9_book_139 rfl ?_
    refine dz_get hx hb hts (fun _ h => List.mem_cons_of_mem _ (List.mem_append_right _ h)) hown hE hG ((o_2 _ (dz_n rfl)).2.trans ((o_1 _ (dz_n rfl)).2.trans ha)) ((o_2 _ (dz_n rfl)).1.trans ((o_1 _ (dz_n rfl)).1.trans g_56_3)) rfl 32 (by decide) (hts _ (List.mem_of_getElem? (i := 6) rfl)) (fun _ h9 => h9) rfl dX9_book_140 ?_
    refine lv_iconst (v := 1) hx hb dX9_book_143 (by decide) ?_
    refine lv_iadd hx hb dX9_book_144 ?_
    refine lv_topi (fun v_9 ev_9 => ?_)
    obtain rfl : v_9 = bkk + 1 := ev_9
    refine dz_put hx hb hts (fun _ h => List.mem_cons_of_mem _ (List.mem_append_right _ h)) tyX9 tyX9_ok nmX9 hown hE hG ((o_2 _ (dz_n rfl)).2.trans ((o_1 _ (dz_n rfl)).2.trans ha)) hS ((o_2 _ (dz_n rfl)).1.trans ((o_1 _ (dz_n rfl)).1.trans g_56_3)) rfl 32 (by decide) (hts _ (List.mem_of_getElem? (i := 6) rfl)) (fun _ h9 => h9) rfl (ty := .int) (by decide +kernel) rfl rfl (fs' := [.int 0, .int dy, .int (nI nm), .ref (ad (40, 3)), .ref (ad (40, 4)), .ref (ad (40, 5)), .ref (ad (40, 6)), .int td, .ref (ad (40, 8)), .ref (ad (40, 9)), .ref (ad (40, 10)), .int (nI ns), .ref (ad (40, 12)), .ref (ad (40, 13)), .ref (ad (40, 14)), .int (nI nl), .ref (ad (40, 16)), .ref (ad (40, 17)), .ref (ad (40, 18)), .int (nI nx), .ref (ad (40, 20)), .ref (ad (40, 21)), .ref (ad (40, 22)), .ref (ad (40, 23)), .ref (ad (40, 24)), .int ssf, .int sst, .int cfr, .int grw, .int (nI nf), .ref (ad (40, 30)), .ref (ad (40, 31)), .int (bkk + 1), .ref (ad (40, 33)), .ref (ad (40, 34)), .ref (ad (40, 35)), .int iop, .ref (ad (40, 37)), .int (nI (m_im f8 f9 f10 f12 f13 sc).1)]) rfl (Nat.le_of_ble_eq_true rfl) dX9_book_145 (fun H locs hG hS => ?_)
    obtain ⟨G_3, hG, w_3, o_3⟩ := dz_nm hG
    refine lv_aload_n hx hb dX9_book_148 rfl (lv_at hl 3 rfl) ?_
    refine dz_get hx hb hts (fun _ h => List.mem_cons_of_mem _ (List.mem_append_right _ h)) hown hE hG ((o_2 _ (dz_n rfl)).2.trans ((o_1 _ (dz_n rfl)).2.trans ha)) w_3 rfl 32 (by decide) (hts _ (List.mem_of_getElem? (i := 6) rfl)) (fun _ h9 => h9) rfl dX9_book_149 ?_
    refine W.widen (k := 0) (n := 0) (by first | omega | decide) (by first | omega | decide) ?_
    refine W.iret hx hb hrt (fun t ht hW => dz_endM (f := rv_i) _ hE hS hG ?_ ht hW) (fun q h => hS.2.2 q h) dX9_book_152
    refine ⟨fun r9 n_0 n_1 n_2 n_3 => (dz_tr (o_3 r9 n_0) (dz_tr (o_2 r9 n_3) (dz_tr (o_1 r9 n_2) (dz_tr (fr_56_3 r9 n_0) (dz_tr (fr_22_2 r9 n_0 n_1) (fr_12_1 r9 n_0 n_1)))))), rfl, ?_⟩
    exact ⟨rfl, ((o_3 _ (dz_n rfl)).1.trans ((o_2 _ (dz_n2 (by decide))).1.trans w_1)), ((o_3 _ (dz_n rfl)).1.trans w_2), w_3, _, ((o_3 _ (dz_n rfl)).1.trans ((o_2 _ (dz_n2 (by decide))).1.trans ((o_1 _ (dz_n2 (by decide))).1.trans ((fr_56_3 _ (dz_n rfl)).1.trans gh_22_2)))), hgk⟩
  · refine lv_iload hx hb dX9_book_110 (lv_at hl 0 rfl) ?_
    refine lv_if_gt (tgt := 119) hx hb dX9_book_112 (by decide) (fun c_112 => ?_) (fun c_112 => ?_)
    · refine lv_iload hx hb dX9_book_119 (lv_at hl 0 rfl) ?_
      refine lv_bipush (v := 20) hx hb dX9_book_121 (by decide) ?_
      refine lv_imul hx hb dX9_book_123 ?_
      refine lv_iload hx hb dX9_book_124 (lv_at hl 1 rfl) ?_
      refine lv_idiv hx hb dX9_book_126 (fun z => c_107 (by rw [z]; decide)) ?_
      refine lv_topi (fun v_10 ev_10 => ?_)
      obtain rfl : v_10 = (if ((m_nb f30 (fun i => f31 (30 * i + 6 * sc + rk)) (fun i => f31 (30 * i + 6 * sc + ot)) nf (m_abs (m_times (m_turn (fun j => m_pc j - f8 j) (fun j => m_pr j - f9 j) jo))) (m_abs (m_times (m_turn (fun j => m_pc j - f8 j) (fun j => m_pr j - f9 j) j))) 151).1) ≤ 0 ∨ (f10 jo - f10 j) ≤ 0 then -1 else (f10 jo - f10 j) * 20 / ((m_nb f30 (fun i => f31 (30 * i + 6 * sc + rk)) (fun i => f31 (30 * i + 6 * sc + ot)) nf (m_abs (m_times (m_turn (fun j => m_pc j - f8 j) (fun j => m_pr j - f9 j) jo))) (m_abs (m_times (m_turn (fun j => m_pc j - f8 j) (fun j => m_pr j - f9 j) j))) 151).1)) := ev_10.trans (by first | exact (if_pos (Or.inl c_107)).symm | exact (if_pos (Or.inr (Int32.not_lt.mp (fun z => c_112 z)))).symm | exact (if_neg (fun z => z.elim c_107 (Int32.not_le.mpr c_112))).symm)
      refine dz_iast hx hb hE hG ((fr_56_3 _ (dz_n rfl)).2.trans ((fr_22_2 _ (dz_n rfl) (dz_n2 (by decide))).2.trans ((fr_12_1 _ (dz_n rfl) (dz_n2 (by decide))).2.trans rfl))) hS ((fr_56_3 _ (dz_n rfl)).1.trans ((fr_22_2 _ (dz_n rfl) (dz_n2 (by decide))).1.trans ((fr_12_1 _ (dz_n rfl) (dz_n2 (by decide))).1.trans h33))) (vp_in_nI (by omega) (by decide)) dX9_book_127 (fun H locs hG hS => ?_)
      rw [nI_clamp (show k < 2 ^ 31 by omega)] at hG
      obtain ⟨G_4, hG, w_4, o_4⟩ := dz_nm hG
      refine lv_aload_n hx hb dX9_book_128 rfl (lv_at hl 3 rfl) ?_
      refine dz_get hx hb hts (fun _ h => List.mem_cons_of_mem _ (List.mem_append_right _ h)) hown hE hG ((o_4 _ (dz_n rfl)).2.trans ha) ((o_4 _ (dz_n rfl)).1.trans g_56_3) rfl 34 (by decide) (hts _ (List.mem_of_getElem? (i := 4) rfl)) (fun _ h9 => h9) rfl dX9_book_129 ?_
      refine lv_iload_n hx hb dX9_book_132 rfl (lv_at hl 4 rfl) ?_
      refine lv_aload_n hx hb dX9_book_133 rfl (lv_at hl 3 rfl) ?_
      refine dz_get hx hb hts (fun _ h => List.mem_cons_of_mem _ (List.mem_append_right _ h)) hown hE hG ((o_4 _ (dz_n rfl)).2.trans ha) ((o_4 _ (dz_n rfl)).1.trans g_56_3) rfl 7 (by decide) (hts _ (List.mem_of_getElem? (i := 5) rfl)) (fun _ h9 => h9) rfl dX9_book_134 ?_
      refine dz_iast hx hb hE hG ((o_4 _ (dz_n2 (by decide))).2.trans ((fr_56_3 _ (dz_n rfl)).2.trans ((fr_22_2 _ (dz_n rfl) (dz_n2 (by decide))).2.trans ((fr_12_1 _ (dz_n rfl) (dz_n2 (by decide))).2.trans rfl)))) hS ((o_4 _ (dz_n2 (by decide))).1.trans ((fr_56_3 _ (dz_n rfl)).1.trans ((fr_22_2 _ (dz_n rfl) (dz_n2 (by decide))).1.trans ((fr_12_1 _ (dz_n rfl) (dz_n2 (by decide))).1.trans h34)))) (vp_in_nI (by omega) (by decide)) dX9_book_137 (fun H locs hG hS => ?_)
      rw [nI_clamp (show k < 2 ^ 31 by omega)] at hG
      obtain ⟨G_5, hG, w_5, o_5⟩ := dz_nm hG
      refine lv_aload_n hx hb dX9_book_138 rfl (lv_at hl 3 rfl) ?_
      refine lv_dup hx hb dX9_book_139 rfl ?_
      refine dz_get hx hb hts (fun _ h => List.mem_cons_of_mem _ (List.mem_append_right _ h)) hown hE hG ((o_5 _ (dz_n rfl)).2.trans ((o_4 _ (dz_n rfl)).2.trans ha)) ((o_5 _ (dz_n rfl)).1.trans ((o_4 _ (dz_n rfl)).1.trans g_56_3)) rfl 32 (by decide) (hts _ (List.mem_of_getElem? (i := 6) rfl)) (fun _ h9 => h9) rfl dX9_book_140 ?_
      refine lv_iconst (v := 1) hx hb dX9_book_143 (by decide) ?_
      refine lv_iadd hx hb dX9_book_144 ?_
      refine lv_topi (fun v_11 ev_11 => ?_)
      obtain rfl : v_11 = bkk + 1 := ev_11
      refine dz_put hx hb hts (fun _ h => List.mem_cons_of_mem _ (List.mem_append_right _ h)) tyX9 tyX9_ok nmX9 hown hE hG ((o_5 _ (dz_n rfl)).2.trans ((o_4 _ (dz_n rfl)).2.trans ha)) hS ((o_5 _ (dz_n rfl)).1.trans ((o_4 _ (dz_n rfl)).1.trans g_56_3)) rfl 32 (by decide) (hts _ (List.mem_of_getElem? (i := 6) rfl)) (fun _ h9 => h9) rfl (ty := .int) (by decide +kernel) rfl rfl (fs' := [.int 0, .int dy, .int (nI nm), .ref (ad (40, 3)), .ref (ad (40, 4)), .ref (ad (40, 5)), .ref (ad (40, 6)), .int td, .ref (ad (40, 8)), .ref (ad (40, 9)), .ref (ad (40, 10)), .int (nI ns), .ref (ad (40, 12)), .ref (ad (40, 13)), .ref (ad (40, 14)), .int (nI nl), .ref (ad (40, 16)), .ref (ad (40, 17)), .ref (ad (40, 18)), .int (nI nx), .ref (ad (40, 20)), .ref (ad (40, 21)), .ref (ad (40, 22)), .ref (ad (40, 23)), .ref (ad (40, 24)), .int ssf, .int sst, .int cfr, .int grw, .int (nI nf), .ref (ad (40, 30)), .ref (ad (40, 31)), .int (bkk + 1), .ref (ad (40, 33)), .ref (ad (40, 34)), .ref (ad (40, 35)), .int iop, .ref (ad (40, 37)), .int (nI (m_im f8 f9 f10 f12 f13 sc).1)]) rfl (Nat.le_of_ble_eq_true rfl) dX9_book_145 (fun H locs hG hS => ?_)
      obtain ⟨G_6, hG, w_6, o_6⟩ := dz_nm hG
      refine lv_aload_n hx hb dX9_book_148 rfl (lv_at hl 3 rfl) ?_
      refine dz_get hx hb hts (fun _ h => List.mem_cons_of_mem _ (List.mem_append_right _ h)) hown hE hG ((o_5 _ (dz_n rfl)).2.trans ((o_4 _ (dz_n rfl)).2.trans ha)) w_6 rfl 32 (by decide) (hts _ (List.mem_of_getElem? (i := 6) rfl)) (fun _ h9 => h9) rfl dX9_book_149 ?_
      refine W.widen (k := 0) (n := 0) (by first | omega | decide) (by first | omega | decide) ?_
      refine W.iret hx hb hrt (fun t ht hW => dz_endM (f := rv_i) _ hE hS hG ?_ ht hW) (fun q h => hS.2.2 q h) dX9_book_152
      refine ⟨fun r9 n_0 n_1 n_2 n_3 => (dz_tr (o_6 r9 n_0) (dz_tr (o_5 r9 n_3) (dz_tr (o_4 r9 n_2) (dz_tr (fr_56_3 r9 n_0) (dz_tr (fr_22_2 r9 n_0 n_1) (fr_12_1 r9 n_0 n_1)))))), rfl, ?_⟩
      exact ⟨rfl, ((o_6 _ (dz_n rfl)).1.trans ((o_5 _ (dz_n2 (by decide))).1.trans w_4)), ((o_6 _ (dz_n rfl)).1.trans w_5), w_6, _, ((o_6 _ (dz_n rfl)).1.trans ((o_5 _ (dz_n2 (by decide))).1.trans ((o_4 _ (dz_n2 (by decide))).1.trans ((fr_56_3 _ (dz_n rfl)).1.trans gh_22_2)))), hgk⟩
    · refine lv_iconst (v := (-1)) hx hb dX9_book_115 (by decide) ?_
      refine lv_goto (tgt := 127) hx hb dX9_book_116 (by decide) ?_
      refine lv_topi (fun v_12 ev_12 => ?_)
      obtain rfl : v_12 = (if ((m_nb f30 (fun i => f31 (30 * i + 6 * sc + rk)) (fun i => f31 (30 * i + 6 * sc + ot)) nf (m_abs (m_times (m_turn (fun j => m_pc j - f8 j) (fun j => m_pr j - f9 j) jo))) (m_abs (m_times (m_turn (fun j => m_pc j - f8 j) (fun j => m_pr j - f9 j) j))) 151).1) ≤ 0 ∨ (f10 jo - f10 j) ≤ 0 then -1 else (f10 jo - f10 j) * 20 / ((m_nb f30 (fun i => f31 (30 * i + 6 * sc + rk)) (fun i => f31 (30 * i + 6 * sc + ot)) nf (m_abs (m_times (m_turn (fun j => m_pc j - f8 j) (fun j => m_pr j - f9 j) jo))) (m_abs (m_times (m_turn (fun j => m_pc j - f8 j) (fun j => m_pr j - f9 j) j))) 151).1)) := ev_12.trans (by first | exact (if_pos (Or.inl c_107)).symm | exact (if_pos (Or.inr (Int32.not_lt.mp (fun z => c_112 z)))).symm | exact (if_neg (fun z => z.elim c_107 (Int32.not_le.mpr c_112))).symm)
      refine dz_iast hx hb hE hG ((fr_56_3 _ (dz_n rfl)).2.trans ((fr_22_2 _ (dz_n rfl) (dz_n2 (by decide))).2.trans ((fr_12_1 _ (dz_n rfl) (dz_n2 (by decide))).2.trans rfl))) hS ((fr_56_3 _ (dz_n rfl)).1.trans ((fr_22_2 _ (dz_n rfl) (dz_n2 (by decide))).1.trans ((fr_12_1 _ (dz_n rfl) (dz_n2 (by decide))).1.trans h33))) (vp_in_nI (by omega) (by decide)) dX9_book_127 (fun H locs hG hS => ?_)
      rw [nI_clamp (show k < 2 ^ 31 by omega)] at hG
      obtain ⟨G_7, hG, w_7, o_7⟩ := dz_nm hG
      refine lv_aload_n hx hb dX9_book_128 rfl (lv_at hl 3 rfl) ?_
      refine dz_get hx hb hts (fun _ h => List.mem_cons_of_mem _ (List.mem_append_right _ h)) hown hE hG ((o_7 _ (dz_n rfl)).2.trans ha) ((o_7 _ (dz_n rfl)).1.trans g_56_3) rfl 34 (by decide) (hts _ (List.mem_of_getElem? (i := 4) rfl)) (fun _ h9 => h9) rfl dX9_book_129 ?_
      refine lv_iload_n hx hb dX9_book_132 rfl (lv_at hl 4 rfl) ?_
      refine lv_aload_n hx hb dX9_book_133 rfl (lv_at hl 3 rfl) ?_
      refine dz_get hx hb hts (fun _ h => List.mem_cons_of_mem _ (List.mem_append_right _ h)) hown hE hG ((o_7 _ (dz_n rfl)).2.trans ha) ((o_7 _ (dz_n rfl)).1.trans g_56_3) rfl 7 (by decide) (hts _ (List.mem_of_getElem? (i := 5) rfl)) (fun _ h9 => h9) rfl dX9_book_134 ?_
      refine dz_iast hx hb hE hG ((o_7 _ (dz_n2 (by decide))).2.trans ((fr_56_3 _ (dz_n rfl)).2.trans ((fr_22_2 _ (dz_n rfl) (dz_n2 (by decide))).2.trans ((fr_12_1 _ (dz_n rfl) (dz_n2 (by decide))).2.trans rfl)))) hS ((o_7 _ (dz_n2 (by decide))).1.trans ((fr_56_3 _ (dz_n rfl)).1.trans ((fr_22_2 _ (dz_n rfl) (dz_n2 (by decide))).1.trans ((fr_12_1 _ (dz_n rfl) (dz_n2 (by decide))).1.trans h34)))) (vp_in_nI (by omega) (by decide)) dX9_book_137 (fun H locs hG hS => ?_)
      rw [nI_clamp (show k < 2 ^ 31 by omega)] at hG
      obtain ⟨G_8, hG, w_8, o_8⟩ := dz_nm hG
      refine lv_aload_n hx hb dX9_book_138 rfl (lv_at hl 3 rfl) ?_
      refine lv_dup hx hb dX9_book_139 rfl ?_
      refine dz_get hx hb hts (fun _ h => List.mem_cons_of_mem _ (List.mem_append_right _ h)) hown hE hG ((o_8 _ (dz_n rfl)).2.trans ((o_7 _ (dz_n rfl)).2.trans ha)) ((o_8 _ (dz_n rfl)).1.trans ((o_7 _ (dz_n rfl)).1.trans g_56_3)) rfl 32 (by decide) (hts _ (List.mem_of_getElem? (i := 6) rfl)) (fun _ h9 => h9) rfl dX9_book_140 ?_
      refine lv_iconst (v := 1) hx hb dX9_book_143 (by decide) ?_
      refine lv_iadd hx hb dX9_book_144 ?_
      refine lv_topi (fun v_13 ev_13 => ?_)
      obtain rfl : v_13 = bkk + 1 := ev_13
      refine dz_put hx hb hts (fun _ h => List.mem_cons_of_mem _ (List.mem_append_right _ h)) tyX9 tyX9_ok nmX9 hown hE hG ((o_8 _ (dz_n rfl)).2.trans ((o_7 _ (dz_n rfl)).2.trans ha)) hS ((o_8 _ (dz_n rfl)).1.trans ((o_7 _ (dz_n rfl)).1.trans g_56_3)) rfl 32 (by decide) (hts _ (List.mem_of_getElem? (i := 6) rfl)) (fun _ h9 => h9) rfl (ty := .int) (by decide +kernel) rfl rfl (fs' := [.int 0, .int dy, .int (nI nm), .ref (ad (40, 3)), .ref (ad (40, 4)), .ref (ad (40, 5)), .ref (ad (40, 6)), .int td, .ref (ad (40, 8)), .ref (ad (40, 9)), .ref (ad (40, 10)), .int (nI ns), .ref (ad (40, 12)), .ref (ad (40, 13)), .ref (ad (40, 14)), .int (nI nl), .ref (ad (40, 16)), .ref (ad (40, 17)), .ref (ad (40, 18)), .int (nI nx), .ref (ad (40, 20)), .ref (ad (40, 21)), .ref (ad (40, 22)), .ref (ad (40, 23)), .ref (ad (40, 24)), .int ssf, .int sst, .int cfr, .int grw, .int (nI nf), .ref (ad (40, 30)), .ref (ad (40, 31)), .int (bkk + 1), .ref (ad (40, 33)), .ref (ad (40, 34)), .ref (ad (40, 35)), .int iop, .ref (ad (40, 37)), .int (nI (m_im f8 f9 f10 f12 f13 sc).1)]) rfl (Nat.le_of_ble_eq_true rfl) dX9_book_145 (fun H locs hG hS => ?_)
      obtain ⟨G_9, hG, w_9, o_9⟩ := dz_nm hG
      refine lv_aload_n hx hb dX9_book_148 rfl (lv_at hl 3 rfl) ?_
      refine dz_get hx hb hts (fun _ h => List.mem_cons_of_mem _ (List.mem_append_right _ h)) hown hE hG ((o_8 _ (dz_n rfl)).2.trans ((o_7 _ (dz_n rfl)).2.trans ha)) w_9 rfl 32 (by decide) (hts _ (List.mem_of_getElem? (i := 6) rfl)) (fun _ h9 => h9) rfl dX9_book_149 ?_
      refine W.widen (k := 0) (n := 0) (by first | omega | decide) (by first | omega | decide) ?_
      refine W.iret hx hb hrt (fun t ht hW => dz_endM (f := rv_i) _ hE hS hG ?_ ht hW) (fun q h => hS.2.2 q h) dX9_book_152
      refine ⟨fun r9 n_0 n_1 n_2 n_3 => (dz_tr (o_9 r9 n_0) (dz_tr (o_8 r9 n_3) (dz_tr (o_7 r9 n_2) (dz_tr (fr_56_3 r9 n_0) (dz_tr (fr_22_2 r9 n_0 n_1) (fr_12_1 r9 n_0 n_1)))))), rfl, ?_⟩
      exact ⟨rfl, ((o_9 _ (dz_n rfl)).1.trans ((o_8 _ (dz_n2 (by decide))).1.trans w_7)), ((o_9 _ (dz_n rfl)).1.trans w_8), w_9, _, ((o_9 _ (dz_n rfl)).1.trans ((o_8 _ (dz_n2 (by decide))).1.trans ((o_7 _ (dz_n2 (by decide))).1.trans ((fr_56_3 _ (dz_n rfl)).1.trans gh_22_2)))), hgk⟩

set_option maxHeartbeats 4000000 in
set_option maxRecDepth 100000 in
theorem c_M_book_outm (l : Launch) (Z : dzG) (G : dzW) (ad : dzA) (aM nm ns nl nx nf my : Nat) (th dy td ssf sst cfr grw bkk iop : Int32) (f8 f9 f10 f12 f13 f30 f31 f33 f34 f37 : Nat → Int32) (k sc rk ot j jo : Nat) (ha : ad (39, 0) = aM) (ho : G (39, 0) = some (eO 10 [.int th, .int dy, .int (nI nm), .ref (ad (40, 3)), .ref (ad (40, 4)), .ref (ad (40, 5)), .ref (ad (40, 6)), .int td, .ref (ad (40, 8)), .ref (ad (40, 9)), .ref (ad (40, 10)), .int (nI ns), .ref (ad (40, 12)), .ref (ad (40, 13)), .ref (ad (40, 14)), .int (nI nl), .ref (ad (40, 16)), .ref (ad (40, 17)), .ref (ad (40, 18)), .int (nI nx), .ref (ad (40, 20)), .ref (ad (40, 21)), .ref (ad (40, 22)), .ref (ad (40, 23)), .ref (ad (40, 24)), .int ssf, .int sst, .int cfr, .int grw, .int (nI nf), .ref (ad (40, 30)), .ref (ad (40, 31)), .int bkk, .ref (ad (40, 33)), .ref (ad (40, 34)), .ref (ad (40, 35)), .int iop, .ref (ad (40, 37)), .int (nI my)])) (h8 : G (40, 8) = some (eI Z 484 f8)) (h9 : G (40, 9) = some (eI Z 484 f9)) (h10 : G (40, 10) = some (eI Z 484 f10)) (h12 : G (40, 12) = some (eI Z 5 f12)) (h13 : G (40, 13) = some (eI Z 5 f13)) (h30 : G (40, 30) = some (eI Z 60 f30)) (h31 : G (40, 31) = some (eI Z 1800 f31)) (h33 : G (40, 33) = some (eI Z 2 f33)) (h34 : G (40, 34) = some (eI Z 2 f34)) (h37 : G (40, 37) = some (eI Z 441 f37)) (hk : k < 2) (hsc : sc < ns) (hns : ns ≤ 5) (hnf : nf ≤ 60) (hrk : rk < (m_im f8 f9 f10 f12 f13 sc).1) (hij : (m_im f8 f9 f10 f12 f13 sc).2 rk = nI j) (hjj : j + 22 < 484) (hot : ot < (m_im f8 f9 f10 f12 f13 sc).1) (hijo : (m_im f8 f9 f10 f12 f13 sc).2 ot = nI jo) (hjjo : jo + 22 < 484) (hne : ¬ rk = ot) (h66 : 6 ≤ rk ∨ 6 ≤ ot) : dzWr l yX9_book wsX9_book 3 69 0 0 Z G ad [.ref aM, .int (nI k), .int (nI sc), .int (nI rk), .int (nI ot)] rv_i (fun (x : Int32) G1 ad1 => (∀ r9 : dzR, r9 ≠ (39, 0) → r9 ≠ (40, 37) → r9 ≠ (40, 33) → r9 ≠ (40, 34) → G1 r9 = G r9 ∧ ad1 r9 = ad r9) ∧ ad = ad1 ∧ x = bkk + 1 ∧ G1 (40, 33) = some (eI Z 2 (upd f33 k (if (-1) ≤ 0 ∨ (f10 jo - f10 j) ≤ 0 then -1 else (f10 jo - f10 j) * 20 / (-1)))) ∧ G1 (40, 34) = some (eI Z 2 (upd f34 k td)) ∧ G1 (39, 0) = some (eO 10 [.int 0, .int dy, .int (nI nm), .ref (ad (40, 3)), .ref (ad (40, 4)), .ref (ad (40, 5)), .ref (ad (40, 6)), .int td, .ref (ad (40, 8)), .ref (ad (40, 9)), .ref (ad (40, 10)), .int (nI ns), .ref (ad (40, 12)), .ref (ad (40, 13)), .ref (ad (40, 14)), .int (nI nl), .ref (ad (40, 16)), .ref (ad (40, 17)), .ref (ad (40, 18)), .int (nI nx), .ref (ad (40, 20)), .ref (ad (40, 21)), .ref (ad (40, 22)), .ref (ad (40, 23)), .ref (ad (40, 24)), .int ssf, .int sst, .int cfr, .int grw, .int (nI nf), .ref (ad (40, 30)), .ref (ad (40, 31)), .int (bkk + 1), .ref (ad (40, 33)), .ref (ad (40, 34)), .ref (ad (40, 35)), .int iop, .ref (ad (40, 37)), .int (nI (m_im f8 f9 f10 f12 f13 sc).1)]) ∧ ∃ g, G1 (40, 37) = some (eI Z 441 g) ∧ ∀ k, k < (m_im f8 f9 f10 f12 f13 sc).1 → g k = (m_im f8 f9 f10 f12 f13 sc).2 k) := by
  refine Met.ofW (cc := cX9_book) (maxL := 8) (ret := (some .int)) (by decide) rfl ?_
  intro p e s m args below meth c s₁ B hml hv
  obtain ⟨rfl, hG, hE⟩ := hv
  have hx := B.exec
  have hb := B.bytes
  have hrt := B.returns
  have hts := atoms_spec (ws := wsX9_book) B.pre
  have hown : s.vm.findClass RX9 = some m.cls := findClass_of_methodNamed B.named
  have hlocks := B.notSynchronized
  have hS : va_S (dz_A Z) s.heap s.heap [] := va_S.rf
  have hl := lv_entry ([.ref aM, .int (nI k), .int (nI sc), .int (nI rk), .int (nI ot)]) (n := 8) (Nat.le_of_ble_eq_true rfl)
  rw [lg_entry_eq]
  generalize (lg_sl ([.ref aM, .int (nI k), .int (nI sc), .int (nI rk), .int (nI ot)]) ++ List.replicate (8 - (lg_sl ([.ref aM, .int (nI k), .int (nI sc), .int (nI rk), .int (nI ot)])).length) Slot.unset).toArray = ls at hl ⊢
  have hl : lv_has ls 8 [(0, .ref aM), (1, .int (nI k)), (2, .int (nI sc)), (3, .int (nI rk)), (4, .int (nI ot))] := hl
  have hcn := @m_im_c f8 f9 f10 f12 f13 sc
  refine lv_iload_n hx hb dX9_book_0 rfl (lv_at hl 1 rfl) ?_
  refine lv_iconst (v := 0) hx hb dX9_book_1 (by decide) ?_
  refine lv_iconst (v := 1) hx hb dX9_book_2 (by decide) ?_
  refine dz_kRi (va_runS (As := [_, _, _]) ⟨hx, hb, hml, hown, hts⟩ (c_X9_in l Z _ _ _ _ _ ) (va_cwS 3 hts gX9_book_X9_in rfl rfl rfl (by decide +kernel) ⟨Nat.le_of_ble_eq_true rfl, Nat.le_of_ble_eq_true rfl⟩) (dz_P.pre hE hS hG) rfl rfl hl.1 rfl (lv_room (Nat.le_of_ble_eq_true rfl)) dX9_book_3 ⟨Nat.le_of_ble_eq_true rfl, Nat.le_of_ble_eq_true rfl⟩) ?_
  refine lv_topi (fun v_1 ev_1 => ?_)
  obtain rfl : v_1 = 1 := ev_1.trans (dz_b1 (m_ix1 (n := 2) (by omega) hk))
  refine lv_if_eq (tgt := 32) hx hb dX9_book_6 (by decide) (fun c_6 => absurd c_6 (by decide)) (fun c_6 => ?_)
  refine lv_aload_n hx hb dX9_book_9 rfl (lv_at hl 0 rfl) ?_
  refine lv_iload_n hx hb dX9_book_10 rfl (lv_at hl 2 rfl) ?_
  refine lv_iload_n hx hb dX9_book_11 rfl (lv_at hl 3 rfl) ?_
  refine dz_kMi (va_runV (As := [_, _]) ⟨hx, hb, hml, hown, hts⟩ (c_isImageY l Z _ _ _ _ _ _ _ _ _ _ _ _ _ _ _ _ _ _ _ _ _ _ _ _ sc _ ha ho h8 h9 h10 h12 h13 h37 hsc hns) (cwV 2 hts gX9_book_X9_isImage rfl rfl rfl (by decide +kernel) ⟨Nat.le_of_ble_eq_true rfl, Nat.le_of_ble_eq_true rfl⟩) (dz_P.preV hE hS hG ho rfl ha) rfl rfl hl.1 rfl (lv_room (Nat.le_of_ble_eq_true rfl)) dX9_book_12 ⟨Nat.le_of_ble_eq_true rfl, Nat.le_of_ble_eq_true rfl⟩) hS (fun x_12_1 G_12_1 ad_12_1 H locs hp_12_1 hG hS => ?_)
  obtain ⟨fr_12_1, rfl, x9_12_1, o_12_1, g_12_1⟩ := hp_12_1
  obtain rfl : x_12_1 = 1 := x9_12_1.trans (dz_b1 (m_ix1 (by omega) hrk))
  obtain ⟨gf_12_1, gh_12_1, hgk⟩ := g_12_1
  refine lv_if_eq (tgt := 32) hx hb dX9_book_15 (by decide) (fun c_15 => absurd c_15 (by decide)) (fun c_15 => ?_)
  refine lv_aload_n hx hb dX9_book_18 rfl (lv_at hl 0 rfl) ?_
  refine lv_iload_n hx hb dX9_book_19 rfl (lv_at hl 2 rfl) ?_
  refine lv_iload hx hb dX9_book_20 (lv_at hl 4 rfl) ?_
  refine dz_kMi (va_runV (As := [_, _]) ⟨hx, hb, hml, hown, hts⟩ (c_isImageY l Z _ _ _ _ _ _ _ _ _ _ _ _ _ _ _ _ _ _ _ _ _ _ _ _ sc _ ha o_12_1 ((fr_12_1 _ (dz_n rfl) (dz_n2 (by decide))).1.trans h8) ((fr_12_1 _ (dz_n rfl) (dz_n2 (by decide))).1.trans h9) ((fr_12_1 _ (dz_n rfl) (dz_n2 (by decide))).1.trans h10) ((fr_12_1 _ (dz_n rfl) (dz_n2 (by decide))).1.trans h12) ((fr_12_1 _ (dz_n rfl) (dz_n2 (by decide))).1.trans h13) gh_12_1 hsc hns) (cwV 2 hts gX9_book_X9_isImage rfl rfl rfl (by decide +kernel) ⟨Nat.le_of_ble_eq_true rfl, Nat.le_of_ble_eq_true rfl⟩) (dz_P.preV hE hS hG o_12_1 rfl ha) rfl rfl hl.1 rfl (lv_room (Nat.le_of_ble_eq_true rfl)) dX9_book_22 ⟨Nat.le_of_ble_eq_true rfl, Nat.le_of_ble_eq_true rfl⟩) hS (fun x_22_2 G_22_2 ad_22_2 H locs hp_22_2 hG hS => ?_)
  obtain ⟨fr_22_2, rfl, x9_22_2, o_22_2, g_22_2⟩ := hp_22_2
  obtain rfl : x_22_2 = 1 := x9_22_2.trans (dz_b1 (m_ix1 (by omega) hot))
  obtain ⟨gf_22_2, gh_22_2, hgk⟩ := g_22_2
  refine lv_if_eq (tgt := 32) hx hb dX9_book_25 (by decide) (fun c_25 => absurd c_25 (by decide)) (fun c_25 => ?_)
  refine lv_iconst (v := 1) hx hb dX9_book_28 (by decide) ?_
  refine lv_goto (tgt := 33) hx hb dX9_book_29 (by decide) ?_
  refine lv_istore (lv' := [(5, .int 1), (0, .ref aM), (1, .int (nI k)), (2, .int (nI sc)), (3, .int (nI rk)), (4, .int (nI ot))]) hx hb dX9_book_33 hl (by decide) rfl (fun ls hl => ?_)
  refine lv_aload_n hx hb dX9_book_35 rfl (lv_at hl 1 rfl) ?_
  refine lv_iload hx hb dX9_book_36 (lv_at hl 0 rfl) ?_
  refine lv_if_ne (tgt := 45) hx hb dX9_book_38 (by decide) (fun c_38 => ?_) (fun c_38 => absurd c_38 (by decide))
  refine lv_iload_n hx hb dX9_book_45 rfl (lv_at hl 4 rfl) ?_
  refine lv_iload hx hb dX9_book_46 (lv_at hl 5 rfl) ?_
  refine lv_icmp_ne (tgt := 55) hx hb dX9_book_48 (by decide) (fun c_48 => ?_) (fun c_48 => absurd c_48 (fun z => hne ((nI_e (by omega) (by omega)).mp z)))
  refine lv_iconst (v := 0) hx hb dX9_book_55 (by decide) ?_
  refine dz_kMi (va_runV (As := [_]) ⟨hx, hb, hml, hown, hts⟩ (c_X9_refused l Z _ _ _ _ _ _ _ _ _ _ _ _ _ _ _ _ _ _ _ ha o_22_2) (cwV 1 hts gX9_book_X9_refused rfl rfl rfl (by decide +kernel) ⟨Nat.le_of_ble_eq_true rfl, Nat.le_of_ble_eq_true rfl⟩) (dz_P.preV hE hS hG o_22_2 rfl ha) rfl rfl hl.1 rfl (lv_room (Nat.le_of_ble_eq_true rfl)) dX9_book_56 ⟨Nat.le_of_ble_eq_true rfl, Nat.le_of_ble_eq_true rfl⟩) hS (fun x_56_3 G_56_3 ad_56_3 H locs hp_56_3 hG hS => ?_)
  obtain ⟨fr_56_3, rfl, x9_56_3, g_56_3⟩ := hp_56_3
  obtain rfl : x_56_3 = 0 := x9_56_3.trans (by decide)
  refine lv_if_eq (tgt := 64) hx hb dX9_book_59 (by decide) (fun c_59 => ?_) (fun c_59 => absurd (by decide) c_59)
  refine lv_aload_n hx hb dX9_book_64 rfl (lv_at hl 1 rfl) ?_
  refine lv_iload_n hx hb dX9_book_65 rfl (lv_at hl 3 rfl) ?_
  refine lv_iload_n hx hb dX9_book_66 rfl (lv_at hl 4 rfl) ?_
  refine lv_iload hx hb dX9_book_67 (lv_at hl 5 rfl) ?_
  refine dz_kRi (va_runV (As := [_, _, _]) ⟨hx, hb, hml, hown, hts⟩ (c_measureOut l Z _ _ _ _ _ _ _ _ _ _ _ _ _ _ _ _ _ _ _ _ _ ha g_56_3 h66 (by omega) (by omega)) (cwV 3 hts gX9_book_X9_measure rfl rfl rfl (by decide +kernel) ⟨Nat.le_of_ble_eq_true rfl, Nat.le_of_ble_eq_true rfl⟩) (dz_P.preV hE hS hG g_56_3 rfl ha) rfl rfl hl.1 rfl (lv_room (Nat.le_of_ble_eq_true rfl)) dX9_book_69 ⟨Nat.le_of_ble_eq_true rfl, Nat.le_of_ble_eq_true rfl⟩) ?_
  refine lv_topi (fun v_2 ev_2 => ?_)
  obtain rfl : v_2 = (-1) := ev_2
  refine lv_istore (lv' := [(6, .int (-1)), (5, .int 1), (0, .ref aM), (1, .int (nI k)), (2, .int (nI sc)), (3, .int (nI rk)), (4, .int (nI ot))]) hx hb dX9_book_72 hl (by decide) rfl (fun ls hl => ?_)
  refine lv_aload_n hx hb dX9_book_74 rfl (lv_at hl 2 rfl) ?_
  refine dz_get hx hb hts (fun _ h => List.mem_cons_of_mem _ (List.mem_append_right _ h)) hown hE hG ha g_56_3 rfl 10 (by decide) (hts _ (List.mem_of_getElem? (i := 1) rfl)) (fun _ h9 => h9) rfl dX9_book_75 ?_
  refine lv_aload_n hx hb dX9_book_78 rfl (lv_at hl 2 rfl) ?_
  refine dz_get hx hb hts (fun _ h => List.mem_cons_of_mem _ (List.mem_append_right _ h)) hown hE hG ha g_56_3 rfl 37 (by decide) (hts _ (List.mem_of_getElem? (i := 2) rfl)) (fun _ h9 => h9) rfl dX9_book_79 ?_
  refine lv_iload hx hb dX9_book_82 (lv_at hl 6 rfl) ?_
  refine dz_iald hx hb hE hG ((fr_56_3 _ (dz_n rfl)).2.trans rfl) ((fr_56_3 _ (dz_n rfl)).1.trans gh_22_2) (vp_in_nI (by omega) (by decide)) dX9_book_84 ?_
  refine lv_topi (fun v_3 ev_3 => ?_)
  obtain rfl : v_3 = nI jo := ev_3.trans (by rw [nI_clamp (by omega)]; exact (hgk ot hot).trans hijo)
  refine dz_iald hx hb hE hG ((fr_56_3 _ (dz_n rfl)).2.trans ((fr_22_2 _ (dz_n rfl) (dz_n2 (by decide))).2.trans ((fr_12_1 _ (dz_n rfl) (dz_n2 (by decide))).2.trans rfl))) ((fr_56_3 _ (dz_n rfl)).1.trans ((fr_22_2 _ (dz_n rfl) (dz_n2 (by decide))).1.trans ((fr_12_1 _ (dz_n rfl) (dz_n2 (by decide))).1.trans h10))) (vp_in_nI (by omega) (by decide)) dX9_book_85 ?_
  refine lv_topi (fun v_4 ev_4 => ?_)
  obtain rfl : v_4 = f10 jo := ev_4.trans (by rw [nI_clamp (by omega)])
  refine lv_aload_n hx hb dX9_book_86 rfl (lv_at hl 2 rfl) ?_
  refine dz_get hx hb hts (fun _ h => List.mem_cons_of_mem _ (List.mem_append_right _ h)) hown hE hG ha g_56_3 rfl 10 (by decide) (hts _ (List.mem_of_getElem? (i := 1) rfl)) (fun _ h9 => h9) rfl dX9_book_87 ?_
  refine lv_aload_n hx hb dX9_book_90 rfl (lv_at hl 2 rfl) ?_
  refine dz_get hx hb hts (fun _ h => List.mem_cons_of_mem _ (List.mem_append_right _ h)) hown hE hG ha g_56_3 rfl 37 (by decide) (hts _ (List.mem_of_getElem? (i := 2) rfl)) (fun _ h9 => h9) rfl dX9_book_91 ?_
  refine lv_iload_n hx hb dX9_book_94 rfl (lv_at hl 5 rfl) ?_
  refine dz_iald hx hb hE hG ((fr_56_3 _ (dz_n rfl)).2.trans rfl) ((fr_56_3 _ (dz_n rfl)).1.trans gh_22_2) (vp_in_nI (by omega) (by decide)) dX9_book_95 ?_
  refine lv_topi (fun v_5 ev_5 => ?_)
  obtain rfl : v_5 = nI j := ev_5.trans (by rw [nI_clamp (by omega)]; exact (hgk rk hrk).trans hij)
  refine dz_iald hx hb hE hG ((fr_56_3 _ (dz_n rfl)).2.trans ((fr_22_2 _ (dz_n rfl) (dz_n2 (by decide))).2.trans ((fr_12_1 _ (dz_n rfl) (dz_n2 (by decide))).2.trans rfl))) ((fr_56_3 _ (dz_n rfl)).1.trans ((fr_22_2 _ (dz_n rfl) (dz_n2 (by decide))).1.trans ((fr_12_1 _ (dz_n rfl) (dz_n2 (by decide))).1.trans h10))) (vp_in_nI (by omega) (by decide)) dX9_book_96 ?_
  refine lv_topi (fun v_6 ev_6 => ?_)
  obtain rfl : v_6 = f10 j := ev_6.trans (by rw [nI_clamp (by omega)])
  refine lv_isub hx hb dX9_book_97 ?_
  refine lv_topi (fun v_7 ev_7 => ?_)
  obtain rfl : v_7 = (f10 jo - f10 j) := ev_7
  refine lv_istore (lv' := [(7, .int (f10 jo - f10 j)), (6, .int (-1)), (5, .int 1), (0, .ref aM), (1, .int (nI k)), (2, .int (nI sc)), (3, .int (nI rk)), (4, .int (nI ot))]) hx hb dX9_book_98 hl (by decide) rfl (fun ls hl => ?_)
  refine lv_aload_n hx hb dX9_book_100 rfl (lv_at hl 3 rfl) ?_
  refine dz_get hx hb hts (fun _ h => List.mem_cons_of_mem _ (List.mem_append_right _ h)) hown hE hG ha g_56_3 rfl 33 (by decide) (hts _ (List.mem_of_getElem? (i := 3) rfl)) (fun _ h9 => h9) rfl dX9_book_101 ?_
  refine lv_iload_n hx hb dX9_book_104 rfl (lv_at hl 4 rfl) ?_
  refine lv_iload hx hb dX9_book_105 (lv_at hl 1 rfl) ?_
  refine lv_if_le (tgt := 115) hx hb dX9_book_107 (by decide) (fun c_107 => ?_) (fun c_107 => absurd (by decide) c_107)
  refine lv_iconst (v := (-1)) hx hb dX9_book_115 (by decide) ?_
  refine lv_goto (tgt := 127) hx hb dX9_book_116 (by decide) ?_
  refine lv_topi (fun v_8 ev_8 => ?_)
  obtain rfl : v_8 = (if (-1) ≤ 0 ∨ (f10 jo - f10 j) ≤ 0 then -1 else (f10 jo - f10 j) * 20 / (-1)) := ev_8.trans (if_pos (Or.inl (by decide))).symm
  refine dz_iast hx hb hE hG ((fr_56_3 _ (dz_n rfl)).2.trans ((fr_22_2 _ (dz_n rfl) (dz_n2 (by decide))).2.trans ((fr_12_1 _ (dz_n rfl) (dz_n2 (by decide))).2.trans rfl))) hS ((fr_56_3 _ (dz_n rfl)).1.trans ((fr_22_2 _ (dz_n rfl) (dz_n2 (by decide))).1.trans ((fr_12_1 _ (dz_n rfl) (dz_n2 (by decide))).1.trans h33))) (vp_in_nI (by omega) (by decide)) dX9_book_127 (fun H locs hG hS => ?_)
  rw [nI_clamp (show k < 2 ^ 31 by omega)] at hG
  obtain ⟨G_1, hG, w_1, o_1⟩ := dz_nm hG
  refine lv_aload_n hx hb dX9_book_128 rfl (lv_at hl 3 rfl) ?_
  refine dz_get hx hb hts (fun _ h => List.mem_cons_of_mem _ (List.mem_append_right _ h)) hown hE hG ((o_1 _ (dz_n rfl)).2.trans ha) ((o_1 _ (dz_n rfl)).1.trans g_56_3) rfl 34 (by decide) (hts _ (List.mem_of_getElem? (i := 4) rfl)) (fun _ h9 => h9) rfl dX9_book_129 ?_
  refine lv_iload_n hx hb dX9_book_132 rfl (lv_at hl 4 rfl) ?_
  refine lv_aload_n hx hb dX9_book_133 rfl (lv_at hl 3 rfl) ?_
  refine dz_get hx hb hts (fun _ h => List.mem_cons_of_mem _ (List.mem_append_right _ h)) hown hE hG ((o_1 _ (dz_n rfl)).2.trans ha) ((o_1 _ (dz_n rfl)).1.trans g_56_3) rfl 7 (by decide) (hts _ (List.mem_of_getElem? (i := 5) rfl)) (fun _ h9 => h9) rfl dX9_book_134 ?_
  refine dz_iast hx hb hE hG ((o_1 _ (dz_n2 (by decide))).2.trans ((fr_56_3 _ (dz_n rfl)).2.trans ((fr_22_2 _ (dz_n rfl) (dz_n2 (by decide))).2.trans ((fr_12_1 _ (dz_n rfl) (dz_n2 (by decide))).2.trans rfl)))) hS ((o_1 _ (dz_n2 (by decide))).1.trans ((fr_56_3 _ (dz_n rfl)).1.trans ((fr_22_2 _ (dz_n rfl) (dz_n2 (by decide))).1.trans ((fr_12_1 _ (dz_n rfl) (dz_n2 (by decide))).1.trans h34)))) (vp_in_nI (by omega) (by decide)) dX9_book_137 (fun H locs hG hS => ?_)
  rw [nI_clamp (show k < 2 ^ 31 by omega)] at hG
  obtain ⟨G_2, hG, w_2, o_2⟩ := dz_nm hG
  refine lv_aload_n hx hb dX9_book_138 rfl (lv_at hl 3 rfl) ?_
  refine lv_dup hx hb dX9_book_139 rfl ?_
  refine dz_get hx hb hts (fun _ h => List.mem_cons_of_mem _ (List.mem_append_right _ h)) hown hE hG ((o_2 _ (dz_n rfl)).2.trans ((o_1 _ (dz_n rfl)).2.trans ha)) ((o_2 _ (dz_n rfl)).1.trans ((o_1 _ (dz_n rfl)).1.trans g_56_3)) rfl 32 (by decide) (hts _ (List.mem_of_getElem? (i := 6) rfl)) (fun _ h9 => h9) rfl dX9_book_140 ?_
  refine lv_iconst (v := 1) hx hb dX9_book_143 (by decide) ?_
  refine lv_iadd hx hb dX9_book_144 ?_
  refine lv_topi (fun v_9 ev_9 => ?_)
  obtain rfl : v_9 = bkk + 1 := ev_9
  refine dz_put hx hb hts (fun _ h => List.mem_cons_of_mem _ (List.mem_append_right _ h)) tyX9 tyX9_ok nmX9 hown hE hG ((o_2 _ (dz_n rfl)).2.trans ((o_1 _ (dz_n rfl)).2.trans ha)) hS ((o_2 _ (dz_n rfl)).1.trans ((o_1 _ (dz_n rfl)).1.trans g_56_3)) rfl 32 (by decide) (hts _ (List.mem_of_getElem? (i := 6) rfl)) (fun _ h9 => h9) rfl (ty := .int) (by decide +kernel) rfl rfl (fs' := [.int 0, .int dy, .int (nI nm), .ref (ad (40, 3)), .ref (ad (40, 4)), .ref (ad (40, 5)), .ref (ad (40, 6)), .int td, .ref (ad (40, 8)), .ref (ad (40, 9)), .ref (ad (40, 10)), .int (nI ns), .ref (ad (40, 12)), .ref (ad (40, 13)), .ref (ad (40, 14)), .int (nI nl), .ref (ad (40, 16)), .ref (ad (40, 17)), .ref (ad (40, 18)), .int (nI nx), .ref (ad (40, 20)), .ref (ad (40, 21)), .ref (ad (40, 22)), .ref (ad (40, 23)), .ref (ad (40, 24)), .int ssf, .int sst, .int cfr, .int grw, .int (nI nf), .ref (ad (40, 30)), .ref (ad (40, 31)), .int (bkk + 1), .ref (ad (40, 33)), .ref (ad (40, 34)), .ref (ad (40, 35)), .int iop, .ref (ad (40, 37)), .int (nI (m_im f8 f9 f10 f12 f13 sc).1)]) rfl (Nat.le_of_ble_eq_true rfl) dX9_book_145 (fun H locs hG hS => ?_)
  obtain ⟨G_3, hG, w_3, o_3⟩ := dz_nm hG
  refine lv_aload_n hx hb dX9_book_148 rfl (lv_at hl 3 rfl) ?_
  refine dz_get hx hb hts (fun _ h => List.mem_cons_of_mem _ (List.mem_append_right _ h)) hown hE hG ((o_2 _ (dz_n rfl)).2.trans ((o_1 _ (dz_n rfl)).2.trans ha)) w_3 rfl 32 (by decide) (hts _ (List.mem_of_getElem? (i := 6) rfl)) (fun _ h9 => h9) rfl dX9_book_149 ?_
  refine W.widen (k := 0) (n := 0) (by first | omega | decide) (by first | omega | decide) ?_
  refine W.iret hx hb hrt (fun t ht hW => dz_endM (f := rv_i) _ hE hS hG ?_ ht hW) (fun q h => hS.2.2 q h) dX9_book_152
  refine ⟨fun r9 n_0 n_1 n_2 n_3 => (dz_tr (o_3 r9 n_0) (dz_tr (o_2 r9 n_3) (dz_tr (o_1 r9 n_2) (dz_tr (fr_56_3 r9 n_0) (dz_tr (fr_22_2 r9 n_0 n_1) (fr_12_1 r9 n_0 n_1)))))), rfl, ?_⟩
  exact ⟨rfl, ((o_3 _ (dz_n rfl)).1.trans ((o_2 _ (dz_n2 (by decide))).1.trans w_1)), ((o_3 _ (dz_n rfl)).1.trans w_2), w_3, _, ((o_3 _ (dz_n rfl)).1.trans ((o_2 _ (dz_n2 (by decide))).1.trans ((o_1 _ (dz_n2 (by decide))).1.trans ((fr_56_3 _ (dz_n rfl)).1.trans gh_22_2)))), hgk⟩
