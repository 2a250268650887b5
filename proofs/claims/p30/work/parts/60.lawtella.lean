theorem nI_mul2 (n : Nat) (h : n < 3) : 2 * nI n = nI (2 * n) := (show ∀ n, n < 3 → 2 * nI n = nI (2 * n) by decide +kernel) n h
set_option maxHeartbeats 4000000 in
set_option maxRecDepth 100000 in
theorem c_L_books (l : Launch) (Z : dzG) (G : dzW) (ad : dzA) (hst : l.stackTraces = false) (aX : Nat) (S : lwS) (y : Int32) (hC : lwC Z G ad aX S) (hB : lwB S) (hb0 : 0 ≤ S.2.1 5 + 1) : dzWr l yL_books wsL_books 11 325 5 600 Z G ad [.ref aX, .int y] rv_i (fun (x : Int32) G1 ad1 => (∀ r : dzR, r.1 = 60 → G1 r = G r ∧ ad1 r = ad r) ∧ ∃ S' : lwS, lwC Z G1 ad1 aX S' ∧ lwB S' ∧ ((lw_ref x ∧ S' = S) ∨ (x = S.2.1 5 + 1 ∧ q_1 S S' ∧ q_2 S S' ∧ S'.2.1 0 = S.2.1 0 ∧ S'.2.1 5 = S.2.1 5 + 1 ∧ S'.2.1 6 = S.2.1 6))) := by
  refine Met.ofW (cc := cL_books) (maxL := 4) (ret := (some .int)) (by decide) rfl ?_
  intro p e s m args below meth c s₁ B hml hv
  obtain ⟨rfl, hG, hE⟩ := hv
  have hx := B.exec
  have hb := B.bytes
  have hrt := B.returns
  have hts := atoms_spec (ws := wsL_books) B.pre
  have hown : s.vm.findClass RL = some m.cls := findClass_of_methodNamed B.named
  have hlocks := B.notSynchronized
  have hS : va_S (dz_A Z) s.heap s.heap [] := va_S.rf
  have hl := lv_entry ([.ref aX, .int y]) (n := 4) (Nat.le_of_ble_eq_true rfl)
  rw [lg_entry_eq]
  generalize (lg_sl ([.ref aX, .int y]) ++ List.replicate (4 - (lg_sl ([.ref aX, .int y])).length) Slot.unset).toArray = ls at hl ⊢
  have hl : lv_has ls 4 [(0, .ref aX), (1, .int y)] := hl
  obtain ⟨ha0, fs0, ho0⟩ := lwC.obj hC
  refine lv_iload_n hx hb dL_books_0 rfl (lv_at hl 1 rfl) ?_
  refine lv_iconst (v := 2) hx hb dL_books_1 (by decide) ?_
  refine lv_irem hx hb dL_books_2 (by decide) ?_
  refine lv_topi (fun v_1 ev_1 => ?_)
  obtain rfl : v_1 = (y - y / 2 * 2) := ev_1
  refine lv_istore_n (lv' := [(2, .int (y - y / 2 * 2)), (0, .ref aX), (1, .int y)]) hx hb dL_books_3 rfl hl (by decide) rfl (fun ls hl => ?_)
  refine lv_aload_n hx hb dL_books_4 rfl (lv_at hl 1 rfl) ?_
  refine lv_iload_n hx hb dL_books_5 rfl (lv_at hl 0 rfl) ?_
  refine lv_iload_n hx hb dL_books_6 rfl (lv_at hl 2 rfl) ?_
  refine lv_iconst (v := 2) hx hb dL_books_7 (by decide) ?_
  refine lv_idiv hx hb dL_books_8 (by decide) ?_
  refine lv_iconst (v := 2) hx hb dL_books_9 (by decide) ?_
  refine lv_irem hx hb dL_books_10 (by decide) ?_
  refine lv_iload_n hx hb dL_books_11 rfl (lv_at hl 2 rfl) ?_
  refine lv_iconst (v := 4) hx hb dL_books_12 (by decide) ?_
  refine lv_idiv hx hb dL_books_13 (by decide) ?_
  refine lv_iconst (v := 3) hx hb dL_books_14 (by decide) ?_
  refine lv_irem hx hb dL_books_15 (by decide) ?_
  refine lv_iload_n hx hb dL_books_16 rfl (lv_at hl 2 rfl) ?_
  refine lv_bipush (v := 12) hx hb dL_books_17 (by decide) ?_
  refine lv_idiv hx hb dL_books_19 (by decide) ?_
  refine lv_iconst (v := 3) hx hb dL_books_20 (by decide) ?_
  refine lv_irem hx hb dL_books_21 (by decide) ?_
  refine dz_kMi (vx_runSW (As := [_, _, _, _, _]) ⟨hx, hb, hml, hown, hts⟩ (t_book l hst hC hB _ _ _ _) (vx_cwSW 5 hts gL_books_L_book rfl rfl rfl (by decide +kernel) ⟨Nat.le_of_ble_eq_true rfl, Nat.le_of_ble_eq_true rfl⟩) (dz_P.pre hE hS hG) rfl rfl hl.1 rfl (lv_room (Nat.le_of_ble_eq_true rfl)) dL_books_22 ⟨Nat.le_of_ble_eq_true rfl, Nat.le_of_ble_eq_true rfl⟩) hS (fun x_22_1 G_22_1 ad_22_1 H locs hp_22_1 hG hS => ?_)
  obtain ⟨fr_22_1, S_22_1, hC_22_1, hB_22_1, hR_22_1⟩ := hp_22_1
  refine W.widen (k := 5) (n := 600) (by omega) (by omega) ?_
  obtain ⟨ha_1, fs_1, ho_1⟩ := lwC.obj hC_22_1
  have fr9 := fr_22_1
  refine lv_istore_n (lv' := [(3, .int x_22_1), (2, .int (y - y / 2 * 2)), (0, .ref aX), (1, .int y)]) hx hb dL_books_25 rfl hl (by decide) rfl (fun ls hl => ?_)
  rcases hR_22_1 with ⟨hr9, hS9⟩ | hR9
  · have h59 := q_r5 hr9
    refine lv_iload_n hx hb dL_books_26 rfl (lv_at hl 0 rfl) ?_
    refine dz_kRi (va_runS (As := [_]) ⟨hx, hb, hml, hown, hts⟩ (c_L_isRefused l Z _ _ x_22_1) (va_cwS 1 hts gL_books_L_isRefused rfl rfl rfl (by decide +kernel) ⟨Nat.le_of_ble_eq_true rfl, Nat.le_of_ble_eq_true rfl⟩) (dz_P.pre hE hS hG) rfl rfl hl.1 rfl (lv_room (Nat.le_of_ble_eq_true rfl)) dL_books_27 ⟨Nat.le_of_ble_eq_true rfl, Nat.le_of_ble_eq_true rfl⟩) ?_
    refine lv_topi (fun v_2 ev_2 => ?_)
    obtain rfl : v_2 = 1 := ev_2.trans (dz_b1 hr9)
    refine lv_if_ne (tgt := 47) hx hb dL_books_30 (by decide) (fun c_30 => ?_) (fun c_30 => absurd c_30 (by decide))
    refine lv_iload_n hx hb dL_books_47 rfl (lv_at hl 0 rfl) ?_
    refine W.widen (k := 5) (n := 600) (by first | omega | decide) (by first | omega | decide) ?_
    refine W.iret hx hb hrt (fun t ht hW => dz_endM (f := rv_i) _ hE hS hG ?_ ht hW) (fun q h => hS.2.2 q h) dL_books_48
    exact ⟨fr9, S_22_1, hC_22_1, hB_22_1, Or.inl ⟨hr9, hS9⟩⟩
  · obtain ⟨hnr9, h59⟩ := q_nn (show 0 ≤ x_22_1 by rw [hR9.1]; exact hb0)
    obtain ⟨hx9, hq1, hq2, hq3, hq4, hq5, kh, hkh, ekh, hfr, hm6⟩ := hR9
    refine lv_iload_n hx hb dL_books_26 rfl (lv_at hl 0 rfl) ?_
    refine dz_kRi (va_runS (As := [_]) ⟨hx, hb, hml, hown, hts⟩ (c_L_isRefused l Z _ _ x_22_1) (va_cwS 1 hts gL_books_L_isRefused rfl rfl rfl (by decide +kernel) ⟨Nat.le_of_ble_eq_true rfl, Nat.le_of_ble_eq_true rfl⟩) (dz_P.pre hE hS hG) rfl rfl hl.1 rfl (lv_room (Nat.le_of_ble_eq_true rfl)) dL_books_27 ⟨Nat.le_of_ble_eq_true rfl, Nat.le_of_ble_eq_true rfl⟩) ?_
    refine lv_topi (fun v_3 ev_3 => ?_)
    obtain rfl : v_3 = 0 := ev_3.trans (dz_b0 hnr9)
    refine lv_if_ne (tgt := 47) hx hb dL_books_30 (by decide) (fun c_30 => absurd (by decide) c_30) (fun c_30 => ?_)
    refine lv_aload_n hx hb dL_books_33 rfl (lv_at hl 2 rfl) ?_
    refine lv_iload_n hx hb dL_books_34 rfl (lv_at hl 1 rfl) ?_
    refine dz_kRi (vx_runSW (As := [_, _]) ⟨hx, hb, hml, hown, hts⟩ (by rw [ekh]; exact r_fresh l hst hC_22_1 hB_22_1 hkh hfr) (vx_cwSW 2 hts gL_books_L_isFresh rfl rfl rfl (by decide +kernel) ⟨Nat.le_of_ble_eq_true rfl, Nat.le_of_ble_eq_true rfl⟩) (dz_P.pre hE hS hG) rfl rfl hl.1 rfl (lv_room (Nat.le_of_ble_eq_true rfl)) dL_books_35 ⟨Nat.le_of_ble_eq_true rfl, Nat.le_of_ble_eq_true rfl⟩) ?_
    refine lv_iconst (v := 1) hx hb dL_books_38 (by decide) ?_
    refine lv_icmp_eq (tgt := 47) hx hb dL_books_39 (by decide) (fun c_39 => ?_) (fun c_39 => absurd rfl c_39)
    refine lv_iload_n hx hb dL_books_47 rfl (lv_at hl 0 rfl) ?_
    refine W.widen (k := 5) (n := 600) (by first | omega | decide) (by first | omega | decide) ?_
    refine W.iret hx hb hrt (fun t ht hW => dz_endM (f := rv_i) _ hE hS hG ?_ ht hW) (fun q h => hS.2.2 q h) dL_books_48
    exact ⟨fr9, S_22_1, hC_22_1, hB_22_1, Or.inr ⟨hx9, hq1, hq2, hq3, hq4, hq5⟩⟩
