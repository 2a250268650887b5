set_option maxHeartbeats 4000000 in
set_option maxRecDepth 100000 in
theorem c_M_mass_bad (l : Launch) (Z : dzG) (G : dzW) (ad : dzA) (aM nm ns nl nx nf my : Nat) (th dy td ssf sst cfr grw bkk iop : Int32) (v1 v2 v3 v4 : Int32) (ha : ad (39, 0) = aM) (ho : G (39, 0) = some (eO 10 [.int th, .int dy, .int (nI nm), .ref (ad (40, 3)), .ref (ad (40, 4)), .ref (ad (40, 5)), .ref (ad (40, 6)), .int td, .ref (ad (40, 8)), .ref (ad (40, 9)), .ref (ad (40, 10)), .int (nI ns), .ref (ad (40, 12)), .ref (ad (40, 13)), .ref (ad (40, 14)), .int (nI nl), .ref (ad (40, 16)), .ref (ad (40, 17)), .ref (ad (40, 18)), .int (nI nx), .ref (ad (40, 20)), .ref (ad (40, 21)), .ref (ad (40, 22)), .ref (ad (40, 23)), .ref (ad (40, 24)), .int ssf, .int sst, .int cfr, .int grw, .int (nI nf), .ref (ad (40, 30)), .ref (ad (40, 31)), .int bkk, .ref (ad (40, 33)), .ref (ad (40, 34)), .ref (ad (40, 35)), .int iop, .ref (ad (40, 37)), .int (nI my)])) (hbad : ¬ ((((0 : Int32) ≤ v1 ∧ v1 ≤ 2) ∧ ((((-10) : Int32) ≤ v2 ∧ v2 ≤ 10) ∧ ((-10) ≤ v3 ∧ v3 ≤ 10))) ∧ ((1 : Int32) ≤ v4 ∧ v4 ≤ 8))) : dzWr l yX9_mass wsX9_mass 2 42 0 0 Z G ad [.ref aM, .int v1, .int v2, .int v3, .int v4] rv_i (fun (x : Int32) G1 ad1 => (∀ r9 : dzR, r9 ≠ (39, 0) → G1 r9 = G r9 ∧ ad1 r9 = ad r9) ∧ ad = ad1 ∧ x = 0 ∧ G1 (39, 0) = some (eO 10 [.int 1, .int dy, .int (nI nm), .ref (ad (40, 3)), .ref (ad (40, 4)), .ref (ad (40, 5)), .ref (ad (40, 6)), .int td, .ref (ad (40, 8)), .ref (ad (40, 9)), .ref (ad (40, 10)), .int (nI ns), .ref (ad (40, 12)), .ref (ad (40, 13)), .ref (ad (40, 14)), .int (nI nl), .ref (ad (40, 16)), .ref (ad (40, 17)), .ref (ad (40, 18)), .int (nI nx), .ref (ad (40, 20)), .ref (ad (40, 21)), .ref (ad (40, 22)), .ref (ad (40, 23)), .ref (ad (40, 24)), .int ssf, .int sst, .int cfr, .int grw, .int (nI nf), .ref (ad (40, 30)), .ref (ad (40, 31)), .int bkk, .ref (ad (40, 33)), .ref (ad (40, 34)), .ref (ad (40, 35)), .int iop, .ref (ad (40, 37)), .int (nI my)])) := by
  refine Met.ofW (cc := cX9_mass) (maxL := 6) (ret := (some .int)) (by decide) rfl ?_
  intro p e s m args below meth c s₁ B hml hv
  obtain ⟨rfl, hG, hE⟩ := hv
  have hx := B.exec
  have hb := B.bytes
  have hrt := B.returns
  have hts := atoms_spec (ws := wsX9_mass) B.pre
  have hown : s.vm.findClass RX9 = some m.cls := findClass_of_methodNamed B.named
  have hlocks := B.notSynchronized
  have hS : va_S (dz_A Z) s.heap s.heap [] := va_S.rf
  have hl := lv_entry ([.ref aM, .int v1, .int v2, .int v3, .int v4]) (n := 6) (Nat.le_of_ble_eq_true rfl)
  rw [lg_entry_eq]
  generalize (lg_sl ([.ref aM, .int v1, .int v2, .int v3, .int v4]) ++ List.replicate (6 - (lg_sl ([.ref aM, .int v1, .int v2, .int v3, .int v4])).length) Slot.unset).toArray = ls at hl ⊢
  have hl : lv_has ls 6 [(0, .ref aM), (1, .int v1), (2, .int v2), (3, .int v3), (4, .int v4)] := hl
  refine lv_iload_n hx hb dX9_mass_0 rfl (lv_at hl 1 rfl) ?_
  refine lv_iconst (v := 0) hx hb dX9_mass_1 (by decide) ?_
  refine lv_iconst (v := 2) hx hb dX9_mass_2 (by decide) ?_
  refine dz_kRi (va_runS (As := [_, _, _]) ⟨hx, hb, hml, hown, hts⟩ (c_X9_in l Z _ _ _ _ _ ) (va_cwS 3 hts gX9_mass_X9_in rfl rfl rfl (by decide +kernel) ⟨Nat.le_of_ble_eq_true rfl, Nat.le_of_ble_eq_true rfl⟩) (dz_P.pre hE hS hG) rfl rfl hl.1 rfl (lv_room (Nat.le_of_ble_eq_true rfl)) dX9_mass_3 ⟨Nat.le_of_ble_eq_true rfl, Nat.le_of_ble_eq_true rfl⟩) ?_
  refine lv_if_eq (tgt := 38) hx hb dX9_mass_6 (by decide) (fun c_6 => ?_) (fun c_6 => ?_)
  · refine lv_iconst (v := 0) hx hb dX9_mass_38 (by decide) ?_
    refine lv_istore (lv' := [(5, .int 0), (0, .ref aM), (1, .int v1), (2, .int v2), (3, .int v3), (4, .int v4)]) hx hb dX9_mass_39 hl (by decide) rfl (fun ls hl => ?_)
    refine lv_aload_n hx hb dX9_mass_41 rfl (lv_at hl 1 rfl) ?_
    refine lv_iload hx hb dX9_mass_42 (lv_at hl 0 rfl) ?_
    refine lv_if_ne (tgt := 51) hx hb dX9_mass_44 (by decide) (fun c_44 => absurd (by decide) c_44) (fun c_44 => ?_)
    refine lv_iconst (v := 1) hx hb dX9_mass_47 (by decide) ?_
    refine lv_goto (tgt := 65) hx hb dX9_mass_48 (by decide) ?_
    refine dz_kMi (va_runV (As := [_]) ⟨hx, hb, hml, hown, hts⟩ (c_X9_refused l Z _ _ _ _ _ _ _ _ _ _ _ _ _ _ _ _ _ _ _ ha ho) (cwV 1 hts gX9_mass_X9_refused rfl rfl rfl (by decide +kernel) ⟨Nat.le_of_ble_eq_true rfl, Nat.le_of_ble_eq_true rfl⟩) (dz_P.preV hE hS hG ho rfl ha) rfl rfl hl.1 rfl (lv_room (Nat.le_of_ble_eq_true rfl)) dX9_mass_65 ⟨Nat.le_of_ble_eq_true rfl, Nat.le_of_ble_eq_true rfl⟩) hS (fun x_65_1 G_65_1 ad_65_1 H locs hp_65_1 hG hS => ?_)
    obtain ⟨fr_65_1, rfl, x9_65_1, g_65_1⟩ := hp_65_1
    obtain rfl : x_65_1 = 1 := x9_65_1.trans (by decide)
    refine lv_if_eq (tgt := 73) hx hb dX9_mass_68 (by decide) (fun c_68 => absurd c_68 (by decide)) (fun c_68 => ?_)
    refine lv_iconst (v := 0) hx hb dX9_mass_71 (by decide) ?_
    refine W.widen (k := 0) (n := 0) (by first | omega | decide) (by first | omega | decide) ?_
    refine W.iret hx hb hrt (fun t ht hW => dz_endM (f := rv_i) _ hE hS hG ?_ ht hW) (fun q h => hS.2.2 q h) dX9_mass_72
    refine ⟨fun r9 n_0 => (fr_65_1 r9 n_0), rfl, ?_⟩
    exact ⟨rfl, g_65_1⟩
  · refine lv_iload_n hx hb dX9_mass_9 rfl (lv_at hl 2 rfl) ?_
    refine dz_kRi (va_runS (As := [_]) ⟨hx, hb, hml, hown, hts⟩ (c_X9_isOn l Z _ _ _ ) (va_cwS 1 hts gX9_mass_X9_isOn rfl rfl rfl (by decide +kernel) ⟨Nat.le_of_ble_eq_true rfl, Nat.le_of_ble_eq_true rfl⟩) (dz_P.pre hE hS hG) rfl rfl hl.1 rfl (lv_room (Nat.le_of_ble_eq_true rfl)) dX9_mass_10 ⟨Nat.le_of_ble_eq_true rfl, Nat.le_of_ble_eq_true rfl⟩) ?_
    refine lv_if_eq (tgt := 38) hx hb dX9_mass_13 (by decide) (fun c_13 => ?_) (fun c_13 => ?_)
    · refine lv_iconst (v := 0) hx hb dX9_mass_38 (by decide) ?_
      refine lv_istore (lv' := [(5, .int 0), (0, .ref aM), (1, .int v1), (2, .int v2), (3, .int v3), (4, .int v4)]) hx hb dX9_mass_39 hl (by decide) rfl (fun ls hl => ?_)
      refine lv_aload_n hx hb dX9_mass_41 rfl (lv_at hl 1 rfl) ?_
      refine lv_iload hx hb dX9_mass_42 (lv_at hl 0 rfl) ?_
      refine lv_if_ne (tgt := 51) hx hb dX9_mass_44 (by decide) (fun c_44 => absurd (by decide) c_44) (fun c_44 => ?_)
      refine lv_iconst (v := 1) hx hb dX9_mass_47 (by decide) ?_
      refine lv_goto (tgt := 65) hx hb dX9_mass_48 (by decide) ?_
      refine dz_kMi (va_runV (As := [_]) ⟨hx, hb, hml, hown, hts⟩ (c_X9_refused l Z _ _ _ _ _ _ _ _ _ _ _ _ _ _ _ _ _ _ _ ha ho) (cwV 1 hts gX9_mass_X9_refused rfl rfl rfl (by decide +kernel) ⟨Nat.le_of_ble_eq_true rfl, Nat.le_of_ble_eq_true rfl⟩) (dz_P.preV hE hS hG ho rfl ha) rfl rfl hl.1 rfl (lv_room (Nat.le_of_ble_eq_true rfl)) dX9_mass_65 ⟨Nat.le_of_ble_eq_true rfl, Nat.le_of_ble_eq_true rfl⟩) hS (fun x_65_2 G_65_2 ad_65_2 H locs hp_65_2 hG hS => ?_)
      obtain ⟨fr_65_2, rfl, x9_65_2, g_65_2⟩ := hp_65_2
      obtain rfl : x_65_2 = 1 := x9_65_2.trans (by decide)
      refine lv_if_eq (tgt := 73) hx hb dX9_mass_68 (by decide) (fun c_68 => absurd c_68 (by decide)) (fun c_68 => ?_)
      refine lv_iconst (v := 0) hx hb dX9_mass_71 (by decide) ?_
      refine W.widen (k := 0) (n := 0) (by first | omega | decide) (by first | omega | decide) ?_
      refine W.iret hx hb hrt (fun t ht hW => dz_endM (f := rv_i) _ hE hS hG ?_ ht hW) (fun q h => hS.2.2 q h) dX9_mass_72
      refine ⟨fun r9 n_0 => (fr_65_2 r9 n_0), rfl, ?_⟩
      exact ⟨rfl, g_65_2⟩
    · refine lv_iload_n hx hb dX9_mass_16 rfl (lv_at hl 3 rfl) ?_
      refine dz_kRi (va_runS (As := [_]) ⟨hx, hb, hml, hown, hts⟩ (c_X9_isOn l Z _ _ _ ) (va_cwS 1 hts gX9_mass_X9_isOn rfl rfl rfl (by decide +kernel) ⟨Nat.le_of_ble_eq_true rfl, Nat.le_of_ble_eq_true rfl⟩) (dz_P.pre hE hS hG) rfl rfl hl.1 rfl (lv_room (Nat.le_of_ble_eq_true rfl)) dX9_mass_17 ⟨Nat.le_of_ble_eq_true rfl, Nat.le_of_ble_eq_true rfl⟩) ?_
      refine lv_if_eq (tgt := 38) hx hb dX9_mass_20 (by decide) (fun c_20 => ?_) (fun c_20 => ?_)
      · refine lv_iconst (v := 0) hx hb dX9_mass_38 (by decide) ?_
        refine lv_istore (lv' := [(5, .int 0), (0, .ref aM), (1, .int v1), (2, .int v2), (3, .int v3), (4, .int v4)]) hx hb dX9_mass_39 hl (by decide) rfl (fun ls hl => ?_)
        refine lv_aload_n hx hb dX9_mass_41 rfl (lv_at hl 1 rfl) ?_
        refine lv_iload hx hb dX9_mass_42 (lv_at hl 0 rfl) ?_
        refine lv_if_ne (tgt := 51) hx hb dX9_mass_44 (by decide) (fun c_44 => absurd (by decide) c_44) (fun c_44 => ?_)
        refine lv_iconst (v := 1) hx hb dX9_mass_47 (by decide) ?_
        refine lv_goto (tgt := 65) hx hb dX9_mass_48 (by decide) ?_
        refine dz_kMi (va_runV (As := [_]) ⟨hx, hb, hml, hown, hts⟩ (c_X9_refused l Z _ _ _ _ _ _ _ _ _ _ _ _ _ _ _ _ _ _ _ ha ho) (cwV 1 hts gX9_mass_X9_refused rfl rfl rfl (by decide +kernel) ⟨Nat.le_of_ble_eq_true rfl, Nat.le_of_ble_eq_true rfl⟩) (dz_P.preV hE hS hG ho rfl ha) rfl rfl hl.1 rfl (lv_room (Nat.le_of_ble_eq_true rfl)) dX9_mass_65 ⟨Nat.le_of_ble_eq_true rfl, Nat.le_of_ble_eq_true rfl⟩) hS (fun x_65_3 G_65_3 ad_65_3 H locs hp_65_3 hG hS => ?_)
        obtain ⟨fr_65_3, rfl, x9_65_3, g_65_3⟩ := hp_65_3
        obtain rfl : x_65_3 = 1 := x9_65_3.trans (by decide)
        refine lv_if_eq (tgt := 73) hx hb dX9_mass_68 (by decide) (fun c_68 => absurd c_68 (by decide)) (fun c_68 => ?_)
        refine lv_iconst (v := 0) hx hb dX9_mass_71 (by decide) ?_
        refine W.widen (k := 0) (n := 0) (by first | omega | decide) (by first | omega | decide) ?_
        refine W.iret hx hb hrt (fun t ht hW => dz_endM (f := rv_i) _ hE hS hG ?_ ht hW) (fun q h => hS.2.2 q h) dX9_mass_72
        refine ⟨fun r9 n_0 => (fr_65_3 r9 n_0), rfl, ?_⟩
        exact ⟨rfl, g_65_3⟩
      · refine lv_iload hx hb dX9_mass_23 (lv_at hl 4 rfl) ?_
        refine lv_iconst (v := 1) hx hb dX9_mass_25 (by decide) ?_
        refine lv_bipush (v := 8) hx hb dX9_mass_26 (by decide) ?_
        refine dz_kRi (va_runS (As := [_, _, _]) ⟨hx, hb, hml, hown, hts⟩ (c_X9_in l Z _ _ _ _ _ ) (va_cwS 3 hts gX9_mass_X9_in rfl rfl rfl (by decide +kernel) ⟨Nat.le_of_ble_eq_true rfl, Nat.le_of_ble_eq_true rfl⟩) (dz_P.pre hE hS hG) rfl rfl hl.1 rfl (lv_room (Nat.le_of_ble_eq_true rfl)) dX9_mass_28 ⟨Nat.le_of_ble_eq_true rfl, Nat.le_of_ble_eq_true rfl⟩) ?_
        refine lv_if_eq (tgt := 38) hx hb dX9_mass_31 (by decide) (fun c_31 => ?_) (fun c_31 => ?_)
        · refine lv_iconst (v := 0) hx hb dX9_mass_38 (by decide) ?_
          refine lv_istore (lv' := [(5, .int 0), (0, .ref aM), (1, .int v1), (2, .int v2), (3, .int v3), (4, .int v4)]) hx hb dX9_mass_39 hl (by decide) rfl (fun ls hl => ?_)
          refine lv_aload_n hx hb dX9_mass_41 rfl (lv_at hl 1 rfl) ?_
          refine lv_iload hx hb dX9_mass_42 (lv_at hl 0 rfl) ?_
          refine lv_if_ne (tgt := 51) hx hb dX9_mass_44 (by decide) (fun c_44 => absurd (by decide) c_44) (fun c_44 => ?_)
          refine lv_iconst (v := 1) hx hb dX9_mass_47 (by decide) ?_
          refine lv_goto (tgt := 65) hx hb dX9_mass_48 (by decide) ?_
          refine dz_kMi (va_runV (As := [_]) ⟨hx, hb, hml, hown, hts⟩ (c_X9_refused l Z _ _ _ _ _ _ _ _ _ _ _ _ _ _ _ _ _ _ _ ha ho) (cwV 1 hts gX9_mass_X9_refused rfl rfl rfl (by decide +kernel) ⟨Nat.le_of_ble_eq_true rfl, Nat.le_of_ble_eq_true rfl⟩) (dz_P.preV hE hS hG ho rfl ha) rfl rfl hl.1 rfl (lv_room (Nat.le_of_ble_eq_true rfl)) dX9_mass_65 ⟨Nat.le_of_ble_eq_true rfl, Nat.le_of_ble_eq_true rfl⟩) hS (fun x_65_4 G_65_4 ad_65_4 H locs hp_65_4 hG hS => ?_)
          obtain ⟨fr_65_4, rfl, x9_65_4, g_65_4⟩ := hp_65_4
          obtain rfl : x_65_4 = 1 := x9_65_4.trans (by decide)
          refine lv_if_eq (tgt := 73) hx hb dX9_mass_68 (by decide) (fun c_68 => absurd c_68 (by decide)) (fun c_68 => ?_)
          refine lv_iconst (v := 0) hx hb dX9_mass_71 (by decide) ?_
          refine W.widen (k := 0) (n := 0) (by first | omega | decide) (by first | omega | decide) ?_
          refine W.iret hx hb hrt (fun t ht hW => dz_endM (f := rv_i) _ hE hS hG ?_ ht hW) (fun q h => hS.2.2 q h) dX9_mass_72
          refine ⟨fun r9 n_0 => (fr_65_4 r9 n_0), rfl, ?_⟩
          exact ⟨rfl, g_65_4⟩
        · exact absurd ⟨⟨dz_by c_6, dz_by c_13, dz_by c_20⟩, dz_by c_31⟩ hbad

set_option maxHeartbeats 4000000 in
set_option maxRecDepth 100000 in
theorem c_M_mass_full (l : Launch) (Z : dzG) (G : dzW) (ad : dzA) (aM nm ns nl nx nf my : Nat) (th dy td ssf sst cfr grw bkk iop : Int32) (v1 v2 v3 v4 : Int32) (ha : ad (39, 0) = aM) (ho : G (39, 0) = some (eO 10 [.int th, .int dy, .int (nI nm), .ref (ad (40, 3)), .ref (ad (40, 4)), .ref (ad (40, 5)), .ref (ad (40, 6)), .int td, .ref (ad (40, 8)), .ref (ad (40, 9)), .ref (ad (40, 10)), .int (nI ns), .ref (ad (40, 12)), .ref (ad (40, 13)), .ref (ad (40, 14)), .int (nI nl), .ref (ad (40, 16)), .ref (ad (40, 17)), .ref (ad (40, 18)), .int (nI nx), .ref (ad (40, 20)), .ref (ad (40, 21)), .ref (ad (40, 22)), .ref (ad (40, 23)), .ref (ad (40, 24)), .int ssf, .int sst, .int cfr, .int grw, .int (nI nf), .ref (ad (40, 30)), .ref (ad (40, 31)), .int bkk, .ref (ad (40, 33)), .ref (ad (40, 34)), .ref (ad (40, 35)), .int iop, .ref (ad (40, 37)), .int (nI my)])) (hg : ((((0 : Int32) ≤ v1 ∧ v1 ≤ 2) ∧ ((((-10) : Int32) ≤ v2 ∧ v2 ≤ 10) ∧ ((-10) ≤ v3 ∧ v3 ≤ 10))) ∧ ((1 : Int32) ≤ v4 ∧ v4 ≤ 8))) (h6 : nm = 6) : dzWr l yX9_mass wsX9_mass 2 42 0 0 Z G ad [.ref aM, .int v1, .int v2, .int v3, .int v4] rv_i (fun (x : Int32) G1 ad1 => (∀ r9 : dzR, r9 ≠ (39, 0) → G1 r9 = G r9 ∧ ad1 r9 = ad r9) ∧ ad = ad1 ∧ x = 0 ∧ G1 (39, 0) = some (eO 10 [.int 2, .int dy, .int (nI nm), .ref (ad (40, 3)), .ref (ad (40, 4)), .ref (ad (40, 5)), .ref (ad (40, 6)), .int td, .ref (ad (40, 8)), .ref (ad (40, 9)), .ref (ad (40, 10)), .int (nI ns), .ref (ad (40, 12)), .ref (ad (40, 13)), .ref (ad (40, 14)), .int (nI nl), .ref (ad (40, 16)), .ref (ad (40, 17)), .ref (ad (40, 18)), .int (nI nx), .ref (ad (40, 20)), .ref (ad (40, 21)), .ref (ad (40, 22)), .ref (ad (40, 23)), .ref (ad (40, 24)), .int ssf, .int sst, .int cfr, .int grw, .int (nI nf), .ref (ad (40, 30)), .ref (ad (40, 31)), .int bkk, .ref (ad (40, 33)), .ref (ad (40, 34)), .ref (ad (40, 35)), .int iop, .ref (ad (40, 37)), .int (nI my)])) := by
  refine Met.ofW (cc := cX9_mass) (maxL := 6) (ret := (some .int)) (by decide) rfl ?_
  intro p e s m args below meth c s₁ B hml hv
  obtain ⟨rfl, hG, hE⟩ := hv
  have hx := B.exec
  have hb := B.bytes
  have hrt := B.returns
  have hts := atoms_spec (ws := wsX9_mass) B.pre
  have hown : s.vm.findClass RX9 = some m.cls := findClass_of_methodNamed B.named
  have hlocks := B.notSynchronized
  have hS : va_S (dz_A Z) s.heap s.heap [] := va_S.rf
  have hl := lv_entry ([.ref aM, .int v1, .int v2, .int v3, .int v4]) (n := 6) (Nat.le_of_ble_eq_true rfl)
  rw [lg_entry_eq]
  generalize (lg_sl ([.ref aM, .int v1, .int v2, .int v3, .int v4]) ++ List.replicate (6 - (lg_sl ([.ref aM, .int v1, .int v2, .int v3, .int v4])).length) Slot.unset).toArray = ls at hl ⊢
  have hl : lv_has ls 6 [(0, .ref aM), (1, .int v1), (2, .int v2), (3, .int v3), (4, .int v4)] := hl
  refine lv_iload_n hx hb dX9_mass_0 rfl (lv_at hl 1 rfl) ?_
  refine lv_iconst (v := 0) hx hb dX9_mass_1 (by decide) ?_
  refine lv_iconst (v := 2) hx hb dX9_mass_2 (by decide) ?_
  refine dz_kRi (va_runS (As := [_, _, _]) ⟨hx, hb, hml, hown, hts⟩ (c_X9_in l Z _ _ _ _ _ ) (va_cwS 3 hts gX9_mass_X9_in rfl rfl rfl (by decide +kernel) ⟨Nat.le_of_ble_eq_true rfl, Nat.le_of_ble_eq_true rfl⟩) (dz_P.pre hE hS hG) rfl rfl hl.1 rfl (lv_room (Nat.le_of_ble_eq_true rfl)) dX9_mass_3 ⟨Nat.le_of_ble_eq_true rfl, Nat.le_of_ble_eq_true rfl⟩) ?_
  refine lv_topi (fun v_1 ev_1 => ?_)
  obtain rfl : v_1 = 1 := ev_1.trans (dz_b1 hg.1.1)
  refine lv_if_eq (tgt := 38) hx hb dX9_mass_6 (by decide) (fun c_6 => absurd c_6 (by decide)) (fun c_6 => ?_)
  refine lv_iload_n hx hb dX9_mass_9 rfl (lv_at hl 2 rfl) ?_
  refine dz_kRi (va_runS (As := [_]) ⟨hx, hb, hml, hown, hts⟩ (c_X9_isOn l Z _ _ _ ) (va_cwS 1 hts gX9_mass_X9_isOn rfl rfl rfl (by decide +kernel) ⟨Nat.le_of_ble_eq_true rfl, Nat.le_of_ble_eq_true rfl⟩) (dz_P.pre hE hS hG) rfl rfl hl.1 rfl (lv_room (Nat.le_of_ble_eq_true rfl)) dX9_mass_10 ⟨Nat.le_of_ble_eq_true rfl, Nat.le_of_ble_eq_true rfl⟩) ?_
  refine lv_topi (fun v_2 ev_2 => ?_)
  obtain rfl : v_2 = 1 := ev_2.trans (dz_b1 hg.1.2.1)
  refine lv_if_eq (tgt := 38) hx hb dX9_mass_13 (by decide) (fun c_13 => absurd c_13 (by decide)) (fun c_13 => ?_)
  refine lv_iload_n hx hb dX9_mass_16 rfl (lv_at hl 3 rfl) ?_
  refine dz_kRi (va_runS (As := [_]) ⟨hx, hb, hml, hown, hts⟩ (c_X9_isOn l Z _ _ _ ) (va_cwS 1 hts gX9_mass_X9_isOn rfl rfl rfl (by decide +kernel) ⟨Nat.le_of_ble_eq_true rfl, Nat.le_of_ble_eq_true rfl⟩) (dz_P.pre hE hS hG) rfl rfl hl.1 rfl (lv_room (Nat.le_of_ble_eq_true rfl)) dX9_mass_17 ⟨Nat.le_of_ble_eq_true rfl, Nat.le_of_ble_eq_true rfl⟩) ?_
  refine lv_topi (fun v_3 ev_3 => ?_)
  obtain rfl : v_3 = 1 := ev_3.trans (dz_b1 hg.1.2.2)
  refine lv_if_eq (tgt := 38) hx hb dX9_mass_20 (by decide) (fun c_20 => absurd c_20 (by decide)) (fun c_20 => ?_)
  refine lv_iload hx hb dX9_mass_23 (lv_at hl 4 rfl) ?_
  refine lv_iconst (v := 1) hx hb dX9_mass_25 (by decide) ?_
  refine lv_bipush (v := 8) hx hb dX9_mass_26 (by decide) ?_
  refine dz_kRi (va_runS (As := [_, _, _]) ⟨hx, hb, hml, hown, hts⟩ (c_X9_in l Z _ _ _ _ _ ) (va_cwS 3 hts gX9_mass_X9_in rfl rfl rfl (by decide +kernel) ⟨Nat.le_of_ble_eq_true rfl, Nat.le_of_ble_eq_true rfl⟩) (dz_P.pre hE hS hG) rfl rfl hl.1 rfl (lv_room (Nat.le_of_ble_eq_true rfl)) dX9_mass_28 ⟨Nat.le_of_ble_eq_true rfl, Nat.le_of_ble_eq_true rfl⟩) ?_
  refine lv_topi (fun v_4 ev_4 => ?_)
  obtain rfl : v_4 = 1 := ev_4.trans (dz_b1 hg.2)
  refine lv_if_eq (tgt := 38) hx hb dX9_mass_31 (by decide) (fun c_31 => absurd c_31 (by decide)) (fun c_31 => ?_)
  refine lv_iconst (v := 1) hx hb dX9_mass_34 (by decide) ?_
  refine lv_goto (tgt := 39) hx hb dX9_mass_35 (by decide) ?_
  refine lv_istore (lv' := [(5, .int 1), (0, .ref aM), (1, .int v1), (2, .int v2), (3, .int v3), (4, .int v4)]) hx hb dX9_mass_39 hl (by decide) rfl (fun ls hl => ?_)
  refine lv_aload_n hx hb dX9_mass_41 rfl (lv_at hl 1 rfl) ?_
  refine lv_iload hx hb dX9_mass_42 (lv_at hl 0 rfl) ?_
  refine lv_if_ne (tgt := 51) hx hb dX9_mass_44 (by decide) (fun c_44 => ?_) (fun c_44 => absurd c_44 (by decide))
  refine lv_aload_n hx hb dX9_mass_51 rfl (lv_at hl 1 rfl) ?_
  refine dz_get hx hb hts (fun _ h => List.mem_cons_of_mem _ (List.mem_append_right _ h)) hown hE hG ha ho rfl 2 (by decide) (hts _ (List.mem_of_getElem? (i := 1) rfl)) (fun _ h9 => h9) rfl dX9_mass_52 ?_
  refine lv_bipush (v := 6) hx hb dX9_mass_55 (by decide) ?_
  refine lv_icmp_ne (tgt := 64) hx hb dX9_mass_57 (by decide) (fun c_57 => absurd (by rw [h6]; rfl) c_57) (fun c_57 => ?_)
  refine lv_iconst (v := 2) hx hb dX9_mass_60 (by decide) ?_
  refine lv_goto (tgt := 65) hx hb dX9_mass_61 (by decide) ?_
  refine dz_kMi (va_runV (As := [_]) ⟨hx, hb, hml, hown, hts⟩ (c_X9_refused l Z _ _ _ _ _ _ _ _ _ _ _ _ _ _ _ _ _ _ _ ha ho) (cwV 1 hts gX9_mass_X9_refused rfl rfl rfl (by decide +kernel) ⟨Nat.le_of_ble_eq_true rfl, Nat.le_of_ble_eq_true rfl⟩) (dz_P.preV hE hS hG ho rfl ha) rfl rfl hl.1 rfl (lv_room (Nat.le_of_ble_eq_true rfl)) dX9_mass_65 ⟨Nat.le_of_ble_eq_true rfl, Nat.le_of_ble_eq_true rfl⟩) hS (fun x_65_1 G_65_1 ad_65_1 H locs hp_65_1 hG hS => ?_)
  obtain ⟨fr_65_1, rfl, x9_65_1, g_65_1⟩ := hp_65_1
  obtain rfl : x_65_1 = 1 := x9_65_1.trans (by decide)
  refine lv_if_eq (tgt := 73) hx hb dX9_mass_68 (by decide) (fun c_68 => absurd c_68 (by decide)) (fun c_68 => ?_)
  refine lv_iconst (v := 0) hx hb dX9_mass_71 (by decide) ?_
  refine W.widen (k := 0) (n := 0) (by first | omega | decide) (by first | omega | decide) ?_
  refine W.iret hx hb hrt (fun t ht hW => dz_endM (f := rv_i) _ hE hS hG ?_ ht hW) (fun q h => hS.2.2 q h) dX9_mass_72
  refine ⟨fun r9 n_0 => (fr_65_1 r9 n_0), rfl, ?_⟩
  exact ⟨rfl, g_65_1⟩

set_option maxHeartbeats 4000000 in
set_option maxRecDepth 100000 in
theorem c_M_mass_ok (l : Launch) (Z : dzG) (G : dzW) (ad : dzA) (aM nm ns nl nx nf my : Nat) (th dy td ssf sst cfr grw bkk iop : Int32) (f3 f4 f5 f6 f8 f9 f10 : Nat → Int32) (v1 v2 v3 v4 : Int32) (ha : ad (39, 0) = aM) (ho : G (39, 0) = some (eO 10 [.int th, .int dy, .int (nI nm), .ref (ad (40, 3)), .ref (ad (40, 4)), .ref (ad (40, 5)), .ref (ad (40, 6)), .int td, .ref (ad (40, 8)), .ref (ad (40, 9)), .ref (ad (40, 10)), .int (nI ns), .ref (ad (40, 12)), .ref (ad (40, 13)), .ref (ad (40, 14)), .int (nI nl), .ref (ad (40, 16)), .ref (ad (40, 17)), .ref (ad (40, 18)), .int (nI nx), .ref (ad (40, 20)), .ref (ad (40, 21)), .ref (ad (40, 22)), .ref (ad (40, 23)), .ref (ad (40, 24)), .int ssf, .int sst, .int cfr, .int grw, .int (nI nf), .ref (ad (40, 30)), .ref (ad (40, 31)), .int bkk, .ref (ad (40, 33)), .ref (ad (40, 34)), .ref (ad (40, 35)), .int iop, .ref (ad (40, 37)), .int (nI my)])) (h3 : G (40, 3) = some (eI Z 6 f3)) (h4 : G (40, 4) = some (eI Z 6 f4)) (h5 : G (40, 5) = some (eI Z 6 f5)) (h6 : G (40, 6) = some (eI Z 6 f6)) (h8 : G (40, 8) = some (eI Z 484 f8)) (h9 : G (40, 9) = some (eI Z 484 f9)) (h10 : G (40, 10) = some (eI Z 484 f10)) (hg : ((((0 : Int32) ≤ v1 ∧ v1 ≤ 2) ∧ ((((-10) : Int32) ≤ v2 ∧ v2 ≤ 10) ∧ ((-10) ≤ v3 ∧ v3 ≤ 10))) ∧ ((1 : Int32) ≤ v4 ∧ v4 ≤ 8))) (hN : nm ≤ 5) (hok : m_ok (nm + 1) (upd f4 nm v2) (upd f5 nm v3)) : dzWr l yX9_mass wsX9_mass 5 118 0 0 Z G ad [.ref aM, .int v1, .int v2, .int v3, .int v4] rv_i (fun (x : Int32) G1 ad1 => (∀ r9 : dzR, r9 ≠ (39, 0) → r9 ≠ (40, 3) → r9 ≠ (40, 4) → r9 ≠ (40, 5) → r9 ≠ (40, 6) → r9 ≠ (40, 8) → r9 ≠ (40, 9) → r9 ≠ (40, 10) → G1 r9 = G r9 ∧ ad1 r9 = ad r9) ∧ ad = ad1 ∧ x = nI nm ∧ G1 (39, 0) = some (eO 10 [.int 0, .int dy, .int (nI (nm + 1)), .ref (ad (40, 3)), .ref (ad (40, 4)), .ref (ad (40, 5)), .ref (ad (40, 6)), .int (td + 1), .ref (ad (40, 8)), .ref (ad (40, 9)), .ref (ad (40, 10)), .int (nI ns), .ref (ad (40, 12)), .ref (ad (40, 13)), .ref (ad (40, 14)), .int (nI nl), .ref (ad (40, 16)), .ref (ad (40, 17)), .ref (ad (40, 18)), .int (nI 0), .ref (ad (40, 20)), .ref (ad (40, 21)), .ref (ad (40, 22)), .ref (ad (40, 23)), .ref (ad (40, 24)), .int ssf, .int sst, .int cfr, .int grw, .int (nI 0), .ref (ad (40, 30)), .ref (ad (40, 31)), .int bkk, .ref (ad (40, 33)), .ref (ad (40, 34)), .ref (ad (40, 35)), .int iop, .ref (ad (40, 37)), .int (nI my)]) ∧ G1 (40, 3) = some (eI Z 6 (upd f3 nm v1)) ∧ G1 (40, 4) = some (eI Z 6 (upd f4 nm v2)) ∧ G1 (40, 5) = some (eI Z 6 (upd f5 nm v3)) ∧ G1 (40, 6) = some (eI Z 6 (upd f6 nm v4)) ∧ G1 (40, 8) = some (eI Z 484 (m_bc (nm + 1) (upd f3 nm v1) (upd f4 nm v2) (upd f5 nm v3) (upd f6 nm v4))) ∧ G1 (40, 9) = some (eI Z 484 (m_br (nm + 1) (upd f3 nm v1) (upd f4 nm v2) (upd f5 nm v3) (upd f6 nm v4))) ∧ G1 (40, 10) = some (eI Z 484 (m_tw (nm + 1) (upd f3 nm v1) (upd f4 nm v2) (upd f5 nm v3) (upd f6 nm v4)))) := by
  refine Met.ofW (cc := cX9_mass) (maxL := 6) (ret := (some .int)) (by decide) rfl ?_
  intro p e s m args below meth c s₁ B hml hv
  obtain ⟨rfl, hG, hE⟩ := hv
  have hx := B.exec
  have hb := B.bytes
  have hrt := B.returns
  have hts := atoms_spec (ws := wsX9_mass) B.pre
  have hown : s.vm.findClass RX9 = some m.cls := findClass_of_methodNamed B.named
  have hlocks := B.notSynchronized
  have hS : va_S (dz_A Z) s.heap s.heap [] := va_S.rf
  have hl := lv_entry ([.ref aM, .int v1, .int v2, .int v3, .int v4]) (n := 6) (Nat.le_of_ble_eq_true rfl)
  rw [lg_entry_eq]
  generalize (lg_sl ([.ref aM, .int v1, .int v2, .int v3, .int v4]) ++ List.replicate (6 - (lg_sl ([.ref aM, .int v1, .int v2, .int v3, .int v4])).length) Slot.unset).toArray = ls at hl ⊢
  have hl : lv_has ls 6 [(0, .ref aM), (1, .int v1), (2, .int v2), (3, .int v3), (4, .int v4)] := hl
  refine lv_iload_n hx hb dX9_mass_0 rfl (lv_at hl 1 rfl) ?_
  refine lv_iconst (v := 0) hx hb dX9_mass_1 (by decide) ?_
  refine lv_iconst (v := 2) hx hb dX9_mass_2 (by decide) ?_
  refine dz_kRi (va_runS (As := [_, _, _]) ⟨hx, hb, hml, hown, hts⟩ (c_X9_in l Z _ _ _ _ _ ) (va_cwS 3 hts gX9_mass_X9_in rfl rfl rfl (by decide +kernel) ⟨Nat.le_of_ble_eq_true rfl, Nat.le_of_ble_eq_true rfl⟩) (dz_P.pre hE hS hG) rfl rfl hl.1 rfl (lv_room (Nat.le_of_ble_eq_true rfl)) dX9_mass_3 ⟨Nat.le_of_ble_eq_true rfl, Nat.le_of_ble_eq_true rfl⟩) ?_
  refine lv_topi (fun v_1 ev_1 => ?_)
  obtain rfl : v_1 = 1 := ev_1.trans (dz_b1 hg.1.1)
  refine lv_if_eq (tgt := 38) hx hb dX9_mass_6 (by decide) (fun c_6 => absurd c_6 (by decide)) (fun c_6 => ?_)
  refine lv_iload_n hx hb dX9_mass_9 rfl (lv_at hl 2 rfl) ?_
  refine dz_kRi (va_runS (As := [_]) ⟨hx, hb, hml, hown, hts⟩ (c_X9_isOn l Z _ _ _ ) (va_cwS 1 hts gX9_mass_X9_isOn rfl rfl rfl (by decide +kernel) ⟨Nat.le_of_ble_eq_true rfl, Nat.le_of_ble_eq_true rfl⟩) (dz_P.pre hE hS hG) rfl rfl hl.1 rfl (lv_room (Nat.le_of_ble_eq_true rfl)) dX9_mass_10 ⟨Nat.le_of_ble_eq_true rfl, Nat.le_of_ble_eq_true rfl⟩) ?_
  refine lv_topi (fun v_2 ev_2 => ?_)
  obtain rfl : v_2 = 1 := ev_2.trans (dz_b1 hg.1.2.1)
  refine lv_if_eq (tgt := 38) hx hb dX9_mass_13 (by decide) (fun c_13 => absurd c_13 (by decide)) (fun c_13 => ?_)
  refine lv_iload_n hx hb dX9_mass_16 rfl (lv_at hl 3 rfl) ?_
  refine dz_kRi (va_runS (As := [_]) ⟨hx, hb, hml, hown, hts⟩ (c_X9_isOn l Z _ _ _ ) (va_cwS 1 hts gX9_mass_X9_isOn rfl rfl rfl (by decide +kernel) ⟨Nat.le_of_ble_eq_true rfl, Nat.le_of_ble_eq_true rfl⟩) (dz_P.pre hE hS hG) rfl rfl hl.1 rfl (lv_room (Nat.le_of_ble_eq_true rfl)) dX9_mass_17 ⟨Nat.le_of_ble_eq_true rfl, Nat.le_of_ble_eq_true rfl⟩) ?_
  refine lv_topi (fun v_3 ev_3 => ?_)
  obtain rfl : v_3 = 1 := ev_3.trans (dz_b1 hg.1.2.2)
  refine lv_if_eq (tgt := 38) hx hb dX9_mass_20 (by decide) (fun c_20 => absurd c_20 (by decide)) (fun c_20 => ?_)
  refine lv_iload hx hb dX9_mass_23 (lv_at hl 4 rfl) ?_
  refine lv_iconst (v := 1) hx hb dX9_mass_25 (by decide) ?_
  refine lv_bipush (v := 8) hx hb dX9_mass_26 (by decide) ?_
  refine dz_kRi (va_runS (As := [_, _, _]) ⟨hx, hb, hml, hown, hts⟩ (c_X9_in l Z _ _ _ _ _ ) (va_cwS 3 hts gX9_mass_X9_in rfl rfl rfl (by decide +kernel) ⟨Nat.le_of_ble_eq_true rfl, Nat.le_of_ble_eq_true rfl⟩) (dz_P.pre hE hS hG) rfl rfl hl.1 rfl (lv_room (Nat.le_of_ble_eq_true rfl)) dX9_mass_28 ⟨Nat.le_of_ble_eq_true rfl, Nat.le_of_ble_eq_true rfl⟩) ?_
  refine lv_topi (fun v_4 ev_4 => ?_)
  obtain rfl : v_4 = 1 := ev_4.trans (dz_b1 hg.2)
  refine lv_if_eq (tgt := 38) hx hb dX9_mass_31 (by decide) (fun c_31 => absurd c_31 (by decide)) (fun c_31 => ?_)
  refine lv_iconst (v := 1) hx hb dX9_mass_34 (by decide) ?_
  refine lv_goto (tgt := 39) hx hb dX9_mass_35 (by decide) ?_
  refine lv_istore (lv' := [(5, .int 1), (0, .ref aM), (1, .int v1), (2, .int v2), (3, .int v3), (4, .int v4)]) hx hb dX9_mass_39 hl (by decide) rfl (fun ls hl => ?_)
  refine lv_aload_n hx hb dX9_mass_41 rfl (lv_at hl 1 rfl) ?_
  refine lv_iload hx hb dX9_mass_42 (lv_at hl 0 rfl) ?_
  refine lv_if_ne (tgt := 51) hx hb dX9_mass_44 (by decide) (fun c_44 => ?_) (fun c_44 => absurd c_44 (by decide))
  refine lv_aload_n hx hb dX9_mass_51 rfl (lv_at hl 1 rfl) ?_
  refine dz_get hx hb hts (fun _ h => List.mem_cons_of_mem _ (List.mem_append_right _ h)) hown hE hG ha ho rfl 2 (by decide) (hts _ (List.mem_of_getElem? (i := 1) rfl)) (fun _ h9 => h9) rfl dX9_mass_52 ?_
  refine lv_bipush (v := 6) hx hb dX9_mass_55 (by decide) ?_
  refine lv_icmp_ne (tgt := 64) hx hb dX9_mass_57 (by decide) (fun c_57 => ?_) (fun c_57 => absurd c_57 (fun z => absurd ((nI_e (b := 6) (by omega) (by omega)).mp z) (by omega)))
  refine lv_iconst (v := 0) hx hb dX9_mass_64 (by decide) ?_
  refine dz_kMi (va_runV (As := [_]) ⟨hx, hb, hml, hown, hts⟩ (c_X9_refused l Z _ _ _ _ _ _ _ _ _ _ _ _ _ _ _ _ _ _ _ ha ho) (cwV 1 hts gX9_mass_X9_refused rfl rfl rfl (by decide +kernel) ⟨Nat.le_of_ble_eq_true rfl, Nat.le_of_ble_eq_true rfl⟩) (dz_P.preV hE hS hG ho rfl ha) rfl rfl hl.1 rfl (lv_room (Nat.le_of_ble_eq_true rfl)) dX9_mass_65 ⟨Nat.le_of_ble_eq_true rfl, Nat.le_of_ble_eq_true rfl⟩) hS (fun x_65_1 G_65_1 ad_65_1 H locs hp_65_1 hG hS => ?_)
  obtain ⟨fr_65_1, rfl, x9_65_1, g_65_1⟩ := hp_65_1
  obtain rfl : x_65_1 = 0 := x9_65_1.trans (by decide)
  refine lv_if_eq (tgt := 73) hx hb dX9_mass_68 (by decide) (fun c_68 => ?_) (fun c_68 => absurd (by decide) c_68)
  refine lv_aload_n hx hb dX9_mass_73 rfl (lv_at hl 1 rfl) ?_
  refine lv_iload_n hx hb dX9_mass_74 rfl (lv_at hl 2 rfl) ?_
  refine lv_iload_n hx hb dX9_mass_75 rfl (lv_at hl 3 rfl) ?_
  refine lv_iload_n hx hb dX9_mass_76 rfl (lv_at hl 4 rfl) ?_
  refine lv_iload hx hb dX9_mass_77 (lv_at hl 5 rfl) ?_
  refine dz_kMv (va_runV (As := [_, _, _, _]) ⟨hx, hb, hml, hown, hts⟩ (c_X9_put l Z _ _ _ _ _ _ _ _ _ _ _ _ _ _ _ _ _ _ _ _ _ _ _ _ _ _ _ _ _ ha g_65_1 ((fr_65_1 _ (dz_n rfl)).1.trans h3) ((fr_65_1 _ (dz_n rfl)).1.trans h4) ((fr_65_1 _ (dz_n rfl)).1.trans h5) ((fr_65_1 _ (dz_n rfl)).1.trans h6) ((fr_65_1 _ (dz_n rfl)).1.trans h8) ((fr_65_1 _ (dz_n rfl)).1.trans h9) ((fr_65_1 _ (dz_n rfl)).1.trans h10) hN hok) (cwV 4 hts gX9_mass_X9_put rfl rfl rfl (by decide +kernel) ⟨Nat.le_of_ble_eq_true rfl, Nat.le_of_ble_eq_true rfl⟩) (dz_P.preV hE hS hG g_65_1 rfl ha) rfl rfl hl.1 rfl (lv_room (Nat.le_of_ble_eq_true rfl)) dX9_mass_79 ⟨Nat.le_of_ble_eq_true rfl, Nat.le_of_ble_eq_true rfl⟩) hS (fun G_79_2 ad_79_2 H locs hp_79_2 hG hS => ?_)
  obtain ⟨fr_79_2, rfl, g_79_2⟩ := hp_79_2
  refine lv_aload_n hx hb dX9_mass_82 rfl (lv_at hl 1 rfl) ?_
  refine dz_get hx hb hts (fun _ h => List.mem_cons_of_mem _ (List.mem_append_right _ h)) hown hE hG ha g_79_2.1 rfl 2 (by decide) (hts _ (List.mem_of_getElem? (i := 1) rfl)) (fun _ h9 => h9) rfl dX9_mass_83 ?_
  refine lv_iconst (v := 1) hx hb dX9_mass_86 (by decide) ?_
  refine lv_isub hx hb dX9_mass_87 ?_
  refine lv_topi (fun v_5 ev_5 => ?_)
  obtain rfl : v_5 = nI nm := ev_5.trans ((pk_sub (a := nm + 1) (b := 1) (by omega)).trans (by rw [Nat.add_sub_cancel]))
  refine W.widen (k := 0) (n := 0) (by first | omega | decide) (by first | omega | decide) ?_
  refine W.iret hx hb hrt (fun t ht hW => dz_endM (f := rv_i) _ hE hS hG ?_ ht hW) (fun q h => hS.2.2 q h) dX9_mass_88
  refine ⟨fun r9 n_0 n_1 n_2 n_3 n_4 n_5 n_6 n_7 => (dz_tr (fr_79_2 r9 n_0 n_1 n_2 n_3 n_4 n_5 n_6 n_7) (fr_65_1 r9 n_0)), rfl, ?_⟩
  exact ⟨rfl, g_79_2.1, g_79_2.2.1, g_79_2.2.2.1, g_79_2.2.2.2.1, g_79_2.2.2.2.2.1, g_79_2.2.2.2.2.2.1, g_79_2.2.2.2.2.2.2.1, g_79_2.2.2.2.2.2.2.2⟩

set_option maxHeartbeats 4000000 in
set_option maxRecDepth 100000 in
theorem c_M_two_no (l : Launch) (Z : dzG) (G : dzW) (ad : dzA) (aM nm ns nl nx nf my : Nat) (th dy td ssf sst cfr grw bkk iop : Int32) (v1 v2 v3 : Int32) (ha : ad (39, 0) = aM) (ho : G (39, 0) = some (eO 10 [.int th, .int dy, .int (nI nm), .ref (ad (40, 3)), .ref (ad (40, 4)), .ref (ad (40, 5)), .ref (ad (40, 6)), .int td, .ref (ad (40, 8)), .ref (ad (40, 9)), .ref (ad (40, 10)), .int (nI ns), .ref (ad (40, 12)), .ref (ad (40, 13)), .ref (ad (40, 14)), .int (nI nl), .ref (ad (40, 16)), .ref (ad (40, 17)), .ref (ad (40, 18)), .int (nI nx), .ref (ad (40, 20)), .ref (ad (40, 21)), .ref (ad (40, 22)), .ref (ad (40, 23)), .ref (ad (40, 24)), .int ssf, .int sst, .int cfr, .int grw, .int (nI nf), .ref (ad (40, 30)), .ref (ad (40, 31)), .int bkk, .ref (ad (40, 33)), .ref (ad (40, 34)), .ref (ad (40, 35)), .int iop, .ref (ad (40, 37)), .int (nI my)])) (hv : v1 < 0 ∨ nI nm ≤ v1) (hN : nm ≤ 6) : dzWr l yX9_two wsX9_two 2 42 0 0 Z G ad [.ref aM, .int v1, .int v2, .int v3] rv_i (fun (x : Int32) G1 ad1 => (∀ r9 : dzR, r9 ≠ (39, 0) → G1 r9 = G r9 ∧ ad1 r9 = ad r9) ∧ ad = ad1 ∧ x = 0 ∧ G1 (39, 0) = some (eO 10 [.int 1, .int dy, .int (nI nm), .ref (ad (40, 3)), .ref (ad (40, 4)), .ref (ad (40, 5)), .ref (ad (40, 6)), .int td, .ref (ad (40, 8)), .ref (ad (40, 9)), .ref (ad (40, 10)), .int (nI ns), .ref (ad (40, 12)), .ref (ad (40, 13)), .ref (ad (40, 14)), .int (nI nl), .ref (ad (40, 16)), .ref (ad (40, 17)), .ref (ad (40, 18)), .int (nI nx), .ref (ad (40, 20)), .ref (ad (40, 21)), .ref (ad (40, 22)), .ref (ad (40, 23)), .ref (ad (40, 24)), .int ssf, .int sst, .int cfr, .int grw, .int (nI nf), .ref (ad (40, 30)), .ref (ad (40, 31)), .int bkk, .ref (ad (40, 33)), .ref (ad (40, 34)), .ref (ad (40, 35)), .int iop, .ref (ad (40, 37)), .int (nI my)])) := by
  refine Met.ofW (cc := cX9_two) (maxL := 7) (ret := (some .int)) (by decide) rfl ?_
  intro p e s m args below meth c s₁ B hml hv
  obtain ⟨rfl, hG, hE⟩ := hv
  have hx := B.exec
  have hb := B.bytes
  have hrt := B.returns
  have hts := atoms_spec (ws := wsX9_two) B.pre
  have hown : s.vm.findClass RX9 = some m.cls := findClass_of_methodNamed B.named
  have hlocks := B.notSynchronized
  have hS : va_S (dz_A Z) s.heap s.heap [] := va_S.rf
  have hl := lv_entry ([.ref aM, .int v1, .int v2, .int v3]) (n := 7) (Nat.le_of_ble_eq_true rfl)
  rw [lg_entry_eq]
  generalize (lg_sl ([.ref aM, .int v1, .int v2, .int v3]) ++ List.replicate (7 - (lg_sl ([.ref aM, .int v1, .int v2, .int v3])).length) Slot.unset).toArray = ls at hl ⊢
  have hl : lv_has ls 7 [(0, .ref aM), (1, .int v1), (2, .int v2), (3, .int v3)] := hl
  refine lv_iload_n hx hb dX9_two_0 rfl (lv_at hl 1 rfl) ?_
  refine lv_iconst (v := 0) hx hb dX9_two_1 (by decide) ?_
  refine lv_aload_n hx hb dX9_two_2 rfl (lv_at hl 0 rfl) ?_
  refine dz_get hx hb hts (fun _ h => List.mem_cons_of_mem _ (List.mem_append_right _ h)) hown hE hG ha ho rfl 2 (by decide) (hts _ (List.mem_of_getElem? (i := 1) rfl)) (fun _ h9 => h9) rfl dX9_two_3 ?_
  refine lv_iconst (v := 1) hx hb dX9_two_6 (by decide) ?_
  refine lv_isub hx hb dX9_two_7 ?_
  refine dz_kRi (va_runS (As := [_, _, _]) ⟨hx, hb, hml, hown, hts⟩ (c_X9_in l Z _ _ _ _ _ ) (va_cwS 3 hts gX9_two_X9_in rfl rfl rfl (by decide +kernel) ⟨Nat.le_of_ble_eq_true rfl, Nat.le_of_ble_eq_true rfl⟩) (dz_P.pre hE hS hG) rfl rfl hl.1 rfl (lv_room (Nat.le_of_ble_eq_true rfl)) dX9_two_8 ⟨Nat.le_of_ble_eq_true rfl, Nat.le_of_ble_eq_true rfl⟩) ?_
  refine lv_topi (fun v_1 ev_1 => ?_)
  obtain rfl : v_1 = 0 := ev_1.trans (dz_b0 (m_ix0 (by omega) hv))
  refine lv_istore (lv' := [(4, .int 0), (0, .ref aM), (1, .int v1), (2, .int v2), (3, .int v3)]) hx hb dX9_two_11 hl (by decide) rfl (fun ls hl => ?_)
  refine lv_iload_n hx hb dX9_two_13 rfl (lv_at hl 3 rfl) ?_
  refine dz_kRi (va_runS (As := [_]) ⟨hx, hb, hml, hown, hts⟩ (c_X9_isOn l Z _ _ _ ) (va_cwS 1 hts gX9_two_X9_isOn rfl rfl rfl (by decide +kernel) ⟨Nat.le_of_ble_eq_true rfl, Nat.le_of_ble_eq_true rfl⟩) (dz_P.pre hE hS hG) rfl rfl hl.1 rfl (lv_room (Nat.le_of_ble_eq_true rfl)) dX9_two_14 ⟨Nat.le_of_ble_eq_true rfl, Nat.le_of_ble_eq_true rfl⟩) ?_
  refine lv_if_eq (tgt := 31) hx hb dX9_two_17 (by decide) (fun c_17 => ?_) (fun c_17 => ?_)
  · refine lv_iconst (v := 0) hx hb dX9_two_31 (by decide) ?_
    refine lv_istore (lv' := [(5, .int 0), (4, .int 0), (0, .ref aM), (1, .int v1), (2, .int v2), (3, .int v3)]) hx hb dX9_two_32 hl (by decide) rfl (fun ls hl => ?_)
    refine lv_aload_n hx hb dX9_two_34 rfl (lv_at hl 2 rfl) ?_
    refine lv_iload hx hb dX9_two_35 (lv_at hl 1 rfl) ?_
    refine lv_if_ne (tgt := 44) hx hb dX9_two_37 (by decide) (fun c_37 => absurd (by decide) c_37) (fun c_37 => ?_)
    refine lv_iconst (v := 1) hx hb dX9_two_40 (by decide) ?_
    refine lv_goto (tgt := 77) hx hb dX9_two_41 (by decide) ?_
    refine dz_kMi (va_runV (As := [_]) ⟨hx, hb, hml, hown, hts⟩ (c_X9_refused l Z _ _ _ _ _ _ _ _ _ _ _ _ _ _ _ _ _ _ _ ha ho) (cwV 1 hts gX9_two_X9_refused rfl rfl rfl (by decide +kernel) ⟨Nat.le_of_ble_eq_true rfl, Nat.le_of_ble_eq_true rfl⟩) (dz_P.preV hE hS hG ho rfl ha) rfl rfl hl.1 rfl (lv_room (Nat.le_of_ble_eq_true rfl)) dX9_two_77 ⟨Nat.le_of_ble_eq_true rfl, Nat.le_of_ble_eq_true rfl⟩) hS (fun x_77_1 G_77_1 ad_77_1 H locs hp_77_1 hG hS => ?_)
    obtain ⟨fr_77_1, rfl, x9_77_1, g_77_1⟩ := hp_77_1
    obtain rfl : x_77_1 = 1 := x9_77_1.trans (by decide)
    refine lv_if_eq (tgt := 85) hx hb dX9_two_80 (by decide) (fun c_80 => absurd c_80 (by decide)) (fun c_80 => ?_)
    refine lv_iconst (v := 0) hx hb dX9_two_83 (by decide) ?_
    refine W.widen (k := 0) (n := 0) (by first | omega | decide) (by first | omega | decide) ?_
    refine W.iret hx hb hrt (fun t ht hW => dz_endM (f := rv_i) _ hE hS hG ?_ ht hW) (fun q h => hS.2.2 q h) dX9_two_84
    refine ⟨fun r9 n_0 => (fr_77_1 r9 n_0), rfl, ?_⟩
    exact ⟨rfl, g_77_1⟩
  · refine lv_iload_n hx hb dX9_two_20 rfl (lv_at hl 4 rfl) ?_
    refine dz_kRi (va_runS (As := [_]) ⟨hx, hb, hml, hown, hts⟩ (c_X9_isOn l Z _ _ _ ) (va_cwS 1 hts gX9_two_X9_isOn rfl rfl rfl (by decide +kernel) ⟨Nat.le_of_ble_eq_true rfl, Nat.le_of_ble_eq_true rfl⟩) (dz_P.pre hE hS hG) rfl rfl hl.1 rfl (lv_room (Nat.le_of_ble_eq_true rfl)) dX9_two_21 ⟨Nat.le_of_ble_eq_true rfl, Nat.le_of_ble_eq_true rfl⟩) ?_
    refine lv_if_eq (tgt := 31) hx hb dX9_two_24 (by decide) (fun c_24 => ?_) (fun c_24 => ?_)
    · refine lv_iconst (v := 0) hx hb dX9_two_31 (by decide) ?_
      refine lv_istore (lv' := [(5, .int 0), (4, .int 0), (0, .ref aM), (1, .int v1), (2, .int v2), (3, .int v3)]) hx hb dX9_two_32 hl (by decide) rfl (fun ls hl => ?_)
      refine lv_aload_n hx hb dX9_two_34 rfl (lv_at hl 2 rfl) ?_
      refine lv_iload hx hb dX9_two_35 (lv_at hl 1 rfl) ?_
      refine lv_if_ne (tgt := 44) hx hb dX9_two_37 (by decide) (fun c_37 => absurd (by decide) c_37) (fun c_37 => ?_)
      refine lv_iconst (v := 1) hx hb dX9_two_40 (by decide) ?_
      refine lv_goto (tgt := 77) hx hb dX9_two_41 (by decide) ?_
      refine dz_kMi (va_runV (As := [_]) ⟨hx, hb, hml, hown, hts⟩ (c_X9_refused l Z _ _ _ _ _ _ _ _ _ _ _ _ _ _ _ _ _ _ _ ha ho) (cwV 1 hts gX9_two_X9_refused rfl rfl rfl (by decide +kernel) ⟨Nat.le_of_ble_eq_true rfl, Nat.le_of_ble_eq_true rfl⟩) (dz_P.preV hE hS hG ho rfl ha) rfl rfl hl.1 rfl (lv_room (Nat.le_of_ble_eq_true rfl)) dX9_two_77 ⟨Nat.le_of_ble_eq_true rfl, Nat.le_of_ble_eq_true rfl⟩) hS (fun x_77_2 G_77_2 ad_77_2 H locs hp_77_2 hG hS => ?_)
      obtain ⟨fr_77_2, rfl, x9_77_2, g_77_2⟩ := hp_77_2
      obtain rfl : x_77_2 = 1 := x9_77_2.trans (by decide)
      refine lv_if_eq (tgt := 85) hx hb dX9_two_80 (by decide) (fun c_80 => absurd c_80 (by decide)) (fun c_80 => ?_)
      refine lv_iconst (v := 0) hx hb dX9_two_83 (by decide) ?_
      refine W.widen (k := 0) (n := 0) (by first | omega | decide) (by first | omega | decide) ?_
      refine W.iret hx hb hrt (fun t ht hW => dz_endM (f := rv_i) _ hE hS hG ?_ ht hW) (fun q h => hS.2.2 q h) dX9_two_84
      refine ⟨fun r9 n_0 => (fr_77_2 r9 n_0), rfl, ?_⟩
      exact ⟨rfl, g_77_2⟩
    · refine lv_iconst (v := 1) hx hb dX9_two_27 (by decide) ?_
      refine lv_goto (tgt := 32) hx hb dX9_two_28 (by decide) ?_
      refine lv_istore (lv' := [(5, .int 1), (4, .int 0), (0, .ref aM), (1, .int v1), (2, .int v2), (3, .int v3)]) hx hb dX9_two_32 hl (by decide) rfl (fun ls hl => ?_)
      refine lv_aload_n hx hb dX9_two_34 rfl (lv_at hl 2 rfl) ?_
      refine lv_iload hx hb dX9_two_35 (lv_at hl 1 rfl) ?_
      refine lv_if_ne (tgt := 44) hx hb dX9_two_37 (by decide) (fun c_37 => absurd (by decide) c_37) (fun c_37 => ?_)
      refine lv_iconst (v := 1) hx hb dX9_two_40 (by decide) ?_
      refine lv_goto (tgt := 77) hx hb dX9_two_41 (by decide) ?_
      refine dz_kMi (va_runV (As := [_]) ⟨hx, hb, hml, hown, hts⟩ (c_X9_refused l Z _ _ _ _ _ _ _ _ _ _ _ _ _ _ _ _ _ _ _ ha ho) (cwV 1 hts gX9_two_X9_refused rfl rfl rfl (by decide +kernel) ⟨Nat.le_of_ble_eq_true rfl, Nat.le_of_ble_eq_true rfl⟩) (dz_P.preV hE hS hG ho rfl ha) rfl rfl hl.1 rfl (lv_room (Nat.le_of_ble_eq_true rfl)) dX9_two_77 ⟨Nat.le_of_ble_eq_true rfl, Nat.le_of_ble_eq_true rfl⟩) hS (fun x_77_3 G_77_3 ad_77_3 H locs hp_77_3 hG hS => ?_)
      obtain ⟨fr_77_3, rfl, x9_77_3, g_77_3⟩ := hp_77_3
      obtain rfl : x_77_3 = 1 := x9_77_3.trans (by decide)
      refine lv_if_eq (tgt := 85) hx hb dX9_two_80 (by decide) (fun c_80 => absurd c_80 (by decide)) (fun c_80 => ?_)
      refine lv_iconst (v := 0) hx hb dX9_two_83 (by decide) ?_
      refine W.widen (k := 0) (n := 0) (by first | omega | decide) (by first | omega | decide) ?_
      refine W.iret hx hb hrt (fun t ht hW => dz_endM (f := rv_i) _ hE hS hG ?_ ht hW) (fun q h => hS.2.2 q h) dX9_two_84
      refine ⟨fun r9 n_0 => (fr_77_3 r9 n_0), rfl, ?_⟩
      exact ⟨rfl, g_77_3⟩

set_option maxHeartbeats 4000000 in
set_option maxRecDepth 100000 in
theorem c_M_two_bad (l : Launch) (Z : dzG) (G : dzW) (ad : dzA) (aM nm ns nl nx nf my : Nat) (th dy td ssf sst cfr grw bkk iop : Int32) (k : Nat) (v2 v3 : Int32) (ha : ad (39, 0) = aM) (ho : G (39, 0) = some (eO 10 [.int th, .int dy, .int (nI nm), .ref (ad (40, 3)), .ref (ad (40, 4)), .ref (ad (40, 5)), .ref (ad (40, 6)), .int td, .ref (ad (40, 8)), .ref (ad (40, 9)), .ref (ad (40, 10)), .int (nI ns), .ref (ad (40, 12)), .ref (ad (40, 13)), .ref (ad (40, 14)), .int (nI nl), .ref (ad (40, 16)), .ref (ad (40, 17)), .ref (ad (40, 18)), .int (nI nx), .ref (ad (40, 20)), .ref (ad (40, 21)), .ref (ad (40, 22)), .ref (ad (40, 23)), .ref (ad (40, 24)), .int ssf, .int sst, .int cfr, .int grw, .int (nI nf), .ref (ad (40, 30)), .ref (ad (40, 31)), .int bkk, .ref (ad (40, 33)), .ref (ad (40, 34)), .ref (ad (40, 35)), .int iop, .ref (ad (40, 37)), .int (nI my)])) (hk : k < nm) (hN : nm ≤ 6) (hbad : ¬ ((((-10) : Int32) ≤ v2 ∧ v2 ≤ 10) ∧ ((-10) ≤ v3 ∧ v3 ≤ 10))) : dzWr l yX9_two wsX9_two 2 42 0 0 Z G ad [.ref aM, .int (nI k), .int v2, .int v3] rv_i (fun (x : Int32) G1 ad1 => (∀ r9 : dzR, r9 ≠ (39, 0) → G1 r9 = G r9 ∧ ad1 r9 = ad r9) ∧ ad = ad1 ∧ x = 0 ∧ G1 (39, 0) = some (eO 10 [.int 2, .int dy, .int (nI nm), .ref (ad (40, 3)), .ref (ad (40, 4)), .ref (ad (40, 5)), .ref (ad (40, 6)), .int td, .ref (ad (40, 8)), .ref (ad (40, 9)), .ref (ad (40, 10)), .int (nI ns), .ref (ad (40, 12)), .ref (ad (40, 13)), .ref (ad (40, 14)), .int (nI nl), .ref (ad (40, 16)), .ref (ad (40, 17)), .ref (ad (40, 18)), .int (nI nx), .ref (ad (40, 20)), .ref (ad (40, 21)), .ref (ad (40, 22)), .ref (ad (40, 23)), .ref (ad (40, 24)), .int ssf, .int sst, .int cfr, .int grw, .int (nI nf), .ref (ad (40, 30)), .ref (ad (40, 31)), .int bkk, .ref (ad (40, 33)), .ref (ad (40, 34)), .ref (ad (40, 35)), .int iop, .ref (ad (40, 37)), .int (nI my)])) := by
  refine Met.ofW (cc := cX9_two) (maxL := 7) (ret := (some .int)) (by decide) rfl ?_
  intro p e s m args below meth c s₁ B hml hv
  obtain ⟨rfl, hG, hE⟩ := hv
  have hx := B.exec
  have hb := B.bytes
  have hrt := B.returns
  have hts := atoms_spec (ws := wsX9_two) B.pre
  have hown : s.vm.findClass RX9 = some m.cls := findClass_of_methodNamed B.named
  have hlocks := B.notSynchronized
  have hS : va_S (dz_A Z) s.heap s.heap [] := va_S.rf
  have hl := lv_entry ([.ref aM, .int (nI k), .int v2, .int v3]) (n := 7) (Nat.le_of_ble_eq_true rfl)
  rw [lg_entry_eq]
  generalize (lg_sl ([.ref aM, .int (nI k), .int v2, .int v3]) ++ List.replicate (7 - (lg_sl ([.ref aM, .int (nI k), .int v2, .int v3])).length) Slot.unset).toArray = ls at hl ⊢
  have hl : lv_has ls 7 [(0, .ref aM), (1, .int (nI k)), (2, .int v2), (3, .int v3)] := hl
  refine lv_iload_n hx hb dX9_two_0 rfl (lv_at hl 1 rfl) ?_
  refine lv_iconst (v := 0) hx hb dX9_two_1 (by decide) ?_
  refine lv_aload_n hx hb dX9_two_2 rfl (lv_at hl 0 rfl) ?_
  refine dz_get hx hb hts (fun _ h => List.mem_cons_of_mem _ (List.mem_append_right _ h)) hown hE hG ha ho rfl 2 (by decide) (hts _ (List.mem_of_getElem? (i := 1) rfl)) (fun _ h9 => h9) rfl dX9_two_3 ?_
  refine lv_iconst (v := 1) hx hb dX9_two_6 (by decide) ?_
  refine lv_isub hx hb dX9_two_7 ?_
  refine dz_kRi (va_runS (As := [_, _, _]) ⟨hx, hb, hml, hown, hts⟩ (c_X9_in l Z _ _ _ _ _ ) (va_cwS 3 hts gX9_two_X9_in rfl rfl rfl (by decide +kernel) ⟨Nat.le_of_ble_eq_true rfl, Nat.le_of_ble_eq_true rfl⟩) (dz_P.pre hE hS hG) rfl rfl hl.1 rfl (lv_room (Nat.le_of_ble_eq_true rfl)) dX9_two_8 ⟨Nat.le_of_ble_eq_true rfl, Nat.le_of_ble_eq_true rfl⟩) ?_
  refine lv_topi (fun v_1 ev_1 => ?_)
  obtain rfl : v_1 = 1 := ev_1.trans (dz_b1 (m_ix1 (by omega) hk))
  refine lv_istore (lv' := [(4, .int 1), (0, .ref aM), (1, .int (nI k)), (2, .int v2), (3, .int v3)]) hx hb dX9_two_11 hl (by decide) rfl (fun ls hl => ?_)
  refine lv_iload_n hx hb dX9_two_13 rfl (lv_at hl 3 rfl) ?_
  refine dz_kRi (va_runS (As := [_]) ⟨hx, hb, hml, hown, hts⟩ (c_X9_isOn l Z _ _ _ ) (va_cwS 1 hts gX9_two_X9_isOn rfl rfl rfl (by decide +kernel) ⟨Nat.le_of_ble_eq_true rfl, Nat.le_of_ble_eq_true rfl⟩) (dz_P.pre hE hS hG) rfl rfl hl.1 rfl (lv_room (Nat.le_of_ble_eq_true rfl)) dX9_two_14 ⟨Nat.le_of_ble_eq_true rfl, Nat.le_of_ble_eq_true rfl⟩) ?_
  refine lv_if_eq (tgt := 31) hx hb dX9_two_17 (by decide) (fun c_17 => ?_) (fun c_17 => ?_)
  · refine lv_iconst (v := 0) hx hb dX9_two_31 (by decide) ?_
    refine lv_istore (lv' := [(5, .int 0), (4, .int 1), (0, .ref aM), (1, .int (nI k)), (2, .int v2), (3, .int v3)]) hx hb dX9_two_32 hl (by decide) rfl (fun ls hl => ?_)
    refine lv_aload_n hx hb dX9_two_34 rfl (lv_at hl 2 rfl) ?_
    refine lv_iload hx hb dX9_two_35 (lv_at hl 1 rfl) ?_
    refine lv_if_ne (tgt := 44) hx hb dX9_two_37 (by decide) (fun c_37 => ?_) (fun c_37 => absurd c_37 (by decide))
    refine lv_iload hx hb dX9_two_44 (lv_at hl 0 rfl) ?_
    refine lv_if_ne (tgt := 53) hx hb dX9_two_46 (by decide) (fun c_46 => absurd (by decide) c_46) (fun c_46 => ?_)
    refine lv_iconst (v := 2) hx hb dX9_two_49 (by decide) ?_
    refine lv_goto (tgt := 77) hx hb dX9_two_50 (by decide) ?_
    refine dz_kMi (va_runV (As := [_]) ⟨hx, hb, hml, hown, hts⟩ (c_X9_refused l Z _ _ _ _ _ _ _ _ _ _ _ _ _ _ _ _ _ _ _ ha ho) (cwV 1 hts gX9_two_X9_refused rfl rfl rfl (by decide +kernel) ⟨Nat.le_of_ble_eq_true rfl, Nat.le_of_ble_eq_true rfl⟩) (dz_P.preV hE hS hG ho rfl ha) rfl rfl hl.1 rfl (lv_room (Nat.le_of_ble_eq_true rfl)) dX9_two_77 ⟨Nat.le_of_ble_eq_true rfl, Nat.le_of_ble_eq_true rfl⟩) hS (fun x_77_1 G_77_1 ad_77_1 H locs hp_77_1 hG hS => ?_)
    obtain ⟨fr_77_1, rfl, x9_77_1, g_77_1⟩ := hp_77_1
    obtain rfl : x_77_1 = 1 := x9_77_1.trans (by decide)
    refine lv_if_eq (tgt := 85) hx hb dX9_two_80 (by decide) (fun c_80 => absurd c_80 (by decide)) (fun c_80 => ?_)
    refine lv_iconst (v := 0) hx hb dX9_two_83 (by decide) ?_
    refine W.widen (k := 0) (n := 0) (by first | omega | decide) (by first | omega | decide) ?_
    refine W.iret hx hb hrt (fun t ht hW => dz_endM (f := rv_i) _ hE hS hG ?_ ht hW) (fun q h => hS.2.2 q h) dX9_two_84
    refine ⟨fun r9 n_0 => (fr_77_1 r9 n_0), rfl, ?_⟩
    exact ⟨rfl, g_77_1⟩
  · refine lv_iload_n hx hb dX9_two_20 rfl (lv_at hl 4 rfl) ?_
    refine dz_kRi (va_runS (As := [_]) ⟨hx, hb, hml, hown, hts⟩ (c_X9_isOn l Z _ _ _ ) (va_cwS 1 hts gX9_two_X9_isOn rfl rfl rfl (by decide +kernel) ⟨Nat.le_of_ble_eq_true rfl, Nat.le_of_ble_eq_true rfl⟩) (dz_P.pre hE hS hG) rfl rfl hl.1 rfl (lv_room (Nat.le_of_ble_eq_true rfl)) dX9_two_21 ⟨Nat.le_of_ble_eq_true rfl, Nat.le_of_ble_eq_true rfl⟩) ?_
    refine lv_if_eq (tgt := 31) hx hb dX9_two_24 (by decide) (fun c_24 => ?_) (fun c_24 => ?_)
    · refine lv_iconst (v := 0) hx hb dX9_two_31 (by decide) ?_
      refine lv_istore (lv' := [(5, .int 0), (4, .int 1), (0, .ref aM), (1, .int (nI k)), (2, .int v2), (3, .int v3)]) hx hb dX9_two_32 hl (by decide) rfl (fun ls hl => ?_)
      refine lv_aload_n hx hb dX9_two_34 rfl (lv_at hl 2 rfl) ?_
      refine lv_iload hx hb dX9_two_35 (lv_at hl 1 rfl) ?_
      refine lv_if_ne (tgt := 44) hx hb dX9_two_37 (by decide) (fun c_37 => ?_) (fun c_37 => absurd c_37 (by decide))
      refine lv_iload hx hb dX9_two_44 (lv_at hl 0 rfl) ?_
      refine lv_if_ne (tgt := 53) hx hb dX9_two_46 (by decide) (fun c_46 => absurd (by decide) c_46) (fun c_46 => ?_)
      refine lv_iconst (v := 2) hx hb dX9_two_49 (by decide) ?_
      refine lv_goto (tgt := 77) hx hb dX9_two_50 (by decide) ?_
      refine dz_kMi (va_runV (As := [_]) ⟨hx, hb, hml, hown, hts⟩ (c_X9_refused l Z _ _ _ _ _ _ _ _ _ _ _ _ _ _ _ _ _ _ _ ha ho) (cwV 1 hts gX9_two_X9_refused rfl rfl rfl (by decide +kernel) ⟨Nat.le_of_ble_eq_true rfl, Nat.le_of_ble_eq_true rfl⟩) (dz_P.preV hE hS hG ho rfl ha) rfl rfl hl.1 rfl (lv_room (Nat.le_of_ble_eq_true rfl)) dX9_two_77 ⟨Nat.le_of_ble_eq_true rfl, Nat.le_of_ble_eq_true rfl⟩) hS (fun x_77_2 G_77_2 ad_77_2 H locs hp_77_2 hG hS => ?_)
      obtain ⟨fr_77_2, rfl, x9_77_2, g_77_2⟩ := hp_77_2
      obtain rfl : x_77_2 = 1 := x9_77_2.trans (by decide)
      refine lv_if_eq (tgt := 85) hx hb dX9_two_80 (by decide) (fun c_80 => absurd c_80 (by decide)) (fun c_80 => ?_)
      refine lv_iconst (v := 0) hx hb dX9_two_83 (by decide) ?_
      refine W.widen (k := 0) (n := 0) (by first | omega | decide) (by first | omega | decide) ?_
      refine W.iret hx hb hrt (fun t ht hW => dz_endM (f := rv_i) _ hE hS hG ?_ ht hW) (fun q h => hS.2.2 q h) dX9_two_84
      refine ⟨fun r9 n_0 => (fr_77_2 r9 n_0), rfl, ?_⟩
      exact ⟨rfl, g_77_2⟩
    · exact absurd ⟨dz_by c_17, dz_by c_24⟩ hbad

set_option maxHeartbeats 4000000 in
set_option maxRecDepth 100000 in
theorem c_M_two_cant (l : Launch) (Z : dzG) (G : dzW) (ad : dzA) (aM nm ns nl nx nf my : Nat) (th dy td ssf sst cfr grw bkk iop : Int32) (f6 : Nat → Int32) (k : Nat) (v2 v3 : Int32) (ha : ad (39, 0) = aM) (ho : G (39, 0) = some (eO 10 [.int th, .int dy, .int (nI nm), .ref (ad (40, 3)), .ref (ad (40, 4)), .ref (ad (40, 5)), .ref (ad (40, 6)), .int td, .ref (ad (40, 8)), .ref (ad (40, 9)), .ref (ad (40, 10)), .int (nI ns), .ref (ad (40, 12)), .ref (ad (40, 13)), .ref (ad (40, 14)), .int (nI nl), .ref (ad (40, 16)), .ref (ad (40, 17)), .ref (ad (40, 18)), .int (nI nx), .ref (ad (40, 20)), .ref (ad (40, 21)), .ref (ad (40, 22)), .ref (ad (40, 23)), .ref (ad (40, 24)), .int ssf, .int sst, .int cfr, .int grw, .int (nI nf), .ref (ad (40, 30)), .ref (ad (40, 31)), .int bkk, .ref (ad (40, 33)), .ref (ad (40, 34)), .ref (ad (40, 35)), .int iop, .ref (ad (40, 37)), .int (nI my)])) (h6 : G (40, 6) = some (eI Z 6 f6)) (hk : k < nm) (hN : nm ≤ 6) (hf : ((((-10) : Int32) ≤ v2 ∧ v2 ≤ 10) ∧ ((-10) ≤ v3 ∧ v3 ≤ 10))) (hc : f6 k = 1 ∨ nm = 6) : dzWr l yX9_two wsX9_two 2 42 0 0 Z G ad [.ref aM, .int (nI k), .int v2, .int v3] rv_i (fun (x : Int32) G1 ad1 => (∀ r9 : dzR, r9 ≠ (39, 0) → G1 r9 = G r9 ∧ ad1 r9 = ad r9) ∧ ad = ad1 ∧ x = 0 ∧ G1 (39, 0) = some (eO 10 [.int 3, .int dy, .int (nI nm), .ref (ad (40, 3)), .ref (ad (40, 4)), .ref (ad (40, 5)), .ref (ad (40, 6)), .int td, .ref (ad (40, 8)), .ref (ad (40, 9)), .ref (ad (40, 10)), .int (nI ns), .ref (ad (40, 12)), .ref (ad (40, 13)), .ref (ad (40, 14)), .int (nI nl), .ref (ad (40, 16)), .ref (ad (40, 17)), .ref (ad (40, 18)), .int (nI nx), .ref (ad (40, 20)), .ref (ad (40, 21)), .ref (ad (40, 22)), .ref (ad (40, 23)), .ref (ad (40, 24)), .int ssf, .int sst, .int cfr, .int grw, .int (nI nf), .ref (ad (40, 30)), .ref (ad (40, 31)), .int bkk, .ref (ad (40, 33)), .ref (ad (40, 34)), .ref (ad (40, 35)), .int iop, .ref (ad (40, 37)), .int (nI my)])) := by
  refine Met.ofW (cc := cX9_two) (maxL := 7) (ret := (some .int)) (by decide) rfl ?_
  intro p e s m args below meth c s₁ B hml hv
  obtain ⟨rfl, hG, hE⟩ := hv
  have hx := B.exec
  have hb := B.bytes
  have hrt := B.returns
  have hts := atoms_spec (ws := wsX9_two) B.pre
  have hown : s.vm.findClass RX9 = some m.cls := findClass_of_methodNamed B.named
  have hlocks := B.notSynchronized
  have hS : va_S (dz_A Z) s.heap s.heap [] := va_S.rf
  have hl := lv_entry ([.ref aM, .int (nI k), .int v2, .int v3]) (n := 7) (Nat.le_of_ble_eq_true rfl)
  rw [lg_entry_eq]
  generalize (lg_sl ([.ref aM, .int (nI k), .int v2, .int v3]) ++ List.replicate (7 - (lg_sl ([.ref aM, .int (nI k), .int v2, .int v3])).length) Slot.unset).toArray = ls at hl ⊢
  have hl : lv_has ls 7 [(0, .ref aM), (1, .int (nI k)), (2, .int v2), (3, .int v3)] := hl
  refine lv_iload_n hx hb dX9_two_0 rfl (lv_at hl 1 rfl) ?_
  refine lv_iconst (v := 0) hx hb dX9_two_1 (by decide) ?_
  refine lv_aload_n hx hb dX9_two_2 rfl (lv_at hl 0 rfl) ?_
  refine dz_get hx hb hts (fun _ h => List.mem_cons_of_mem _ (List.mem_append_right _ h)) hown hE hG ha ho rfl 2 (by decide) (hts _ (List.mem_of_getElem? (i := 1) rfl)) (fun _ h9 => h9) rfl dX9_two_3 ?_
  refine lv_iconst (v := 1) hx hb dX9_two_6 (by decide) ?_
  refine lv_isub hx hb dX9_two_7 ?_
  refine dz_kRi (va_runS (As := [_, _, _]) ⟨hx, hb, hml, hown, hts⟩ (c_X9_in l Z _ _ _ _ _ ) (va_cwS 3 hts gX9_two_X9_in rfl rfl rfl (by decide +kernel) ⟨Nat.le_of_ble_eq_true rfl, Nat.le_of_ble_eq_true rfl⟩) (dz_P.pre hE hS hG) rfl rfl hl.1 rfl (lv_room (Nat.le_of_ble_eq_true rfl)) dX9_two_8 ⟨Nat.le_of_ble_eq_true rfl, Nat.le_of_ble_eq_true rfl⟩) ?_
  refine lv_topi (fun v_1 ev_1 => ?_)
  obtain rfl : v_1 = 1 := ev_1.trans (dz_b1 (m_ix1 (by omega) hk))
  refine lv_istore (lv' := [(4, .int 1), (0, .ref aM), (1, .int (nI k)), (2, .int v2), (3, .int v3)]) hx hb dX9_two_11 hl (by decide) rfl (fun ls hl => ?_)
  refine lv_iload_n hx hb dX9_two_13 rfl (lv_at hl 3 rfl) ?_
  refine dz_kRi (va_runS (As := [_]) ⟨hx, hb, hml, hown, hts⟩ (c_X9_isOn l Z _ _ _ ) (va_cwS 1 hts gX9_two_X9_isOn rfl rfl rfl (by decide +kernel) ⟨Nat.le_of_ble_eq_true rfl, Nat.le_of_ble_eq_true rfl⟩) (dz_P.pre hE hS hG) rfl rfl hl.1 rfl (lv_room (Nat.le_of_ble_eq_true rfl)) dX9_two_14 ⟨Nat.le_of_ble_eq_true rfl, Nat.le_of_ble_eq_true rfl⟩) ?_
  refine lv_topi (fun v_2 ev_2 => ?_)
  obtain rfl : v_2 = 1 := ev_2.trans (dz_b1 hf.1)
  refine lv_if_eq (tgt := 31) hx hb dX9_two_17 (by decide) (fun c_17 => absurd c_17 (by decide)) (fun c_17 => ?_)
  refine lv_iload_n hx hb dX9_two_20 rfl (lv_at hl 4 rfl) ?_
  refine dz_kRi (va_runS (As := [_]) ⟨hx, hb, hml, hown, hts⟩ (c_X9_isOn l Z _ _ _ ) (va_cwS 1 hts gX9_two_X9_isOn rfl rfl rfl (by decide +kernel) ⟨Nat.le_of_ble_eq_true rfl, Nat.le_of_ble_eq_true rfl⟩) (dz_P.pre hE hS hG) rfl rfl hl.1 rfl (lv_room (Nat.le_of_ble_eq_true rfl)) dX9_two_21 ⟨Nat.le_of_ble_eq_true rfl, Nat.le_of_ble_eq_true rfl⟩) ?_
  refine lv_topi (fun v_3 ev_3 => ?_)
  obtain rfl : v_3 = 1 := ev_3.trans (dz_b1 hf.2)
  refine lv_if_eq (tgt := 31) hx hb dX9_two_24 (by decide) (fun c_24 => absurd c_24 (by decide)) (fun c_24 => ?_)
  refine lv_iconst (v := 1) hx hb dX9_two_27 (by decide) ?_
  refine lv_goto (tgt := 32) hx hb dX9_two_28 (by decide) ?_
  refine lv_istore (lv' := [(5, .int 1), (4, .int 1), (0, .ref aM), (1, .int (nI k)), (2, .int v2), (3, .int v3)]) hx hb dX9_two_32 hl (by decide) rfl (fun ls hl => ?_)
  refine lv_aload_n hx hb dX9_two_34 rfl (lv_at hl 2 rfl) ?_
  refine lv_iload hx hb dX9_two_35 (lv_at hl 1 rfl) ?_
  refine lv_if_ne (tgt := 44) hx hb dX9_two_37 (by decide) (fun c_37 => ?_) (fun c_37 => absurd c_37 (by decide))
  refine lv_iload hx hb dX9_two_44 (lv_at hl 0 rfl) ?_
  refine lv_if_ne (tgt := 53) hx hb dX9_two_46 (by decide) (fun c_46 => ?_) (fun c_46 => absurd c_46 (by decide))
  refine lv_aload_n hx hb dX9_two_53 rfl (lv_at hl 2 rfl) ?_
  refine dz_get hx hb hts (fun _ h => List.mem_cons_of_mem _ (List.mem_append_right _ h)) hown hE hG ha ho rfl 6 (by decide) (hts _ (List.mem_of_getElem? (i := 2) rfl)) (fun _ h9 => h9) rfl dX9_two_54 ?_
  refine lv_iload_n hx hb dX9_two_57 rfl (lv_at hl 3 rfl) ?_
  refine dz_iald hx hb hE hG rfl h6 (vp_in_nI (by omega) (by decide)) dX9_two_58 ?_
  refine lv_topi (fun v_4 ev_4 => ?_)
  obtain rfl : v_4 = f6 k := ev_4.trans (by rw [nI_clamp (by omega)])
  refine lv_iconst (v := 1) hx hb dX9_two_59 (by decide) ?_
  refine lv_icmp_eq (tgt := 72) hx hb dX9_two_60 (by decide) (fun c_60 => ?_) (fun c_60 => ?_)
  · refine lv_iconst (v := 3) hx hb dX9_two_72 (by decide) ?_
    refine lv_goto (tgt := 77) hx hb dX9_two_73 (by decide) ?_
    refine dz_kMi (va_runV (As := [_]) ⟨hx, hb, hml, hown, hts⟩ (c_X9_refused l Z _ _ _ _ _ _ _ _ _ _ _ _ _ _ _ _ _ _ _ ha ho) (cwV 1 hts gX9_two_X9_refused rfl rfl rfl (by decide +kernel) ⟨Nat.le_of_ble_eq_true rfl, Nat.le_of_ble_eq_true rfl⟩) (dz_P.preV hE hS hG ho rfl ha) rfl rfl hl.1 rfl (lv_room (Nat.le_of_ble_eq_true rfl)) dX9_two_77 ⟨Nat.le_of_ble_eq_true rfl, Nat.le_of_ble_eq_true rfl⟩) hS (fun x_77_1 G_77_1 ad_77_1 H locs hp_77_1 hG hS => ?_)
    obtain ⟨fr_77_1, rfl, x9_77_1, g_77_1⟩ := hp_77_1
    obtain rfl : x_77_1 = 1 := x9_77_1.trans (by decide)
    refine lv_if_eq (tgt := 85) hx hb dX9_two_80 (by decide) (fun c_80 => absurd c_80 (by decide)) (fun c_80 => ?_)
    refine lv_iconst (v := 0) hx hb dX9_two_83 (by decide) ?_
    refine W.widen (k := 0) (n := 0) (by first | omega | decide) (by first | omega | decide) ?_
    refine W.iret hx hb hrt (fun t ht hW => dz_endM (f := rv_i) _ hE hS hG ?_ ht hW) (fun q h => hS.2.2 q h) dX9_two_84
    refine ⟨fun r9 n_0 => (fr_77_1 r9 n_0), rfl, ?_⟩
    exact ⟨rfl, g_77_1⟩
  · refine lv_aload_n hx hb dX9_two_63 rfl (lv_at hl 2 rfl) ?_
    refine dz_get hx hb hts (fun _ h => List.mem_cons_of_mem _ (List.mem_append_right _ h)) hown hE hG ha ho rfl 2 (by decide) (hts _ (List.mem_of_getElem? (i := 1) rfl)) (fun _ h9 => h9) rfl dX9_two_64 ?_
    refine lv_bipush (v := 6) hx hb dX9_two_67 (by decide) ?_
    refine lv_icmp_ne (tgt := 76) hx hb dX9_two_69 (by decide) (fun c_69 => absurd (by rw [hc.resolve_left c_60]; rfl) c_69) (fun c_69 => ?_)
    refine lv_iconst (v := 3) hx hb dX9_two_72 (by decide) ?_
    refine lv_goto (tgt := 77) hx hb dX9_two_73 (by decide) ?_
    refine dz_kMi (va_runV (As := [_]) ⟨hx, hb, hml, hown, hts⟩ (c_X9_refused l Z _ _ _ _ _ _ _ _ _ _ _ _ _ _ _ _ _ _ _ ha ho) (cwV 1 hts gX9_two_X9_refused rfl rfl rfl (by decide +kernel) ⟨Nat.le_of_ble_eq_true rfl, Nat.le_of_ble_eq_true rfl⟩) (dz_P.preV hE hS hG ho rfl ha) rfl rfl hl.1 rfl (lv_room (Nat.le_of_ble_eq_true rfl)) dX9_two_77 ⟨Nat.le_of_ble_eq_true rfl, Nat.le_of_ble_eq_true rfl⟩) hS (fun x_77_2 G_77_2 ad_77_2 H locs hp_77_2 hG hS => ?_)
    obtain ⟨fr_77_2, rfl, x9_77_2, g_77_2⟩ := hp_77_2
    obtain rfl : x_77_2 = 1 := x9_77_2.trans (by decide)
    refine lv_if_eq (tgt := 85) hx hb dX9_two_80 (by decide) (fun c_80 => absurd c_80 (by decide)) (fun c_80 => ?_)
    refine lv_iconst (v := 0) hx hb dX9_two_83 (by decide) ?_
    refine W.widen (k := 0) (n := 0) (by first | omega | decide) (by first | omega | decide) ?_
    refine W.iret hx hb hrt (fun t ht hW => dz_endM (f := rv_i) _ hE hS hG ?_ ht hW) (fun q h => hS.2.2 q h) dX9_two_84
    refine ⟨fun r9 n_0 => (fr_77_2 r9 n_0), rfl, ?_⟩
    exact ⟨rfl, g_77_2⟩

set_option maxHeartbeats 4000000 in
set_option maxRecDepth 100000 in
theorem c_M_two_ok (l : Launch) (Z : dzG) (G : dzW) (ad : dzA) (aM nm ns nl nx nf my : Nat) (th dy td ssf sst cfr grw bkk iop : Int32) (f3 f4 f5 f6 f8 f9 f10 : Nat → Int32) (k : Nat) (v2 v3 : Int32) (ha : ad (39, 0) = aM) (ho : G (39, 0) = some (eO 10 [.int th, .int dy, .int (nI nm), .ref (ad (40, 3)), .ref (ad (40, 4)), .ref (ad (40, 5)), .ref (ad (40, 6)), .int td, .ref (ad (40, 8)), .ref (ad (40, 9)), .ref (ad (40, 10)), .int (nI ns), .ref (ad (40, 12)), .ref (ad (40, 13)), .ref (ad (40, 14)), .int (nI nl), .ref (ad (40, 16)), .ref (ad (40, 17)), .ref (ad (40, 18)), .int (nI nx), .ref (ad (40, 20)), .ref (ad (40, 21)), .ref (ad (40, 22)), .ref (ad (40, 23)), .ref (ad (40, 24)), .int ssf, .int sst, .int cfr, .int grw, .int (nI nf), .ref (ad (40, 30)), .ref (ad (40, 31)), .int bkk, .ref (ad (40, 33)), .ref (ad (40, 34)), .ref (ad (40, 35)), .int iop, .ref (ad (40, 37)), .int (nI my)])) (h3 : G (40, 3) = some (eI Z 6 f3)) (h4 : G (40, 4) = some (eI Z 6 f4)) (h5 : G (40, 5) = some (eI Z 6 f5)) (h6 : G (40, 6) = some (eI Z 6 f6)) (h8 : G (40, 8) = some (eI Z 484 f8)) (h9 : G (40, 9) = some (eI Z 484 f9)) (h10 : G (40, 10) = some (eI Z 484 f10)) (hk : k < nm) (hN : nm ≤ 5) (hf : ((((-10) : Int32) ≤ v2 ∧ v2 ≤ 10) ∧ ((-10) ≤ v3 ∧ v3 ≤ 10))) (hc : ¬ f6 k = 1) (hok : m_ok (nm + 1) (upd f4 nm v2) (upd f5 nm v3)) : dzWr l yX9_two wsX9_two 5 118 0 0 Z G ad [.ref aM, .int (nI k), .int v2, .int v3] rv_i (fun (x : Int32) G1 ad1 => (∀ r9 : dzR, r9 ≠ (39, 0) → r9 ≠ (40, 3) → r9 ≠ (40, 4) → r9 ≠ (40, 5) → r9 ≠ (40, 6) → r9 ≠ (40, 8) → r9 ≠ (40, 9) → r9 ≠ (40, 10) → G1 r9 = G r9 ∧ ad1 r9 = ad r9) ∧ ad = ad1 ∧ x = nI nm ∧ G1 (39, 0) = some (eO 10 [.int 0, .int dy, .int (nI (nm + 1)), .ref (ad (40, 3)), .ref (ad (40, 4)), .ref (ad (40, 5)), .ref (ad (40, 6)), .int (td + 1), .ref (ad (40, 8)), .ref (ad (40, 9)), .ref (ad (40, 10)), .int (nI ns), .ref (ad (40, 12)), .ref (ad (40, 13)), .ref (ad (40, 14)), .int (nI nl), .ref (ad (40, 16)), .ref (ad (40, 17)), .ref (ad (40, 18)), .int (nI 0), .ref (ad (40, 20)), .ref (ad (40, 21)), .ref (ad (40, 22)), .ref (ad (40, 23)), .ref (ad (40, 24)), .int ssf, .int sst, .int cfr, .int grw, .int (nI 0), .ref (ad (40, 30)), .ref (ad (40, 31)), .int bkk, .ref (ad (40, 33)), .ref (ad (40, 34)), .ref (ad (40, 35)), .int iop, .ref (ad (40, 37)), .int (nI my)]) ∧ G1 (40, 3) = some (eI Z 6 (upd f3 nm (f3 k))) ∧ G1 (40, 4) = some (eI Z 6 (upd f4 nm v2)) ∧ G1 (40, 5) = some (eI Z 6 (upd f5 nm v3)) ∧ G1 (40, 6) = some (eI Z 6 (upd (upd f6 k (f6 k / 2)) nm (f6 k - f6 k / 2))) ∧ G1 (40, 8) = some (eI Z 484 (m_bc (nm + 1) (upd f3 nm (f3 k)) (upd f4 nm v2) (upd f5 nm v3) (upd (upd f6 k (f6 k / 2)) nm (f6 k - f6 k / 2)))) ∧ G1 (40, 9) = some (eI Z 484 (m_br (nm + 1) (upd f3 nm (f3 k)) (upd f4 nm v2) (upd f5 nm v3) (upd (upd f6 k (f6 k / 2)) nm (f6 k - f6 k / 2)))) ∧ G1 (40, 10) = some (eI Z 484 (m_tw (nm + 1) (upd f3 nm (f3 k)) (upd f4 nm v2) (upd f5 nm v3) (upd (upd f6 k (f6 k / 2)) nm (f6 k - f6 k / 2))))) := by
  refine Met.ofW (cc := cX9_two) (maxL := 7) (ret := (some .int)) (by decide) rfl ?_
  intro p e s m args below meth c s₁ B hml hv
  obtain ⟨rfl, hG, hE⟩ := hv
  have hx := B.exec
  have hb := B.bytes
  have hrt := B.returns
  have hts := atoms_spec (ws := wsX9_two) B.pre
  have hown : s.vm.findClass RX9 = some m.cls := findClass_of_methodNamed B.named
  have hlocks := B.notSynchronized
  have hS : va_S (dz_A Z) s.heap s.heap [] := va_S.rf
  have hl := lv_entry ([.ref aM, .int (nI k), .int v2, .int v3]) (n := 7) (Nat.le_of_ble_eq_true rfl)
  rw [lg_entry_eq]
  generalize (lg_sl ([.ref aM, .int (nI k), .int v2, .int v3]) ++ List.replicate (7 - (lg_sl ([.ref aM, .int (nI k), .int v2, .int v3])).length) Slot.unset).toArray = ls at hl ⊢
  have hl : lv_has ls 7 [(0, .ref aM), (1, .int (nI k)), (2, .int v2), (3, .int v3)] := hl
  refine lv_iload_n hx hb dX9_two_0 rfl (lv_at hl 1 rfl) ?_
  refine lv_iconst (v := 0) hx hb dX9_two_1 (by decide) ?_
  refine lv_aload_n hx hb dX9_two_2 rfl (lv_at hl 0 rfl) ?_
  refine dz_get hx hb hts (fun _ h => List.mem_cons_of_mem _ (List.mem_append_right _ h)) hown hE hG ha ho rfl 2 (by decide) (hts _ (List.mem_of_getElem? (i := 1) rfl)) (fun _ h9 => h9) rfl dX9_two_3 ?_
  refine lv_iconst (v := 1) hx hb dX9_two_6 (by decide) ?_
  refine lv_isub hx hb dX9_two_7 ?_
  refine dz_kRi (va_runS (As := [_, _, _]) ⟨hx, hb, hml, hown, hts⟩ (c_X9_in l Z _ _ _ _ _ ) (va_cwS 3 hts gX9_two_X9_in rfl rfl rfl (by decide +kernel) ⟨Nat.le_of_ble_eq_true rfl, Nat.le_of_ble_eq_true rfl⟩) (dz_P.pre hE hS hG) rfl rfl hl.1 rfl (lv_room (Nat.le_of_ble_eq_true rfl)) dX9_two_8 ⟨Nat.le_of_ble_eq_true rfl, Nat.le_of_ble_eq_true rfl⟩) ?_
  refine lv_topi (fun v_1 ev_1 => ?_)
  obtain rfl : v_1 = 1 := ev_1.trans (dz_b1 (m_ix1 (by omega) hk))
  refine lv_istore (lv' := [(4, .int 1), (0, .ref aM), (1, .int (nI k)), (2, .int v2), (3, .int v3)]) hx hb dX9_two_11 hl (by decide) rfl (fun ls hl => ?_)
  refine lv_iload_n hx hb dX9_two_13 rfl (lv_at hl 3 rfl) ?_
  refine dz_kRi (va_runS (As := [_]) ⟨hx, hb, hml, hown, hts⟩ (c_X9_isOn l Z _ _ _ ) (va_cwS 1 hts gX9_two_X9_isOn rfl rfl rfl (by decide +kernel) ⟨Nat.le_of_ble_eq_true rfl, Nat.le_of_ble_eq_true rfl⟩) (dz_P.pre hE hS hG) rfl rfl hl.1 rfl (lv_room (Nat.le_of_ble_eq_true rfl)) dX9_two_14 ⟨Nat.le_of_ble_eq_true rfl, Nat.le_of_ble_eq_true rfl⟩) ?_
  refine lv_topi (fun v_2 ev_2 => ?_)
  obtain rfl : v_2 = 1 := ev_2.trans (dz_b1 hf.1)
  refine lv_if_eq (tgt := 31) hx hb dX9_two_17 (by decide) (fun c_17 => absurd c_17 (by decide)) (fun c_17 => ?_)
  refine lv_iload_n hx hb dX9_two_20 rfl (lv_at hl 4 rfl) ?_
  refine dz_kRi (va_runS (As := [_]) ⟨hx, hb, hml, hown, hts⟩ (c_X9_isOn l Z _ _ _ ) (va_cwS 1 hts gX9_two_X9_isOn rfl rfl rfl (by decide +kernel) ⟨Nat.le_of_ble_eq_true rfl, Nat.le_of_ble_eq_true rfl⟩) (dz_P.pre hE hS hG) rfl rfl hl.1 rfl (lv_room (Nat.le_of_ble_eq_true rfl)) dX9_two_21 ⟨Nat.le_of_ble_eq_true rfl, Nat.le_of_ble_eq_true rfl⟩) ?_
  refine lv_topi (fun v_3 ev_3 => ?_)
  obtain rfl : v_3 = 1 := ev_3.trans (dz_b1 hf.2)
  refine lv_if_eq (tgt := 31) hx hb dX9_two_24 (by decide) (fun c_24 => absurd c_24 (by decide)) (fun c_24 => ?_)
  refine lv_iconst (v := 1) hx hb dX9_two_27 (by decide) ?_
  refine lv_goto (tgt := 32) hx hb dX9_two_28 (by decide) ?_
  refine lv_istore (lv' := [(5, .int 1), (4, .int 1), (0, .ref aM), (1, .int (nI k)), (2, .int v2), (3, .int v3)]) hx hb dX9_two_32 hl (by decide) rfl (fun ls hl => ?_)
  refine lv_aload_n hx hb dX9_two_34 rfl (lv_at hl 2 rfl) ?_
  refine lv_iload hx hb dX9_two_35 (lv_at hl 1 rfl) ?_
  refine lv_if_ne (tgt := 44) hx hb dX9_two_37 (by decide) (fun c_37 => ?_) (fun c_37 => absurd c_37 (by decide))
  refine lv_iload hx hb dX9_two_44 (lv_at hl 0 rfl) ?_
  refine lv_if_ne (tgt := 53) hx hb dX9_two_46 (by decide) (fun c_46 => ?_) (fun c_46 => absurd c_46 (by decide))
  refine lv_aload_n hx hb dX9_two_53 rfl (lv_at hl 2 rfl) ?_
  refine dz_get hx hb hts (fun _ h => List.mem_cons_of_mem _ (List.mem_append_right _ h)) hown hE hG ha ho rfl 6 (by decide) (hts _ (List.mem_of_getElem? (i := 2) rfl)) (fun _ h9 => h9) rfl dX9_two_54 ?_
  refine lv_iload_n hx hb dX9_two_57 rfl (lv_at hl 3 rfl) ?_
  refine dz_iald hx hb hE hG rfl h6 (vp_in_nI (by omega) (by decide)) dX9_two_58 ?_
  refine lv_topi (fun v_4 ev_4 => ?_)
  obtain rfl : v_4 = f6 k := ev_4.trans (by rw [nI_clamp (by omega)])
  refine lv_iconst (v := 1) hx hb dX9_two_59 (by decide) ?_
  refine lv_icmp_eq (tgt := 72) hx hb dX9_two_60 (by decide) (fun c_60 => absurd c_60 hc) (fun c_60 => ?_)
  refine lv_aload_n hx hb dX9_two_63 rfl (lv_at hl 2 rfl) ?_
  refine dz_get hx hb hts (fun _ h => List.mem_cons_of_mem _ (List.mem_append_right _ h)) hown hE hG ha ho rfl 2 (by decide) (hts _ (List.mem_of_getElem? (i := 1) rfl)) (fun _ h9 => h9) rfl dX9_two_64 ?_
  refine lv_bipush (v := 6) hx hb dX9_two_67 (by decide) ?_
  refine lv_icmp_ne (tgt := 76) hx hb dX9_two_69 (by decide) (fun c_69 => ?_) (fun c_69 => absurd c_69 (fun z => absurd ((nI_e (b := 6) (by omega) (by omega)).mp z) (by omega)))
  refine lv_iconst (v := 0) hx hb dX9_two_76 (by decide) ?_
  refine dz_kMi (va_runV (As := [_]) ⟨hx, hb, hml, hown, hts⟩ (c_X9_refused l Z _ _ _ _ _ _ _ _ _ _ _ _ _ _ _ _ _ _ _ ha ho) (cwV 1 hts gX9_two_X9_refused rfl rfl rfl (by decide +kernel) ⟨Nat.le_of_ble_eq_true rfl, Nat.le_of_ble_eq_true rfl⟩) (dz_P.preV hE hS hG ho rfl ha) rfl rfl hl.1 rfl (lv_room (Nat.le_of_ble_eq_true rfl)) dX9_two_77 ⟨Nat.le_of_ble_eq_true rfl, Nat.le_of_ble_eq_true rfl⟩) hS (fun x_77_1 G_77_1 ad_77_1 H locs hp_77_1 hG hS => ?_)
  obtain ⟨fr_77_1, rfl, x9_77_1, g_77_1⟩ := hp_77_1
  obtain rfl : x_77_1 = 0 := x9_77_1.trans (by decide)
  refine lv_if_eq (tgt := 85) hx hb dX9_two_80 (by decide) (fun c_80 => ?_) (fun c_80 => absurd (by decide) c_80)
  refine lv_aload_n hx hb dX9_two_85 rfl (lv_at hl 2 rfl) ?_
  refine dz_get hx hb hts (fun _ h => List.mem_cons_of_mem _ (List.mem_append_right _ h)) hown hE hG ha g_77_1 rfl 6 (by decide) (hts _ (List.mem_of_getElem? (i := 2) rfl)) (fun _ h9 => h9) rfl dX9_two_86 ?_
  refine lv_iload_n hx hb dX9_two_89 rfl (lv_at hl 3 rfl) ?_
  refine dz_iald hx hb hE hG ((fr_77_1 _ (dz_n rfl)).2.trans rfl) ((fr_77_1 _ (dz_n rfl)).1.trans h6) (vp_in_nI (by omega) (by decide)) dX9_two_90 ?_
  refine lv_topi (fun v_5 ev_5 => ?_)
  obtain rfl : v_5 = f6 k := ev_5.trans (by rw [nI_clamp (by omega)])
  refine lv_aload_n hx hb dX9_two_91 rfl (lv_at hl 2 rfl) ?_
  refine dz_get hx hb hts (fun _ h => List.mem_cons_of_mem _ (List.mem_append_right _ h)) hown hE hG ha g_77_1 rfl 6 (by decide) (hts _ (List.mem_of_getElem? (i := 2) rfl)) (fun _ h9 => h9) rfl dX9_two_92 ?_
  refine lv_iload_n hx hb dX9_two_95 rfl (lv_at hl 3 rfl) ?_
  refine dz_iald hx hb hE hG ((fr_77_1 _ (dz_n rfl)).2.trans rfl) ((fr_77_1 _ (dz_n rfl)).1.trans h6) (vp_in_nI (by omega) (by decide)) dX9_two_96 ?_
  refine lv_topi (fun v_6 ev_6 => ?_)
  obtain rfl : v_6 = f6 k := ev_6.trans (by rw [nI_clamp (by omega)])
  refine lv_iconst (v := 2) hx hb dX9_two_97 (by decide) ?_
  refine lv_idiv hx hb dX9_two_98 (by decide) ?_
  refine lv_isub hx hb dX9_two_99 ?_
  refine lv_topi (fun v_7 ev_7 => ?_)
  obtain rfl : v_7 = f6 k - f6 k / 2 := ev_7
  refine lv_istore (lv' := [(6, .int (f6 k - f6 k / 2)), (5, .int 1), (4, .int 1), (0, .ref aM), (1, .int (nI k)), (2, .int v2), (3, .int v3)]) hx hb dX9_two_100 hl (by decide) rfl (fun ls hl => ?_)
  refine lv_aload_n hx hb dX9_two_102 rfl (lv_at hl 3 rfl) ?_
  refine dz_get hx hb hts (fun _ h => List.mem_cons_of_mem _ (List.mem_append_right _ h)) hown hE hG ha g_77_1 rfl 6 (by decide) (hts _ (List.mem_of_getElem? (i := 2) rfl)) (fun _ h9 => h9) rfl dX9_two_103 ?_
  refine lv_iload_n hx hb dX9_two_106 rfl (lv_at hl 4 rfl) ?_
  refine lv_dup2_11 hx hb dX9_two_107 rfl rfl ?_
  refine dz_iald hx hb hE hG ((fr_77_1 _ (dz_n rfl)).2.trans rfl) ((fr_77_1 _ (dz_n rfl)).1.trans h6) (vp_in_nI (by omega) (by decide)) dX9_two_108 ?_
  refine lv_topi (fun v_8 ev_8 => ?_)
  obtain rfl : v_8 = f6 k := ev_8.trans (by rw [nI_clamp (by omega)])
  refine lv_iconst (v := 2) hx hb dX9_two_109 (by decide) ?_
  refine lv_idiv hx hb dX9_two_110 (by decide) ?_
  refine lv_topi (fun v_9 ev_9 => ?_)
  obtain rfl : v_9 = f6 k / 2 := ev_9
  refine dz_iast hx hb hE hG ((fr_77_1 _ (dz_n rfl)).2.trans rfl) hS ((fr_77_1 _ (dz_n rfl)).1.trans h6) (vp_in_nI (by omega) (by decide)) dX9_two_111 (fun H locs hG hS => ?_)
  rw [nI_clamp (show k < 2 ^ 31 by omega)] at hG
  obtain ⟨G_1, hG, w_1, o_1⟩ := dz_nm hG
  refine lv_aload_n hx hb dX9_two_112 rfl (lv_at hl 3 rfl) ?_
  refine lv_aload_n hx hb dX9_two_113 rfl (lv_at hl 3 rfl) ?_
  refine dz_get hx hb hts (fun _ h => List.mem_cons_of_mem _ (List.mem_append_right _ h)) hown hE hG ((o_1 _ (dz_n rfl)).2.trans ha) ((o_1 _ (dz_n rfl)).1.trans g_77_1) rfl 3 (by decide) (hts _ (List.mem_of_getElem? (i := 3) rfl)) (fun _ h9 => h9) rfl dX9_two_114 ?_
  refine lv_iload_n hx hb dX9_two_117 rfl (lv_at hl 4 rfl) ?_
  refine dz_iald hx hb hE hG ((o_1 _ (dz_n2 (by decide))).2.trans ((fr_77_1 _ (dz_n rfl)).2.trans rfl)) ((o_1 _ (dz_n2 (by decide))).1.trans ((fr_77_1 _ (dz_n rfl)).1.trans h3)) (vp_in_nI (by omega) (by decide)) dX9_two_118 ?_
  refine lv_topi (fun v_10 ev_10 => ?_)
  obtain rfl : v_10 = f3 k := ev_10.trans (by rw [nI_clamp (by omega)])
  refine lv_iload_n hx hb dX9_two_119 rfl (lv_at hl 5 rfl) ?_
  refine lv_iload_n hx hb dX9_two_120 rfl (lv_at hl 6 rfl) ?_
  refine lv_iload hx hb dX9_two_121 (lv_at hl 0 rfl) ?_
  refine dz_kMv (va_runV (As := [_, _, _, _]) ⟨hx, hb, hml, hown, hts⟩ (c_X9_put l Z _ _ _ _ _ _ _ _ _ _ _ _ _ _ _ _ _ _ _ _ _ _ _ _ _ _ _ _ _ ((o_1 _ (dz_n rfl)).2.trans ha) ((o_1 _ (dz_n rfl)).1.trans g_77_1) ((o_1 _ (dz_n2 (by decide))).1.trans ((fr_77_1 _ (dz_n rfl)).1.trans h3)) ((o_1 _ (dz_n2 (by decide))).1.trans ((fr_77_1 _ (dz_n rfl)).1.trans h4)) ((o_1 _ (dz_n2 (by decide))).1.trans ((fr_77_1 _ (dz_n rfl)).1.trans h5)) w_1 ((o_1 _ (dz_n2 (by decide))).1.trans ((fr_77_1 _ (dz_n rfl)).1.trans h8)) ((o_1 _ (dz_n2 (by decide))).1.trans ((fr_77_1 _ (dz_n rfl)).1.trans h9)) ((o_1 _ (dz_n2 (by decide))).1.trans ((fr_77_1 _ (dz_n rfl)).1.trans h10)) hN hok) (cwV 4 hts gX9_two_X9_put rfl rfl rfl (by decide +kernel) ⟨Nat.le_of_ble_eq_true rfl, Nat.le_of_ble_eq_true rfl⟩) (dz_P.preV hE hS hG ((o_1 _ (dz_n rfl)).1.trans g_77_1) rfl ((o_1 _ (dz_n rfl)).2.trans ha)) rfl rfl hl.1 rfl (lv_room (Nat.le_of_ble_eq_true rfl)) dX9_two_123 ⟨Nat.le_of_ble_eq_true rfl, Nat.le_of_ble_eq_true rfl⟩) hS (fun G_123_2 ad_123_2 H locs hp_123_2 hG hS => ?_)
  obtain ⟨fr_123_2, rfl, g_123_2⟩ := hp_123_2
  refine lv_aload_n hx hb dX9_two_126 rfl (lv_at hl 3 rfl) ?_
  refine dz_get hx hb hts (fun _ h => List.mem_cons_of_mem _ (List.mem_append_right _ h)) hown hE hG ((o_1 _ (dz_n rfl)).2.trans ha) g_123_2.1 rfl 2 (by decide) (hts _ (List.mem_of_getElem? (i := 1) rfl)) (fun _ h9 => h9) rfl dX9_two_127 ?_
  refine lv_iconst (v := 1) hx hb dX9_two_130 (by decide) ?_
  refine lv_isub hx hb dX9_two_131 ?_
  refine lv_topi (fun v_11 ev_11 => ?_)
  obtain rfl : v_11 = nI nm := ev_11.trans ((pk_sub (a := nm + 1) (b := 1) (by omega)).trans (by rw [Nat.add_sub_cancel]))
  refine W.widen (k := 0) (n := 0) (by first | omega | decide) (by first | omega | decide) ?_
  refine W.iret hx hb hrt (fun t ht hW => dz_endM (f := rv_i) _ hE hS hG ?_ ht hW) (fun q h => hS.2.2 q h) dX9_two_132
  refine ⟨fun r9 n_0 n_1 n_2 n_3 n_4 n_5 n_6 n_7 => (dz_tr (fr_123_2 r9 n_0 n_1 n_2 n_3 n_4 n_5 n_6 n_7) (dz_tr (o_1 r9 n_4) (fr_77_1 r9 n_0))), rfl, ?_⟩
  exact ⟨rfl, g_123_2.1, g_123_2.2.1, g_123_2.2.2.1, g_123_2.2.2.2.1, g_123_2.2.2.2.2.1, g_123_2.2.2.2.2.2.1, g_123_2.2.2.2.2.2.2.1, g_123_2.2.2.2.2.2.2.2⟩

set_option maxHeartbeats 4000000 in
set_option maxRecDepth 100000 in
theorem c_M_flare_no (l : Launch) (Z : dzG) (G : dzW) (ad : dzA) (aM nm ns nl nx nf my : Nat) (th dy td ssf sst cfr grw bkk iop : Int32) (v1 v2 : Int32) (ha : ad (39, 0) = aM) (ho : G (39, 0) = some (eO 10 [.int th, .int dy, .int (nI nm), .ref (ad (40, 3)), .ref (ad (40, 4)), .ref (ad (40, 5)), .ref (ad (40, 6)), .int td, .ref (ad (40, 8)), .ref (ad (40, 9)), .ref (ad (40, 10)), .int (nI ns), .ref (ad (40, 12)), .ref (ad (40, 13)), .ref (ad (40, 14)), .int (nI nl), .ref (ad (40, 16)), .ref (ad (40, 17)), .ref (ad (40, 18)), .int (nI nx), .ref (ad (40, 20)), .ref (ad (40, 21)), .ref (ad (40, 22)), .ref (ad (40, 23)), .ref (ad (40, 24)), .int ssf, .int sst, .int cfr, .int grw, .int (nI nf), .ref (ad (40, 30)), .ref (ad (40, 31)), .int bkk, .ref (ad (40, 33)), .ref (ad (40, 34)), .ref (ad (40, 35)), .int iop, .ref (ad (40, 37)), .int (nI my)])) (hv : v1 < 0 ∨ nI ns ≤ v1) (hns : ns ≤ 5) : dzWr l yX9_flare wsX9_flare 2 43 0 0 Z G ad [.ref aM, .int v1, .int v2] rv_i (fun (x : Int32) G1 ad1 => (∀ r9 : dzR, r9 ≠ (39, 0) → G1 r9 = G r9 ∧ ad1 r9 = ad r9) ∧ ad = ad1 ∧ x = 0 ∧ G1 (39, 0) = some (eO 10 [.int 1, .int dy, .int (nI nm), .ref (ad (40, 3)), .ref (ad (40, 4)), .ref (ad (40, 5)), .ref (ad (40, 6)), .int td, .ref (ad (40, 8)), .ref (ad (40, 9)), .ref (ad (40, 10)), .int (nI ns), .ref (ad (40, 12)), .ref (ad (40, 13)), .ref (ad (40, 14)), .int (nI nl), .ref (ad (40, 16)), .ref (ad (40, 17)), .ref (ad (40, 18)), .int (nI nx), .ref (ad (40, 20)), .ref (ad (40, 21)), .ref (ad (40, 22)), .ref (ad (40, 23)), .ref (ad (40, 24)), .int ssf, .int sst, .int cfr, .int grw, .int (nI nf), .ref (ad (40, 30)), .ref (ad (40, 31)), .int bkk, .ref (ad (40, 33)), .ref (ad (40, 34)), .ref (ad (40, 35)), .int iop, .ref (ad (40, 37)), .int (nI my)])) := by
  refine Met.ofW (cc := cX9_flare) (maxL := 3) (ret := (some .int)) (by decide) rfl ?_
  intro p e s m args below meth c s₁ B hml hv
  obtain ⟨rfl, hG, hE⟩ := hv
  have hx := B.exec
  have hb := B.bytes
  have hrt := B.returns
  have hts := atoms_spec (ws := wsX9_flare) B.pre
  have hown : s.vm.findClass RX9 = some m.cls := findClass_of_methodNamed B.named
  have hlocks := B.notSynchronized
  have hS : va_S (dz_A Z) s.heap s.heap [] := va_S.rf
  have hl := lv_entry ([.ref aM, .int v1, .int v2]) (n := 3) (Nat.le_of_ble_eq_true rfl)
  rw [lg_entry_eq]
  generalize (lg_sl ([.ref aM, .int v1, .int v2]) ++ List.replicate (3 - (lg_sl ([.ref aM, .int v1, .int v2])).length) Slot.unset).toArray = ls at hl ⊢
  have hl : lv_has ls 3 [(0, .ref aM), (1, .int v1), (2, .int v2)] := hl
  refine lv_aload_n hx hb dX9_flare_0 rfl (lv_at hl 0 rfl) ?_
  refine lv_aload_n hx hb dX9_flare_1 rfl (lv_at hl 0 rfl) ?_
  refine lv_iload_n hx hb dX9_flare_2 rfl (lv_at hl 1 rfl) ?_
  refine dz_kRi (va_runV (As := [_]) ⟨hx, hb, hml, hown, hts⟩ (c_X9_isSource l Z _ _ _ _ _ _ _ _ _ _ _ _ _ _ _ _ _ _ _ ha ho hns) (cwV 1 hts gX9_flare_X9_isSource rfl rfl rfl (by decide +kernel) ⟨Nat.le_of_ble_eq_true rfl, Nat.le_of_ble_eq_true rfl⟩) (dz_P.preV hE hS hG ho rfl ha) rfl rfl hl.1 rfl (lv_room (Nat.le_of_ble_eq_true rfl)) dX9_flare_3 ⟨Nat.le_of_ble_eq_true rfl, Nat.le_of_ble_eq_true rfl⟩) ?_
  refine lv_topi (fun v_1 ev_1 => ?_)
  obtain rfl : v_1 = 0 := ev_1.trans (dz_b0 (m_ix0 (by omega) hv))
  refine lv_if_ne (tgt := 13) hx hb dX9_flare_6 (by decide) (fun c_6 => absurd (by decide) c_6) (fun c_6 => ?_)
  refine lv_iconst (v := 1) hx hb dX9_flare_9 (by decide) ?_
  refine lv_goto (tgt := 42) hx hb dX9_flare_10 (by decide) ?_
  refine dz_kMi (va_runV (As := [_]) ⟨hx, hb, hml, hown, hts⟩ (c_X9_refused l Z _ _ _ _ _ _ _ _ _ _ _ _ _ _ _ _ _ _ _ ha ho) (cwV 1 hts gX9_flare_X9_refused rfl rfl rfl (by decide +kernel) ⟨Nat.le_of_ble_eq_true rfl, Nat.le_of_ble_eq_true rfl⟩) (dz_P.preV hE hS hG ho rfl ha) rfl rfl hl.1 rfl (lv_room (Nat.le_of_ble_eq_true rfl)) dX9_flare_42 ⟨Nat.le_of_ble_eq_true rfl, Nat.le_of_ble_eq_true rfl⟩) hS (fun x_42_1 G_42_1 ad_42_1 H locs hp_42_1 hG hS => ?_)
  obtain ⟨fr_42_1, rfl, x9_42_1, g_42_1⟩ := hp_42_1
  obtain rfl : x_42_1 = 1 := x9_42_1.trans (by decide)
  refine lv_if_eq (tgt := 50) hx hb dX9_flare_45 (by decide) (fun c_45 => absurd c_45 (by decide)) (fun c_45 => ?_)
  refine lv_iconst (v := 0) hx hb dX9_flare_48 (by decide) ?_
  refine W.widen (k := 0) (n := 0) (by first | omega | decide) (by first | omega | decide) ?_
  refine W.iret hx hb hrt (fun t ht hW => dz_endM (f := rv_i) _ hE hS hG ?_ ht hW) (fun q h => hS.2.2 q h) dX9_flare_49
  refine ⟨fun r9 n_0 => (fr_42_1 r9 n_0), rfl, ?_⟩
  exact ⟨rfl, g_42_1⟩

set_option maxHeartbeats 4000000 in
set_option maxRecDepth 100000 in
theorem c_M_flare_bad (l : Launch) (Z : dzG) (G : dzW) (ad : dzA) (aM nm ns nl nx nf my : Nat) (th dy td ssf sst cfr grw bkk iop : Int32) (sc : Nat) (v2 : Int32) (ha : ad (39, 0) = aM) (ho : G (39, 0) = some (eO 10 [.int th, .int dy, .int (nI nm), .ref (ad (40, 3)), .ref (ad (40, 4)), .ref (ad (40, 5)), .ref (ad (40, 6)), .int td, .ref (ad (40, 8)), .ref (ad (40, 9)), .ref (ad (40, 10)), .int (nI ns), .ref (ad (40, 12)), .ref (ad (40, 13)), .ref (ad (40, 14)), .int (nI nl), .ref (ad (40, 16)), .ref (ad (40, 17)), .ref (ad (40, 18)), .int (nI nx), .ref (ad (40, 20)), .ref (ad (40, 21)), .ref (ad (40, 22)), .ref (ad (40, 23)), .ref (ad (40, 24)), .int ssf, .int sst, .int cfr, .int grw, .int (nI nf), .ref (ad (40, 30)), .ref (ad (40, 31)), .int bkk, .ref (ad (40, 33)), .ref (ad (40, 34)), .ref (ad (40, 35)), .int iop, .ref (ad (40, 37)), .int (nI my)])) (hsc : sc < ns) (hns : ns ≤ 5) (hbad : ¬ (((-100) : Int32) ≤ v2 ∧ v2 ≤ 100)) : dzWr l yX9_flare wsX9_flare 2 43 0 0 Z G ad [.ref aM, .int (nI sc), .int v2] rv_i (fun (x : Int32) G1 ad1 => (∀ r9 : dzR, r9 ≠ (39, 0) → G1 r9 = G r9 ∧ ad1 r9 = ad r9) ∧ ad = ad1 ∧ x = 0 ∧ G1 (39, 0) = some (eO 10 [.int 2, .int dy, .int (nI nm), .ref (ad (40, 3)), .ref (ad (40, 4)), .ref (ad (40, 5)), .ref (ad (40, 6)), .int td, .ref (ad (40, 8)), .ref (ad (40, 9)), .ref (ad (40, 10)), .int (nI ns), .ref (ad (40, 12)), .ref (ad (40, 13)), .ref (ad (40, 14)), .int (nI nl), .ref (ad (40, 16)), .ref (ad (40, 17)), .ref (ad (40, 18)), .int (nI nx), .ref (ad (40, 20)), .ref (ad (40, 21)), .ref (ad (40, 22)), .ref (ad (40, 23)), .ref (ad (40, 24)), .int ssf, .int sst, .int cfr, .int grw, .int (nI nf), .ref (ad (40, 30)), .ref (ad (40, 31)), .int bkk, .ref (ad (40, 33)), .ref (ad (40, 34)), .ref (ad (40, 35)), .int iop, .ref (ad (40, 37)), .int (nI my)])) := by
  refine Met.ofW (cc := cX9_flare) (maxL := 3) (ret := (some .int)) (by decide) rfl ?_
  intro p e s m args below meth c s₁ B hml hv
  obtain ⟨rfl, hG, hE⟩ := hv
  have hx := B.exec
  have hb := B.bytes
  have hrt := B.returns
  have hts := atoms_spec (ws := wsX9_flare) B.pre
  have hown : s.vm.findClass RX9 = some m.cls := findClass_of_methodNamed B.named
  have hlocks := B.notSynchronized
  have hS : va_S (dz_A Z) s.heap s.heap [] := va_S.rf
  have hl := lv_entry ([.ref aM, .int (nI sc), .int v2]) (n := 3) (Nat.le_of_ble_eq_true rfl)
  rw [lg_entry_eq]
  generalize (lg_sl ([.ref aM, .int (nI sc), .int v2]) ++ List.replicate (3 - (lg_sl ([.ref aM, .int (nI sc), .int v2])).length) Slot.unset).toArray = ls at hl ⊢
  have hl : lv_has ls 3 [(0, .ref aM), (1, .int (nI sc)), (2, .int v2)] := hl
  refine lv_aload_n hx hb dX9_flare_0 rfl (lv_at hl 0 rfl) ?_
  refine lv_aload_n hx hb dX9_flare_1 rfl (lv_at hl 0 rfl) ?_
  refine lv_iload_n hx hb dX9_flare_2 rfl (lv_at hl 1 rfl) ?_
  refine dz_kRi (va_runV (As := [_]) ⟨hx, hb, hml, hown, hts⟩ (c_X9_isSource l Z _ _ _ _ _ _ _ _ _ _ _ _ _ _ _ _ _ _ _ ha ho hns) (cwV 1 hts gX9_flare_X9_isSource rfl rfl rfl (by decide +kernel) ⟨Nat.le_of_ble_eq_true rfl, Nat.le_of_ble_eq_true rfl⟩) (dz_P.preV hE hS hG ho rfl ha) rfl rfl hl.1 rfl (lv_room (Nat.le_of_ble_eq_true rfl)) dX9_flare_3 ⟨Nat.le_of_ble_eq_true rfl, Nat.le_of_ble_eq_true rfl⟩) ?_
  refine lv_topi (fun v_1 ev_1 => ?_)
  obtain rfl : v_1 = 1 := ev_1.trans (dz_b1 (m_ix1 (by omega) hsc))
  refine lv_if_ne (tgt := 13) hx hb dX9_flare_6 (by decide) (fun c_6 => ?_) (fun c_6 => absurd c_6 (by decide))
  refine lv_iload_n hx hb dX9_flare_13 rfl (lv_at hl 2 rfl) ?_
  refine lv_bipush (v := (-100)) hx hb dX9_flare_14 (by decide) ?_
  refine lv_bipush (v := 100) hx hb dX9_flare_16 (by decide) ?_
  refine dz_kRi (va_runS (As := [_, _, _]) ⟨hx, hb, hml, hown, hts⟩ (c_X9_in l Z _ _ _ _ _ ) (va_cwS 3 hts gX9_flare_X9_in rfl rfl rfl (by decide +kernel) ⟨Nat.le_of_ble_eq_true rfl, Nat.le_of_ble_eq_true rfl⟩) (dz_P.pre hE hS hG) rfl rfl hl.1 rfl (lv_room (Nat.le_of_ble_eq_true rfl)) dX9_flare_18 ⟨Nat.le_of_ble_eq_true rfl, Nat.le_of_ble_eq_true rfl⟩) ?_
  refine lv_topi (fun v_2 ev_2 => ?_)
  obtain rfl : v_2 = 0 := ev_2.trans (dz_b0 hbad)
  refine lv_if_ne (tgt := 28) hx hb dX9_flare_21 (by decide) (fun c_21 => absurd (by decide) c_21) (fun c_21 => ?_)
  refine lv_iconst (v := 2) hx hb dX9_flare_24 (by decide) ?_
  refine lv_goto (tgt := 42) hx hb dX9_flare_25 (by decide) ?_
  refine dz_kMi (va_runV (As := [_]) ⟨hx, hb, hml, hown, hts⟩ (c_X9_refused l Z _ _ _ _ _ _ _ _ _ _ _ _ _ _ _ _ _ _ _ ha ho) (cwV 1 hts gX9_flare_X9_refused rfl rfl rfl (by decide +kernel) ⟨Nat.le_of_ble_eq_true rfl, Nat.le_of_ble_eq_true rfl⟩) (dz_P.preV hE hS hG ho rfl ha) rfl rfl hl.1 rfl (lv_room (Nat.le_of_ble_eq_true rfl)) dX9_flare_42 ⟨Nat.le_of_ble_eq_true rfl, Nat.le_of_ble_eq_true rfl⟩) hS (fun x_42_1 G_42_1 ad_42_1 H locs hp_42_1 hG hS => ?_)
  obtain ⟨fr_42_1, rfl, x9_42_1, g_42_1⟩ := hp_42_1
  obtain rfl : x_42_1 = 1 := x9_42_1.trans (by decide)
  refine lv_if_eq (tgt := 50) hx hb dX9_flare_45 (by decide) (fun c_45 => absurd c_45 (by decide)) (fun c_45 => ?_)
  refine lv_iconst (v := 0) hx hb dX9_flare_48 (by decide) ?_
  refine W.widen (k := 0) (n := 0) (by first | omega | decide) (by first | omega | decide) ?_
  refine W.iret hx hb hrt (fun t ht hW => dz_endM (f := rv_i) _ hE hS hG ?_ ht hW) (fun q h => hS.2.2 q h) dX9_flare_49
  refine ⟨fun r9 n_0 => (fr_42_1 r9 n_0), rfl, ?_⟩
  exact ⟨rfl, g_42_1⟩

set_option maxHeartbeats 4000000 in
set_option maxRecDepth 100000 in
theorem c_M_flare_full (l : Launch) (Z : dzG) (G : dzW) (ad : dzA) (aM nm ns nl nx nf my : Nat) (th dy td ssf sst cfr grw bkk iop : Int32) (sc : Nat) (v2 : Int32) (ha : ad (39, 0) = aM) (ho : G (39, 0) = some (eO 10 [.int th, .int dy, .int (nI nm), .ref (ad (40, 3)), .ref (ad (40, 4)), .ref (ad (40, 5)), .ref (ad (40, 6)), .int td, .ref (ad (40, 8)), .ref (ad (40, 9)), .ref (ad (40, 10)), .int (nI ns), .ref (ad (40, 12)), .ref (ad (40, 13)), .ref (ad (40, 14)), .int (nI nl), .ref (ad (40, 16)), .ref (ad (40, 17)), .ref (ad (40, 18)), .int (nI nx), .ref (ad (40, 20)), .ref (ad (40, 21)), .ref (ad (40, 22)), .ref (ad (40, 23)), .ref (ad (40, 24)), .int ssf, .int sst, .int cfr, .int grw, .int (nI nf), .ref (ad (40, 30)), .ref (ad (40, 31)), .int bkk, .ref (ad (40, 33)), .ref (ad (40, 34)), .ref (ad (40, 35)), .int iop, .ref (ad (40, 37)), .int (nI my)])) (hsc : sc < ns) (hns : ns ≤ 5) (hg : (((-100) : Int32) ≤ v2 ∧ v2 ≤ 100)) (hnl : nl = 40) : dzWr l yX9_flare wsX9_flare 2 43 0 0 Z G ad [.ref aM, .int (nI sc), .int v2] rv_i (fun (x : Int32) G1 ad1 => (∀ r9 : dzR, r9 ≠ (39, 0) → G1 r9 = G r9 ∧ ad1 r9 = ad r9) ∧ ad = ad1 ∧ x = 0 ∧ G1 (39, 0) = some (eO 10 [.int 3, .int dy, .int (nI nm), .ref (ad (40, 3)), .ref (ad (40, 4)), .ref (ad (40, 5)), .ref (ad (40, 6)), .int td, .ref (ad (40, 8)), .ref (ad (40, 9)), .ref (ad (40, 10)), .int (nI ns), .ref (ad (40, 12)), .ref (ad (40, 13)), .ref (ad (40, 14)), .int (nI nl), .ref (ad (40, 16)), .ref (ad (40, 17)), .ref (ad (40, 18)), .int (nI nx), .ref (ad (40, 20)), .ref (ad (40, 21)), .ref (ad (40, 22)), .ref (ad (40, 23)), .ref (ad (40, 24)), .int ssf, .int sst, .int cfr, .int grw, .int (nI nf), .ref (ad (40, 30)), .ref (ad (40, 31)), .int bkk, .ref (ad (40, 33)), .ref (ad (40, 34)), .ref (ad (40, 35)), .int iop, .ref (ad (40, 37)), .int (nI my)])) := by
  refine Met.ofW (cc := cX9_flare) (maxL := 3) (ret := (some .int)) (by decide) rfl ?_
  intro p e s m args below meth c s₁ B hml hv
  obtain ⟨rfl, hG, hE⟩ := hv
  have hx := B.exec
  have hb := B.bytes
  have hrt := B.returns
  have hts := atoms_spec (ws := wsX9_flare) B.pre
  have hown : s.vm.findClass RX9 = some m.cls := findClass_of_methodNamed B.named
  have hlocks := B.notSynchronized
  have hS : va_S (dz_A Z) s.heap s.heap [] := va_S.rf
  have hl := lv_entry ([.ref aM, .int (nI sc), .int v2]) (n := 3) (Nat.le_of_ble_eq_true rfl)
  rw [lg_entry_eq]
  generalize (lg_sl ([.ref aM, .int (nI sc), .int v2]) ++ List.replicate (3 - (lg_sl ([.ref aM, .int (nI sc), .int v2])).length) Slot.unset).toArray = ls at hl ⊢
  have hl : lv_has ls 3 [(0, .ref aM), (1, .int (nI sc)), (2, .int v2)] := hl
  refine lv_aload_n hx hb dX9_flare_0 rfl (lv_at hl 0 rfl) ?_
  refine lv_aload_n hx hb dX9_flare_1 rfl (lv_at hl 0 rfl) ?_
  refine lv_iload_n hx hb dX9_flare_2 rfl (lv_at hl 1 rfl) ?_
  refine dz_kRi (va_runV (As := [_]) ⟨hx, hb, hml, hown, hts⟩ (c_X9_isSource l Z _ _ _ _ _ _ _ _ _ _ _ _ _ _ _ _ _ _ _ ha ho hns) (cwV 1 hts gX9_flare_X9_isSource rfl rfl rfl (by decide +kernel) ⟨Nat.le_of_ble_eq_true rfl, Nat.le_of_ble_eq_true rfl⟩) (dz_P.preV hE hS hG ho rfl ha) rfl rfl hl.1 rfl (lv_room (Nat.le_of_ble_eq_true rfl)) dX9_flare_3 ⟨Nat.le_of_ble_eq_true rfl, Nat.le_of_ble_eq_true rfl⟩) ?_
  refine lv_topi (fun v_1 ev_1 => ?_)
  obtain rfl : v_1 = 1 := ev_1.trans (dz_b1 (m_ix1 (by omega) hsc))
  refine lv_if_ne (tgt := 13) hx hb dX9_flare_6 (by decide) (fun c_6 => ?_) (fun c_6 => absurd c_6 (by decide))
  refine lv_iload_n hx hb dX9_flare_13 rfl (lv_at hl 2 rfl) ?_
  refine lv_bipush (v := (-100)) hx hb dX9_flare_14 (by decide) ?_
  refine lv_bipush (v := 100) hx hb dX9_flare_16 (by decide) ?_
  refine dz_kRi (va_runS (As := [_, _, _]) ⟨hx, hb, hml, hown, hts⟩ (c_X9_in l Z _ _ _ _ _ ) (va_cwS 3 hts gX9_flare_X9_in rfl rfl rfl (by decide +kernel) ⟨Nat.le_of_ble_eq_true rfl, Nat.le_of_ble_eq_true rfl⟩) (dz_P.pre hE hS hG) rfl rfl hl.1 rfl (lv_room (Nat.le_of_ble_eq_true rfl)) dX9_flare_18 ⟨Nat.le_of_ble_eq_true rfl, Nat.le_of_ble_eq_true rfl⟩) ?_
  refine lv_topi (fun v_2 ev_2 => ?_)
  obtain rfl : v_2 = 1 := ev_2.trans (dz_b1 hg)
  refine lv_if_ne (tgt := 28) hx hb dX9_flare_21 (by decide) (fun c_21 => ?_) (fun c_21 => absurd c_21 (by decide))
  refine lv_aload_n hx hb dX9_flare_28 rfl (lv_at hl 0 rfl) ?_
  refine dz_get hx hb hts (fun _ h => List.mem_cons_of_mem _ (List.mem_append_right _ h)) hown hE hG ha ho rfl 15 (by decide) (hts _ (List.mem_of_getElem? (i := 1) rfl)) (fun _ h9 => h9) rfl dX9_flare_29 ?_
  refine lv_bipush (v := 40) hx hb dX9_flare_32 (by decide) ?_
  refine lv_icmp_ne (tgt := 41) hx hb dX9_flare_34 (by decide) (fun c_34 => absurd (by rw [hnl]; rfl) c_34) (fun c_34 => ?_)
  refine lv_iconst (v := 3) hx hb dX9_flare_37 (by decide) ?_
  refine lv_goto (tgt := 42) hx hb dX9_flare_38 (by decide) ?_
  refine dz_kMi (va_runV (As := [_]) ⟨hx, hb, hml, hown, hts⟩ (c_X9_refused l Z _ _ _ _ _ _ _ _ _ _ _ _ _ _ _ _ _ _ _ ha ho) (cwV 1 hts gX9_flare_X9_refused rfl rfl rfl (by decide +kernel) ⟨Nat.le_of_ble_eq_true rfl, Nat.le_of_ble_eq_true rfl⟩) (dz_P.preV hE hS hG ho rfl ha) rfl rfl hl.1 rfl (lv_room (Nat.le_of_ble_eq_true rfl)) dX9_flare_42 ⟨Nat.le_of_ble_eq_true rfl, Nat.le_of_ble_eq_true rfl⟩) hS (fun x_42_1 G_42_1 ad_42_1 H locs hp_42_1 hG hS => ?_)
  obtain ⟨fr_42_1, rfl, x9_42_1, g_42_1⟩ := hp_42_1
  obtain rfl : x_42_1 = 1 := x9_42_1.trans (by decide)
  refine lv_if_eq (tgt := 50) hx hb dX9_flare_45 (by decide) (fun c_45 => absurd c_45 (by decide)) (fun c_45 => ?_)
  refine lv_iconst (v := 0) hx hb dX9_flare_48 (by decide) ?_
  refine W.widen (k := 0) (n := 0) (by first | omega | decide) (by first | omega | decide) ?_
  refine W.iret hx hb hrt (fun t ht hW => dz_endM (f := rv_i) _ hE hS hG ?_ ht hW) (fun q h => hS.2.2 q h) dX9_flare_49
  refine ⟨fun r9 n_0 => (fr_42_1 r9 n_0), rfl, ?_⟩
  exact ⟨rfl, g_42_1⟩

set_option maxHeartbeats 4000000 in
set_option maxRecDepth 100000 in
theorem c_M_flare_ok (l : Launch) (Z : dzG) (G : dzW) (ad : dzA) (aM nm ns nl nx nf my : Nat) (th dy td ssf sst cfr grw bkk iop : Int32) (f14 f16 f17 f18 : Nat → Int32) (sc : Nat) (v2 : Int32) (ha : ad (39, 0) = aM) (ho : G (39, 0) = some (eO 10 [.int th, .int dy, .int (nI nm), .ref (ad (40, 3)), .ref (ad (40, 4)), .ref (ad (40, 5)), .ref (ad (40, 6)), .int td, .ref (ad (40, 8)), .ref (ad (40, 9)), .ref (ad (40, 10)), .int (nI ns), .ref (ad (40, 12)), .ref (ad (40, 13)), .ref (ad (40, 14)), .int (nI nl), .ref (ad (40, 16)), .ref (ad (40, 17)), .ref (ad (40, 18)), .int (nI nx), .ref (ad (40, 20)), .ref (ad (40, 21)), .ref (ad (40, 22)), .ref (ad (40, 23)), .ref (ad (40, 24)), .int ssf, .int sst, .int cfr, .int grw, .int (nI nf), .ref (ad (40, 30)), .ref (ad (40, 31)), .int bkk, .ref (ad (40, 33)), .ref (ad (40, 34)), .ref (ad (40, 35)), .int iop, .ref (ad (40, 37)), .int (nI my)])) (h14 : G (40, 14) = some (eI Z 5 f14)) (h16 : G (40, 16) = some (eI Z 40 f16)) (h17 : G (40, 17) = some (eI Z 40 f17)) (h18 : G (40, 18) = some (eI Z 40 f18)) (hsc : sc < ns) (hns : ns ≤ 5) (hg : (((-100) : Int32) ≤ v2 ∧ v2 ≤ 100)) (hnl : nl ≤ 39) : dzWr l yX9_flare wsX9_flare 2 43 0 0 Z G ad [.ref aM, .int (nI sc), .int v2] rv_i (fun (x : Int32) G1 ad1 => (∀ r9 : dzR, r9 ≠ (39, 0) → r9 ≠ (40, 16) → r9 ≠ (40, 17) → r9 ≠ (40, 18) → G1 r9 = G r9 ∧ ad1 r9 = ad r9) ∧ ad = ad1 ∧ x = (m_pos (m_mfl (f14 sc) (upd f16 nl (nI sc)) (upd f17 nl dy) (upd f18 nl v2) (nI sc) dy (nl + 1))) ∧ G1 (39, 0) = some (eO 10 [.int 0, .int dy, .int (nI nm), .ref (ad (40, 3)), .ref (ad (40, 4)), .ref (ad (40, 5)), .ref (ad (40, 6)), .int td, .ref (ad (40, 8)), .ref (ad (40, 9)), .ref (ad (40, 10)), .int (nI ns), .ref (ad (40, 12)), .ref (ad (40, 13)), .ref (ad (40, 14)), .int (nI (nl + 1)), .ref (ad (40, 16)), .ref (ad (40, 17)), .ref (ad (40, 18)), .int (nI nx), .ref (ad (40, 20)), .ref (ad (40, 21)), .ref (ad (40, 22)), .ref (ad (40, 23)), .ref (ad (40, 24)), .int ssf, .int sst, .int cfr, .int grw, .int (nI nf), .ref (ad (40, 30)), .ref (ad (40, 31)), .int bkk, .ref (ad (40, 33)), .ref (ad (40, 34)), .ref (ad (40, 35)), .int iop, .ref (ad (40, 37)), .int (nI my)]) ∧ G1 (40, 16) = some (eI Z 40 (upd f16 nl (nI sc))) ∧ G1 (40, 17) = some (eI Z 40 (upd f17 nl dy)) ∧ G1 (40, 18) = some (eI Z 40 (upd f18 nl v2))) := by
  refine Met.ofW (cc := cX9_flare) (maxL := 3) (ret := (some .int)) (by decide) rfl ?_
  intro p e s m args below meth c s₁ B hml hv
  obtain ⟨rfl, hG, hE⟩ := hv
  have hx := B.exec
  have hb := B.bytes
  have hrt := B.returns
  have hts := atoms_spec (ws := wsX9_flare) B.pre
  have hown : s.vm.findClass RX9 = some m.cls := findClass_of_methodNamed B.named
  have hlocks := B.notSynchronized
  have hS : va_S (dz_A Z) s.heap s.heap [] := va_S.rf
  have hl := lv_entry ([.ref aM, .int (nI sc), .int v2]) (n := 3) (Nat.le_of_ble_eq_true rfl)
  rw [lg_entry_eq]
  generalize (lg_sl ([.ref aM, .int (nI sc), .int v2]) ++ List.replicate (3 - (lg_sl ([.ref aM, .int (nI sc), .int v2])).length) Slot.unset).toArray = ls at hl ⊢
  have hl : lv_has ls 3 [(0, .ref aM), (1, .int (nI sc)), (2, .int v2)] := hl
  refine lv_aload_n hx hb dX9_flare_0 rfl (lv_at hl 0 rfl) ?_
  refine lv_aload_n hx hb dX9_flare_1 rfl (lv_at hl 0 rfl) ?_
  refine lv_iload_n hx hb dX9_flare_2 rfl (lv_at hl 1 rfl) ?_
  refine dz_kRi (va_runV (As := [_]) ⟨hx, hb, hml, hown, hts⟩ (c_X9_isSource l Z _ _ _ _ _ _ _ _ _ _ _ _ _ _ _ _ _ _ _ ha ho hns) (cwV 1 hts gX9_flare_X9_isSource rfl rfl rfl (by decide +kernel) ⟨Nat.le_of_ble_eq_true rfl, Nat.le_of_ble_eq_true rfl⟩) (dz_P.preV hE hS hG ho rfl ha) rfl rfl hl.1 rfl (lv_room (Nat.le_of_ble_eq_true rfl)) dX9_flare_3 ⟨Nat.le_of_ble_eq_true rfl, Nat.le_of_ble_eq_true rfl⟩) ?_
  refine lv_topi (fun v_1 ev_1 => ?_)
  obtain rfl : v_1 = 1 := ev_1.trans (dz_b1 (m_ix1 (by omega) hsc))
  refine lv_if_ne (tgt := 13) hx hb dX9_flare_6 (by decide) (fun c_6 => ?_) (fun c_6 => absurd c_6 (by decide))
  refine lv_iload_n hx hb dX9_flare_13 rfl (lv_at hl 2 rfl) ?_
  refine lv_bipush (v := (-100)) hx hb dX9_flare_14 (by decide) ?_
  refine lv_bipush (v := 100) hx hb dX9_flare_16 (by decide) ?_
  refine dz_kRi (va_runS (As := [_, _, _]) ⟨hx, hb, hml, hown, hts⟩ (c_X9_in l Z _ _ _ _ _ ) (va_cwS 3 hts gX9_flare_X9_in rfl rfl rfl (by decide +kernel) ⟨Nat.le_of_ble_eq_true rfl, Nat.le_of_ble_eq_true rfl⟩) (dz_P.pre hE hS hG) rfl rfl hl.1 rfl (lv_room (Nat.le_of_ble_eq_true rfl)) dX9_flare_18 ⟨Nat.le_of_ble_eq_true rfl, Nat.le_of_ble_eq_true rfl⟩) ?_
  refine lv_topi (fun v_2 ev_2 => ?_)
  obtain rfl : v_2 = 1 := ev_2.trans (dz_b1 hg)
  refine lv_if_ne (tgt := 28) hx hb dX9_flare_21 (by decide) (fun c_21 => ?_) (fun c_21 => absurd c_21 (by decide))
  refine lv_aload_n hx hb dX9_flare_28 rfl (lv_at hl 0 rfl) ?_
  refine dz_get hx hb hts (fun _ h => List.mem_cons_of_mem _ (List.mem_append_right _ h)) hown hE hG ha ho rfl 15 (by decide) (hts _ (List.mem_of_getElem? (i := 1) rfl)) (fun _ h9 => h9) rfl dX9_flare_29 ?_
  refine lv_bipush (v := 40) hx hb dX9_flare_32 (by decide) ?_
  refine lv_icmp_ne (tgt := 41) hx hb dX9_flare_34 (by decide) (fun c_34 => ?_) (fun c_34 => absurd c_34 (fun z => absurd ((nI_e (b := 40) (by omega) (by omega)).mp z) (by omega)))
  refine lv_iconst (v := 0) hx hb dX9_flare_41 (by decide) ?_
  refine dz_kMi (va_runV (As := [_]) ⟨hx, hb, hml, hown, hts⟩ (c_X9_refused l Z _ _ _ _ _ _ _ _ _ _ _ _ _ _ _ _ _ _ _ ha ho) (cwV 1 hts gX9_flare_X9_refused rfl rfl rfl (by decide +kernel) ⟨Nat.le_of_ble_eq_true rfl, Nat.le_of_ble_eq_true rfl⟩) (dz_P.preV hE hS hG ho rfl ha) rfl rfl hl.1 rfl (lv_room (Nat.le_of_ble_eq_true rfl)) dX9_flare_42 ⟨Nat.le_of_ble_eq_true rfl, Nat.le_of_ble_eq_true rfl⟩) hS (fun x_42_1 G_42_1 ad_42_1 H locs hp_42_1 hG hS => ?_)
  obtain ⟨fr_42_1, rfl, x9_42_1, g_42_1⟩ := hp_42_1
  obtain rfl : x_42_1 = 0 := x9_42_1.trans (by decide)
  refine lv_if_eq (tgt := 50) hx hb dX9_flare_45 (by decide) (fun c_45 => ?_) (fun c_45 => absurd (by decide) c_45)
  refine lv_aload_n hx hb dX9_flare_50 rfl (lv_at hl 0 rfl) ?_
  refine dz_get hx hb hts (fun _ h => List.mem_cons_of_mem _ (List.mem_append_right _ h)) hown hE hG ha g_42_1 rfl 16 (by decide) (hts _ (List.mem_of_getElem? (i := 2) rfl)) (fun _ h9 => h9) rfl dX9_flare_51 ?_
  refine lv_aload_n hx hb dX9_flare_54 rfl (lv_at hl 0 rfl) ?_
  refine dz_get hx hb hts (fun _ h => List.mem_cons_of_mem _ (List.mem_append_right _ h)) hown hE hG ha g_42_1 rfl 15 (by decide) (hts _ (List.mem_of_getElem? (i := 1) rfl)) (fun _ h9 => h9) rfl dX9_flare_55 ?_
  refine lv_iload_n hx hb dX9_flare_58 rfl (lv_at hl 1 rfl) ?_
  refine dz_iast hx hb hE hG ((fr_42_1 _ (dz_n rfl)).2.trans rfl) hS ((fr_42_1 _ (dz_n rfl)).1.trans h16) (vp_in_nI (by omega) (by decide)) dX9_flare_59 (fun H locs hG hS => ?_)
  rw [nI_clamp (show nl < 2 ^ 31 by omega)] at hG
  obtain ⟨G_1, hG, w_1, o_1⟩ := dz_nm hG
  refine lv_aload_n hx hb dX9_flare_60 rfl (lv_at hl 0 rfl) ?_
  refine dz_get hx hb hts (fun _ h => List.mem_cons_of_mem _ (List.mem_append_right _ h)) hown hE hG ((o_1 _ (dz_n rfl)).2.trans ha) ((o_1 _ (dz_n rfl)).1.trans g_42_1) rfl 17 (by decide) (hts _ (List.mem_of_getElem? (i := 3) rfl)) (fun _ h9 => h9) rfl dX9_flare_61 ?_
  refine lv_aload_n hx hb dX9_flare_64 rfl (lv_at hl 0 rfl) ?_
  refine dz_get hx hb hts (fun _ h => List.mem_cons_of_mem _ (List.mem_append_right _ h)) hown hE hG ((o_1 _ (dz_n rfl)).2.trans ha) ((o_1 _ (dz_n rfl)).1.trans g_42_1) rfl 15 (by decide) (hts _ (List.mem_of_getElem? (i := 1) rfl)) (fun _ h9 => h9) rfl dX9_flare_65 ?_
  refine lv_aload_n hx hb dX9_flare_68 rfl (lv_at hl 0 rfl) ?_
  refine dz_get hx hb hts (fun _ h => List.mem_cons_of_mem _ (List.mem_append_right _ h)) hown hE hG ((o_1 _ (dz_n rfl)).2.trans ha) ((o_1 _ (dz_n rfl)).1.trans g_42_1) rfl 1 (by decide) (hts _ (List.mem_of_getElem? (i := 4) rfl)) (fun _ h9 => h9) rfl dX9_flare_69 ?_
  refine dz_iast hx hb hE hG ((o_1 _ (dz_n2 (by decide))).2.trans ((fr_42_1 _ (dz_n rfl)).2.trans rfl)) hS ((o_1 _ (dz_n2 (by decide))).1.trans ((fr_42_1 _ (dz_n rfl)).1.trans h17)) (vp_in_nI (by omega) (by decide)) dX9_flare_72 (fun H locs hG hS => ?_)
  rw [nI_clamp (show nl < 2 ^ 31 by omega)] at hG
  obtain ⟨G_2, hG, w_2, o_2⟩ := dz_nm hG
  refine lv_aload_n hx hb dX9_flare_73 rfl (lv_at hl 0 rfl) ?_
  refine dz_get hx hb hts (fun _ h => List.mem_cons_of_mem _ (List.mem_append_right _ h)) hown hE hG ((o_2 _ (dz_n rfl)).2.trans ((o_1 _ (dz_n rfl)).2.trans ha)) ((o_2 _ (dz_n rfl)).1.trans ((o_1 _ (dz_n rfl)).1.trans g_42_1)) rfl 18 (by decide) (hts _ (List.mem_of_getElem? (i := 5) rfl)) (fun _ h9 => h9) rfl dX9_flare_74 ?_
  refine lv_aload_n hx hb dX9_flare_77 rfl (lv_at hl 0 rfl) ?_
  refine dz_get hx hb hts (fun _ h => List.mem_cons_of_mem _ (List.mem_append_right _ h)) hown hE hG ((o_2 _ (dz_n rfl)).2.trans ((o_1 _ (dz_n rfl)).2.trans ha)) ((o_2 _ (dz_n rfl)).1.trans ((o_1 _ (dz_n rfl)).1.trans g_42_1)) rfl 15 (by decide) (hts _ (List.mem_of_getElem? (i := 1) rfl)) (fun _ h9 => h9) rfl dX9_flare_78 ?_
  refine lv_iload_n hx hb dX9_flare_81 rfl (lv_at hl 2 rfl) ?_
  refine dz_iast hx hb hE hG ((o_2 _ (dz_n2 (by decide))).2.trans ((o_1 _ (dz_n2 (by decide))).2.trans ((fr_42_1 _ (dz_n rfl)).2.trans rfl))) hS ((o_2 _ (dz_n2 (by decide))).1.trans ((o_1 _ (dz_n2 (by decide))).1.trans ((fr_42_1 _ (dz_n rfl)).1.trans h18))) (vp_in_nI (by omega) (by decide)) dX9_flare_82 (fun H locs hG hS => ?_)
  rw [nI_clamp (show nl < 2 ^ 31 by omega)] at hG
  obtain ⟨G_3, hG, w_3, o_3⟩ := dz_nm hG
  refine lv_aload_n hx hb dX9_flare_83 rfl (lv_at hl 0 rfl) ?_
  refine lv_dup hx hb dX9_flare_84 rfl ?_
  refine dz_get hx hb hts (fun _ h => List.mem_cons_of_mem _ (List.mem_append_right _ h)) hown hE hG ((o_3 _ (dz_n rfl)).2.trans ((o_2 _ (dz_n rfl)).2.trans ((o_1 _ (dz_n rfl)).2.trans ha))) ((o_3 _ (dz_n rfl)).1.trans ((o_2 _ (dz_n rfl)).1.trans ((o_1 _ (dz_n rfl)).1.trans g_42_1))) rfl 15 (by decide) (hts _ (List.mem_of_getElem? (i := 1) rfl)) (fun _ h9 => h9) rfl dX9_flare_85 ?_
  refine lv_iconst (v := 1) hx hb dX9_flare_88 (by decide) ?_
  refine lv_iadd hx hb dX9_flare_89 ?_
  refine lv_topi (fun v_3 ev_3 => ?_)
  obtain rfl : v_3 = nI (nl + 1) := ev_3.trans (nI_1 nl)
  refine dz_put hx hb hts (fun _ h => List.mem_cons_of_mem _ (List.mem_append_right _ h)) tyX9 tyX9_ok nmX9 hown hE hG ((o_3 _ (dz_n rfl)).2.trans ((o_2 _ (dz_n rfl)).2.trans ((o_1 _ (dz_n rfl)).2.trans ha))) hS ((o_3 _ (dz_n rfl)).1.trans ((o_2 _ (dz_n rfl)).1.trans ((o_1 _ (dz_n rfl)).1.trans g_42_1))) rfl 15 (by decide) (hts _ (List.mem_of_getElem? (i := 1) rfl)) (fun _ h9 => h9) rfl (ty := .int) (by decide +kernel) rfl rfl (fs' := [.int 0, .int dy, .int (nI nm), .ref (ad (40, 3)), .ref (ad (40, 4)), .ref (ad (40, 5)), .ref (ad (40, 6)), .int td, .ref (ad (40, 8)), .ref (ad (40, 9)), .ref (ad (40, 10)), .int (nI ns), .ref (ad (40, 12)), .ref (ad (40, 13)), .ref (ad (40, 14)), .int (nI (nl + 1)), .ref (ad (40, 16)), .ref (ad (40, 17)), .ref (ad (40, 18)), .int (nI nx), .ref (ad (40, 20)), .ref (ad (40, 21)), .ref (ad (40, 22)), .ref (ad (40, 23)), .ref (ad (40, 24)), .int ssf, .int sst, .int cfr, .int grw, .int (nI nf), .ref (ad (40, 30)), .ref (ad (40, 31)), .int bkk, .ref (ad (40, 33)), .ref (ad (40, 34)), .ref (ad (40, 35)), .int iop, .ref (ad (40, 37)), .int (nI my)]) rfl (Nat.le_of_ble_eq_true rfl) dX9_flare_90 (fun H locs hG hS => ?_)
  obtain ⟨G_4, hG, w_4, o_4⟩ := dz_nm hG
  refine lv_aload_n hx hb dX9_flare_93 rfl (lv_at hl 0 rfl) ?_
  refine lv_iload_n hx hb dX9_flare_94 rfl (lv_at hl 1 rfl) ?_
  refine lv_aload_n hx hb dX9_flare_95 rfl (lv_at hl 0 rfl) ?_
  refine dz_get hx hb hts (fun _ h => List.mem_cons_of_mem _ (List.mem_append_right _ h)) hown hE hG ((o_3 _ (dz_n rfl)).2.trans ((o_2 _ (dz_n rfl)).2.trans ((o_1 _ (dz_n rfl)).2.trans ha))) w_4 rfl 1 (by decide) (hts _ (List.mem_of_getElem? (i := 4) rfl)) (fun _ h9 => h9) rfl dX9_flare_96 ?_
  refine dz_kRi (va_runV (As := [_, _]) ⟨hx, hb, hml, hown, hts⟩ (c_X9_sourceOn l Z _ _ _ _ _ (nl + 1) _ _ _ _ _ _ _ _ _ _ _ _ _ _ _ _ _ _  ((o_3 _ (dz_n rfl)).2.trans ((o_2 _ (dz_n rfl)).2.trans ((o_1 _ (dz_n rfl)).2.trans ha))) w_4 ((o_4 _ (dz_n rfl)).1.trans ((o_3 _ (dz_n2 (by decide))).1.trans ((o_2 _ (dz_n2 (by decide))).1.trans ((o_1 _ (dz_n2 (by decide))).1.trans ((fr_42_1 _ (dz_n rfl)).1.trans h14))))) ((o_4 _ (dz_n rfl)).1.trans ((o_3 _ (dz_n2 (by decide))).1.trans ((o_2 _ (dz_n2 (by decide))).1.trans w_1))) ((o_4 _ (dz_n rfl)).1.trans ((o_3 _ (dz_n2 (by decide))).1.trans w_2)) ((o_4 _ (dz_n rfl)).1.trans w_3) (by omega) (by omega)) (cwV 2 hts gX9_flare_X9_sourceOn rfl rfl rfl (by decide +kernel) ⟨Nat.le_of_ble_eq_true rfl, Nat.le_of_ble_eq_true rfl⟩) (dz_P.preV hE hS hG w_4 rfl ((o_3 _ (dz_n rfl)).2.trans ((o_2 _ (dz_n rfl)).2.trans ((o_1 _ (dz_n rfl)).2.trans ha)))) rfl rfl hl.1 rfl (lv_room (Nat.le_of_ble_eq_true rfl)) dX9_flare_99 ⟨Nat.le_of_ble_eq_true rfl, Nat.le_of_ble_eq_true rfl⟩) ?_
  refine lv_topi (fun v_4 ev_4 => ?_)
  obtain rfl : v_4 = (m_pos (m_mfl (f14 sc) (upd f16 nl (nI sc)) (upd f17 nl dy) (upd f18 nl v2) (nI sc) dy (nl + 1))) := ev_4
  refine W.widen (k := 0) (n := 0) (by first | omega | decide) (by first | omega | decide) ?_
  refine W.iret hx hb hrt (fun t ht hW => dz_endM (f := rv_i) _ hE hS hG ?_ ht hW) (fun q h => hS.2.2 q h) dX9_flare_102
  refine ⟨fun r9 n_0 n_1 n_2 n_3 => (dz_tr (o_4 r9 n_0) (dz_tr (o_3 r9 n_3) (dz_tr (o_2 r9 n_2) (dz_tr (o_1 r9 n_1) (fr_42_1 r9 n_0))))), rfl, ?_⟩
  exact ⟨rfl, w_4, ((o_4 _ (dz_n rfl)).1.trans ((o_3 _ (dz_n2 (by decide))).1.trans ((o_2 _ (dz_n2 (by decide))).1.trans w_1))), ((o_4 _ (dz_n rfl)).1.trans ((o_3 _ (dz_n2 (by decide))).1.trans w_2)), ((o_4 _ (dz_n rfl)).1.trans w_3)⟩

set_option maxHeartbeats 4000000 in
set_option maxRecDepth 100000 in
theorem c_M_season_bad (l : Launch) (Z : dzG) (G : dzW) (ad : dzA) (aM nm ns nl nx nf my : Nat) (th dy td ssf sst cfr grw bkk iop : Int32) (v1 v2 : Int32) (ha : ad (39, 0) = aM) (ho : G (39, 0) = some (eO 10 [.int th, .int dy, .int (nI nm), .ref (ad (40, 3)), .ref (ad (40, 4)), .ref (ad (40, 5)), .ref (ad (40, 6)), .int td, .ref (ad (40, 8)), .ref (ad (40, 9)), .ref (ad (40, 10)), .int (nI ns), .ref (ad (40, 12)), .ref (ad (40, 13)), .ref (ad (40, 14)), .int (nI nl), .ref (ad (40, 16)), .ref (ad (40, 17)), .ref (ad (40, 18)), .int (nI nx), .ref (ad (40, 20)), .ref (ad (40, 21)), .ref (ad (40, 22)), .ref (ad (40, 23)), .ref (ad (40, 24)), .int ssf, .int sst, .int cfr, .int grw, .int (nI nf), .ref (ad (40, 30)), .ref (ad (40, 31)), .int bkk, .ref (ad (40, 33)), .ref (ad (40, 34)), .ref (ad (40, 35)), .int iop, .ref (ad (40, 37)), .int (nI my)])) (hbad : ¬ ((((0 : Int32) ≤ v1 ∧ v1 ≤ 99)) ∧ (v1 ≤ v2 ∧ v2 ≤ 99))) : dzWr l yX9_season wsX9_season 1 22 0 0 Z G ad [.ref aM, .int v1, .int v2] rv_v (fun (x : Unit) G1 ad1 => (∀ r9 : dzR, r9 ≠ (39, 0) → G1 r9 = G r9 ∧ ad1 r9 = ad r9) ∧ ad = ad1 ∧ G1 (39, 0) = some (eO 10 [.int 1, .int dy, .int (nI nm), .ref (ad (40, 3)), .ref (ad (40, 4)), .ref (ad (40, 5)), .ref (ad (40, 6)), .int td, .ref (ad (40, 8)), .ref (ad (40, 9)), .ref (ad (40, 10)), .int (nI ns), .ref (ad (40, 12)), .ref (ad (40, 13)), .ref (ad (40, 14)), .int (nI nl), .ref (ad (40, 16)), .ref (ad (40, 17)), .ref (ad (40, 18)), .int (nI nx), .ref (ad (40, 20)), .ref (ad (40, 21)), .ref (ad (40, 22)), .ref (ad (40, 23)), .ref (ad (40, 24)), .int ssf, .int sst, .int cfr, .int grw, .int (nI nf), .ref (ad (40, 30)), .ref (ad (40, 31)), .int bkk, .ref (ad (40, 33)), .ref (ad (40, 34)), .ref (ad (40, 35)), .int iop, .ref (ad (40, 37)), .int (nI my)])) := by
  refine Met.ofW (cc := cX9_season) (maxL := 3) (ret := none) (by decide) rfl ?_
  intro p e s m args below meth c s₁ B hml hv
  obtain ⟨rfl, hG, hE⟩ := hv
  have hx := B.exec
  have hb := B.bytes
  have hrt := B.returns
  have hts := atoms_spec (ws := wsX9_season) B.pre
  have hown : s.vm.findClass RX9 = some m.cls := findClass_of_methodNamed B.named
  have hlocks := B.notSynchronized
  have hS : va_S (dz_A Z) s.heap s.heap [] := va_S.rf
  have hl := lv_entry ([.ref aM, .int v1, .int v2]) (n := 3) (Nat.le_of_ble_eq_true rfl)
  rw [lg_entry_eq]
  generalize (lg_sl ([.ref aM, .int v1, .int v2]) ++ List.replicate (3 - (lg_sl ([.ref aM, .int v1, .int v2])).length) Slot.unset).toArray = ls at hl ⊢
  have hl : lv_has ls 3 [(0, .ref aM), (1, .int v1), (2, .int v2)] := hl
  refine lv_aload_n hx hb dX9_season_0 rfl (lv_at hl 0 rfl) ?_
  refine lv_iload_n hx hb dX9_season_1 rfl (lv_at hl 1 rfl) ?_
  refine lv_iconst (v := 0) hx hb dX9_season_2 (by decide) ?_
  refine lv_bipush (v := 99) hx hb dX9_season_3 (by decide) ?_
  refine dz_kRi (va_runS (As := [_, _, _]) ⟨hx, hb, hml, hown, hts⟩ (c_X9_in l Z _ _ _ _ _ ) (va_cwS 3 hts gX9_season_X9_in rfl rfl rfl (by decide +kernel) ⟨Nat.le_of_ble_eq_true rfl, Nat.le_of_ble_eq_true rfl⟩) (dz_P.pre hE hS hG) rfl rfl hl.1 rfl (lv_room (Nat.le_of_ble_eq_true rfl)) dX9_season_5 ⟨Nat.le_of_ble_eq_true rfl, Nat.le_of_ble_eq_true rfl⟩) ?_
  refine lv_if_eq (tgt := 25) hx hb dX9_season_8 (by decide) (fun c_8 => ?_) (fun c_8 => ?_)
  · refine lv_iconst (v := 1) hx hb dX9_season_25 (by decide) ?_
    refine dz_kMi (va_runV (As := [_]) ⟨hx, hb, hml, hown, hts⟩ (c_X9_refused l Z _ _ _ _ _ _ _ _ _ _ _ _ _ _ _ _ _ _ _ ha ho) (cwV 1 hts gX9_season_X9_refused rfl rfl rfl (by decide +kernel) ⟨Nat.le_of_ble_eq_true rfl, Nat.le_of_ble_eq_true rfl⟩) (dz_P.preV hE hS hG ho rfl ha) rfl rfl hl.1 rfl (lv_room (Nat.le_of_ble_eq_true rfl)) dX9_season_26 ⟨Nat.le_of_ble_eq_true rfl, Nat.le_of_ble_eq_true rfl⟩) hS (fun x_26_1 G_26_1 ad_26_1 H locs hp_26_1 hG hS => ?_)
    obtain ⟨fr_26_1, rfl, x9_26_1, g_26_1⟩ := hp_26_1
    obtain rfl : x_26_1 = 1 := x9_26_1.trans (by decide)
    refine lv_if_eq (tgt := 33) hx hb dX9_season_29 (by decide) (fun c_29 => absurd c_29 (by decide)) (fun c_29 => ?_)
    refine W.widen (k := 0) (n := 0) (by first | omega | decide) (by first | omega | decide) ?_
    refine W.vret hx hb hrt (fun t ht hW => dz_endM (f := rv_v) () hE hS hG ?_ ht hW) (fun q h => hS.2.2 q h) dX9_season_32
    refine ⟨fun r9 n_0 => (fr_26_1 r9 n_0), rfl, ?_⟩
    exact g_26_1
  · refine lv_iload_n hx hb dX9_season_11 rfl (lv_at hl 2 rfl) ?_
    refine lv_iload_n hx hb dX9_season_12 rfl (lv_at hl 1 rfl) ?_
    refine lv_bipush (v := 99) hx hb dX9_season_13 (by decide) ?_
    refine dz_kRi (va_runS (As := [_, _, _]) ⟨hx, hb, hml, hown, hts⟩ (c_X9_in l Z _ _ _ _ _ ) (va_cwS 3 hts gX9_season_X9_in rfl rfl rfl (by decide +kernel) ⟨Nat.le_of_ble_eq_true rfl, Nat.le_of_ble_eq_true rfl⟩) (dz_P.pre hE hS hG) rfl rfl hl.1 rfl (lv_room (Nat.le_of_ble_eq_true rfl)) dX9_season_15 ⟨Nat.le_of_ble_eq_true rfl, Nat.le_of_ble_eq_true rfl⟩) ?_
    refine lv_if_eq (tgt := 25) hx hb dX9_season_18 (by decide) (fun c_18 => ?_) (fun c_18 => ?_)
    · refine lv_iconst (v := 1) hx hb dX9_season_25 (by decide) ?_
      refine dz_kMi (va_runV (As := [_]) ⟨hx, hb, hml, hown, hts⟩ (c_X9_refused l Z _ _ _ _ _ _ _ _ _ _ _ _ _ _ _ _ _ _ _ ha ho) (cwV 1 hts gX9_season_X9_refused rfl rfl rfl (by decide +kernel) ⟨Nat.le_of_ble_eq_true rfl, Nat.le_of_ble_eq_true rfl⟩) (dz_P.preV hE hS hG ho rfl ha) rfl rfl hl.1 rfl (lv_room (Nat.le_of_ble_eq_true rfl)) dX9_season_26 ⟨Nat.le_of_ble_eq_true rfl, Nat.le_of_ble_eq_true rfl⟩) hS (fun x_26_2 G_26_2 ad_26_2 H locs hp_26_2 hG hS => ?_)
      obtain ⟨fr_26_2, rfl, x9_26_2, g_26_2⟩ := hp_26_2
      obtain rfl : x_26_2 = 1 := x9_26_2.trans (by decide)
      refine lv_if_eq (tgt := 33) hx hb dX9_season_29 (by decide) (fun c_29 => absurd c_29 (by decide)) (fun c_29 => ?_)
      refine W.widen (k := 0) (n := 0) (by first | omega | decide) (by first | omega | decide) ?_
      refine W.vret hx hb hrt (fun t ht hW => dz_endM (f := rv_v) () hE hS hG ?_ ht hW) (fun q h => hS.2.2 q h) dX9_season_32
      refine ⟨fun r9 n_0 => (fr_26_2 r9 n_0), rfl, ?_⟩
      exact g_26_2
    · exact absurd ⟨dz_by c_8, dz_by c_18⟩ hbad

set_option maxHeartbeats 4000000 in
set_option maxRecDepth 100000 in
theorem c_M_season_ok (l : Launch) (Z : dzG) (G : dzW) (ad : dzA) (aM nm ns nl nx nf my : Nat) (th dy td ssf sst cfr grw bkk iop : Int32) (v1 v2 : Int32) (ha : ad (39, 0) = aM) (ho : G (39, 0) = some (eO 10 [.int th, .int dy, .int (nI nm), .ref (ad (40, 3)), .ref (ad (40, 4)), .ref (ad (40, 5)), .ref (ad (40, 6)), .int td, .ref (ad (40, 8)), .ref (ad (40, 9)), .ref (ad (40, 10)), .int (nI ns), .ref (ad (40, 12)), .ref (ad (40, 13)), .ref (ad (40, 14)), .int (nI nl), .ref (ad (40, 16)), .ref (ad (40, 17)), .ref (ad (40, 18)), .int (nI nx), .ref (ad (40, 20)), .ref (ad (40, 21)), .ref (ad (40, 22)), .ref (ad (40, 23)), .ref (ad (40, 24)), .int ssf, .int sst, .int cfr, .int grw, .int (nI nf), .ref (ad (40, 30)), .ref (ad (40, 31)), .int bkk, .ref (ad (40, 33)), .ref (ad (40, 34)), .ref (ad (40, 35)), .int iop, .ref (ad (40, 37)), .int (nI my)])) (hg : ((((0 : Int32) ≤ v1 ∧ v1 ≤ 99)) ∧ (v1 ≤ v2 ∧ v2 ≤ 99))) : dzWr l yX9_season wsX9_season 1 22 0 0 Z G ad [.ref aM, .int v1, .int v2] rv_v (fun (x : Unit) G1 ad1 => (∀ r9 : dzR, r9 ≠ (39, 0) → G1 r9 = G r9 ∧ ad1 r9 = ad r9) ∧ ad = ad1 ∧ G1 (39, 0) = some (eO 10 [.int 0, .int dy, .int (nI nm), .ref (ad (40, 3)), .ref (ad (40, 4)), .ref (ad (40, 5)), .ref (ad (40, 6)), .int td, .ref (ad (40, 8)), .ref (ad (40, 9)), .ref (ad (40, 10)), .int (nI ns), .ref (ad (40, 12)), .ref (ad (40, 13)), .ref (ad (40, 14)), .int (nI nl), .ref (ad (40, 16)), .ref (ad (40, 17)), .ref (ad (40, 18)), .int (nI nx), .ref (ad (40, 20)), .ref (ad (40, 21)), .ref (ad (40, 22)), .ref (ad (40, 23)), .ref (ad (40, 24)), .int v1, .int v2, .int cfr, .int grw, .int (nI nf), .ref (ad (40, 30)), .ref (ad (40, 31)), .int bkk, .ref (ad (40, 33)), .ref (ad (40, 34)), .ref (ad (40, 35)), .int iop, .ref (ad (40, 37)), .int (nI my)])) := by
  refine Met.ofW (cc := cX9_season) (maxL := 3) (ret := none) (by decide) rfl ?_
  intro p e s m args below meth c s₁ B hml hv
  obtain ⟨rfl, hG, hE⟩ := hv
  have hx := B.exec
  have hb := B.bytes
  have hrt := B.returns
  have hts := atoms_spec (ws := wsX9_season) B.pre
  have hown : s.vm.findClass RX9 = some m.cls := findClass_of_methodNamed B.named
  have hlocks := B.notSynchronized
  have hS : va_S (dz_A Z) s.heap s.heap [] := va_S.rf
  have hl := lv_entry ([.ref aM, .int v1, .int v2]) (n := 3) (Nat.le_of_ble_eq_true rfl)
  rw [lg_entry_eq]
  generalize (lg_sl ([.ref aM, .int v1, .int v2]) ++ List.replicate (3 - (lg_sl ([.ref aM, .int v1, .int v2])).length) Slot.unset).toArray = ls at hl ⊢
  have hl : lv_has ls 3 [(0, .ref aM), (1, .int v1), (2, .int v2)] := hl
  refine lv_aload_n hx hb dX9_season_0 rfl (lv_at hl 0 rfl) ?_
  refine lv_iload_n hx hb dX9_season_1 rfl (lv_at hl 1 rfl) ?_
  refine lv_iconst (v := 0) hx hb dX9_season_2 (by decide) ?_
  refine lv_bipush (v := 99) hx hb dX9_season_3 (by decide) ?_
  refine dz_kRi (va_runS (As := [_, _, _]) ⟨hx, hb, hml, hown, hts⟩ (c_X9_in l Z _ _ _ _ _ ) (va_cwS 3 hts gX9_season_X9_in rfl rfl rfl (by decide +kernel) ⟨Nat.le_of_ble_eq_true rfl, Nat.le_of_ble_eq_true rfl⟩) (dz_P.pre hE hS hG) rfl rfl hl.1 rfl (lv_room (Nat.le_of_ble_eq_true rfl)) dX9_season_5 ⟨Nat.le_of_ble_eq_true rfl, Nat.le_of_ble_eq_true rfl⟩) ?_
  refine lv_topi (fun v_1 ev_1 => ?_)
  obtain rfl : v_1 = 1 := ev_1.trans (dz_b1 hg.1)
  refine lv_if_eq (tgt := 25) hx hb dX9_season_8 (by decide) (fun c_8 => absurd c_8 (by decide)) (fun c_8 => ?_)
  refine lv_iload_n hx hb dX9_season_11 rfl (lv_at hl 2 rfl) ?_
  refine lv_iload_n hx hb dX9_season_12 rfl (lv_at hl 1 rfl) ?_
  refine lv_bipush (v := 99) hx hb dX9_season_13 (by decide) ?_
  refine dz_kRi (va_runS (As := [_, _, _]) ⟨hx, hb, hml, hown, hts⟩ (c_X9_in l Z _ _ _ _ _ ) (va_cwS 3 hts gX9_season_X9_in rfl rfl rfl (by decide +kernel) ⟨Nat.le_of_ble_eq_true rfl, Nat.le_of_ble_eq_true rfl⟩) (dz_P.pre hE hS hG) rfl rfl hl.1 rfl (lv_room (Nat.le_of_ble_eq_true rfl)) dX9_season_15 ⟨Nat.le_of_ble_eq_true rfl, Nat.le_of_ble_eq_true rfl⟩) ?_
  refine lv_topi (fun v_2 ev_2 => ?_)
  obtain rfl : v_2 = 1 := ev_2.trans (dz_b1 hg.2)
  refine lv_if_eq (tgt := 25) hx hb dX9_season_18 (by decide) (fun c_18 => absurd c_18 (by decide)) (fun c_18 => ?_)
  refine lv_iconst (v := 0) hx hb dX9_season_21 (by decide) ?_
  refine lv_goto (tgt := 26) hx hb dX9_season_22 (by decide) ?_
  refine dz_kMi (va_runV (As := [_]) ⟨hx, hb, hml, hown, hts⟩ (c_X9_refused l Z _ _ _ _ _ _ _ _ _ _ _ _ _ _ _ _ _ _ _ ha ho) (cwV 1 hts gX9_season_X9_refused rfl rfl rfl (by decide +kernel) ⟨Nat.le_of_ble_eq_true rfl, Nat.le_of_ble_eq_true rfl⟩) (dz_P.preV hE hS hG ho rfl ha) rfl rfl hl.1 rfl (lv_room (Nat.le_of_ble_eq_true rfl)) dX9_season_26 ⟨Nat.le_of_ble_eq_true rfl, Nat.le_of_ble_eq_true rfl⟩) hS (fun x_26_1 G_26_1 ad_26_1 H locs hp_26_1 hG hS => ?_)
  obtain ⟨fr_26_1, rfl, x9_26_1, g_26_1⟩ := hp_26_1
  obtain rfl : x_26_1 = 0 := x9_26_1.trans (by decide)
  refine lv_if_eq (tgt := 33) hx hb dX9_season_29 (by decide) (fun c_29 => ?_) (fun c_29 => absurd (by decide) c_29)
  refine lv_aload_n hx hb dX9_season_33 rfl (lv_at hl 0 rfl) ?_
  refine lv_iload_n hx hb dX9_season_34 rfl (lv_at hl 1 rfl) ?_
  refine dz_put hx hb hts (fun _ h => List.mem_cons_of_mem _ (List.mem_append_right _ h)) tyX9 tyX9_ok nmX9 hown hE hG ha hS g_26_1 rfl 25 (by decide) (hts _ (List.mem_of_getElem? (i := 1) rfl)) (fun _ h9 => h9) rfl (ty := .int) (by decide +kernel) rfl rfl (fs' := [.int 0, .int dy, .int (nI nm), .ref (ad (40, 3)), .ref (ad (40, 4)), .ref (ad (40, 5)), .ref (ad (40, 6)), .int td, .ref (ad (40, 8)), .ref (ad (40, 9)), .ref (ad (40, 10)), .int (nI ns), .ref (ad (40, 12)), .ref (ad (40, 13)), .ref (ad (40, 14)), .int (nI nl), .ref (ad (40, 16)), .ref (ad (40, 17)), .ref (ad (40, 18)), .int (nI nx), .ref (ad (40, 20)), .ref (ad (40, 21)), .ref (ad (40, 22)), .ref (ad (40, 23)), .ref (ad (40, 24)), .int v1, .int sst, .int cfr, .int grw, .int (nI nf), .ref (ad (40, 30)), .ref (ad (40, 31)), .int bkk, .ref (ad (40, 33)), .ref (ad (40, 34)), .ref (ad (40, 35)), .int iop, .ref (ad (40, 37)), .int (nI my)]) rfl (Nat.le_of_ble_eq_true rfl) dX9_season_35 (fun H locs hG hS => ?_)
  obtain ⟨G_1, hG, w_1, o_1⟩ := dz_nm hG
  refine lv_aload_n hx hb dX9_season_38 rfl (lv_at hl 0 rfl) ?_
  refine lv_iload_n hx hb dX9_season_39 rfl (lv_at hl 2 rfl) ?_
  refine dz_put hx hb hts (fun _ h => List.mem_cons_of_mem _ (List.mem_append_right _ h)) tyX9 tyX9_ok nmX9 hown hE hG ha hS w_1 rfl 26 (by decide) (hts _ (List.mem_of_getElem? (i := 2) rfl)) (fun _ h9 => h9) rfl (ty := .int) (by decide +kernel) rfl rfl (fs' := [.int 0, .int dy, .int (nI nm), .ref (ad (40, 3)), .ref (ad (40, 4)), .ref (ad (40, 5)), .ref (ad (40, 6)), .int td, .ref (ad (40, 8)), .ref (ad (40, 9)), .ref (ad (40, 10)), .int (nI ns), .ref (ad (40, 12)), .ref (ad (40, 13)), .ref (ad (40, 14)), .int (nI nl), .ref (ad (40, 16)), .ref (ad (40, 17)), .ref (ad (40, 18)), .int (nI nx), .ref (ad (40, 20)), .ref (ad (40, 21)), .ref (ad (40, 22)), .ref (ad (40, 23)), .ref (ad (40, 24)), .int v1, .int v2, .int cfr, .int grw, .int (nI nf), .ref (ad (40, 30)), .ref (ad (40, 31)), .int bkk, .ref (ad (40, 33)), .ref (ad (40, 34)), .ref (ad (40, 35)), .int iop, .ref (ad (40, 37)), .int (nI my)]) rfl (Nat.le_of_ble_eq_true rfl) dX9_season_40 (fun H locs hG hS => ?_)
  obtain ⟨G_2, hG, w_2, o_2⟩ := dz_nm hG
  refine W.widen (k := 0) (n := 0) (by first | omega | decide) (by first | omega | decide) ?_
  refine W.vret hx hb hrt (fun t ht hW => dz_endM (f := rv_v) () hE hS hG ?_ ht hW) (fun q h => hS.2.2 q h) dX9_season_43
  refine ⟨fun r9 n_0 => (dz_tr (o_2 r9 n_0) (dz_tr (o_1 r9 n_0) (fr_26_1 r9 n_0))), rfl, ?_⟩
  exact w_2

set_option maxHeartbeats 4000000 in
set_option maxRecDepth 100000 in
theorem c_M_cloud_bad (l : Launch) (Z : dzG) (G : dzW) (ad : dzA) (aM nm ns nl nx nf my : Nat) (th dy td ssf sst cfr grw bkk iop : Int32) (v1 : Int32) (ha : ad (39, 0) = aM) (ho : G (39, 0) = some (eO 10 [.int th, .int dy, .int (nI nm), .ref (ad (40, 3)), .ref (ad (40, 4)), .ref (ad (40, 5)), .ref (ad (40, 6)), .int td, .ref (ad (40, 8)), .ref (ad (40, 9)), .ref (ad (40, 10)), .int (nI ns), .ref (ad (40, 12)), .ref (ad (40, 13)), .ref (ad (40, 14)), .int (nI nl), .ref (ad (40, 16)), .ref (ad (40, 17)), .ref (ad (40, 18)), .int (nI nx), .ref (ad (40, 20)), .ref (ad (40, 21)), .ref (ad (40, 22)), .ref (ad (40, 23)), .ref (ad (40, 24)), .int ssf, .int sst, .int cfr, .int grw, .int (nI nf), .ref (ad (40, 30)), .ref (ad (40, 31)), .int bkk, .ref (ad (40, 33)), .ref (ad (40, 34)), .ref (ad (40, 35)), .int iop, .ref (ad (40, 37)), .int (nI my)])) (hbad : ¬ ((0 : Int32) ≤ v1 ∧ v1 ≤ 50)) : dzWr l yX9_cloud wsX9_cloud 1 22 0 0 Z G ad [.ref aM, .int v1] rv_i (fun (x : Int32) G1 ad1 => (∀ r9 : dzR, r9 ≠ (39, 0) → G1 r9 = G r9 ∧ ad1 r9 = ad r9) ∧ ad = ad1 ∧ x = 0 ∧ G1 (39, 0) = some (eO 10 [.int 1, .int dy, .int (nI nm), .ref (ad (40, 3)), .ref (ad (40, 4)), .ref (ad (40, 5)), .ref (ad (40, 6)), .int td, .ref (ad (40, 8)), .ref (ad (40, 9)), .ref (ad (40, 10)), .int (nI ns), .ref (ad (40, 12)), .ref (ad (40, 13)), .ref (ad (40, 14)), .int (nI nl), .ref (ad (40, 16)), .ref (ad (40, 17)), .ref (ad (40, 18)), .int (nI nx), .ref (ad (40, 20)), .ref (ad (40, 21)), .ref (ad (40, 22)), .ref (ad (40, 23)), .ref (ad (40, 24)), .int ssf, .int sst, .int cfr, .int grw, .int (nI nf), .ref (ad (40, 30)), .ref (ad (40, 31)), .int bkk, .ref (ad (40, 33)), .ref (ad (40, 34)), .ref (ad (40, 35)), .int iop, .ref (ad (40, 37)), .int (nI my)])) := by
  refine Met.ofW (cc := cX9_cloud) (maxL := 2) (ret := (some .int)) (by decide) rfl ?_
  intro p e s m args below meth c s₁ B hml hv
  obtain ⟨rfl, hG, hE⟩ := hv
  have hx := B.exec
  have hb := B.bytes
  have hrt := B.returns
  have hts := atoms_spec (ws := wsX9_cloud) B.pre
  have hown : s.vm.findClass RX9 = some m.cls := findClass_of_methodNamed B.named
  have hlocks := B.notSynchronized
  have hS : va_S (dz_A Z) s.heap s.heap [] := va_S.rf
  have hl := lv_entry ([.ref aM, .int v1]) (n := 2) (Nat.le_of_ble_eq_true rfl)
  rw [lg_entry_eq]
  generalize (lg_sl ([.ref aM, .int v1]) ++ List.replicate (2 - (lg_sl ([.ref aM, .int v1])).length) Slot.unset).toArray = ls at hl ⊢
  have hl : lv_has ls 2 [(0, .ref aM), (1, .int v1)] := hl
  refine lv_aload_n hx hb dX9_cloud_0 rfl (lv_at hl 0 rfl) ?_
  refine lv_iload_n hx hb dX9_cloud_1 rfl (lv_at hl 1 rfl) ?_
  refine lv_iconst (v := 0) hx hb dX9_cloud_2 (by decide) ?_
  refine lv_bipush (v := 50) hx hb dX9_cloud_3 (by decide) ?_
  refine dz_kRi (va_runS (As := [_, _, _]) ⟨hx, hb, hml, hown, hts⟩ (c_X9_in l Z _ _ _ _ _ ) (va_cwS 3 hts gX9_cloud_X9_in rfl rfl rfl (by decide +kernel) ⟨Nat.le_of_ble_eq_true rfl, Nat.le_of_ble_eq_true rfl⟩) (dz_P.pre hE hS hG) rfl rfl hl.1 rfl (lv_room (Nat.le_of_ble_eq_true rfl)) dX9_cloud_5 ⟨Nat.le_of_ble_eq_true rfl, Nat.le_of_ble_eq_true rfl⟩) ?_
  refine lv_topi (fun v_1 ev_1 => ?_)
  obtain rfl : v_1 = 0 := ev_1.trans (dz_b0 hbad)
  refine lv_if_eq (tgt := 15) hx hb dX9_cloud_8 (by decide) (fun c_8 => ?_) (fun c_8 => absurd (by decide) c_8)
  refine lv_iconst (v := 1) hx hb dX9_cloud_15 (by decide) ?_
  refine dz_kMi (va_runV (As := [_]) ⟨hx, hb, hml, hown, hts⟩ (c_X9_refused l Z _ _ _ _ _ _ _ _ _ _ _ _ _ _ _ _ _ _ _ ha ho) (cwV 1 hts gX9_cloud_X9_refused rfl rfl rfl (by decide +kernel) ⟨Nat.le_of_ble_eq_true rfl, Nat.le_of_ble_eq_true rfl⟩) (dz_P.preV hE hS hG ho rfl ha) rfl rfl hl.1 rfl (lv_room (Nat.le_of_ble_eq_true rfl)) dX9_cloud_16 ⟨Nat.le_of_ble_eq_true rfl, Nat.le_of_ble_eq_true rfl⟩) hS (fun x_16_1 G_16_1 ad_16_1 H locs hp_16_1 hG hS => ?_)
  obtain ⟨fr_16_1, rfl, x9_16_1, g_16_1⟩ := hp_16_1
  obtain rfl : x_16_1 = 1 := x9_16_1.trans (by decide)
  refine lv_if_eq (tgt := 24) hx hb dX9_cloud_19 (by decide) (fun c_19 => absurd c_19 (by decide)) (fun c_19 => ?_)
  refine lv_iconst (v := 0) hx hb dX9_cloud_22 (by decide) ?_
  refine W.widen (k := 0) (n := 0) (by first | omega | decide) (by first | omega | decide) ?_
  refine W.iret hx hb hrt (fun t ht hW => dz_endM (f := rv_i) _ hE hS hG ?_ ht hW) (fun q h => hS.2.2 q h) dX9_cloud_23
  refine ⟨fun r9 n_0 => (fr_16_1 r9 n_0), rfl, ?_⟩
  exact ⟨rfl, g_16_1⟩

set_option maxHeartbeats 4000000 in
set_option maxRecDepth 100000 in
theorem c_M_cloud_ok (l : Launch) (Z : dzG) (G : dzW) (ad : dzA) (aM nm ns nl nx nf my : Nat) (th dy td ssf sst cfr grw bkk iop : Int32) (v1 : Int32) (ha : ad (39, 0) = aM) (ho : G (39, 0) = some (eO 10 [.int th, .int dy, .int (nI nm), .ref (ad (40, 3)), .ref (ad (40, 4)), .ref (ad (40, 5)), .ref (ad (40, 6)), .int td, .ref (ad (40, 8)), .ref (ad (40, 9)), .ref (ad (40, 10)), .int (nI ns), .ref (ad (40, 12)), .ref (ad (40, 13)), .ref (ad (40, 14)), .int (nI nl), .ref (ad (40, 16)), .ref (ad (40, 17)), .ref (ad (40, 18)), .int (nI nx), .ref (ad (40, 20)), .ref (ad (40, 21)), .ref (ad (40, 22)), .ref (ad (40, 23)), .ref (ad (40, 24)), .int ssf, .int sst, .int cfr, .int grw, .int (nI nf), .ref (ad (40, 30)), .ref (ad (40, 31)), .int bkk, .ref (ad (40, 33)), .ref (ad (40, 34)), .ref (ad (40, 35)), .int iop, .ref (ad (40, 37)), .int (nI my)])) (hg : ((0 : Int32) ≤ v1 ∧ v1 ≤ 50)) : dzWr l yX9_cloud wsX9_cloud 1 22 0 0 Z G ad [.ref aM, .int v1] rv_i (fun (x : Int32) G1 ad1 => (∀ r9 : dzR, r9 ≠ (39, 0) → G1 r9 = G r9 ∧ ad1 r9 = ad r9) ∧ ad = ad1 ∧ x = dy + v1 ∧ G1 (39, 0) = some (eO 10 [.int 0, .int dy, .int (nI nm), .ref (ad (40, 3)), .ref (ad (40, 4)), .ref (ad (40, 5)), .ref (ad (40, 6)), .int td, .ref (ad (40, 8)), .ref (ad (40, 9)), .ref (ad (40, 10)), .int (nI ns), .ref (ad (40, 12)), .ref (ad (40, 13)), .ref (ad (40, 14)), .int (nI nl), .ref (ad (40, 16)), .ref (ad (40, 17)), .ref (ad (40, 18)), .int (nI nx), .ref (ad (40, 20)), .ref (ad (40, 21)), .ref (ad (40, 22)), .ref (ad (40, 23)), .ref (ad (40, 24)), .int ssf, .int sst, .int (dy + v1), .int grw, .int (nI nf), .ref (ad (40, 30)), .ref (ad (40, 31)), .int bkk, .ref (ad (40, 33)), .ref (ad (40, 34)), .ref (ad (40, 35)), .int iop, .ref (ad (40, 37)), .int (nI my)])) := by
  refine Met.ofW (cc := cX9_cloud) (maxL := 2) (ret := (some .int)) (by decide) rfl ?_
  intro p e s m args below meth c s₁ B hml hv
  obtain ⟨rfl, hG, hE⟩ := hv
  have hx := B.exec
  have hb := B.bytes
  have hrt := B.returns
  have hts := atoms_spec (ws := wsX9_cloud) B.pre
  have hown : s.vm.findClass RX9 = some m.cls := findClass_of_methodNamed B.named
  have hlocks := B.notSynchronized
  have hS : va_S (dz_A Z) s.heap s.heap [] := va_S.rf
  have hl := lv_entry ([.ref aM, .int v1]) (n := 2) (Nat.le_of_ble_eq_true rfl)
  rw [lg_entry_eq]
  generalize (lg_sl ([.ref aM, .int v1]) ++ List.replicate (2 - (lg_sl ([.ref aM, .int v1])).length) Slot.unset).toArray = ls at hl ⊢
  have hl : lv_has ls 2 [(0, .ref aM), (1, .int v1)] := hl
  refine lv_aload_n hx hb dX9_cloud_0 rfl (lv_at hl 0 rfl) ?_
  refine lv_iload_n hx hb dX9_cloud_1 rfl (lv_at hl 1 rfl) ?_
  refine lv_iconst (v := 0) hx hb dX9_cloud_2 (by decide) ?_
  refine lv_bipush (v := 50) hx hb dX9_cloud_3 (by decide) ?_
  refine dz_kRi (va_runS (As := [_, _, _]) ⟨hx, hb, hml, hown, hts⟩ (c_X9_in l Z _ _ _ _ _ ) (va_cwS 3 hts gX9_cloud_X9_in rfl rfl rfl (by decide +kernel) ⟨Nat.le_of_ble_eq_true rfl, Nat.le_of_ble_eq_true rfl⟩) (dz_P.pre hE hS hG) rfl rfl hl.1 rfl (lv_room (Nat.le_of_ble_eq_true rfl)) dX9_cloud_5 ⟨Nat.le_of_ble_eq_true rfl, Nat.le_of_ble_eq_true rfl⟩) ?_
  refine lv_topi (fun v_1 ev_1 => ?_)
  obtain rfl : v_1 = 1 := ev_1.trans (dz_b1 hg)
  refine lv_if_eq (tgt := 15) hx hb dX9_cloud_8 (by decide) (fun c_8 => absurd c_8 (by decide)) (fun c_8 => ?_)
  refine lv_iconst (v := 0) hx hb dX9_cloud_11 (by decide) ?_
  refine lv_goto (tgt := 16) hx hb dX9_cloud_12 (by decide) ?_
  refine dz_kMi (va_runV (As := [_]) ⟨hx, hb, hml, hown, hts⟩ (c_X9_refused l Z _ _ _ _ _ _ _ _ _ _ _ _ _ _ _ _ _ _ _ ha ho) (cwV 1 hts gX9_cloud_X9_refused rfl rfl rfl (by decide +kernel) ⟨Nat.le_of_ble_eq_true rfl, Nat.le_of_ble_eq_true rfl⟩) (dz_P.preV hE hS hG ho rfl ha) rfl rfl hl.1 rfl (lv_room (Nat.le_of_ble_eq_true rfl)) dX9_cloud_16 ⟨Nat.le_of_ble_eq_true rfl, Nat.le_of_ble_eq_true rfl⟩) hS (fun x_16_1 G_16_1 ad_16_1 H locs hp_16_1 hG hS => ?_)
  obtain ⟨fr_16_1, rfl, x9_16_1, g_16_1⟩ := hp_16_1
  obtain rfl : x_16_1 = 0 := x9_16_1.trans (by decide)
  refine lv_if_eq (tgt := 24) hx hb dX9_cloud_19 (by decide) (fun c_19 => ?_) (fun c_19 => absurd (by decide) c_19)
  refine lv_aload_n hx hb dX9_cloud_24 rfl (lv_at hl 0 rfl) ?_
  refine lv_aload_n hx hb dX9_cloud_25 rfl (lv_at hl 0 rfl) ?_
  refine dz_get hx hb hts (fun _ h => List.mem_cons_of_mem _ (List.mem_append_right _ h)) hown hE hG ha g_16_1 rfl 1 (by decide) (hts _ (List.mem_of_getElem? (i := 1) rfl)) (fun _ h9 => h9) rfl dX9_cloud_26 ?_
  refine lv_iload_n hx hb dX9_cloud_29 rfl (lv_at hl 1 rfl) ?_
  refine lv_iadd hx hb dX9_cloud_30 ?_
  refine lv_topi (fun v_2 ev_2 => ?_)
  obtain rfl : v_2 = dy + v1 := ev_2
  refine dz_put hx hb hts (fun _ h => List.mem_cons_of_mem _ (List.mem_append_right _ h)) tyX9 tyX9_ok nmX9 hown hE hG ha hS g_16_1 rfl 27 (by decide) (hts _ (List.mem_of_getElem? (i := 2) rfl)) (fun _ h9 => h9) rfl (ty := .int) (by decide +kernel) rfl rfl (fs' := [.int 0, .int dy, .int (nI nm), .ref (ad (40, 3)), .ref (ad (40, 4)), .ref (ad (40, 5)), .ref (ad (40, 6)), .int td, .ref (ad (40, 8)), .ref (ad (40, 9)), .ref (ad (40, 10)), .int (nI ns), .ref (ad (40, 12)), .ref (ad (40, 13)), .ref (ad (40, 14)), .int (nI nl), .ref (ad (40, 16)), .ref (ad (40, 17)), .ref (ad (40, 18)), .int (nI nx), .ref (ad (40, 20)), .ref (ad (40, 21)), .ref (ad (40, 22)), .ref (ad (40, 23)), .ref (ad (40, 24)), .int ssf, .int sst, .int (dy + v1), .int grw, .int (nI nf), .ref (ad (40, 30)), .ref (ad (40, 31)), .int bkk, .ref (ad (40, 33)), .ref (ad (40, 34)), .ref (ad (40, 35)), .int iop, .ref (ad (40, 37)), .int (nI my)]) rfl (Nat.le_of_ble_eq_true rfl) dX9_cloud_31 (fun H locs hG hS => ?_)
  obtain ⟨G_1, hG, w_1, o_1⟩ := dz_nm hG
  refine lv_aload_n hx hb dX9_cloud_34 rfl (lv_at hl 0 rfl) ?_
  refine dz_get hx hb hts (fun _ h => List.mem_cons_of_mem _ (List.mem_append_right _ h)) hown hE hG ha w_1 rfl 27 (by decide) (hts _ (List.mem_of_getElem? (i := 2) rfl)) (fun _ h9 => h9) rfl dX9_cloud_35 ?_
  refine W.widen (k := 0) (n := 0) (by first | omega | decide) (by first | omega | decide) ?_
  refine W.iret hx hb hrt (fun t ht hW => dz_endM (f := rv_i) _ hE hS hG ?_ ht hW) (fun q h => hS.2.2 q h) dX9_cloud_38
  refine ⟨fun r9 n_0 => (dz_tr (o_1 r9 n_0) (fr_16_1 r9 n_0)), rfl, ?_⟩
  exact ⟨rfl, w_1⟩

set_option maxHeartbeats 4000000 in
set_option maxRecDepth 100000 in
theorem c_M_world_bad (l : Launch) (Z : dzG) (G : dzW) (ad : dzA) (aM nm ns nl nx nf my : Nat) (th dy td ssf sst cfr grw bkk iop : Int32) (v1 : Int32) (ha : ad (39, 0) = aM) (ho : G (39, 0) = some (eO 10 [.int th, .int dy, .int (nI nm), .ref (ad (40, 3)), .ref (ad (40, 4)), .ref (ad (40, 5)), .ref (ad (40, 6)), .int td, .ref (ad (40, 8)), .ref (ad (40, 9)), .ref (ad (40, 10)), .int (nI ns), .ref (ad (40, 12)), .ref (ad (40, 13)), .ref (ad (40, 14)), .int (nI nl), .ref (ad (40, 16)), .ref (ad (40, 17)), .ref (ad (40, 18)), .int (nI nx), .ref (ad (40, 20)), .ref (ad (40, 21)), .ref (ad (40, 22)), .ref (ad (40, 23)), .ref (ad (40, 24)), .int ssf, .int sst, .int cfr, .int grw, .int (nI nf), .ref (ad (40, 30)), .ref (ad (40, 31)), .int bkk, .ref (ad (40, 33)), .ref (ad (40, 34)), .ref (ad (40, 35)), .int iop, .ref (ad (40, 37)), .int (nI my)])) (hbad : ¬ ((40 : Int32) ≤ v1 ∧ v1 ≤ 100)) : dzWr l yX9_world wsX9_world 1 22 0 0 Z G ad [.ref aM, .int v1] rv_i (fun (x : Int32) G1 ad1 => (∀ r9 : dzR, r9 ≠ (39, 0) → G1 r9 = G r9 ∧ ad1 r9 = ad r9) ∧ ad = ad1 ∧ x = 0 ∧ G1 (39, 0) = some (eO 10 [.int 1, .int dy, .int (nI nm), .ref (ad (40, 3)), .ref (ad (40, 4)), .ref (ad (40, 5)), .ref (ad (40, 6)), .int td, .ref (ad (40, 8)), .ref (ad (40, 9)), .ref (ad (40, 10)), .int (nI ns), .ref (ad (40, 12)), .ref (ad (40, 13)), .ref (ad (40, 14)), .int (nI nl), .ref (ad (40, 16)), .ref (ad (40, 17)), .ref (ad (40, 18)), .int (nI nx), .ref (ad (40, 20)), .ref (ad (40, 21)), .ref (ad (40, 22)), .ref (ad (40, 23)), .ref (ad (40, 24)), .int ssf, .int sst, .int cfr, .int grw, .int (nI nf), .ref (ad (40, 30)), .ref (ad (40, 31)), .int bkk, .ref (ad (40, 33)), .ref (ad (40, 34)), .ref (ad (40, 35)), .int iop, .ref (ad (40, 37)), .int (nI my)])) := by
  refine Met.ofW (cc := cX9_world) (maxL := 3) (ret := (some .int)) (by decide) rfl ?_
  intro p e s m args below meth c s₁ B hml hv
  obtain ⟨rfl, hG, hE⟩ := hv
  have hx := B.exec
  have hb := B.bytes
  have hrt := B.returns
  have hts := atoms_spec (ws := wsX9_world) B.pre
  have hown : s.vm.findClass RX9 = some m.cls := findClass_of_methodNamed B.named
  have hlocks := B.notSynchronized
  have hS : va_S (dz_A Z) s.heap s.heap [] := va_S.rf
  have hl := lv_entry ([.ref aM, .int v1]) (n := 3) (Nat.le_of_ble_eq_true rfl)
  rw [lg_entry_eq]
  generalize (lg_sl ([.ref aM, .int v1]) ++ List.replicate (3 - (lg_sl ([.ref aM, .int v1])).length) Slot.unset).toArray = ls at hl ⊢
  have hl : lv_has ls 3 [(0, .ref aM), (1, .int v1)] := hl
  refine lv_aload_n hx hb dX9_world_0 rfl (lv_at hl 0 rfl) ?_
  refine lv_iload_n hx hb dX9_world_1 rfl (lv_at hl 1 rfl) ?_
  refine lv_bipush (v := 40) hx hb dX9_world_2 (by decide) ?_
  refine lv_bipush (v := 100) hx hb dX9_world_4 (by decide) ?_
  refine dz_kRi (va_runS (As := [_, _, _]) ⟨hx, hb, hml, hown, hts⟩ (c_X9_in l Z _ _ _ _ _ ) (va_cwS 3 hts gX9_world_X9_in rfl rfl rfl (by decide +kernel) ⟨Nat.le_of_ble_eq_true rfl, Nat.le_of_ble_eq_true rfl⟩) (dz_P.pre hE hS hG) rfl rfl hl.1 rfl (lv_room (Nat.le_of_ble_eq_true rfl)) dX9_world_6 ⟨Nat.le_of_ble_eq_true rfl, Nat.le_of_ble_eq_true rfl⟩) ?_
  refine lv_topi (fun v_1 ev_1 => ?_)
  obtain rfl : v_1 = 0 := ev_1.trans (dz_b0 hbad)
  refine lv_if_ne (tgt := 16) hx hb dX9_world_9 (by decide) (fun c_9 => absurd (by decide) c_9) (fun c_9 => ?_)
  refine lv_iconst (v := 1) hx hb dX9_world_12 (by decide) ?_
  refine lv_goto (tgt := 28) hx hb dX9_world_13 (by decide) ?_
  refine dz_kMi (va_runV (As := [_]) ⟨hx, hb, hml, hown, hts⟩ (c_X9_refused l Z _ _ _ _ _ _ _ _ _ _ _ _ _ _ _ _ _ _ _ ha ho) (cwV 1 hts gX9_world_X9_refused rfl rfl rfl (by decide +kernel) ⟨Nat.le_of_ble_eq_true rfl, Nat.le_of_ble_eq_true rfl⟩) (dz_P.preV hE hS hG ho rfl ha) rfl rfl hl.1 rfl (lv_room (Nat.le_of_ble_eq_true rfl)) dX9_world_28 ⟨Nat.le_of_ble_eq_true rfl, Nat.le_of_ble_eq_true rfl⟩) hS (fun x_28_1 G_28_1 ad_28_1 H locs hp_28_1 hG hS => ?_)
  obtain ⟨fr_28_1, rfl, x9_28_1, g_28_1⟩ := hp_28_1
  obtain rfl : x_28_1 = 1 := x9_28_1.trans (by decide)
  refine lv_if_eq (tgt := 36) hx hb dX9_world_31 (by decide) (fun c_31 => absurd c_31 (by decide)) (fun c_31 => ?_)
  refine lv_iconst (v := 0) hx hb dX9_world_34 (by decide) ?_
  refine W.widen (k := 0) (n := 0) (by first | omega | decide) (by first | omega | decide) ?_
  refine W.iret hx hb hrt (fun t ht hW => dz_endM (f := rv_i) _ hE hS hG ?_ ht hW) (fun q h => hS.2.2 q h) dX9_world_35
  refine ⟨fun r9 n_0 => (fr_28_1 r9 n_0), rfl, ?_⟩
  exact ⟨rfl, g_28_1⟩

set_option maxHeartbeats 4000000 in
set_option maxRecDepth 100000 in
theorem c_M_world_fr (l : Launch) (Z : dzG) (G : dzW) (ad : dzA) (aM nm ns nl nx nf my : Nat) (th dy td ssf sst cfr grw bkk iop : Int32) (v1 : Int32) (ha : ad (39, 0) = aM) (ho : G (39, 0) = some (eO 10 [.int th, .int dy, .int (nI nm), .ref (ad (40, 3)), .ref (ad (40, 4)), .ref (ad (40, 5)), .ref (ad (40, 6)), .int td, .ref (ad (40, 8)), .ref (ad (40, 9)), .ref (ad (40, 10)), .int (nI ns), .ref (ad (40, 12)), .ref (ad (40, 13)), .ref (ad (40, 14)), .int (nI nl), .ref (ad (40, 16)), .ref (ad (40, 17)), .ref (ad (40, 18)), .int (nI nx), .ref (ad (40, 20)), .ref (ad (40, 21)), .ref (ad (40, 22)), .ref (ad (40, 23)), .ref (ad (40, 24)), .int ssf, .int sst, .int cfr, .int grw, .int (nI nf), .ref (ad (40, 30)), .ref (ad (40, 31)), .int bkk, .ref (ad (40, 33)), .ref (ad (40, 34)), .ref (ad (40, 35)), .int iop, .ref (ad (40, 37)), .int (nI my)])) (hg : ((40 : Int32) ≤ v1 ∧ v1 ≤ 100)) (hf : 0 < nf) (hnf : nf ≤ 60) : dzWr l yX9_world wsX9_world 1 22 0 0 Z G ad [.ref aM, .int v1] rv_i (fun (x : Int32) G1 ad1 => (∀ r9 : dzR, r9 ≠ (39, 0) → G1 r9 = G r9 ∧ ad1 r9 = ad r9) ∧ ad = ad1 ∧ x = 0 ∧ G1 (39, 0) = some (eO 10 [.int 2, .int dy, .int (nI nm), .ref (ad (40, 3)), .ref (ad (40, 4)), .ref (ad (40, 5)), .ref (ad (40, 6)), .int td, .ref (ad (40, 8)), .ref (ad (40, 9)), .ref (ad (40, 10)), .int (nI ns), .ref (ad (40, 12)), .ref (ad (40, 13)), .ref (ad (40, 14)), .int (nI nl), .ref (ad (40, 16)), .ref (ad (40, 17)), .ref (ad (40, 18)), .int (nI nx), .ref (ad (40, 20)), .ref (ad (40, 21)), .ref (ad (40, 22)), .ref (ad (40, 23)), .ref (ad (40, 24)), .int ssf, .int sst, .int cfr, .int grw, .int (nI nf), .ref (ad (40, 30)), .ref (ad (40, 31)), .int bkk, .ref (ad (40, 33)), .ref (ad (40, 34)), .ref (ad (40, 35)), .int iop, .ref (ad (40, 37)), .int (nI my)])) := by
  refine Met.ofW (cc := cX9_world) (maxL := 3) (ret := (some .int)) (by decide) rfl ?_
  intro p e s m args below meth c s₁ B hml hv
  obtain ⟨rfl, hG, hE⟩ := hv
  have hx := B.exec
  have hb := B.bytes
  have hrt := B.returns
  have hts := atoms_spec (ws := wsX9_world) B.pre
  have hown : s.vm.findClass RX9 = some m.cls := findClass_of_methodNamed B.named
  have hlocks := B.notSynchronized
  have hS : va_S (dz_A Z) s.heap s.heap [] := va_S.rf
  have hl := lv_entry ([.ref aM, .int v1]) (n := 3) (Nat.le_of_ble_eq_true rfl)
  rw [lg_entry_eq]
  generalize (lg_sl ([.ref aM, .int v1]) ++ List.replicate (3 - (lg_sl ([.ref aM, .int v1])).length) Slot.unset).toArray = ls at hl ⊢
  have hl : lv_has ls 3 [(0, .ref aM), (1, .int v1)] := hl
  refine lv_aload_n hx hb dX9_world_0 rfl (lv_at hl 0 rfl) ?_
  refine lv_iload_n hx hb dX9_world_1 rfl (lv_at hl 1 rfl) ?_
  refine lv_bipush (v := 40) hx hb dX9_world_2 (by decide) ?_
  refine lv_bipush (v := 100) hx hb dX9_world_4 (by decide) ?_
  refine dz_kRi (va_runS (As := [_, _, _]) ⟨hx, hb, hml, hown, hts⟩ (c_X9_in l Z _ _ _ _ _ ) (va_cwS 3 hts gX9_world_X9_in rfl rfl rfl (by decide +kernel) ⟨Nat.le_of_ble_eq_true rfl, Nat.le_of_ble_eq_true rfl⟩) (dz_P.pre hE hS hG) rfl rfl hl.1 rfl (lv_room (Nat.le_of_ble_eq_true rfl)) dX9_world_6 ⟨Nat.le_of_ble_eq_true rfl, Nat.le_of_ble_eq_true rfl⟩) ?_
  refine lv_topi (fun v_1 ev_1 => ?_)
  obtain rfl : v_1 = 1 := ev_1.trans (dz_b1 hg)
  refine lv_if_ne (tgt := 16) hx hb dX9_world_9 (by decide) (fun c_9 => ?_) (fun c_9 => absurd c_9 (by decide))
  refine lv_aload_n hx hb dX9_world_16 rfl (lv_at hl 0 rfl) ?_
  refine dz_get hx hb hts (fun _ h => List.mem_cons_of_mem _ (List.mem_append_right _ h)) hown hE hG ha ho rfl 29 (by decide) (hts _ (List.mem_of_getElem? (i := 1) rfl)) (fun _ h9 => h9) rfl dX9_world_17 ?_
  refine lv_if_le (tgt := 27) hx hb dX9_world_20 (by decide) (fun c_20 => absurd c_20 (nI_nle hf (by omega))) (fun c_20 => ?_)
  refine lv_iconst (v := 2) hx hb dX9_world_23 (by decide) ?_
  refine lv_goto (tgt := 28) hx hb dX9_world_24 (by decide) ?_
  refine dz_kMi (va_runV (As := [_]) ⟨hx, hb, hml, hown, hts⟩ (c_X9_refused l Z _ _ _ _ _ _ _ _ _ _ _ _ _ _ _ _ _ _ _ ha ho) (cwV 1 hts gX9_world_X9_refused rfl rfl rfl (by decide +kernel) ⟨Nat.le_of_ble_eq_true rfl, Nat.le_of_ble_eq_true rfl⟩) (dz_P.preV hE hS hG ho rfl ha) rfl rfl hl.1 rfl (lv_room (Nat.le_of_ble_eq_true rfl)) dX9_world_28 ⟨Nat.le_of_ble_eq_true rfl, Nat.le_of_ble_eq_true rfl⟩) hS (fun x_28_1 G_28_1 ad_28_1 H locs hp_28_1 hG hS => ?_)
  obtain ⟨fr_28_1, rfl, x9_28_1, g_28_1⟩ := hp_28_1
  obtain rfl : x_28_1 = 1 := x9_28_1.trans (by decide)
  refine lv_if_eq (tgt := 36) hx hb dX9_world_31 (by decide) (fun c_31 => absurd c_31 (by decide)) (fun c_31 => ?_)
  refine lv_iconst (v := 0) hx hb dX9_world_34 (by decide) ?_
  refine W.widen (k := 0) (n := 0) (by first | omega | decide) (by first | omega | decide) ?_
  refine W.iret hx hb hrt (fun t ht hW => dz_endM (f := rv_i) _ hE hS hG ?_ ht hW) (fun q h => hS.2.2 q h) dX9_world_35
  refine ⟨fun r9 n_0 => (fr_28_1 r9 n_0), rfl, ?_⟩
  exact ⟨rfl, g_28_1⟩

set_option maxHeartbeats 4000000 in
set_option maxRecDepth 100000 in
theorem c_M_world_ok (l : Launch) (Z : dzG) (G : dzW) (ad : dzA) (aM nm ns nl nx nf my : Nat) (th dy td ssf sst cfr grw bkk iop : Int32) (v1 : Int32) (ha : ad (39, 0) = aM) (ho : G (39, 0) = some (eO 10 [.int th, .int dy, .int (nI nm), .ref (ad (40, 3)), .ref (ad (40, 4)), .ref (ad (40, 5)), .ref (ad (40, 6)), .int td, .ref (ad (40, 8)), .ref (ad (40, 9)), .ref (ad (40, 10)), .int (nI ns), .ref (ad (40, 12)), .ref (ad (40, 13)), .ref (ad (40, 14)), .int (nI nl), .ref (ad (40, 16)), .ref (ad (40, 17)), .ref (ad (40, 18)), .int (nI nx), .ref (ad (40, 20)), .ref (ad (40, 21)), .ref (ad (40, 22)), .ref (ad (40, 23)), .ref (ad (40, 24)), .int ssf, .int sst, .int cfr, .int grw, .int (nI nf), .ref (ad (40, 30)), .ref (ad (40, 31)), .int bkk, .ref (ad (40, 33)), .ref (ad (40, 34)), .ref (ad (40, 35)), .int iop, .ref (ad (40, 37)), .int (nI my)])) (hg : ((40 : Int32) ≤ v1 ∧ v1 ≤ 100)) (hf : nf = 0) : dzWr l yX9_world wsX9_world 1 22 0 0 Z G ad [.ref aM, .int v1] rv_i (fun (x : Int32) G1 ad1 => (∀ r9 : dzR, r9 ≠ (39, 0) → G1 r9 = G r9 ∧ ad1 r9 = ad r9) ∧ ad = ad1 ∧ x = grw ∧ G1 (39, 0) = some (eO 10 [.int 0, .int dy, .int (nI nm), .ref (ad (40, 3)), .ref (ad (40, 4)), .ref (ad (40, 5)), .ref (ad (40, 6)), .int td, .ref (ad (40, 8)), .ref (ad (40, 9)), .ref (ad (40, 10)), .int (nI ns), .ref (ad (40, 12)), .ref (ad (40, 13)), .ref (ad (40, 14)), .int (nI nl), .ref (ad (40, 16)), .ref (ad (40, 17)), .ref (ad (40, 18)), .int (nI nx), .ref (ad (40, 20)), .ref (ad (40, 21)), .ref (ad (40, 22)), .ref (ad (40, 23)), .ref (ad (40, 24)), .int ssf, .int sst, .int cfr, .int v1, .int (nI nf), .ref (ad (40, 30)), .ref (ad (40, 31)), .int bkk, .ref (ad (40, 33)), .ref (ad (40, 34)), .ref (ad (40, 35)), .int iop, .ref (ad (40, 37)), .int (nI my)])) := by
  refine Met.ofW (cc := cX9_world) (maxL := 3) (ret := (some .int)) (by decide) rfl ?_
  intro p e s m args below meth c s₁ B hml hv
  obtain ⟨rfl, hG, hE⟩ := hv
  have hx := B.exec
  have hb := B.bytes
  have hrt := B.returns
  have hts := atoms_spec (ws := wsX9_world) B.pre
  have hown : s.vm.findClass RX9 = some m.cls := findClass_of_methodNamed B.named
  have hlocks := B.notSynchronized
  have hS : va_S (dz_A Z) s.heap s.heap [] := va_S.rf
  have hl := lv_entry ([.ref aM, .int v1]) (n := 3) (Nat.le_of_ble_eq_true rfl)
  rw [lg_entry_eq]
  generalize (lg_sl ([.ref aM, .int v1]) ++ List.replicate (3 - (lg_sl ([.ref aM, .int v1])).length) Slot.unset).toArray = ls at hl ⊢
  have hl : lv_has ls 3 [(0, .ref aM), (1, .int v1)] := hl
  refine lv_aload_n hx hb dX9_world_0 rfl (lv_at hl 0 rfl) ?_
  refine lv_iload_n hx hb dX9_world_1 rfl (lv_at hl 1 rfl) ?_
  refine lv_bipush (v := 40) hx hb dX9_world_2 (by decide) ?_
  refine lv_bipush (v := 100) hx hb dX9_world_4 (by decide) ?_
  refine dz_kRi (va_runS (As := [_, _, _]) ⟨hx, hb, hml, hown, hts⟩ (c_X9_in l Z _ _ _ _ _ ) (va_cwS 3 hts gX9_world_X9_in rfl rfl rfl (by decide +kernel) ⟨Nat.le_of_ble_eq_true rfl, Nat.le_of_ble_eq_true rfl⟩) (dz_P.pre hE hS hG) rfl rfl hl.1 rfl (lv_room (Nat.le_of_ble_eq_true rfl)) dX9_world_6 ⟨Nat.le_of_ble_eq_true rfl, Nat.le_of_ble_eq_true rfl⟩) ?_
  refine lv_topi (fun v_1 ev_1 => ?_)
  obtain rfl : v_1 = 1 := ev_1.trans (dz_b1 hg)
  refine lv_if_ne (tgt := 16) hx hb dX9_world_9 (by decide) (fun c_9 => ?_) (fun c_9 => absurd c_9 (by decide))
  refine lv_aload_n hx hb dX9_world_16 rfl (lv_at hl 0 rfl) ?_
  refine dz_get hx hb hts (fun _ h => List.mem_cons_of_mem _ (List.mem_append_right _ h)) hown hE hG ha ho rfl 29 (by decide) (hts _ (List.mem_of_getElem? (i := 1) rfl)) (fun _ h9 => h9) rfl dX9_world_17 ?_
  refine lv_if_le (tgt := 27) hx hb dX9_world_20 (by decide) (fun c_20 => ?_) (fun c_20 => absurd (by rw [hf]; decide) c_20)
  refine lv_iconst (v := 0) hx hb dX9_world_27 (by decide) ?_
  refine dz_kMi (va_runV (As := [_]) ⟨hx, hb, hml, hown, hts⟩ (c_X9_refused l Z _ _ _ _ _ _ _ _ _ _ _ _ _ _ _ _ _ _ _ ha ho) (cwV 1 hts gX9_world_X9_refused rfl rfl rfl (by decide +kernel) ⟨Nat.le_of_ble_eq_true rfl, Nat.le_of_ble_eq_true rfl⟩) (dz_P.preV hE hS hG ho rfl ha) rfl rfl hl.1 rfl (lv_room (Nat.le_of_ble_eq_true rfl)) dX9_world_28 ⟨Nat.le_of_ble_eq_true rfl, Nat.le_of_ble_eq_true rfl⟩) hS (fun x_28_1 G_28_1 ad_28_1 H locs hp_28_1 hG hS => ?_)
  obtain ⟨fr_28_1, rfl, x9_28_1, g_28_1⟩ := hp_28_1
  obtain rfl : x_28_1 = 0 := x9_28_1.trans (by decide)
  refine lv_if_eq (tgt := 36) hx hb dX9_world_31 (by decide) (fun c_31 => ?_) (fun c_31 => absurd (by decide) c_31)
  refine lv_aload_n hx hb dX9_world_36 rfl (lv_at hl 0 rfl) ?_
  refine dz_get hx hb hts (fun _ h => List.mem_cons_of_mem _ (List.mem_append_right _ h)) hown hE hG ha g_28_1 rfl 28 (by decide) (hts _ (List.mem_of_getElem? (i := 2) rfl)) (fun _ h9 => h9) rfl dX9_world_37 ?_
  refine lv_istore_n (lv' := [(2, .int grw), (0, .ref aM), (1, .int v1)]) hx hb dX9_world_40 rfl hl (by decide) rfl (fun ls hl => ?_)
  refine lv_aload_n hx hb dX9_world_41 rfl (lv_at hl 1 rfl) ?_
  refine lv_iload_n hx hb dX9_world_42 rfl (lv_at hl 2 rfl) ?_
  refine dz_put hx hb hts (fun _ h => List.mem_cons_of_mem _ (List.mem_append_right _ h)) tyX9 tyX9_ok nmX9 hown hE hG ha hS g_28_1 rfl 28 (by decide) (hts _ (List.mem_of_getElem? (i := 2) rfl)) (fun _ h9 => h9) rfl (ty := .int) (by decide +kernel) rfl rfl (fs' := [.int 0, .int dy, .int (nI nm), .ref (ad (40, 3)), .ref (ad (40, 4)), .ref (ad (40, 5)), .ref (ad (40, 6)), .int td, .ref (ad (40, 8)), .ref (ad (40, 9)), .ref (ad (40, 10)), .int (nI ns), .ref (ad (40, 12)), .ref (ad (40, 13)), .ref (ad (40, 14)), .int (nI nl), .ref (ad (40, 16)), .ref (ad (40, 17)), .ref (ad (40, 18)), .int (nI nx), .ref (ad (40, 20)), .ref (ad (40, 21)), .ref (ad (40, 22)), .ref (ad (40, 23)), .ref (ad (40, 24)), .int ssf, .int sst, .int cfr, .int v1, .int (nI nf), .ref (ad (40, 30)), .ref (ad (40, 31)), .int bkk, .ref (ad (40, 33)), .ref (ad (40, 34)), .ref (ad (40, 35)), .int iop, .ref (ad (40, 37)), .int (nI my)]) rfl (Nat.le_of_ble_eq_true rfl) dX9_world_43 (fun H locs hG hS => ?_)
  obtain ⟨G_1, hG, w_1, o_1⟩ := dz_nm hG
  refine lv_iload_n hx hb dX9_world_46 rfl (lv_at hl 0 rfl) ?_
  refine W.widen (k := 0) (n := 0) (by first | omega | decide) (by first | omega | decide) ?_
  refine W.iret hx hb hrt (fun t ht hW => dz_endM (f := rv_i) _ hE hS hG ?_ ht hW) (fun q h => hS.2.2 q h) dX9_world_47
  refine ⟨fun r9 n_0 => (dz_tr (o_1 r9 n_0) (fr_28_1 r9 n_0)), rfl, ?_⟩
  exact ⟨rfl, w_1⟩

set_option maxHeartbeats 4000000 in
set_option maxRecDepth 100000 in
theorem c_M_pass_bad (l : Launch) (Z : dzG) (G : dzW) (ad : dzA) (aM nm ns nl nx nf my : Nat) (th dy td ssf sst cfr grw bkk iop : Int32) (v1 : Int32) (ha : ad (39, 0) = aM) (ho : G (39, 0) = some (eO 10 [.int th, .int dy, .int (nI nm), .ref (ad (40, 3)), .ref (ad (40, 4)), .ref (ad (40, 5)), .ref (ad (40, 6)), .int td, .ref (ad (40, 8)), .ref (ad (40, 9)), .ref (ad (40, 10)), .int (nI ns), .ref (ad (40, 12)), .ref (ad (40, 13)), .ref (ad (40, 14)), .int (nI nl), .ref (ad (40, 16)), .ref (ad (40, 17)), .ref (ad (40, 18)), .int (nI nx), .ref (ad (40, 20)), .ref (ad (40, 21)), .ref (ad (40, 22)), .ref (ad (40, 23)), .ref (ad (40, 24)), .int ssf, .int sst, .int cfr, .int grw, .int (nI nf), .ref (ad (40, 30)), .ref (ad (40, 31)), .int bkk, .ref (ad (40, 33)), .ref (ad (40, 34)), .ref (ad (40, 35)), .int iop, .ref (ad (40, 37)), .int (nI my)])) (hbad : ¬ ((1 : Int32) ≤ v1 ∧ v1 ≤ 100)) : dzWr l yX9_pass wsX9_pass 1 22 0 0 Z G ad [.ref aM, .int v1] rv_i (fun (x : Int32) G1 ad1 => (∀ r9 : dzR, r9 ≠ (39, 0) → G1 r9 = G r9 ∧ ad1 r9 = ad r9) ∧ ad = ad1 ∧ x = 0 ∧ G1 (39, 0) = some (eO 10 [.int 1, .int dy, .int (nI nm), .ref (ad (40, 3)), .ref (ad (40, 4)), .ref (ad (40, 5)), .ref (ad (40, 6)), .int td, .ref (ad (40, 8)), .ref (ad (40, 9)), .ref (ad (40, 10)), .int (nI ns), .ref (ad (40, 12)), .ref (ad (40, 13)), .ref (ad (40, 14)), .int (nI nl), .ref (ad (40, 16)), .ref (ad (40, 17)), .ref (ad (40, 18)), .int (nI nx), .ref (ad (40, 20)), .ref (ad (40, 21)), .ref (ad (40, 22)), .ref (ad (40, 23)), .ref (ad (40, 24)), .int ssf, .int sst, .int cfr, .int grw, .int (nI nf), .ref (ad (40, 30)), .ref (ad (40, 31)), .int bkk, .ref (ad (40, 33)), .ref (ad (40, 34)), .ref (ad (40, 35)), .int iop, .ref (ad (40, 37)), .int (nI my)])) := by
  refine Met.ofW (cc := cX9_pass) (maxL := 2) (ret := (some .int)) (by decide) rfl ?_
  intro p e s m args below meth c s₁ B hml hv
  obtain ⟨rfl, hG, hE⟩ := hv
  have hx := B.exec
  have hb := B.bytes
  have hrt := B.returns
  have hts := atoms_spec (ws := wsX9_pass) B.pre
  have hown : s.vm.findClass RX9 = some m.cls := findClass_of_methodNamed B.named
  have hlocks := B.notSynchronized
  have hS : va_S (dz_A Z) s.heap s.heap [] := va_S.rf
  have hl := lv_entry ([.ref aM, .int v1]) (n := 2) (Nat.le_of_ble_eq_true rfl)
  rw [lg_entry_eq]
  generalize (lg_sl ([.ref aM, .int v1]) ++ List.replicate (2 - (lg_sl ([.ref aM, .int v1])).length) Slot.unset).toArray = ls at hl ⊢
  have hl : lv_has ls 2 [(0, .ref aM), (1, .int v1)] := hl
  refine lv_aload_n hx hb dX9_pass_0 rfl (lv_at hl 0 rfl) ?_
  refine lv_iload_n hx hb dX9_pass_1 rfl (lv_at hl 1 rfl) ?_
  refine lv_iconst (v := 1) hx hb dX9_pass_2 (by decide) ?_
  refine lv_bipush (v := 100) hx hb dX9_pass_3 (by decide) ?_
  refine dz_kRi (va_runS (As := [_, _, _]) ⟨hx, hb, hml, hown, hts⟩ (c_X9_in l Z _ _ _ _ _ ) (va_cwS 3 hts gX9_pass_X9_in rfl rfl rfl (by decide +kernel) ⟨Nat.le_of_ble_eq_true rfl, Nat.le_of_ble_eq_true rfl⟩) (dz_P.pre hE hS hG) rfl rfl hl.1 rfl (lv_room (Nat.le_of_ble_eq_true rfl)) dX9_pass_5 ⟨Nat.le_of_ble_eq_true rfl, Nat.le_of_ble_eq_true rfl⟩) ?_
  refine lv_topi (fun v_1 ev_1 => ?_)
  obtain rfl : v_1 = 0 := ev_1.trans (dz_b0 hbad)
  refine lv_if_ne (tgt := 15) hx hb dX9_pass_8 (by decide) (fun c_8 => absurd (by decide) c_8) (fun c_8 => ?_)
  refine lv_iconst (v := 1) hx hb dX9_pass_11 (by decide) ?_
  refine lv_goto (tgt := 32) hx hb dX9_pass_12 (by decide) ?_
  refine dz_kMi (va_runV (As := [_]) ⟨hx, hb, hml, hown, hts⟩ (c_X9_refused l Z _ _ _ _ _ _ _ _ _ _ _ _ _ _ _ _ _ _ _ ha ho) (cwV 1 hts gX9_pass_X9_refused rfl rfl rfl (by decide +kernel) ⟨Nat.le_of_ble_eq_true rfl, Nat.le_of_ble_eq_true rfl⟩) (dz_P.preV hE hS hG ho rfl ha) rfl rfl hl.1 rfl (lv_room (Nat.le_of_ble_eq_true rfl)) dX9_pass_32 ⟨Nat.le_of_ble_eq_true rfl, Nat.le_of_ble_eq_true rfl⟩) hS (fun x_32_1 G_32_1 ad_32_1 H locs hp_32_1 hG hS => ?_)
  obtain ⟨fr_32_1, rfl, x9_32_1, g_32_1⟩ := hp_32_1
  obtain rfl : x_32_1 = 1 := x9_32_1.trans (by decide)
  refine lv_if_eq (tgt := 40) hx hb dX9_pass_35 (by decide) (fun c_35 => absurd c_35 (by decide)) (fun c_35 => ?_)
  refine lv_iconst (v := 0) hx hb dX9_pass_38 (by decide) ?_
  refine W.widen (k := 0) (n := 0) (by first | omega | decide) (by first | omega | decide) ?_
  refine W.iret hx hb hrt (fun t ht hW => dz_endM (f := rv_i) _ hE hS hG ?_ ht hW) (fun q h => hS.2.2 q h) dX9_pass_39
  refine ⟨fun r9 n_0 => (fr_32_1 r9 n_0), rfl, ?_⟩
  exact ⟨rfl, g_32_1⟩

set_option maxHeartbeats 4000000 in
set_option maxRecDepth 100000 in
theorem c_M_pass_late (l : Launch) (Z : dzG) (G : dzW) (ad : dzA) (aM nm ns nl nx nf my : Nat) (th dy td ssf sst cfr grw bkk iop : Int32) (v1 : Int32) (ha : ad (39, 0) = aM) (ho : G (39, 0) = some (eO 10 [.int th, .int dy, .int (nI nm), .ref (ad (40, 3)), .ref (ad (40, 4)), .ref (ad (40, 5)), .ref (ad (40, 6)), .int td, .ref (ad (40, 8)), .ref (ad (40, 9)), .ref (ad (40, 10)), .int (nI ns), .ref (ad (40, 12)), .ref (ad (40, 13)), .ref (ad (40, 14)), .int (nI nl), .ref (ad (40, 16)), .ref (ad (40, 17)), .ref (ad (40, 18)), .int (nI nx), .ref (ad (40, 20)), .ref (ad (40, 21)), .ref (ad (40, 22)), .ref (ad (40, 23)), .ref (ad (40, 24)), .int ssf, .int sst, .int cfr, .int grw, .int (nI nf), .ref (ad (40, 30)), .ref (ad (40, 31)), .int bkk, .ref (ad (40, 33)), .ref (ad (40, 34)), .ref (ad (40, 35)), .int iop, .ref (ad (40, 37)), .int (nI my)])) (hg : ((1 : Int32) ≤ v1 ∧ v1 ≤ 100)) (hd : 2000 < dy + v1) : dzWr l yX9_pass wsX9_pass 1 22 0 0 Z G ad [.ref aM, .int v1] rv_i (fun (x : Int32) G1 ad1 => (∀ r9 : dzR, r9 ≠ (39, 0) → G1 r9 = G r9 ∧ ad1 r9 = ad r9) ∧ ad = ad1 ∧ x = 0 ∧ G1 (39, 0) = some (eO 10 [.int 2, .int dy, .int (nI nm), .ref (ad (40, 3)), .ref (ad (40, 4)), .ref (ad (40, 5)), .ref (ad (40, 6)), .int td, .ref (ad (40, 8)), .ref (ad (40, 9)), .ref (ad (40, 10)), .int (nI ns), .ref (ad (40, 12)), .ref (ad (40, 13)), .ref (ad (40, 14)), .int (nI nl), .ref (ad (40, 16)), .ref (ad (40, 17)), .ref (ad (40, 18)), .int (nI nx), .ref (ad (40, 20)), .ref (ad (40, 21)), .ref (ad (40, 22)), .ref (ad (40, 23)), .ref (ad (40, 24)), .int ssf, .int sst, .int cfr, .int grw, .int (nI nf), .ref (ad (40, 30)), .ref (ad (40, 31)), .int bkk, .ref (ad (40, 33)), .ref (ad (40, 34)), .ref (ad (40, 35)), .int iop, .ref (ad (40, 37)), .int (nI my)])) := by
  refine Met.ofW (cc := cX9_pass) (maxL := 2) (ret := (some .int)) (by decide) rfl ?_
  intro p e s m args below meth c s₁ B hml hv
  obtain ⟨rfl, hG, hE⟩ := hv
  have hx := B.exec
  have hb := B.bytes
  have hrt := B.returns
  have hts := atoms_spec (ws := wsX9_pass) B.pre
  have hown : s.vm.findClass RX9 = some m.cls := findClass_of_methodNamed B.named
  have hlocks := B.notSynchronized
  have hS : va_S (dz_A Z) s.heap s.heap [] := va_S.rf
  have hl := lv_entry ([.ref aM, .int v1]) (n := 2) (Nat.le_of_ble_eq_true rfl)
  rw [lg_entry_eq]
  generalize (lg_sl ([.ref aM, .int v1]) ++ List.replicate (2 - (lg_sl ([.ref aM, .int v1])).length) Slot.unset).toArray = ls at hl ⊢
  have hl : lv_has ls 2 [(0, .ref aM), (1, .int v1)] := hl
  refine lv_aload_n hx hb dX9_pass_0 rfl (lv_at hl 0 rfl) ?_
  refine lv_iload_n hx hb dX9_pass_1 rfl (lv_at hl 1 rfl) ?_
  refine lv_iconst (v := 1) hx hb dX9_pass_2 (by decide) ?_
  refine lv_bipush (v := 100) hx hb dX9_pass_3 (by decide) ?_
  refine dz_kRi (va_runS (As := [_, _, _]) ⟨hx, hb, hml, hown, hts⟩ (c_X9_in l Z _ _ _ _ _ ) (va_cwS 3 hts gX9_pass_X9_in rfl rfl rfl (by decide +kernel) ⟨Nat.le_of_ble_eq_true rfl, Nat.le_of_ble_eq_true rfl⟩) (dz_P.pre hE hS hG) rfl rfl hl.1 rfl (lv_room (Nat.le_of_ble_eq_true rfl)) dX9_pass_5 ⟨Nat.le_of_ble_eq_true rfl, Nat.le_of_ble_eq_true rfl⟩) ?_
  refine lv_topi (fun v_1 ev_1 => ?_)
  obtain rfl : v_1 = 1 := ev_1.trans (dz_b1 hg)
  refine lv_if_ne (tgt := 15) hx hb dX9_pass_8 (by decide) (fun c_8 => ?_) (fun c_8 => absurd c_8 (by decide))
  refine lv_aload_n hx hb dX9_pass_15 rfl (lv_at hl 0 rfl) ?_
  refine dz_get hx hb hts (fun _ h => List.mem_cons_of_mem _ (List.mem_append_right _ h)) hown hE hG ha ho rfl 1 (by decide) (hts _ (List.mem_of_getElem? (i := 1) rfl)) (fun _ h9 => h9) rfl dX9_pass_16 ?_
  refine lv_iload_n hx hb dX9_pass_19 rfl (lv_at hl 1 rfl) ?_
  refine lv_iadd hx hb dX9_pass_20 ?_
  refine lv_sipush (v := 2000) hx hb dX9_pass_21 (by decide) ?_
  refine lv_icmp_le (tgt := 31) hx hb dX9_pass_24 (by decide) (fun c_24 => absurd c_24 (Int32.not_le.mpr hd)) (fun c_24 => ?_)
  refine lv_iconst (v := 2) hx hb dX9_pass_27 (by decide) ?_
  refine lv_goto (tgt := 32) hx hb dX9_pass_28 (by decide) ?_
  refine dz_kMi (va_runV (As := [_]) ⟨hx, hb, hml, hown, hts⟩ (c_X9_refused l Z _ _ _ _ _ _ _ _ _ _ _ _ _ _ _ _ _ _ _ ha ho) (cwV 1 hts gX9_pass_X9_refused rfl rfl rfl (by decide +kernel) ⟨Nat.le_of_ble_eq_true rfl, Nat.le_of_ble_eq_true rfl⟩) (dz_P.preV hE hS hG ho rfl ha) rfl rfl hl.1 rfl (lv_room (Nat.le_of_ble_eq_true rfl)) dX9_pass_32 ⟨Nat.le_of_ble_eq_true rfl, Nat.le_of_ble_eq_true rfl⟩) hS (fun x_32_1 G_32_1 ad_32_1 H locs hp_32_1 hG hS => ?_)
  obtain ⟨fr_32_1, rfl, x9_32_1, g_32_1⟩ := hp_32_1
  obtain rfl : x_32_1 = 1 := x9_32_1.trans (by decide)
  refine lv_if_eq (tgt := 40) hx hb dX9_pass_35 (by decide) (fun c_35 => absurd c_35 (by decide)) (fun c_35 => ?_)
  refine lv_iconst (v := 0) hx hb dX9_pass_38 (by decide) ?_
  refine W.widen (k := 0) (n := 0) (by first | omega | decide) (by first | omega | decide) ?_
  refine W.iret hx hb hrt (fun t ht hW => dz_endM (f := rv_i) _ hE hS hG ?_ ht hW) (fun q h => hS.2.2 q h) dX9_pass_39
  refine ⟨fun r9 n_0 => (fr_32_1 r9 n_0), rfl, ?_⟩
  exact ⟨rfl, g_32_1⟩

set_option maxHeartbeats 4000000 in
set_option maxRecDepth 100000 in
theorem c_M_pass_ok (l : Launch) (Z : dzG) (G : dzW) (ad : dzA) (aM nm ns nl nx nf my : Nat) (th dy td ssf sst cfr grw bkk iop : Int32) (v1 : Int32) (ha : ad (39, 0) = aM) (ho : G (39, 0) = some (eO 10 [.int th, .int dy, .int (nI nm), .ref (ad (40, 3)), .ref (ad (40, 4)), .ref (ad (40, 5)), .ref (ad (40, 6)), .int td, .ref (ad (40, 8)), .ref (ad (40, 9)), .ref (ad (40, 10)), .int (nI ns), .ref (ad (40, 12)), .ref (ad (40, 13)), .ref (ad (40, 14)), .int (nI nl), .ref (ad (40, 16)), .ref (ad (40, 17)), .ref (ad (40, 18)), .int (nI nx), .ref (ad (40, 20)), .ref (ad (40, 21)), .ref (ad (40, 22)), .ref (ad (40, 23)), .ref (ad (40, 24)), .int ssf, .int sst, .int cfr, .int grw, .int (nI nf), .ref (ad (40, 30)), .ref (ad (40, 31)), .int bkk, .ref (ad (40, 33)), .ref (ad (40, 34)), .ref (ad (40, 35)), .int iop, .ref (ad (40, 37)), .int (nI my)])) (hg : ((1 : Int32) ≤ v1 ∧ v1 ≤ 100)) (hd : ¬ 2000 < dy + v1) : dzWr l yX9_pass wsX9_pass 1 22 0 0 Z G ad [.ref aM, .int v1] rv_i (fun (x : Int32) G1 ad1 => (∀ r9 : dzR, r9 ≠ (39, 0) → G1 r9 = G r9 ∧ ad1 r9 = ad r9) ∧ ad = ad1 ∧ x = dy + v1 ∧ G1 (39, 0) = some (eO 10 [.int 0, .int (dy + v1), .int (nI nm), .ref (ad (40, 3)), .ref (ad (40, 4)), .ref (ad (40, 5)), .ref (ad (40, 6)), .int td, .ref (ad (40, 8)), .ref (ad (40, 9)), .ref (ad (40, 10)), .int (nI ns), .ref (ad (40, 12)), .ref (ad (40, 13)), .ref (ad (40, 14)), .int (nI nl), .ref (ad (40, 16)), .ref (ad (40, 17)), .ref (ad (40, 18)), .int (nI nx), .ref (ad (40, 20)), .ref (ad (40, 21)), .ref (ad (40, 22)), .ref (ad (40, 23)), .ref (ad (40, 24)), .int ssf, .int sst, .int cfr, .int grw, .int (nI nf), .ref (ad (40, 30)), .ref (ad (40, 31)), .int bkk, .ref (ad (40, 33)), .ref (ad (40, 34)), .ref (ad (40, 35)), .int iop, .ref (ad (40, 37)), .int (nI my)])) := by
  refine Met.ofW (cc := cX9_pass) (maxL := 2) (ret := (some .int)) (by decide) rfl ?_
  intro p e s m args below meth c s₁ B hml hv
  obtain ⟨rfl, hG, hE⟩ := hv
  have hx := B.exec
  have hb := B.bytes
  have hrt := B.returns
  have hts := atoms_spec (ws := wsX9_pass) B.pre
  have hown : s.vm.findClass RX9 = some m.cls := findClass_of_methodNamed B.named
  have hlocks := B.notSynchronized
  have hS : va_S (dz_A Z) s.heap s.heap [] := va_S.rf
  have hl := lv_entry ([.ref aM, .int v1]) (n := 2) (Nat.le_of_ble_eq_true rfl)
  rw [lg_entry_eq]
  generalize (lg_sl ([.ref aM, .int v1]) ++ List.replicate (2 - (lg_sl ([.ref aM, .int v1])).length) Slot.unset).toArray = ls at hl ⊢
  have hl : lv_has ls 2 [(0, .ref aM), (1, .int v1)] := hl
  refine lv_aload_n hx hb dX9_pass_0 rfl (lv_at hl 0 rfl) ?_
  refine lv_iload_n hx hb dX9_pass_1 rfl (lv_at hl 1 rfl) ?_
  refine lv_iconst (v := 1) hx hb dX9_pass_2 (by decide) ?_
  refine lv_bipush (v := 100) hx hb dX9_pass_3 (by decide) ?_
  refine dz_kRi (va_runS (As := [_, _, _]) ⟨hx, hb, hml, hown, hts⟩ (c_X9_in l Z _ _ _ _ _ ) (va_cwS 3 hts gX9_pass_X9_in rfl rfl rfl (by decide +kernel) ⟨Nat.le_of_ble_eq_true rfl, Nat.le_of_ble_eq_true rfl⟩) (dz_P.pre hE hS hG) rfl rfl hl.1 rfl (lv_room (Nat.le_of_ble_eq_true rfl)) dX9_pass_5 ⟨Nat.le_of_ble_eq_true rfl, Nat.le_of_ble_eq_true rfl⟩) ?_
  refine lv_topi (fun v_1 ev_1 => ?_)
  obtain rfl : v_1 = 1 := ev_1.trans (dz_b1 hg)
  refine lv_if_ne (tgt := 15) hx hb dX9_pass_8 (by decide) (fun c_8 => ?_) (fun c_8 => absurd c_8 (by decide))
  refine lv_aload_n hx hb dX9_pass_15 rfl (lv_at hl 0 rfl) ?_
  refine dz_get hx hb hts (fun _ h => List.mem_cons_of_mem _ (List.mem_append_right _ h)) hown hE hG ha ho rfl 1 (by decide) (hts _ (List.mem_of_getElem? (i := 1) rfl)) (fun _ h9 => h9) rfl dX9_pass_16 ?_
  refine lv_iload_n hx hb dX9_pass_19 rfl (lv_at hl 1 rfl) ?_
  refine lv_iadd hx hb dX9_pass_20 ?_
  refine lv_sipush (v := 2000) hx hb dX9_pass_21 (by decide) ?_
  refine lv_icmp_le (tgt := 31) hx hb dX9_pass_24 (by decide) (fun c_24 => ?_) (fun c_24 => absurd (Int32.not_lt.mp hd) c_24)
  refine lv_iconst (v := 0) hx hb dX9_pass_31 (by decide) ?_
  refine dz_kMi (va_runV (As := [_]) ⟨hx, hb, hml, hown, hts⟩ (c_X9_refused l Z _ _ _ _ _ _ _ _ _ _ _ _ _ _ _ _ _ _ _ ha ho) (cwV 1 hts gX9_pass_X9_refused rfl rfl rfl (by decide +kernel) ⟨Nat.le_of_ble_eq_true rfl, Nat.le_of_ble_eq_true rfl⟩) (dz_P.preV hE hS hG ho rfl ha) rfl rfl hl.1 rfl (lv_room (Nat.le_of_ble_eq_true rfl)) dX9_pass_32 ⟨Nat.le_of_ble_eq_true rfl, Nat.le_of_ble_eq_true rfl⟩) hS (fun x_32_1 G_32_1 ad_32_1 H locs hp_32_1 hG hS => ?_)
  obtain ⟨fr_32_1, rfl, x9_32_1, g_32_1⟩ := hp_32_1
  obtain rfl : x_32_1 = 0 := x9_32_1.trans (by decide)
  refine lv_if_eq (tgt := 40) hx hb dX9_pass_35 (by decide) (fun c_35 => ?_) (fun c_35 => absurd (by decide) c_35)
  refine lv_aload_n hx hb dX9_pass_40 rfl (lv_at hl 0 rfl) ?_
  refine lv_dup hx hb dX9_pass_41 rfl ?_
  refine dz_get hx hb hts (fun _ h => List.mem_cons_of_mem _ (List.mem_append_right _ h)) hown hE hG ha g_32_1 rfl 1 (by decide) (hts _ (List.mem_of_getElem? (i := 1) rfl)) (fun _ h9 => h9) rfl dX9_pass_42 ?_
  refine lv_iload_n hx hb dX9_pass_45 rfl (lv_at hl 1 rfl) ?_
  refine lv_iadd hx hb dX9_pass_46 ?_
  refine lv_topi (fun v_2 ev_2 => ?_)
  obtain rfl : v_2 = dy + v1 := ev_2
  refine dz_put hx hb hts (fun _ h => List.mem_cons_of_mem _ (List.mem_append_right _ h)) tyX9 tyX9_ok nmX9 hown hE hG ha hS g_32_1 rfl 1 (by decide) (hts _ (List.mem_of_getElem? (i := 1) rfl)) (fun _ h9 => h9) rfl (ty := .int) (by decide +kernel) rfl rfl (fs' := [.int 0, .int (dy + v1), .int (nI nm), .ref (ad (40, 3)), .ref (ad (40, 4)), .ref (ad (40, 5)), .ref (ad (40, 6)), .int td, .ref (ad (40, 8)), .ref (ad (40, 9)), .ref (ad (40, 10)), .int (nI ns), .ref (ad (40, 12)), .ref (ad (40, 13)), .ref (ad (40, 14)), .int (nI nl), .ref (ad (40, 16)), .ref (ad (40, 17)), .ref (ad (40, 18)), .int (nI nx), .ref (ad (40, 20)), .ref (ad (40, 21)), .ref (ad (40, 22)), .ref (ad (40, 23)), .ref (ad (40, 24)), .int ssf, .int sst, .int cfr, .int grw, .int (nI nf), .ref (ad (40, 30)), .ref (ad (40, 31)), .int bkk, .ref (ad (40, 33)), .ref (ad (40, 34)), .ref (ad (40, 35)), .int iop, .ref (ad (40, 37)), .int (nI my)]) rfl (Nat.le_of_ble_eq_true rfl) dX9_pass_47 (fun H locs hG hS => ?_)
  obtain ⟨G_1, hG, w_1, o_1⟩ := dz_nm hG
  refine lv_aload_n hx hb dX9_pass_50 rfl (lv_at hl 0 rfl) ?_
  refine dz_get hx hb hts (fun _ h => List.mem_cons_of_mem _ (List.mem_append_right _ h)) hown hE hG ha w_1 rfl 1 (by decide) (hts _ (List.mem_of_getElem? (i := 1) rfl)) (fun _ h9 => h9) rfl dX9_pass_51 ?_
  refine W.widen (k := 0) (n := 0) (by first | omega | decide) (by first | omega | decide) ?_
  refine W.iret hx hb hrt (fun t ht hW => dz_endM (f := rv_i) _ hE hS hG ?_ ht hW) (fun q h => hS.2.2 q h) dX9_pass_54
  refine ⟨fun r9 n_0 => (dz_tr (o_1 r9 n_0) (fr_32_1 r9 n_0)), rfl, ?_⟩
  exact ⟨rfl, w_1⟩

set_option maxHeartbeats 4000000 in
set_option maxRecDepth 100000 in
theorem c_X9_day (l : Launch) (Z : dzG) (G : dzW) (ad : dzA) (aM nm ns nl nx nf my : Nat) (th dy td ssf sst cfr grw bkk iop : Int32) (ha : ad (39, 0) = aM) (ho : G (39, 0) = some (eO 10 [.int th, .int dy, .int (nI nm), .ref (ad (40, 3)), .ref (ad (40, 4)), .ref (ad (40, 5)), .ref (ad (40, 6)), .int td, .ref (ad (40, 8)), .ref (ad (40, 9)), .ref (ad (40, 10)), .int (nI ns), .ref (ad (40, 12)), .ref (ad (40, 13)), .ref (ad (40, 14)), .int (nI nl), .ref (ad (40, 16)), .ref (ad (40, 17)), .ref (ad (40, 18)), .int (nI nx), .ref (ad (40, 20)), .ref (ad (40, 21)), .ref (ad (40, 22)), .ref (ad (40, 23)), .ref (ad (40, 24)), .int ssf, .int sst, .int cfr, .int grw, .int (nI nf), .ref (ad (40, 30)), .ref (ad (40, 31)), .int bkk, .ref (ad (40, 33)), .ref (ad (40, 34)), .ref (ad (40, 35)), .int iop, .ref (ad (40, 37)), .int (nI my)])) : dzWr l yX9_day wsX9_day 0 0 0 0 Z G ad [.ref aM] rv_i (fun (x : Int32) G1 ad1 => (∀ r9 : dzR, r9 ≠ (39, 0) → G1 r9 = G r9 ∧ ad1 r9 = ad r9) ∧ ad = ad1 ∧ x = dy ∧ G1 (39, 0) = some (eO 10 [.int 0, .int dy, .int (nI nm), .ref (ad (40, 3)), .ref (ad (40, 4)), .ref (ad (40, 5)), .ref (ad (40, 6)), .int td, .ref (ad (40, 8)), .ref (ad (40, 9)), .ref (ad (40, 10)), .int (nI ns), .ref (ad (40, 12)), .ref (ad (40, 13)), .ref (ad (40, 14)), .int (nI nl), .ref (ad (40, 16)), .ref (ad (40, 17)), .ref (ad (40, 18)), .int (nI nx), .ref (ad (40, 20)), .ref (ad (40, 21)), .ref (ad (40, 22)), .ref (ad (40, 23)), .ref (ad (40, 24)), .int ssf, .int sst, .int cfr, .int grw, .int (nI nf), .ref (ad (40, 30)), .ref (ad (40, 31)), .int bkk, .ref (ad (40, 33)), .ref (ad (40, 34)), .ref (ad (40, 35)), .int iop, .ref (ad (40, 37)), .int (nI my)])) := by
  refine Met.ofW (cc := cX9_day) (maxL := 1) (ret := (some .int)) (by decide) rfl ?_
  intro p e s m args below meth c s₁ B hml hv
  obtain ⟨rfl, hG, hE⟩ := hv
  have hx := B.exec
  have hb := B.bytes
  have hrt := B.returns
  have hts := atoms_spec (ws := wsX9_day) B.pre
  have hown : s.vm.findClass RX9 = some m.cls := findClass_of_methodNamed B.named
  have hlocks := B.notSynchronized
  have hS : va_S (dz_A Z) s.heap s.heap [] := va_S.rf
  have hl := lv_entry ([.ref aM]) (n := 1) (Nat.le_of_ble_eq_true rfl)
  rw [lg_entry_eq]
  generalize (lg_sl ([.ref aM]) ++ List.replicate (1 - (lg_sl ([.ref aM])).length) Slot.unset).toArray = ls at hl ⊢
  have hl : lv_has ls 1 [(0, .ref aM)] := hl
  refine lv_aload_n hx hb dX9_day_0 rfl (lv_at hl 0 rfl) ?_
  refine lv_iconst (v := 0) hx hb dX9_day_1 (by decide) ?_
  refine dz_put hx hb hts (fun _ h => List.mem_cons_of_mem _ (List.mem_append_right _ h)) tyX9 tyX9_ok nmX9 hown hE hG ha hS ho rfl 0 (by decide) (hts _ (List.mem_of_getElem? (i := 1) rfl)) (fun _ h9 => h9) rfl (ty := .int) (by decide +kernel) rfl rfl (fs' := [.int 0, .int dy, .int (nI nm), .ref (ad (40, 3)), .ref (ad (40, 4)), .ref (ad (40, 5)), .ref (ad (40, 6)), .int td, .ref (ad (40, 8)), .ref (ad (40, 9)), .ref (ad (40, 10)), .int (nI ns), .ref (ad (40, 12)), .ref (ad (40, 13)), .ref (ad (40, 14)), .int (nI nl), .ref (ad (40, 16)), .ref (ad (40, 17)), .ref (ad (40, 18)), .int (nI nx), .ref (ad (40, 20)), .ref (ad (40, 21)), .ref (ad (40, 22)), .ref (ad (40, 23)), .ref (ad (40, 24)), .int ssf, .int sst, .int cfr, .int grw, .int (nI nf), .ref (ad (40, 30)), .ref (ad (40, 31)), .int bkk, .ref (ad (40, 33)), .ref (ad (40, 34)), .ref (ad (40, 35)), .int iop, .ref (ad (40, 37)), .int (nI my)]) rfl (Nat.le_of_ble_eq_true rfl) dX9_day_2 (fun H locs hG hS => ?_)
  obtain ⟨G_1, hG, w_1, o_1⟩ := dz_nm hG
  refine lv_aload_n hx hb dX9_day_5 rfl (lv_at hl 0 rfl) ?_
  refine dz_get hx hb hts (fun _ h => List.mem_cons_of_mem _ (List.mem_append_right _ h)) hown hE hG ha w_1 rfl 1 (by decide) (hts _ (List.mem_of_getElem? (i := 2) rfl)) (fun _ h9 => h9) rfl dX9_day_6 ?_
  refine W.widen (k := 0) (n := 0) (by first | omega | decide) (by first | omega | decide) ?_
  refine W.iret hx hb hrt (fun t ht hW => dz_endM (f := rv_i) _ hE hS hG ?_ ht hW) (fun q h => hS.2.2 q h) dX9_day_9
  refine ⟨fun r9 n_0 => (o_1 r9 n_0), rfl, ?_⟩
  exact ⟨rfl, w_1⟩

set_option maxHeartbeats 4000000 in
set_option maxRecDepth 100000 in
theorem c_X9_frames (l : Launch) (Z : dzG) (G : dzW) (ad : dzA) (aM nm ns nl nx nf my : Nat) (th dy td ssf sst cfr grw bkk iop : Int32) (ha : ad (39, 0) = aM) (ho : G (39, 0) = some (eO 10 [.int th, .int dy, .int (nI nm), .ref (ad (40, 3)), .ref (ad (40, 4)), .ref (ad (40, 5)), .ref (ad (40, 6)), .int td, .ref (ad (40, 8)), .ref (ad (40, 9)), .ref (ad (40, 10)), .int (nI ns), .ref (ad (40, 12)), .ref (ad (40, 13)), .ref (ad (40, 14)), .int (nI nl), .ref (ad (40, 16)), .ref (ad (40, 17)), .ref (ad (40, 18)), .int (nI nx), .ref (ad (40, 20)), .ref (ad (40, 21)), .ref (ad (40, 22)), .ref (ad (40, 23)), .ref (ad (40, 24)), .int ssf, .int sst, .int cfr, .int grw, .int (nI nf), .ref (ad (40, 30)), .ref (ad (40, 31)), .int bkk, .ref (ad (40, 33)), .ref (ad (40, 34)), .ref (ad (40, 35)), .int iop, .ref (ad (40, 37)), .int (nI my)])) : dzWr l yX9_frames wsX9_frames 0 0 0 0 Z G ad [.ref aM] rv_i (fun (x : Int32) G1 ad1 => (∀ r9 : dzR, r9 ≠ (39, 0) → G1 r9 = G r9 ∧ ad1 r9 = ad r9) ∧ ad = ad1 ∧ x = nI nf ∧ G1 (39, 0) = some (eO 10 [.int 0, .int dy, .int (nI nm), .ref (ad (40, 3)), .ref (ad (40, 4)), .ref (ad (40, 5)), .ref (ad (40, 6)), .int td, .ref (ad (40, 8)), .ref (ad (40, 9)), .ref (ad (40, 10)), .int (nI ns), .ref (ad (40, 12)), .ref (ad (40, 13)), .ref (ad (40, 14)), .int (nI nl), .ref (ad (40, 16)), .ref (ad (40, 17)), .ref (ad (40, 18)), .int (nI nx), .ref (ad (40, 20)), .ref (ad (40, 21)), .ref (ad (40, 22)), .ref (ad (40, 23)), .ref (ad (40, 24)), .int ssf, .int sst, .int cfr, .int grw, .int (nI nf), .ref (ad (40, 30)), .ref (ad (40, 31)), .int bkk, .ref (ad (40, 33)), .ref (ad (40, 34)), .ref (ad (40, 35)), .int iop, .ref (ad (40, 37)), .int (nI my)])) := by
  refine Met.ofW (cc := cX9_frames) (maxL := 1) (ret := (some .int)) (by decide) rfl ?_
  intro p e s m args below meth c s₁ B hml hv
  obtain ⟨rfl, hG, hE⟩ := hv
  have hx := B.exec
  have hb := B.bytes
  have hrt := B.returns
  have hts := atoms_spec (ws := wsX9_frames) B.pre
  have hown : s.vm.findClass RX9 = some m.cls := findClass_of_methodNamed B.named
  have hlocks := B.notSynchronized
  have hS : va_S (dz_A Z) s.heap s.heap [] := va_S.rf
  have hl := lv_entry ([.ref aM]) (n := 1) (Nat.le_of_ble_eq_true rfl)
  rw [lg_entry_eq]
  generalize (lg_sl ([.ref aM]) ++ List.replicate (1 - (lg_sl ([.ref aM])).length) Slot.unset).toArray = ls at hl ⊢
  have hl : lv_has ls 1 [(0, .ref aM)] := hl
  refine lv_aload_n hx hb dX9_frames_0 rfl (lv_at hl 0 rfl) ?_
  refine lv_iconst (v := 0) hx hb dX9_frames_1 (by decide) ?_
  refine dz_put hx hb hts (fun _ h => List.mem_cons_of_mem _ (List.mem_append_right _ h)) tyX9 tyX9_ok nmX9 hown hE hG ha hS ho rfl 0 (by decide) (hts _ (List.mem_of_getElem? (i := 1) rfl)) (fun _ h9 => h9) rfl (ty := .int) (by decide +kernel) rfl rfl (fs' := [.int 0, .int dy, .int (nI nm), .ref (ad (40, 3)), .ref (ad (40, 4)), .ref (ad (40, 5)), .ref (ad (40, 6)), .int td, .ref (ad (40, 8)), .ref (ad (40, 9)), .ref (ad (40, 10)), .int (nI ns), .ref (ad (40, 12)), .ref (ad (40, 13)), .ref (ad (40, 14)), .int (nI nl), .ref (ad (40, 16)), .ref (ad (40, 17)), .ref (ad (40, 18)), .int (nI nx), .ref (ad (40, 20)), .ref (ad (40, 21)), .ref (ad (40, 22)), .ref (ad (40, 23)), .ref (ad (40, 24)), .int ssf, .int sst, .int cfr, .int grw, .int (nI nf), .ref (ad (40, 30)), .ref (ad (40, 31)), .int bkk, .ref (ad (40, 33)), .ref (ad (40, 34)), .ref (ad (40, 35)), .int iop, .ref (ad (40, 37)), .int (nI my)]) rfl (Nat.le_of_ble_eq_true rfl) dX9_frames_2 (fun H locs hG hS => ?_)
  obtain ⟨G_1, hG, w_1, o_1⟩ := dz_nm hG
  refine lv_aload_n hx hb dX9_frames_5 rfl (lv_at hl 0 rfl) ?_
  refine dz_get hx hb hts (fun _ h => List.mem_cons_of_mem _ (List.mem_append_right _ h)) hown hE hG ha w_1 rfl 29 (by decide) (hts _ (List.mem_of_getElem? (i := 2) rfl)) (fun _ h9 => h9) rfl dX9_frames_6 ?_
  refine W.widen (k := 0) (n := 0) (by first | omega | decide) (by first | omega | decide) ?_
  refine W.iret hx hb hrt (fun t ht hW => dz_endM (f := rv_i) _ hE hS hG ?_ ht hW) (fun q h => hS.2.2 q h) dX9_frames_9
  refine ⟨fun r9 n_0 => (o_1 r9 n_0), rfl, ?_⟩
  exact ⟨rfl, w_1⟩

set_option maxHeartbeats 4000000 in
set_option maxRecDepth 100000 in
theorem c_M_hits_bad (l : Launch) (Z : dzG) (G : dzW) (ad : dzA) (aM nm ns nl nx nf my : Nat) (th dy td ssf sst cfr grw bkk iop : Int32) (v1 v2 : Int32) (ha : ad (39, 0) = aM) (ho : G (39, 0) = some (eO 10 [.int th, .int dy, .int (nI nm), .ref (ad (40, 3)), .ref (ad (40, 4)), .ref (ad (40, 5)), .ref (ad (40, 6)), .int td, .ref (ad (40, 8)), .ref (ad (40, 9)), .ref (ad (40, 10)), .int (nI ns), .ref (ad (40, 12)), .ref (ad (40, 13)), .ref (ad (40, 14)), .int (nI nl), .ref (ad (40, 16)), .ref (ad (40, 17)), .ref (ad (40, 18)), .int (nI nx), .ref (ad (40, 20)), .ref (ad (40, 21)), .ref (ad (40, 22)), .ref (ad (40, 23)), .ref (ad (40, 24)), .int ssf, .int sst, .int cfr, .int grw, .int (nI nf), .ref (ad (40, 30)), .ref (ad (40, 31)), .int bkk, .ref (ad (40, 33)), .ref (ad (40, 34)), .ref (ad (40, 35)), .int iop, .ref (ad (40, 37)), .int (nI my)])) (hbad : ¬ ((((-10) : Int32) ≤ v1 ∧ v1 ≤ 10) ∧ ((-10) ≤ v2 ∧ v2 ≤ 10))) : dzWr l yX9_hits wsX9_hits 2 42 0 0 Z G ad [.ref aM, .int v1, .int v2] rv_i (fun (x : Int32) G1 ad1 => (∀ r9 : dzR, r9 ≠ (39, 0) → G1 r9 = G r9 ∧ ad1 r9 = ad r9) ∧ ad = ad1 ∧ x = 0 ∧ G1 (39, 0) = some (eO 10 [.int 1, .int dy, .int (nI nm), .ref (ad (40, 3)), .ref (ad (40, 4)), .ref (ad (40, 5)), .ref (ad (40, 6)), .int td, .ref (ad (40, 8)), .ref (ad (40, 9)), .ref (ad (40, 10)), .int (nI ns), .ref (ad (40, 12)), .ref (ad (40, 13)), .ref (ad (40, 14)), .int (nI nl), .ref (ad (40, 16)), .ref (ad (40, 17)), .ref (ad (40, 18)), .int (nI nx), .ref (ad (40, 20)), .ref (ad (40, 21)), .ref (ad (40, 22)), .ref (ad (40, 23)), .ref (ad (40, 24)), .int ssf, .int sst, .int cfr, .int grw, .int (nI nf), .ref (ad (40, 30)), .ref (ad (40, 31)), .int bkk, .ref (ad (40, 33)), .ref (ad (40, 34)), .ref (ad (40, 35)), .int iop, .ref (ad (40, 37)), .int (nI my)])) := by
  refine Met.ofW (cc := cX9_hits) (maxL := 3) (ret := (some .int)) (by decide) rfl ?_
  intro p e s m args below meth c s₁ B hml hv
  obtain ⟨rfl, hG, hE⟩ := hv
  have hx := B.exec
  have hb := B.bytes
  have hrt := B.returns
  have hts := atoms_spec (ws := wsX9_hits) B.pre
  have hown : s.vm.findClass RX9 = some m.cls := findClass_of_methodNamed B.named
  have hlocks := B.notSynchronized
  have hS : va_S (dz_A Z) s.heap s.heap [] := va_S.rf
  have hl := lv_entry ([.ref aM, .int v1, .int v2]) (n := 3) (Nat.le_of_ble_eq_true rfl)
  rw [lg_entry_eq]
  generalize (lg_sl ([.ref aM, .int v1, .int v2]) ++ List.replicate (3 - (lg_sl ([.ref aM, .int v1, .int v2])).length) Slot.unset).toArray = ls at hl ⊢
  have hl : lv_has ls 3 [(0, .ref aM), (1, .int v1), (2, .int v2)] := hl
  refine lv_aload_n hx hb dX9_hits_0 rfl (lv_at hl 0 rfl) ?_
  refine lv_iload_n hx hb dX9_hits_1 rfl (lv_at hl 1 rfl) ?_
  refine dz_kRi (va_runS (As := [_]) ⟨hx, hb, hml, hown, hts⟩ (c_X9_isOn l Z _ _ _ ) (va_cwS 1 hts gX9_hits_X9_isOn rfl rfl rfl (by decide +kernel) ⟨Nat.le_of_ble_eq_true rfl, Nat.le_of_ble_eq_true rfl⟩) (dz_P.pre hE hS hG) rfl rfl hl.1 rfl (lv_room (Nat.le_of_ble_eq_true rfl)) dX9_hits_2 ⟨Nat.le_of_ble_eq_true rfl, Nat.le_of_ble_eq_true rfl⟩) ?_
  refine lv_if_eq (tgt := 19) hx hb dX9_hits_5 (by decide) (fun c_5 => ?_) (fun c_5 => ?_)
  · refine lv_iconst (v := 1) hx hb dX9_hits_19 (by decide) ?_
    refine dz_kMi (va_runV (As := [_]) ⟨hx, hb, hml, hown, hts⟩ (c_X9_refused l Z _ _ _ _ _ _ _ _ _ _ _ _ _ _ _ _ _ _ _ ha ho) (cwV 1 hts gX9_hits_X9_refused rfl rfl rfl (by decide +kernel) ⟨Nat.le_of_ble_eq_true rfl, Nat.le_of_ble_eq_true rfl⟩) (dz_P.preV hE hS hG ho rfl ha) rfl rfl hl.1 rfl (lv_room (Nat.le_of_ble_eq_true rfl)) dX9_hits_20 ⟨Nat.le_of_ble_eq_true rfl, Nat.le_of_ble_eq_true rfl⟩) hS (fun x_20_1 G_20_1 ad_20_1 H locs hp_20_1 hG hS => ?_)
    obtain ⟨fr_20_1, rfl, x9_20_1, g_20_1⟩ := hp_20_1
    obtain rfl : x_20_1 = 1 := x9_20_1.trans (by decide)
    refine lv_if_eq (tgt := 30) hx hb dX9_hits_23 (by decide) (fun c_23 => absurd c_23 (by decide)) (fun c_23 => ?_)
    refine lv_iconst (v := 0) hx hb dX9_hits_26 (by decide) ?_
    refine lv_goto (tgt := 36) hx hb dX9_hits_27 (by decide) ?_
    refine W.widen (k := 0) (n := 0) (by first | omega | decide) (by first | omega | decide) ?_
    refine W.iret hx hb hrt (fun t ht hW => dz_endM (f := rv_i) _ hE hS hG ?_ ht hW) (fun q h => hS.2.2 q h) dX9_hits_36
    refine ⟨fun r9 n_0 => (fr_20_1 r9 n_0), rfl, ?_⟩
    exact ⟨rfl, g_20_1⟩
  · refine lv_iload_n hx hb dX9_hits_8 rfl (lv_at hl 2 rfl) ?_
    refine dz_kRi (va_runS (As := [_]) ⟨hx, hb, hml, hown, hts⟩ (c_X9_isOn l Z _ _ _ ) (va_cwS 1 hts gX9_hits_X9_isOn rfl rfl rfl (by decide +kernel) ⟨Nat.le_of_ble_eq_true rfl, Nat.le_of_ble_eq_true rfl⟩) (dz_P.pre hE hS hG) rfl rfl hl.1 rfl (lv_room (Nat.le_of_ble_eq_true rfl)) dX9_hits_9 ⟨Nat.le_of_ble_eq_true rfl, Nat.le_of_ble_eq_true rfl⟩) ?_
    refine lv_if_eq (tgt := 19) hx hb dX9_hits_12 (by decide) (fun c_12 => ?_) (fun c_12 => ?_)
    · refine lv_iconst (v := 1) hx hb dX9_hits_19 (by decide) ?_
      refine dz_kMi (va_runV (As := [_]) ⟨hx, hb, hml, hown, hts⟩ (c_X9_refused l Z _ _ _ _ _ _ _ _ _ _ _ _ _ _ _ _ _ _ _ ha ho) (cwV 1 hts gX9_hits_X9_refused rfl rfl rfl (by decide +kernel) ⟨Nat.le_of_ble_eq_true rfl, Nat.le_of_ble_eq_true rfl⟩) (dz_P.preV hE hS hG ho rfl ha) rfl rfl hl.1 rfl (lv_room (Nat.le_of_ble_eq_true rfl)) dX9_hits_20 ⟨Nat.le_of_ble_eq_true rfl, Nat.le_of_ble_eq_true rfl⟩) hS (fun x_20_2 G_20_2 ad_20_2 H locs hp_20_2 hG hS => ?_)
      obtain ⟨fr_20_2, rfl, x9_20_2, g_20_2⟩ := hp_20_2
      obtain rfl : x_20_2 = 1 := x9_20_2.trans (by decide)
      refine lv_if_eq (tgt := 30) hx hb dX9_hits_23 (by decide) (fun c_23 => absurd c_23 (by decide)) (fun c_23 => ?_)
      refine lv_iconst (v := 0) hx hb dX9_hits_26 (by decide) ?_
      refine lv_goto (tgt := 36) hx hb dX9_hits_27 (by decide) ?_
      refine W.widen (k := 0) (n := 0) (by first | omega | decide) (by first | omega | decide) ?_
      refine W.iret hx hb hrt (fun t ht hW => dz_endM (f := rv_i) _ hE hS hG ?_ ht hW) (fun q h => hS.2.2 q h) dX9_hits_36
      refine ⟨fun r9 n_0 => (fr_20_2 r9 n_0), rfl, ?_⟩
      exact ⟨rfl, g_20_2⟩
    · exact absurd ⟨dz_by c_5, dz_by c_12⟩ hbad

set_option maxHeartbeats 4000000 in
set_option maxRecDepth 100000 in
theorem c_M_hits_ok (l : Launch) (Z : dzG) (G : dzW) (ad : dzA) (aM nm ns nl nx nf my : Nat) (th dy td ssf sst cfr grw bkk iop : Int32) (f8 f9 : Nat → Int32) (v1 v2 : Int32) (ha : ad (39, 0) = aM) (ho : G (39, 0) = some (eO 10 [.int th, .int dy, .int (nI nm), .ref (ad (40, 3)), .ref (ad (40, 4)), .ref (ad (40, 5)), .ref (ad (40, 6)), .int td, .ref (ad (40, 8)), .ref (ad (40, 9)), .ref (ad (40, 10)), .int (nI ns), .ref (ad (40, 12)), .ref (ad (40, 13)), .ref (ad (40, 14)), .int (nI nl), .ref (ad (40, 16)), .ref (ad (40, 17)), .ref (ad (40, 18)), .int (nI nx), .ref (ad (40, 20)), .ref (ad (40, 21)), .ref (ad (40, 22)), .ref (ad (40, 23)), .ref (ad (40, 24)), .int ssf, .int sst, .int cfr, .int grw, .int (nI nf), .ref (ad (40, 30)), .ref (ad (40, 31)), .int bkk, .ref (ad (40, 33)), .ref (ad (40, 34)), .ref (ad (40, 35)), .int iop, .ref (ad (40, 37)), .int (nI my)])) (h8 : G (40, 8) = some (eI Z 484 f8)) (h9 : G (40, 9) = some (eI Z 484 f9)) (hg : ((((-10) : Int32) ≤ v1 ∧ v1 ≤ 10) ∧ ((-10) ≤ v2 ∧ v2 ≤ 10))) : dzWr l yX9_hits wsX9_hits 2 46 0 0 Z G ad [.ref aM, .int v1, .int v2] rv_i (fun (x : Int32) G1 ad1 => (∀ r9 : dzR, r9 ≠ (39, 0) → G1 r9 = G r9 ∧ ad1 r9 = ad r9) ∧ ad = ad1 ∧ x = m_sg (fun j => dz_b (m_pc j - f8 j = v1 ∧ m_pr j - f9 j = v2)) 441 ∧ G1 (39, 0) = some (eO 10 [.int 0, .int dy, .int (nI nm), .ref (ad (40, 3)), .ref (ad (40, 4)), .ref (ad (40, 5)), .ref (ad (40, 6)), .int td, .ref (ad (40, 8)), .ref (ad (40, 9)), .ref (ad (40, 10)), .int (nI ns), .ref (ad (40, 12)), .ref (ad (40, 13)), .ref (ad (40, 14)), .int (nI nl), .ref (ad (40, 16)), .ref (ad (40, 17)), .ref (ad (40, 18)), .int (nI nx), .ref (ad (40, 20)), .ref (ad (40, 21)), .ref (ad (40, 22)), .ref (ad (40, 23)), .ref (ad (40, 24)), .int ssf, .int sst, .int cfr, .int grw, .int (nI nf), .ref (ad (40, 30)), .ref (ad (40, 31)), .int bkk, .ref (ad (40, 33)), .ref (ad (40, 34)), .ref (ad (40, 35)), .int iop, .ref (ad (40, 37)), .int (nI my)])) := by
  refine Met.ofW (cc := cX9_hits) (maxL := 3) (ret := (some .int)) (by decide) rfl ?_
  intro p e s m args below meth c s₁ B hml hv
  obtain ⟨rfl, hG, hE⟩ := hv
  have hx := B.exec
  have hb := B.bytes
  have hrt := B.returns
  have hts := atoms_spec (ws := wsX9_hits) B.pre
  have hown : s.vm.findClass RX9 = some m.cls := findClass_of_methodNamed B.named
  have hlocks := B.notSynchronized
  have hS : va_S (dz_A Z) s.heap s.heap [] := va_S.rf
  have hl := lv_entry ([.ref aM, .int v1, .int v2]) (n := 3) (Nat.le_of_ble_eq_true rfl)
  rw [lg_entry_eq]
  generalize (lg_sl ([.ref aM, .int v1, .int v2]) ++ List.replicate (3 - (lg_sl ([.ref aM, .int v1, .int v2])).length) Slot.unset).toArray = ls at hl ⊢
  have hl : lv_has ls 3 [(0, .ref aM), (1, .int v1), (2, .int v2)] := hl
  refine lv_aload_n hx hb dX9_hits_0 rfl (lv_at hl 0 rfl) ?_
  refine lv_iload_n hx hb dX9_hits_1 rfl (lv_at hl 1 rfl) ?_
  refine dz_kRi (va_runS (As := [_]) ⟨hx, hb, hml, hown, hts⟩ (c_X9_isOn l Z _ _ _ ) (va_cwS 1 hts gX9_hits_X9_isOn rfl rfl rfl (by decide +kernel) ⟨Nat.le_of_ble_eq_true rfl, Nat.le_of_ble_eq_true rfl⟩) (dz_P.pre hE hS hG) rfl rfl hl.1 rfl (lv_room (Nat.le_of_ble_eq_true rfl)) dX9_hits_2 ⟨Nat.le_of_ble_eq_true rfl, Nat.le_of_ble_eq_true rfl⟩) ?_
  refine lv_topi (fun v_1 ev_1 => ?_)
  obtain rfl : v_1 = 1 := ev_1.trans (dz_b1 hg.1)
  refine lv_if_eq (tgt := 19) hx hb dX9_hits_5 (by decide) (fun c_5 => absurd c_5 (by decide)) (fun c_5 => ?_)
  refine lv_iload_n hx hb dX9_hits_8 rfl (lv_at hl 2 rfl) ?_
  refine dz_kRi (va_runS (As := [_]) ⟨hx, hb, hml, hown, hts⟩ (c_X9_isOn l Z _ _ _ ) (va_cwS 1 hts gX9_hits_X9_isOn rfl rfl rfl (by decide +kernel) ⟨Nat.le_of_ble_eq_true rfl, Nat.le_of_ble_eq_true rfl⟩) (dz_P.pre hE hS hG) rfl rfl hl.1 rfl (lv_room (Nat.le_of_ble_eq_true rfl)) dX9_hits_9 ⟨Nat.le_of_ble_eq_true rfl, Nat.le_of_ble_eq_true rfl⟩) ?_
  refine lv_topi (fun v_2 ev_2 => ?_)
  obtain rfl : v_2 = 1 := ev_2.trans (dz_b1 hg.2)
  refine lv_if_eq (tgt := 19) hx hb dX9_hits_12 (by decide) (fun c_12 => absurd c_12 (by decide)) (fun c_12 => ?_)
  refine lv_iconst (v := 0) hx hb dX9_hits_15 (by decide) ?_
  refine lv_goto (tgt := 20) hx hb dX9_hits_16 (by decide) ?_
  refine dz_kMi (va_runV (As := [_]) ⟨hx, hb, hml, hown, hts⟩ (c_X9_refused l Z _ _ _ _ _ _ _ _ _ _ _ _ _ _ _ _ _ _ _ ha ho) (cwV 1 hts gX9_hits_X9_refused rfl rfl rfl (by decide +kernel) ⟨Nat.le_of_ble_eq_true rfl, Nat.le_of_ble_eq_true rfl⟩) (dz_P.preV hE hS hG ho rfl ha) rfl rfl hl.1 rfl (lv_room (Nat.le_of_ble_eq_true rfl)) dX9_hits_20 ⟨Nat.le_of_ble_eq_true rfl, Nat.le_of_ble_eq_true rfl⟩) hS (fun x_20_1 G_20_1 ad_20_1 H locs hp_20_1 hG hS => ?_)
  obtain ⟨fr_20_1, rfl, x9_20_1, g_20_1⟩ := hp_20_1
  obtain rfl : x_20_1 = 0 := x9_20_1.trans (by decide)
  refine lv_if_eq (tgt := 30) hx hb dX9_hits_23 (by decide) (fun c_23 => ?_) (fun c_23 => absurd (by decide) c_23)
  refine lv_aload_n hx hb dX9_hits_30 rfl (lv_at hl 0 rfl) ?_
  refine lv_iload_n hx hb dX9_hits_31 rfl (lv_at hl 1 rfl) ?_
  refine lv_iload_n hx hb dX9_hits_32 rfl (lv_at hl 2 rfl) ?_
  refine dz_kRi (va_runV (As := [_, _]) ⟨hx, hb, hml, hown, hts⟩ (c_X9_hitsOf l Z _ _ _ _ _ _ _ _ _ _ _ _ _ _ _ _ _ _ _ _ _ _ ha g_20_1 ((fr_20_1 _ (dz_n rfl)).1.trans h8) ((fr_20_1 _ (dz_n rfl)).1.trans h9)) (cwV 2 hts gX9_hits_X9_hitsOf rfl rfl rfl (by decide +kernel) ⟨Nat.le_of_ble_eq_true rfl, Nat.le_of_ble_eq_true rfl⟩) (dz_P.preV hE hS hG g_20_1 rfl ha) rfl rfl hl.1 rfl (lv_room (Nat.le_of_ble_eq_true rfl)) dX9_hits_33 ⟨Nat.le_of_ble_eq_true rfl, Nat.le_of_ble_eq_true rfl⟩) ?_
  refine lv_topi (fun v_3 ev_3 => ?_)
  obtain rfl : v_3 = m_sg (fun j => dz_b (m_pc j - f8 j = v1 ∧ m_pr j - f9 j = v2)) 441 := ev_3
  refine W.widen (k := 0) (n := 0) (by first | omega | decide) (by first | omega | decide) ?_
  refine W.iret hx hb hrt (fun t ht hW => dz_endM (f := rv_i) _ hE hS hG ?_ ht hW) (fun q h => hS.2.2 q h) dX9_hits_36
  refine ⟨fun r9 n_0 => (fr_20_1 r9 n_0), rfl, ?_⟩
  exact ⟨rfl, g_20_1⟩

set_option maxHeartbeats 4000000 in
set_option maxRecDepth 100000 in
theorem c_M_from_bad (l : Launch) (Z : dzG) (G : dzW) (ad : dzA) (aM nm ns nl nx nf my : Nat) (th dy td ssf sst cfr grw bkk iop : Int32) (v1 v2 v3 : Int32) (ha : ad (39, 0) = aM) (ho : G (39, 0) = some (eO 10 [.int th, .int dy, .int (nI nm), .ref (ad (40, 3)), .ref (ad (40, 4)), .ref (ad (40, 5)), .ref (ad (40, 6)), .int td, .ref (ad (40, 8)), .ref (ad (40, 9)), .ref (ad (40, 10)), .int (nI ns), .ref (ad (40, 12)), .ref (ad (40, 13)), .ref (ad (40, 14)), .int (nI nl), .ref (ad (40, 16)), .ref (ad (40, 17)), .ref (ad (40, 18)), .int (nI nx), .ref (ad (40, 20)), .ref (ad (40, 21)), .ref (ad (40, 22)), .ref (ad (40, 23)), .ref (ad (40, 24)), .int ssf, .int sst, .int cfr, .int grw, .int (nI nf), .ref (ad (40, 30)), .ref (ad (40, 31)), .int bkk, .ref (ad (40, 33)), .ref (ad (40, 34)), .ref (ad (40, 35)), .int iop, .ref (ad (40, 37)), .int (nI my)])) (hbad : ¬ ((((-10) : Int32) ≤ v1 ∧ v1 ≤ 10) ∧ ((-10) ≤ v2 ∧ v2 ≤ 10))) : dzWr l yX9_from wsX9_from 2 42 0 0 Z G ad [.ref aM, .int v1, .int v2, .int v3] rv_i (fun (x : Int32) G1 ad1 => (∀ r9 : dzR, r9 ≠ (39, 0) → G1 r9 = G r9 ∧ ad1 r9 = ad r9) ∧ ad = ad1 ∧ x = 0 ∧ G1 (39, 0) = some (eO 10 [.int 1, .int dy, .int (nI nm), .ref (ad (40, 3)), .ref (ad (40, 4)), .ref (ad (40, 5)), .ref (ad (40, 6)), .int td, .ref (ad (40, 8)), .ref (ad (40, 9)), .ref (ad (40, 10)), .int (nI ns), .ref (ad (40, 12)), .ref (ad (40, 13)), .ref (ad (40, 14)), .int (nI nl), .ref (ad (40, 16)), .ref (ad (40, 17)), .ref (ad (40, 18)), .int (nI nx), .ref (ad (40, 20)), .ref (ad (40, 21)), .ref (ad (40, 22)), .ref (ad (40, 23)), .ref (ad (40, 24)), .int ssf, .int sst, .int cfr, .int grw, .int (nI nf), .ref (ad (40, 30)), .ref (ad (40, 31)), .int bkk, .ref (ad (40, 33)), .ref (ad (40, 34)), .ref (ad (40, 35)), .int iop, .ref (ad (40, 37)), .int (nI my)])) := by
  refine Met.ofW (cc := cX9_from) (maxL := 5) (ret := (some .int)) (by decide) rfl ?_
  intro p e s m args below meth c s₁ B hml hv
  obtain ⟨rfl, hG, hE⟩ := hv
  have hx := B.exec
  have hb := B.bytes
  have hrt := B.returns
  have hts := atoms_spec (ws := wsX9_from) B.pre
  have hown : s.vm.findClass RX9 = some m.cls := findClass_of_methodNamed B.named
  have hlocks := B.notSynchronized
  have hS : va_S (dz_A Z) s.heap s.heap [] := va_S.rf
  have hl := lv_entry ([.ref aM, .int v1, .int v2, .int v3]) (n := 5) (Nat.le_of_ble_eq_true rfl)
  rw [lg_entry_eq]
  generalize (lg_sl ([.ref aM, .int v1, .int v2, .int v3]) ++ List.replicate (5 - (lg_sl ([.ref aM, .int v1, .int v2, .int v3])).length) Slot.unset).toArray = ls at hl ⊢
  have hl : lv_has ls 5 [(0, .ref aM), (1, .int v1), (2, .int v2), (3, .int v3)] := hl
  refine lv_aload_n hx hb dX9_from_0 rfl (lv_at hl 0 rfl) ?_
  refine lv_iload_n hx hb dX9_from_1 rfl (lv_at hl 1 rfl) ?_
  refine dz_kRi (va_runS (As := [_]) ⟨hx, hb, hml, hown, hts⟩ (c_X9_isOn l Z _ _ _ ) (va_cwS 1 hts gX9_from_X9_isOn rfl rfl rfl (by decide +kernel) ⟨Nat.le_of_ble_eq_true rfl, Nat.le_of_ble_eq_true rfl⟩) (dz_P.pre hE hS hG) rfl rfl hl.1 rfl (lv_room (Nat.le_of_ble_eq_true rfl)) dX9_from_2 ⟨Nat.le_of_ble_eq_true rfl, Nat.le_of_ble_eq_true rfl⟩) ?_
  refine lv_if_eq (tgt := 19) hx hb dX9_from_5 (by decide) (fun c_5 => ?_) (fun c_5 => ?_)
  · refine lv_iconst (v := 1) hx hb dX9_from_19 (by decide) ?_
    refine dz_kMi (va_runV (As := [_]) ⟨hx, hb, hml, hown, hts⟩ (c_X9_refused l Z _ _ _ _ _ _ _ _ _ _ _ _ _ _ _ _ _ _ _ ha ho) (cwV 1 hts gX9_from_X9_refused rfl rfl rfl (by decide +kernel) ⟨Nat.le_of_ble_eq_true rfl, Nat.le_of_ble_eq_true rfl⟩) (dz_P.preV hE hS hG ho rfl ha) rfl rfl hl.1 rfl (lv_room (Nat.le_of_ble_eq_true rfl)) dX9_from_20 ⟨Nat.le_of_ble_eq_true rfl, Nat.le_of_ble_eq_true rfl⟩) hS (fun x_20_1 G_20_1 ad_20_1 H locs hp_20_1 hG hS => ?_)
    obtain ⟨fr_20_1, rfl, x9_20_1, g_20_1⟩ := hp_20_1
    obtain rfl : x_20_1 = 1 := x9_20_1.trans (by decide)
    refine lv_if_eq (tgt := 28) hx hb dX9_from_23 (by decide) (fun c_23 => absurd c_23 (by decide)) (fun c_23 => ?_)
    refine lv_iconst (v := 0) hx hb dX9_from_26 (by decide) ?_
    refine W.widen (k := 0) (n := 0) (by first | omega | decide) (by first | omega | decide) ?_
    refine W.iret hx hb hrt (fun t ht hW => dz_endM (f := rv_i) _ hE hS hG ?_ ht hW) (fun q h => hS.2.2 q h) dX9_from_27
    refine ⟨fun r9 n_0 => (fr_20_1 r9 n_0), rfl, ?_⟩
    exact ⟨rfl, g_20_1⟩
  · refine lv_iload_n hx hb dX9_from_8 rfl (lv_at hl 2 rfl) ?_
    refine dz_kRi (va_runS (As := [_]) ⟨hx, hb, hml, hown, hts⟩ (c_X9_isOn l Z _ _ _ ) (va_cwS 1 hts gX9_from_X9_isOn rfl rfl rfl (by decide +kernel) ⟨Nat.le_of_ble_eq_true rfl, Nat.le_of_ble_eq_true rfl⟩) (dz_P.pre hE hS hG) rfl rfl hl.1 rfl (lv_room (Nat.le_of_ble_eq_true rfl)) dX9_from_9 ⟨Nat.le_of_ble_eq_true rfl, Nat.le_of_ble_eq_true rfl⟩) ?_
    refine lv_if_eq (tgt := 19) hx hb dX9_from_12 (by decide) (fun c_12 => ?_) (fun c_12 => ?_)
    · refine lv_iconst (v := 1) hx hb dX9_from_19 (by decide) ?_
      refine dz_kMi (va_runV (As := [_]) ⟨hx, hb, hml, hown, hts⟩ (c_X9_refused l Z _ _ _ _ _ _ _ _ _ _ _ _ _ _ _ _ _ _ _ ha ho) (cwV 1 hts gX9_from_X9_refused rfl rfl rfl (by decide +kernel) ⟨Nat.le_of_ble_eq_true rfl, Nat.le_of_ble_eq_true rfl⟩) (dz_P.preV hE hS hG ho rfl ha) rfl rfl hl.1 rfl (lv_room (Nat.le_of_ble_eq_true rfl)) dX9_from_20 ⟨Nat.le_of_ble_eq_true rfl, Nat.le_of_ble_eq_true rfl⟩) hS (fun x_20_2 G_20_2 ad_20_2 H locs hp_20_2 hG hS => ?_)
      obtain ⟨fr_20_2, rfl, x9_20_2, g_20_2⟩ := hp_20_2
      obtain rfl : x_20_2 = 1 := x9_20_2.trans (by decide)
      refine lv_if_eq (tgt := 28) hx hb dX9_from_23 (by decide) (fun c_23 => absurd c_23 (by decide)) (fun c_23 => ?_)
      refine lv_iconst (v := 0) hx hb dX9_from_26 (by decide) ?_
      refine W.widen (k := 0) (n := 0) (by first | omega | decide) (by first | omega | decide) ?_
      refine W.iret hx hb hrt (fun t ht hW => dz_endM (f := rv_i) _ hE hS hG ?_ ht hW) (fun q h => hS.2.2 q h) dX9_from_27
      refine ⟨fun r9 n_0 => (fr_20_2 r9 n_0), rfl, ?_⟩
      exact ⟨rfl, g_20_2⟩
    · exact absurd ⟨dz_by c_5, dz_by c_12⟩ hbad

set_option maxHeartbeats 4000000 in
set_option maxRecDepth 100000 in
theorem c_M_from_ok (l : Launch) (Z : dzG) (G : dzW) (ad : dzA) (aM nm ns nl nx nf my : Nat) (th dy td ssf sst cfr grw bkk iop : Int32) (f8 f9 : Nat → Int32) (a b : Nat) (v3 : Int32) (ha : ad (39, 0) = aM) (ho : G (39, 0) = some (eO 10 [.int th, .int dy, .int (nI nm), .ref (ad (40, 3)), .ref (ad (40, 4)), .ref (ad (40, 5)), .ref (ad (40, 6)), .int td, .ref (ad (40, 8)), .ref (ad (40, 9)), .ref (ad (40, 10)), .int (nI ns), .ref (ad (40, 12)), .ref (ad (40, 13)), .ref (ad (40, 14)), .int (nI nl), .ref (ad (40, 16)), .ref (ad (40, 17)), .ref (ad (40, 18)), .int (nI nx), .ref (ad (40, 20)), .ref (ad (40, 21)), .ref (ad (40, 22)), .ref (ad (40, 23)), .ref (ad (40, 24)), .int ssf, .int sst, .int cfr, .int grw, .int (nI nf), .ref (ad (40, 30)), .ref (ad (40, 31)), .int bkk, .ref (ad (40, 33)), .ref (ad (40, 34)), .ref (ad (40, 35)), .int iop, .ref (ad (40, 37)), .int (nI my)])) (h8 : G (40, 8) = some (eI Z 484 f8)) (h9 : G (40, 9) = some (eI Z 484 f9)) (ha21 : a < 21) (hb21 : b < 21) : dzWr l yX9_from wsX9_from 2 42 0 0 Z G ad [.ref aM, .int (nI a - 10), .int (nI b - 10), .int v3] rv_i (fun (x : Int32) G1 ad1 => (∀ r9 : dzR, r9 ≠ (39, 0) → G1 r9 = G r9 ∧ ad1 r9 = ad r9) ∧ ad = ad1 ∧ x = (if v3 = 0 then m_pc (22 * b + a) - f8 (22 * b + a) else m_pr (22 * b + a) - f9 (22 * b + a)) ∧ G1 (39, 0) = some (eO 10 [.int 0, .int dy, .int (nI nm), .ref (ad (40, 3)), .ref (ad (40, 4)), .ref (ad (40, 5)), .ref (ad (40, 6)), .int td, .ref (ad (40, 8)), .ref (ad (40, 9)), .ref (ad (40, 10)), .int (nI ns), .ref (ad (40, 12)), .ref (ad (40, 13)), .ref (ad (40, 14)), .int (nI nl), .ref (ad (40, 16)), .ref (ad (40, 17)), .ref (ad (40, 18)), .int (nI nx), .ref (ad (40, 20)), .ref (ad (40, 21)), .ref (ad (40, 22)), .ref (ad (40, 23)), .ref (ad (40, 24)), .int ssf, .int sst, .int cfr, .int grw, .int (nI nf), .ref (ad (40, 30)), .ref (ad (40, 31)), .int bkk, .ref (ad (40, 33)), .ref (ad (40, 34)), .ref (ad (40, 35)), .int iop, .ref (ad (40, 37)), .int (nI my)])) := by
  refine Met.ofW (cc := cX9_from) (maxL := 5) (ret := (some .int)) (by decide) rfl ?_
  intro p e s m args below meth c s₁ B hml hv
  obtain ⟨rfl, hG, hE⟩ := hv
  have hx := B.exec
  have hb := B.bytes
  have hrt := B.returns
  have hts := atoms_spec (ws := wsX9_from) B.pre
  have hown : s.vm.findClass RX9 = some m.cls := findClass_of_methodNamed B.named
  have hlocks := B.notSynchronized
  have hS : va_S (dz_A Z) s.heap s.heap [] := va_S.rf
  have hl := lv_entry ([.ref aM, .int (nI a - 10), .int (nI b - 10), .int v3]) (n := 5) (Nat.le_of_ble_eq_true rfl)
  rw [lg_entry_eq]
  generalize (lg_sl ([.ref aM, .int (nI a - 10), .int (nI b - 10), .int v3]) ++ List.replicate (5 - (lg_sl ([.ref aM, .int (nI a - 10), .int (nI b - 10), .int v3])).length) Slot.unset).toArray = ls at hl ⊢
  have hl : lv_has ls 5 [(0, .ref aM), (1, .int (nI a - 10)), (2, .int (nI b - 10)), (3, .int v3)] := hl
  refine lv_aload_n hx hb dX9_from_0 rfl (lv_at hl 0 rfl) ?_
  refine lv_iload_n hx hb dX9_from_1 rfl (lv_at hl 1 rfl) ?_
  refine dz_kRi (va_runS (As := [_]) ⟨hx, hb, hml, hown, hts⟩ (c_X9_isOn l Z _ _ _ ) (va_cwS 1 hts gX9_from_X9_isOn rfl rfl rfl (by decide +kernel) ⟨Nat.le_of_ble_eq_true rfl, Nat.le_of_ble_eq_true rfl⟩) (dz_P.pre hE hS hG) rfl rfl hl.1 rfl (lv_room (Nat.le_of_ble_eq_true rfl)) dX9_from_2 ⟨Nat.le_of_ble_eq_true rfl, Nat.le_of_ble_eq_true rfl⟩) ?_
  refine lv_topi (fun v_1 ev_1 => ?_)
  obtain rfl : v_1 = 1 := ev_1.trans (dz_b1 (fl_on a ha21))
  refine lv_if_eq (tgt := 19) hx hb dX9_from_5 (by decide) (fun c_5 => absurd c_5 (by decide)) (fun c_5 => ?_)
  refine lv_iload_n hx hb dX9_from_8 rfl (lv_at hl 2 rfl) ?_
  refine dz_kRi (va_runS (As := [_]) ⟨hx, hb, hml, hown, hts⟩ (c_X9_isOn l Z _ _ _ ) (va_cwS 1 hts gX9_from_X9_isOn rfl rfl rfl (by decide +kernel) ⟨Nat.le_of_ble_eq_true rfl, Nat.le_of_ble_eq_true rfl⟩) (dz_P.pre hE hS hG) rfl rfl hl.1 rfl (lv_room (Nat.le_of_ble_eq_true rfl)) dX9_from_9 ⟨Nat.le_of_ble_eq_true rfl, Nat.le_of_ble_eq_true rfl⟩) ?_
  refine lv_topi (fun v_2 ev_2 => ?_)
  obtain rfl : v_2 = 1 := ev_2.trans (dz_b1 (fl_on b hb21))
  refine lv_if_eq (tgt := 19) hx hb dX9_from_12 (by decide) (fun c_12 => absurd c_12 (by decide)) (fun c_12 => ?_)
  refine lv_iconst (v := 0) hx hb dX9_from_15 (by decide) ?_
  refine lv_goto (tgt := 20) hx hb dX9_from_16 (by decide) ?_
  refine dz_kMi (va_runV (As := [_]) ⟨hx, hb, hml, hown, hts⟩ (c_X9_refused l Z _ _ _ _ _ _ _ _ _ _ _ _ _ _ _ _ _ _ _ ha ho) (cwV 1 hts gX9_from_X9_refused rfl rfl rfl (by decide +kernel) ⟨Nat.le_of_ble_eq_true rfl, Nat.le_of_ble_eq_true rfl⟩) (dz_P.preV hE hS hG ho rfl ha) rfl rfl hl.1 rfl (lv_room (Nat.le_of_ble_eq_true rfl)) dX9_from_20 ⟨Nat.le_of_ble_eq_true rfl, Nat.le_of_ble_eq_true rfl⟩) hS (fun x_20_1 G_20_1 ad_20_1 H locs hp_20_1 hG hS => ?_)
  obtain ⟨fr_20_1, rfl, x9_20_1, g_20_1⟩ := hp_20_1
  obtain rfl : x_20_1 = 0 := x9_20_1.trans (by decide)
  refine lv_if_eq (tgt := 28) hx hb dX9_from_23 (by decide) (fun c_23 => ?_) (fun c_23 => absurd (by decide) c_23)
  refine lv_iload_n hx hb dX9_from_28 rfl (lv_at hl 1 rfl) ?_
  refine lv_iload_n hx hb dX9_from_29 rfl (lv_at hl 2 rfl) ?_
  refine dz_kRi (va_runS (As := [_, _]) ⟨hx, hb, hml, hown, hts⟩ (c_X9_cell l Z _ _ _ _ ) (va_cwS 2 hts gX9_from_X9_cell rfl rfl rfl (by decide +kernel) ⟨Nat.le_of_ble_eq_true rfl, Nat.le_of_ble_eq_true rfl⟩) (dz_P.pre hE hS hG) rfl rfl hl.1 rfl (lv_room (Nat.le_of_ble_eq_true rfl)) dX9_from_30 ⟨Nat.le_of_ble_eq_true rfl, Nat.le_of_ble_eq_true rfl⟩) ?_
  refine lv_topi (fun v_3 ev_3 => ?_)
  obtain rfl : v_3 = nI (22 * b + a) := ev_3.trans (fl_cl b (by omega) a (by omega))
  refine lv_istore (lv' := [(4, .int (nI (22 * b + a))), (0, .ref aM), (1, .int (nI a - 10)), (2, .int (nI b - 10)), (3, .int v3)]) hx hb dX9_from_33 hl (by decide) rfl (fun ls hl => ?_)
  refine lv_iload_n hx hb dX9_from_35 rfl (lv_at hl 4 rfl) ?_
  refine lv_if_eq (tgt := 48) hx hb dX9_from_36 (by decide) (fun c_36 => ?_) (fun c_36 => ?_)
  · refine lv_aload_n hx hb dX9_from_48 rfl (lv_at hl 1 rfl) ?_
    refine lv_iload hx hb dX9_from_49 (lv_at hl 0 rfl) ?_
    refine dz_kRi (va_runV (As := [_]) ⟨hx, hb, hml, hown, hts⟩ (c_X9_columnFrom l Z _ _ _ _ _ _ _ _ _ _ _ _ _ _ _ _ _ _ _ _ ha g_20_1 ((fr_20_1 _ (dz_n rfl)).1.trans h8) (show (22 * b + a) < 484 from by omega)) (cwV 1 hts gX9_from_X9_columnFrom rfl rfl rfl (by decide +kernel) ⟨Nat.le_of_ble_eq_true rfl, Nat.le_of_ble_eq_true rfl⟩) (dz_P.preV hE hS hG g_20_1 rfl ha) rfl rfl hl.1 rfl (lv_room (Nat.le_of_ble_eq_true rfl)) dX9_from_51 ⟨Nat.le_of_ble_eq_true rfl, Nat.le_of_ble_eq_true rfl⟩) ?_
    refine lv_topi (fun v_4 ev_4 => ?_)
    obtain rfl : v_4 = m_pc (22 * b + a) - f8 (22 * b + a) := ev_4
    refine W.widen (k := 0) (n := 0) (by first | omega | decide) (by first | omega | decide) ?_
    refine W.iret hx hb hrt (fun t ht hW => dz_endM (f := rv_i) _ hE hS hG ?_ ht hW) (fun q h => hS.2.2 q h) dX9_from_54
    refine ⟨fun r9 n_0 => (fr_20_1 r9 n_0), rfl, ?_⟩
    first | exact ⟨(if_pos c_36).symm, g_20_1⟩ | exact ⟨(if_neg c_36).symm, g_20_1⟩
  · refine lv_aload_n hx hb dX9_from_39 rfl (lv_at hl 1 rfl) ?_
    refine lv_iload hx hb dX9_from_40 (lv_at hl 0 rfl) ?_
    refine dz_kRi (va_runV (As := [_]) ⟨hx, hb, hml, hown, hts⟩ (c_X9_rowFrom l Z _ _ _ _ _ _ _ _ _ _ _ _ _ _ _ _ _ _ _ _ ha g_20_1 ((fr_20_1 _ (dz_n rfl)).1.trans h9) (show (22 * b + a) < 484 from by omega)) (cwV 1 hts gX9_from_X9_rowFrom rfl rfl rfl (by decide +kernel) ⟨Nat.le_of_ble_eq_true rfl, Nat.le_of_ble_eq_true rfl⟩) (dz_P.preV hE hS hG g_20_1 rfl ha) rfl rfl hl.1 rfl (lv_room (Nat.le_of_ble_eq_true rfl)) dX9_from_42 ⟨Nat.le_of_ble_eq_true rfl, Nat.le_of_ble_eq_true rfl⟩) ?_
    refine lv_topi (fun v_5 ev_5 => ?_)
    obtain rfl : v_5 = m_pr (22 * b + a) - f9 (22 * b + a) := ev_5
    refine lv_goto (tgt := 54) hx hb dX9_from_45 (by decide) ?_
    refine W.widen (k := 0) (n := 0) (by first | omega | decide) (by first | omega | decide) ?_
    refine W.iret hx hb hrt (fun t ht hW => dz_endM (f := rv_i) _ hE hS hG ?_ ht hW) (fun q h => hS.2.2 q h) dX9_from_54
    refine ⟨fun r9 n_0 => (fr_20_1 r9 n_0), rfl, ?_⟩
    first | exact ⟨(if_pos c_36).symm, g_20_1⟩ | exact ⟨(if_neg c_36).symm, g_20_1⟩

set_option maxHeartbeats 4000000 in
set_option maxRecDepth 100000 in
theorem c_M_vote_bad (l : Launch) (Z : dzG) (G : dzW) (ad : dzA) (aM nm ns nl nx nf my : Nat) (th dy td ssf sst cfr grw bkk iop : Int32) (v1 v2 : Int32) (ha : ad (39, 0) = aM) (ho : G (39, 0) = some (eO 10 [.int th, .int dy, .int (nI nm), .ref (ad (40, 3)), .ref (ad (40, 4)), .ref (ad (40, 5)), .ref (ad (40, 6)), .int td, .ref (ad (40, 8)), .ref (ad (40, 9)), .ref (ad (40, 10)), .int (nI ns), .ref (ad (40, 12)), .ref (ad (40, 13)), .ref (ad (40, 14)), .int (nI nl), .ref (ad (40, 16)), .ref (ad (40, 17)), .ref (ad (40, 18)), .int (nI nx), .ref (ad (40, 20)), .ref (ad (40, 21)), .ref (ad (40, 22)), .ref (ad (40, 23)), .ref (ad (40, 24)), .int ssf, .int sst, .int cfr, .int grw, .int (nI nf), .ref (ad (40, 30)), .ref (ad (40, 31)), .int bkk, .ref (ad (40, 33)), .ref (ad (40, 34)), .ref (ad (40, 35)), .int iop, .ref (ad (40, 37)), .int (nI my)])) (hbad : ¬ ((0 : Int32) ≤ v1 ∧ v1 ≤ 4)) : dzWr l yX9_vote wsX9_vote 1 22 0 0 Z G ad [.ref aM, .int v1, .int v2] rv_i (fun (x : Int32) G1 ad1 => (∀ r9 : dzR, r9 ≠ (39, 0) → G1 r9 = G r9 ∧ ad1 r9 = ad r9) ∧ ad = ad1 ∧ x = 0 ∧ G1 (39, 0) = some (eO 10 [.int 1, .int dy, .int (nI nm), .ref (ad (40, 3)), .ref (ad (40, 4)), .ref (ad (40, 5)), .ref (ad (40, 6)), .int td, .ref (ad (40, 8)), .ref (ad (40, 9)), .ref (ad (40, 10)), .int (nI ns), .ref (ad (40, 12)), .ref (ad (40, 13)), .ref (ad (40, 14)), .int (nI nl), .ref (ad (40, 16)), .ref (ad (40, 17)), .ref (ad (40, 18)), .int (nI nx), .ref (ad (40, 20)), .ref (ad (40, 21)), .ref (ad (40, 22)), .ref (ad (40, 23)), .ref (ad (40, 24)), .int ssf, .int sst, .int cfr, .int grw, .int (nI nf), .ref (ad (40, 30)), .ref (ad (40, 31)), .int bkk, .ref (ad (40, 33)), .ref (ad (40, 34)), .ref (ad (40, 35)), .int iop, .ref (ad (40, 37)), .int (nI my)])) := by
  refine Met.ofW (cc := cX9_vote) (maxL := 5) (ret := (some .boolean)) (by decide) rfl ?_
  intro p e s m args below meth c s₁ B hml hv
  obtain ⟨rfl, hG, hE⟩ := hv
  have hx := B.exec
  have hb := B.bytes
  have hrt := B.returns
  have hts := atoms_spec (ws := wsX9_vote) B.pre
  have hown : s.vm.findClass RX9 = some m.cls := findClass_of_methodNamed B.named
  have hlocks := B.notSynchronized
  have hS : va_S (dz_A Z) s.heap s.heap [] := va_S.rf
  have hl := lv_entry ([.ref aM, .int v1, .int v2]) (n := 5) (Nat.le_of_ble_eq_true rfl)
  rw [lg_entry_eq]
  generalize (lg_sl ([.ref aM, .int v1, .int v2]) ++ List.replicate (5 - (lg_sl ([.ref aM, .int v1, .int v2])).length) Slot.unset).toArray = ls at hl ⊢
  have hl : lv_has ls 5 [(0, .ref aM), (1, .int v1), (2, .int v2)] := hl
  refine lv_aload_n hx hb dX9_vote_0 rfl (lv_at hl 0 rfl) ?_
  refine lv_iload_n hx hb dX9_vote_1 rfl (lv_at hl 1 rfl) ?_
  refine lv_iconst (v := 0) hx hb dX9_vote_2 (by decide) ?_
  refine lv_iconst (v := 4) hx hb dX9_vote_3 (by decide) ?_
  refine dz_kRi (va_runS (As := [_, _, _]) ⟨hx, hb, hml, hown, hts⟩ (c_X9_in l Z _ _ _ _ _ ) (va_cwS 3 hts gX9_vote_X9_in rfl rfl rfl (by decide +kernel) ⟨Nat.le_of_ble_eq_true rfl, Nat.le_of_ble_eq_true rfl⟩) (dz_P.pre hE hS hG) rfl rfl hl.1 rfl (lv_room (Nat.le_of_ble_eq_true rfl)) dX9_vote_4 ⟨Nat.le_of_ble_eq_true rfl, Nat.le_of_ble_eq_true rfl⟩) ?_
  refine lv_topi (fun v_1 ev_1 => ?_)
  obtain rfl : v_1 = 0 := ev_1.trans (dz_b0 hbad)
  refine lv_if_eq (tgt := 14) hx hb dX9_vote_7 (by decide) (fun c_7 => ?_) (fun c_7 => absurd (by decide) c_7)
  refine lv_iconst (v := 1) hx hb dX9_vote_14 (by decide) ?_
  refine dz_kMi (va_runV (As := [_]) ⟨hx, hb, hml, hown, hts⟩ (c_X9_refused l Z _ _ _ _ _ _ _ _ _ _ _ _ _ _ _ _ _ _ _ ha ho) (cwV 1 hts gX9_vote_X9_refused rfl rfl rfl (by decide +kernel) ⟨Nat.le_of_ble_eq_true rfl, Nat.le_of_ble_eq_true rfl⟩) (dz_P.preV hE hS hG ho rfl ha) rfl rfl hl.1 rfl (lv_room (Nat.le_of_ble_eq_true rfl)) dX9_vote_15 ⟨Nat.le_of_ble_eq_true rfl, Nat.le_of_ble_eq_true rfl⟩) hS (fun x_15_1 G_15_1 ad_15_1 H locs hp_15_1 hG hS => ?_)
  obtain ⟨fr_15_1, rfl, x9_15_1, g_15_1⟩ := hp_15_1
  obtain rfl : x_15_1 = 1 := x9_15_1.trans (by decide)
  refine lv_if_eq (tgt := 23) hx hb dX9_vote_18 (by decide) (fun c_18 => absurd c_18 (by decide)) (fun c_18 => ?_)
  refine lv_iconst (v := 0) hx hb dX9_vote_21 (by decide) ?_
  refine W.widen (k := 0) (n := 0) (by first | omega | decide) (by first | omega | decide) ?_
  refine W.zret hx hb hrt (by decide) (fun t ht hW => dz_endM (f := rv_i) _ hE hS hG ?_ ht hW) (fun q h => hS.2.2 q h) dX9_vote_22
  refine ⟨fun r9 n_0 => (fr_15_1 r9 n_0), rfl, ?_⟩
  exact ⟨rfl, g_15_1⟩

set_option maxHeartbeats 4000000 in
set_option maxRecDepth 100000 in
theorem c_X9_isHouse (l : Launch) (Z : dzG) (G : dzW) (ad : dzA) (aM nm ns nl nx nf my : Nat) (th dy td ssf sst cfr grw bkk iop : Int32) (v1 : Int32) (ha : ad (39, 0) = aM) (ho : G (39, 0) = some (eO 10 [.int th, .int dy, .int (nI nm), .ref (ad (40, 3)), .ref (ad (40, 4)), .ref (ad (40, 5)), .ref (ad (40, 6)), .int td, .ref (ad (40, 8)), .ref (ad (40, 9)), .ref (ad (40, 10)), .int (nI ns), .ref (ad (40, 12)), .ref (ad (40, 13)), .ref (ad (40, 14)), .int (nI nl), .ref (ad (40, 16)), .ref (ad (40, 17)), .ref (ad (40, 18)), .int (nI nx), .ref (ad (40, 20)), .ref (ad (40, 21)), .ref (ad (40, 22)), .ref (ad (40, 23)), .ref (ad (40, 24)), .int ssf, .int sst, .int cfr, .int grw, .int (nI nf), .ref (ad (40, 30)), .ref (ad (40, 31)), .int bkk, .ref (ad (40, 33)), .ref (ad (40, 34)), .ref (ad (40, 35)), .int iop, .ref (ad (40, 37)), .int (nI my)])) : dzRd l yX9_isHouse wsX9_isHouse 1 22 Z G ad [.ref aM, .int v1] (some (.int (dz_b ((0 : Int32) ≤ v1 ∧ v1 ≤ 1)))) := by
  refine Met.ofW (cc := cX9_isHouse) (maxL := 2) (ret := (some .boolean)) (by decide) rfl ?_
  intro p e s m args below meth c s₁ B hml hv
  obtain ⟨rfl, hG, hE⟩ := hv
  have hx := B.exec
  have hb := B.bytes
  have hrt := B.returns
  have hts := atoms_spec (ws := wsX9_isHouse) B.pre
  have hown : s.vm.findClass RX9 = some m.cls := findClass_of_methodNamed B.named
  have hlocks := B.notSynchronized
  have hS : va_S (dz_A Z) s.heap s.heap [] := va_S.rf
  have hl := lv_entry ([.ref aM, .int v1]) (n := 2) (Nat.le_of_ble_eq_true rfl)
  rw [lg_entry_eq]
  generalize (lg_sl ([.ref aM, .int v1]) ++ List.replicate (2 - (lg_sl ([.ref aM, .int v1])).length) Slot.unset).toArray = ls at hl ⊢
  have hl : lv_has ls 2 [(0, .ref aM), (1, .int v1)] := hl
  refine lv_iload_n hx hb dX9_isHouse_0 rfl (lv_at hl 1 rfl) ?_
  refine lv_iconst (v := 0) hx hb dX9_isHouse_1 (by decide) ?_
  refine lv_iconst (v := 1) hx hb dX9_isHouse_2 (by decide) ?_
  refine dz_kRi (va_runS (As := [_, _, _]) ⟨hx, hb, hml, hown, hts⟩ (c_X9_in l Z _ _ _ _ _ ) (va_cwS 3 hts gX9_isHouse_X9_in rfl rfl rfl (by decide +kernel) ⟨Nat.le_of_ble_eq_true rfl, Nat.le_of_ble_eq_true rfl⟩) (dz_P.pre hE hS hG) rfl rfl hl.1 rfl (lv_room (Nat.le_of_ble_eq_true rfl)) dX9_isHouse_3 ⟨Nat.le_of_ble_eq_true rfl, Nat.le_of_ble_eq_true rfl⟩) ?_
  refine W.zret hx hb hrt dz_bn (fun t ht hW => ⟨congrArg (fun x => Outcome.returned (some (Value.int x))) ?_, ht⟩) (fun _ h => by cases h) dX9_isHouse_6
  rfl

set_option maxHeartbeats 4000000 in
set_option maxRecDepth 100000 in
theorem c_M_booked_no (l : Launch) (Z : dzG) (G : dzW) (ad : dzA) (aM nm ns nl nx nf my : Nat) (th dy td ssf sst cfr grw bkk iop : Int32) (v1 : Int32) (ha : ad (39, 0) = aM) (ho : G (39, 0) = some (eO 10 [.int th, .int dy, .int (nI nm), .ref (ad (40, 3)), .ref (ad (40, 4)), .ref (ad (40, 5)), .ref (ad (40, 6)), .int td, .ref (ad (40, 8)), .ref (ad (40, 9)), .ref (ad (40, 10)), .int (nI ns), .ref (ad (40, 12)), .ref (ad (40, 13)), .ref (ad (40, 14)), .int (nI nl), .ref (ad (40, 16)), .ref (ad (40, 17)), .ref (ad (40, 18)), .int (nI nx), .ref (ad (40, 20)), .ref (ad (40, 21)), .ref (ad (40, 22)), .ref (ad (40, 23)), .ref (ad (40, 24)), .int ssf, .int sst, .int cfr, .int grw, .int (nI nf), .ref (ad (40, 30)), .ref (ad (40, 31)), .int bkk, .ref (ad (40, 33)), .ref (ad (40, 34)), .ref (ad (40, 35)), .int iop, .ref (ad (40, 37)), .int (nI my)])) (hbad : ¬ ((0 : Int32) ≤ v1 ∧ v1 ≤ 1)) : dzWr l yX9_booked wsX9_booked 2 43 0 0 Z G ad [.ref aM, .int v1] rv_i (fun (x : Int32) G1 ad1 => (∀ r9 : dzR, r9 ≠ (39, 0) → G1 r9 = G r9 ∧ ad1 r9 = ad r9) ∧ ad = ad1 ∧ x = 0 ∧ G1 (39, 0) = some (eO 10 [.int 1, .int dy, .int (nI nm), .ref (ad (40, 3)), .ref (ad (40, 4)), .ref (ad (40, 5)), .ref (ad (40, 6)), .int td, .ref (ad (40, 8)), .ref (ad (40, 9)), .ref (ad (40, 10)), .int (nI ns), .ref (ad (40, 12)), .ref (ad (40, 13)), .ref (ad (40, 14)), .int (nI nl), .ref (ad (40, 16)), .ref (ad (40, 17)), .ref (ad (40, 18)), .int (nI nx), .ref (ad (40, 20)), .ref (ad (40, 21)), .ref (ad (40, 22)), .ref (ad (40, 23)), .ref (ad (40, 24)), .int ssf, .int sst, .int cfr, .int grw, .int (nI nf), .ref (ad (40, 30)), .ref (ad (40, 31)), .int bkk, .ref (ad (40, 33)), .ref (ad (40, 34)), .ref (ad (40, 35)), .int iop, .ref (ad (40, 37)), .int (nI my)])) := by
  refine Met.ofW (cc := cX9_booked) (maxL := 2) (ret := (some .int)) (by decide) rfl ?_
  intro p e s m args below meth c s₁ B hml hv
  obtain ⟨rfl, hG, hE⟩ := hv
  have hx := B.exec
  have hb := B.bytes
  have hrt := B.returns
  have hts := atoms_spec (ws := wsX9_booked) B.pre
  have hown : s.vm.findClass RX9 = some m.cls := findClass_of_methodNamed B.named
  have hlocks := B.notSynchronized
  have hS : va_S (dz_A Z) s.heap s.heap [] := va_S.rf
  have hl := lv_entry ([.ref aM, .int v1]) (n := 2) (Nat.le_of_ble_eq_true rfl)
  rw [lg_entry_eq]
  generalize (lg_sl ([.ref aM, .int v1]) ++ List.replicate (2 - (lg_sl ([.ref aM, .int v1])).length) Slot.unset).toArray = ls at hl ⊢
  have hl : lv_has ls 2 [(0, .ref aM), (1, .int v1)] := hl
  refine lv_aload_n hx hb dX9_booked_0 rfl (lv_at hl 0 rfl) ?_
  refine lv_aload_n hx hb dX9_booked_1 rfl (lv_at hl 0 rfl) ?_
  refine lv_iload_n hx hb dX9_booked_2 rfl (lv_at hl 1 rfl) ?_
  refine dz_kRi (va_runV (As := [_]) ⟨hx, hb, hml, hown, hts⟩ (c_X9_isHouse l Z _ _ _ _ _ _ _ _ _ _ _ _ _ _ _ _ _ _ _ ha ho) (cwV 1 hts gX9_booked_X9_isHouse rfl rfl rfl (by decide +kernel) ⟨Nat.le_of_ble_eq_true rfl, Nat.le_of_ble_eq_true rfl⟩) (dz_P.preV hE hS hG ho rfl ha) rfl rfl hl.1 rfl (lv_room (Nat.le_of_ble_eq_true rfl)) dX9_booked_3 ⟨Nat.le_of_ble_eq_true rfl, Nat.le_of_ble_eq_true rfl⟩) ?_
  refine lv_topi (fun v_1 ev_1 => ?_)
  obtain rfl : v_1 = 0 := ev_1.trans (dz_b0 hbad)
  refine lv_if_ne (tgt := 13) hx hb dX9_booked_6 (by decide) (fun c_6 => absurd (by decide) c_6) (fun c_6 => ?_)
  refine lv_iconst (v := 1) hx hb dX9_booked_9 (by decide) ?_
  refine lv_goto (tgt := 25) hx hb dX9_booked_10 (by decide) ?_
  refine dz_kMi (va_runV (As := [_]) ⟨hx, hb, hml, hown, hts⟩ (c_X9_refused l Z _ _ _ _ _ _ _ _ _ _ _ _ _ _ _ _ _ _ _ ha ho) (cwV 1 hts gX9_booked_X9_refused rfl rfl rfl (by decide +kernel) ⟨Nat.le_of_ble_eq_true rfl, Nat.le_of_ble_eq_true rfl⟩) (dz_P.preV hE hS hG ho rfl ha) rfl rfl hl.1 rfl (lv_room (Nat.le_of_ble_eq_true rfl)) dX9_booked_25 ⟨Nat.le_of_ble_eq_true rfl, Nat.le_of_ble_eq_true rfl⟩) hS (fun x_25_1 G_25_1 ad_25_1 H locs hp_25_1 hG hS => ?_)
  obtain ⟨fr_25_1, rfl, x9_25_1, g_25_1⟩ := hp_25_1
  obtain rfl : x_25_1 = 1 := x9_25_1.trans (by decide)
  refine lv_if_eq (tgt := 35) hx hb dX9_booked_28 (by decide) (fun c_28 => absurd c_28 (by decide)) (fun c_28 => ?_)
  refine lv_iconst (v := 0) hx hb dX9_booked_31 (by decide) ?_
  refine lv_goto (tgt := 41) hx hb dX9_booked_32 (by decide) ?_
  refine W.widen (k := 0) (n := 0) (by first | omega | decide) (by first | omega | decide) ?_
  refine W.iret hx hb hrt (fun t ht hW => dz_endM (f := rv_i) _ hE hS hG ?_ ht hW) (fun q h => hS.2.2 q h) dX9_booked_41
  refine ⟨fun r9 n_0 => (fr_25_1 r9 n_0), rfl, ?_⟩
  exact ⟨rfl, g_25_1⟩

set_option maxHeartbeats 4000000 in
set_option maxRecDepth 100000 in
theorem c_M_booked_blind (l : Launch) (Z : dzG) (G : dzW) (ad : dzA) (aM nm ns nl nx nf my : Nat) (th dy td ssf sst cfr grw bkk iop : Int32) (k : Nat) (ha : ad (39, 0) = aM) (ho : G (39, 0) = some (eO 10 [.int th, .int dy, .int (nI nm), .ref (ad (40, 3)), .ref (ad (40, 4)), .ref (ad (40, 5)), .ref (ad (40, 6)), .int td, .ref (ad (40, 8)), .ref (ad (40, 9)), .ref (ad (40, 10)), .int (nI ns), .ref (ad (40, 12)), .ref (ad (40, 13)), .ref (ad (40, 14)), .int (nI nl), .ref (ad (40, 16)), .ref (ad (40, 17)), .ref (ad (40, 18)), .int (nI nx), .ref (ad (40, 20)), .ref (ad (40, 21)), .ref (ad (40, 22)), .ref (ad (40, 23)), .ref (ad (40, 24)), .int ssf, .int sst, .int cfr, .int grw, .int (nI nf), .ref (ad (40, 30)), .ref (ad (40, 31)), .int bkk, .ref (ad (40, 33)), .ref (ad (40, 34)), .ref (ad (40, 35)), .int iop, .ref (ad (40, 37)), .int (nI my)])) (hk : k < 2) (hi : iop = 0) : dzWr l yX9_booked wsX9_booked 2 43 0 0 Z G ad [.ref aM, .int (nI k)] rv_i (fun (x : Int32) G1 ad1 => (∀ r9 : dzR, r9 ≠ (39, 0) → G1 r9 = G r9 ∧ ad1 r9 = ad r9) ∧ ad = ad1 ∧ x = 0 ∧ G1 (39, 0) = some (eO 10 [.int 2, .int dy, .int (nI nm), .ref (ad (40, 3)), .ref (ad (40, 4)), .ref (ad (40, 5)), .ref (ad (40, 6)), .int td, .ref (ad (40, 8)), .ref (ad (40, 9)), .ref (ad (40, 10)), .int (nI ns), .ref (ad (40, 12)), .ref (ad (40, 13)), .ref (ad (40, 14)), .int (nI nl), .ref (ad (40, 16)), .ref (ad (40, 17)), .ref (ad (40, 18)), .int (nI nx), .ref (ad (40, 20)), .ref (ad (40, 21)), .ref (ad (40, 22)), .ref (ad (40, 23)), .ref (ad (40, 24)), .int ssf, .int sst, .int cfr, .int grw, .int (nI nf), .ref (ad (40, 30)), .ref (ad (40, 31)), .int bkk, .ref (ad (40, 33)), .ref (ad (40, 34)), .ref (ad (40, 35)), .int iop, .ref (ad (40, 37)), .int (nI my)])) := by
  refine Met.ofW (cc := cX9_booked) (maxL := 2) (ret := (some .int)) (by decide) rfl ?_
  intro p e s m args below meth c s₁ B hml hv
  obtain ⟨rfl, hG, hE⟩ := hv
  have hx := B.exec
  have hb := B.bytes
  have hrt := B.returns
  have hts := atoms_spec (ws := wsX9_booked) B.pre
  have hown : s.vm.findClass RX9 = some m.cls := findClass_of_methodNamed B.named
  have hlocks := B.notSynchronized
  have hS : va_S (dz_A Z) s.heap s.heap [] := va_S.rf
  have hl := lv_entry ([.ref aM, .int (nI k)]) (n := 2) (Nat.le_of_ble_eq_true rfl)
  rw [lg_entry_eq]
  generalize (lg_sl ([.ref aM, .int (nI k)]) ++ List.replicate (2 - (lg_sl ([.ref aM, .int (nI k)])).length) Slot.unset).toArray = ls at hl ⊢
  have hl : lv_has ls 2 [(0, .ref aM), (1, .int (nI k))] := hl
  refine lv_aload_n hx hb dX9_booked_0 rfl (lv_at hl 0 rfl) ?_
  refine lv_aload_n hx hb dX9_booked_1 rfl (lv_at hl 0 rfl) ?_
  refine lv_iload_n hx hb dX9_booked_2 rfl (lv_at hl 1 rfl) ?_
  refine dz_kRi (va_runV (As := [_]) ⟨hx, hb, hml, hown, hts⟩ (c_X9_isHouse l Z _ _ _ _ _ _ _ _ _ _ _ _ _ _ _ _ _ _ _ ha ho) (cwV 1 hts gX9_booked_X9_isHouse rfl rfl rfl (by decide +kernel) ⟨Nat.le_of_ble_eq_true rfl, Nat.le_of_ble_eq_true rfl⟩) (dz_P.preV hE hS hG ho rfl ha) rfl rfl hl.1 rfl (lv_room (Nat.le_of_ble_eq_true rfl)) dX9_booked_3 ⟨Nat.le_of_ble_eq_true rfl, Nat.le_of_ble_eq_true rfl⟩) ?_
  refine lv_topi (fun v_1 ev_1 => ?_)
  obtain rfl : v_1 = 1 := ev_1.trans (dz_b1 (m_ix1 (n := 2) (by omega) hk))
  refine lv_if_ne (tgt := 13) hx hb dX9_booked_6 (by decide) (fun c_6 => ?_) (fun c_6 => absurd c_6 (by decide))
  refine lv_aload_n hx hb dX9_booked_13 rfl (lv_at hl 0 rfl) ?_
  refine dz_get hx hb hts (fun _ h => List.mem_cons_of_mem _ (List.mem_append_right _ h)) hown hE hG ha ho rfl 36 (by decide) (hts _ (List.mem_of_getElem? (i := 1) rfl)) (fun _ h9 => h9) rfl dX9_booked_14 ?_
  refine lv_if_ne (tgt := 24) hx hb dX9_booked_17 (by decide) (fun c_17 => absurd hi c_17) (fun c_17 => ?_)
  refine lv_iconst (v := 2) hx hb dX9_booked_20 (by decide) ?_
  refine lv_goto (tgt := 25) hx hb dX9_booked_21 (by decide) ?_
  refine dz_kMi (va_runV (As := [_]) ⟨hx, hb, hml, hown, hts⟩ (c_X9_refused l Z _ _ _ _ _ _ _ _ _ _ _ _ _ _ _ _ _ _ _ ha ho) (cwV 1 hts gX9_booked_X9_refused rfl rfl rfl (by decide +kernel) ⟨Nat.le_of_ble_eq_true rfl, Nat.le_of_ble_eq_true rfl⟩) (dz_P.preV hE hS hG ho rfl ha) rfl rfl hl.1 rfl (lv_room (Nat.le_of_ble_eq_true rfl)) dX9_booked_25 ⟨Nat.le_of_ble_eq_true rfl, Nat.le_of_ble_eq_true rfl⟩) hS (fun x_25_1 G_25_1 ad_25_1 H locs hp_25_1 hG hS => ?_)
  obtain ⟨fr_25_1, rfl, x9_25_1, g_25_1⟩ := hp_25_1
  obtain rfl : x_25_1 = 1 := x9_25_1.trans (by decide)
  refine lv_if_eq (tgt := 35) hx hb dX9_booked_28 (by decide) (fun c_28 => absurd c_28 (by decide)) (fun c_28 => ?_)
  refine lv_iconst (v := 0) hx hb dX9_booked_31 (by decide) ?_
  refine lv_goto (tgt := 41) hx hb dX9_booked_32 (by decide) ?_
  refine W.widen (k := 0) (n := 0) (by first | omega | decide) (by first | omega | decide) ?_
  refine W.iret hx hb hrt (fun t ht hW => dz_endM (f := rv_i) _ hE hS hG ?_ ht hW) (fun q h => hS.2.2 q h) dX9_booked_41
  refine ⟨fun r9 n_0 => (fr_25_1 r9 n_0), rfl, ?_⟩
  exact ⟨rfl, g_25_1⟩

set_option maxHeartbeats 4000000 in
set_option maxRecDepth 100000 in
theorem c_M_booked_ok (l : Launch) (Z : dzG) (G : dzW) (ad : dzA) (aM nm ns nl nx nf my : Nat) (th dy td ssf sst cfr grw bkk iop : Int32) (f33 : Nat → Int32) (k : Nat) (ha : ad (39, 0) = aM) (ho : G (39, 0) = some (eO 10 [.int th, .int dy, .int (nI nm), .ref (ad (40, 3)), .ref (ad (40, 4)), .ref (ad (40, 5)), .ref (ad (40, 6)), .int td, .ref (ad (40, 8)), .ref (ad (40, 9)), .ref (ad (40, 10)), .int (nI ns), .ref (ad (40, 12)), .ref (ad (40, 13)), .ref (ad (40, 14)), .int (nI nl), .ref (ad (40, 16)), .ref (ad (40, 17)), .ref (ad (40, 18)), .int (nI nx), .ref (ad (40, 20)), .ref (ad (40, 21)), .ref (ad (40, 22)), .ref (ad (40, 23)), .ref (ad (40, 24)), .int ssf, .int sst, .int cfr, .int grw, .int (nI nf), .ref (ad (40, 30)), .ref (ad (40, 31)), .int bkk, .ref (ad (40, 33)), .ref (ad (40, 34)), .ref (ad (40, 35)), .int iop, .ref (ad (40, 37)), .int (nI my)])) (h33 : G (40, 33) = some (eI Z 2 f33)) (hk : k < 2) (hi : ¬ iop = 0) : dzWr l yX9_booked wsX9_booked 2 43 0 0 Z G ad [.ref aM, .int (nI k)] rv_i (fun (x : Int32) G1 ad1 => (∀ r9 : dzR, r9 ≠ (39, 0) → G1 r9 = G r9 ∧ ad1 r9 = ad r9) ∧ ad = ad1 ∧ x = f33 k ∧ G1 (39, 0) = some (eO 10 [.int 0, .int dy, .int (nI nm), .ref (ad (40, 3)), .ref (ad (40, 4)), .ref (ad (40, 5)), .ref (ad (40, 6)), .int td, .ref (ad (40, 8)), .ref (ad (40, 9)), .ref (ad (40, 10)), .int (nI ns), .ref (ad (40, 12)), .ref (ad (40, 13)), .ref (ad (40, 14)), .int (nI nl), .ref (ad (40, 16)), .ref (ad (40, 17)), .ref (ad (40, 18)), .int (nI nx), .ref (ad (40, 20)), .ref (ad (40, 21)), .ref (ad (40, 22)), .ref (ad (40, 23)), .ref (ad (40, 24)), .int ssf, .int sst, .int cfr, .int grw, .int (nI nf), .ref (ad (40, 30)), .ref (ad (40, 31)), .int bkk, .ref (ad (40, 33)), .ref (ad (40, 34)), .ref (ad (40, 35)), .int iop, .ref (ad (40, 37)), .int (nI my)])) := by
  refine Met.ofW (cc := cX9_booked) (maxL := 2) (ret := (some .int)) (by decide) rfl ?_
  intro p e s m args below meth c s₁ B hml hv
  obtain ⟨rfl, hG, hE⟩ := hv
  have hx := B.exec
  have hb := B.bytes
  have hrt := B.returns
  have hts := atoms_spec (ws := wsX9_booked) B.pre
  have hown : s.vm.findClass RX9 = some m.cls := findClass_of_methodNamed B.named
  have hlocks := B.notSynchronized
  have hS : va_S (dz_A Z) s.heap s.heap [] := va_S.rf
  have hl := lv_entry ([.ref aM, .int (nI k)]) (n := 2) (Nat.le_of_ble_eq_true rfl)
  rw [lg_entry_eq]
  generalize (lg_sl ([.ref aM, .int (nI k)]) ++ List.replicate (2 - (lg_sl ([.ref aM, .int (nI k)])).length) Slot.unset).toArray = ls at hl ⊢
  have hl : lv_has ls 2 [(0, .ref aM), (1, .int (nI k))] := hl
  refine lv_aload_n hx hb dX9_booked_0 rfl (lv_at hl 0 rfl) ?_
  refine lv_aload_n hx hb dX9_booked_1 rfl (lv_at hl 0 rfl) ?_
  refine lv_iload_n hx hb dX9_booked_2 rfl (lv_at hl 1 rfl) ?_
  refine dz_kRi (va_runV (As := [_]) ⟨hx, hb, hml, hown, hts⟩ (c_X9_isHouse l Z _ _ _ _ _ _ _ _ _ _ _ _ _ _ _ _ _ _ _ ha ho) (cwV 1 hts gX9_booked_X9_isHouse rfl rfl rfl (by decide +kernel) ⟨Nat.le_of_ble_eq_true rfl, Nat.le_of_ble_eq_true rfl⟩) (dz_P.preV hE hS hG ho rfl ha) rfl rfl hl.1 rfl (lv_room (Nat.le_of_ble_eq_true rfl)) dX9_booked_3 ⟨Nat.le_of_ble_eq_true rfl, Nat.le_of_ble_eq_true rfl⟩) ?_
  refine lv_topi (fun v_1 ev_1 => ?_)
  obtain rfl : v_1 = 1 := ev_1.trans (dz_b1 (m_ix1 (n := 2) (by omega) hk))
  refine lv_if_ne (tgt := 13) hx hb dX9_booked_6 (by decide) (fun c_6 => ?_) (fun c_6 => absurd c_6 (by decide))
  refine lv_aload_n hx hb dX9_booked_13 rfl (lv_at hl 0 rfl) ?_
  refine dz_get hx hb hts (fun _ h => List.mem_cons_of_mem _ (List.mem_append_right _ h)) hown hE hG ha ho rfl 36 (by decide) (hts _ (List.mem_of_getElem? (i := 1) rfl)) (fun _ h9 => h9) rfl dX9_booked_14 ?_
  refine lv_if_ne (tgt := 24) hx hb dX9_booked_17 (by decide) (fun c_17 => ?_) (fun c_17 => absurd c_17 hi)
  refine lv_iconst (v := 0) hx hb dX9_booked_24 (by decide) ?_
  refine dz_kMi (va_runV (As := [_]) ⟨hx, hb, hml, hown, hts⟩ (c_X9_refused l Z _ _ _ _ _ _ _ _ _ _ _ _ _ _ _ _ _ _ _ ha ho) (cwV 1 hts gX9_booked_X9_refused rfl rfl rfl (by decide +kernel) ⟨Nat.le_of_ble_eq_true rfl, Nat.le_of_ble_eq_true rfl⟩) (dz_P.preV hE hS hG ho rfl ha) rfl rfl hl.1 rfl (lv_room (Nat.le_of_ble_eq_true rfl)) dX9_booked_25 ⟨Nat.le_of_ble_eq_true rfl, Nat.le_of_ble_eq_true rfl⟩) hS (fun x_25_1 G_25_1 ad_25_1 H locs hp_25_1 hG hS => ?_)
  obtain ⟨fr_25_1, rfl, x9_25_1, g_25_1⟩ := hp_25_1
  obtain rfl : x_25_1 = 0 := x9_25_1.trans (by decide)
  refine lv_if_eq (tgt := 35) hx hb dX9_booked_28 (by decide) (fun c_28 => ?_) (fun c_28 => absurd (by decide) c_28)
  refine lv_aload_n hx hb dX9_booked_35 rfl (lv_at hl 0 rfl) ?_
  refine dz_get hx hb hts (fun _ h => List.mem_cons_of_mem _ (List.mem_append_right _ h)) hown hE hG ha g_25_1 rfl 33 (by decide) (hts _ (List.mem_of_getElem? (i := 2) rfl)) (fun _ h9 => h9) rfl dX9_booked_36 ?_
  refine lv_iload_n hx hb dX9_booked_39 rfl (lv_at hl 1 rfl) ?_
  refine dz_iald hx hb hE hG ((fr_25_1 _ (dz_n rfl)).2.trans rfl) ((fr_25_1 _ (dz_n rfl)).1.trans h33) (vp_in_nI (by omega) (by decide)) dX9_booked_40 ?_
  refine lv_topi (fun v_2 ev_2 => ?_)
  obtain rfl : v_2 = f33 k := ev_2.trans (by rw [nI_clamp (by omega)])
  refine W.widen (k := 0) (n := 0) (by first | omega | decide) (by first | omega | decide) ?_
  refine W.iret hx hb hrt (fun t ht hW => dz_endM (f := rv_i) _ hE hS hG ?_ ht hW) (fun q h => hS.2.2 q h) dX9_booked_41
  refine ⟨fun r9 n_0 => (fr_25_1 r9 n_0), rfl, ?_⟩
  exact ⟨rfl, g_25_1⟩

set_option maxHeartbeats 4000000 in
set_option maxRecDepth 100000 in
theorem c_M_isFresh_no (l : Launch) (Z : dzG) (G : dzW) (ad : dzA) (aM nm ns nl nx nf my : Nat) (th dy td ssf sst cfr grw bkk iop : Int32) (v1 : Int32) (ha : ad (39, 0) = aM) (ho : G (39, 0) = some (eO 10 [.int th, .int dy, .int (nI nm), .ref (ad (40, 3)), .ref (ad (40, 4)), .ref (ad (40, 5)), .ref (ad (40, 6)), .int td, .ref (ad (40, 8)), .ref (ad (40, 9)), .ref (ad (40, 10)), .int (nI ns), .ref (ad (40, 12)), .ref (ad (40, 13)), .ref (ad (40, 14)), .int (nI nl), .ref (ad (40, 16)), .ref (ad (40, 17)), .ref (ad (40, 18)), .int (nI nx), .ref (ad (40, 20)), .ref (ad (40, 21)), .ref (ad (40, 22)), .ref (ad (40, 23)), .ref (ad (40, 24)), .int ssf, .int sst, .int cfr, .int grw, .int (nI nf), .ref (ad (40, 30)), .ref (ad (40, 31)), .int bkk, .ref (ad (40, 33)), .ref (ad (40, 34)), .ref (ad (40, 35)), .int iop, .ref (ad (40, 37)), .int (nI my)])) (hbad : ¬ ((0 : Int32) ≤ v1 ∧ v1 ≤ 1)) : dzWr l yX9_isFresh wsX9_isFresh 2 43 0 0 Z G ad [.ref aM, .int v1] rv_i (fun (x : Int32) G1 ad1 => (∀ r9 : dzR, r9 ≠ (39, 0) → G1 r9 = G r9 ∧ ad1 r9 = ad r9) ∧ ad = ad1 ∧ x = 0 ∧ G1 (39, 0) = some (eO 10 [.int 1, .int dy, .int (nI nm), .ref (ad (40, 3)), .ref (ad (40, 4)), .ref (ad (40, 5)), .ref (ad (40, 6)), .int td, .ref (ad (40, 8)), .ref (ad (40, 9)), .ref (ad (40, 10)), .int (nI ns), .ref (ad (40, 12)), .ref (ad (40, 13)), .ref (ad (40, 14)), .int (nI nl), .ref (ad (40, 16)), .ref (ad (40, 17)), .ref (ad (40, 18)), .int (nI nx), .ref (ad (40, 20)), .ref (ad (40, 21)), .ref (ad (40, 22)), .ref (ad (40, 23)), .ref (ad (40, 24)), .int ssf, .int sst, .int cfr, .int grw, .int (nI nf), .ref (ad (40, 30)), .ref (ad (40, 31)), .int bkk, .ref (ad (40, 33)), .ref (ad (40, 34)), .ref (ad (40, 35)), .int iop, .ref (ad (40, 37)), .int (nI my)])) := by
  refine Met.ofW (cc := cX9_isFresh) (maxL := 3) (ret := (some .boolean)) (by decide) rfl ?_
  intro p e s m args below meth c s₁ B hml hv
  obtain ⟨rfl, hG, hE⟩ := hv
  have hx := B.exec
  have hb := B.bytes
  have hrt := B.returns
  have hts := atoms_spec (ws := wsX9_isFresh) B.pre
  have hown : s.vm.findClass RX9 = some m.cls := findClass_of_methodNamed B.named
  have hlocks := B.notSynchronized
  have hS : va_S (dz_A Z) s.heap s.heap [] := va_S.rf
  have hl := lv_entry ([.ref aM, .int v1]) (n := 3) (Nat.le_of_ble_eq_true rfl)
  rw [lg_entry_eq]
  generalize (lg_sl ([.ref aM, .int v1]) ++ List.replicate (3 - (lg_sl ([.ref aM, .int v1])).length) Slot.unset).toArray = ls at hl ⊢
  have hl : lv_has ls 3 [(0, .ref aM), (1, .int v1)] := hl
  refine lv_aload_n hx hb dX9_isFresh_0 rfl (lv_at hl 0 rfl) ?_
  refine lv_iload_n hx hb dX9_isFresh_1 rfl (lv_at hl 1 rfl) ?_
  refine dz_kRi (va_runV (As := [_]) ⟨hx, hb, hml, hown, hts⟩ (c_X9_isHouse l Z _ _ _ _ _ _ _ _ _ _ _ _ _ _ _ _ _ _ _ ha ho) (cwV 1 hts gX9_isFresh_X9_isHouse rfl rfl rfl (by decide +kernel) ⟨Nat.le_of_ble_eq_true rfl, Nat.le_of_ble_eq_true rfl⟩) (dz_P.preV hE hS hG ho rfl ha) rfl rfl hl.1 rfl (lv_room (Nat.le_of_ble_eq_true rfl)) dX9_isFresh_2 ⟨Nat.le_of_ble_eq_true rfl, Nat.le_of_ble_eq_true rfl⟩) ?_
  refine lv_topi (fun v_1 ev_1 => ?_)
  obtain rfl : v_1 = 0 := ev_1.trans (dz_b0 hbad)
  refine lv_istore_n (lv' := [(2, .int 0), (0, .ref aM), (1, .int v1)]) hx hb dX9_isFresh_5 rfl hl (by decide) rfl (fun ls hl => ?_)
  refine lv_aload_n hx hb dX9_isFresh_6 rfl (lv_at hl 1 rfl) ?_
  refine lv_iload_n hx hb dX9_isFresh_7 rfl (lv_at hl 0 rfl) ?_
  refine lv_if_ne (tgt := 15) hx hb dX9_isFresh_8 (by decide) (fun c_8 => absurd (by decide) c_8) (fun c_8 => ?_)
  refine lv_iconst (v := 1) hx hb dX9_isFresh_11 (by decide) ?_
  refine lv_goto (tgt := 30) hx hb dX9_isFresh_12 (by decide) ?_
  refine dz_kMi (va_runV (As := [_]) ⟨hx, hb, hml, hown, hts⟩ (c_X9_refused l Z _ _ _ _ _ _ _ _ _ _ _ _ _ _ _ _ _ _ _ ha ho) (cwV 1 hts gX9_isFresh_X9_refused rfl rfl rfl (by decide +kernel) ⟨Nat.le_of_ble_eq_true rfl, Nat.le_of_ble_eq_true rfl⟩) (dz_P.preV hE hS hG ho rfl ha) rfl rfl hl.1 rfl (lv_room (Nat.le_of_ble_eq_true rfl)) dX9_isFresh_30 ⟨Nat.le_of_ble_eq_true rfl, Nat.le_of_ble_eq_true rfl⟩) hS (fun x_30_1 G_30_1 ad_30_1 H locs hp_30_1 hG hS => ?_)
  obtain ⟨fr_30_1, rfl, x9_30_1, g_30_1⟩ := hp_30_1
  obtain rfl : x_30_1 = 1 := x9_30_1.trans (by decide)
  refine lv_if_ne (tgt := 53) hx hb dX9_isFresh_33 (by decide) (fun c_33 => ?_) (fun c_33 => absurd c_33 (by decide))
  refine lv_iconst (v := 0) hx hb dX9_isFresh_53 (by decide) ?_
  refine W.widen (k := 0) (n := 0) (by first | omega | decide) (by first | omega | decide) ?_
  refine W.zret hx hb hrt (by decide) (fun t ht hW => dz_endM (f := rv_i) _ hE hS hG ?_ ht hW) (fun q h => hS.2.2 q h) dX9_isFresh_54
  refine ⟨fun r9 n_0 => (fr_30_1 r9 n_0), rfl, ?_⟩
  exact ⟨rfl, g_30_1⟩

set_option maxHeartbeats 4000000 in
set_option maxRecDepth 100000 in
theorem c_M_isFresh_none (l : Launch) (Z : dzG) (G : dzW) (ad : dzA) (aM nm ns nl nx nf my : Nat) (th dy td ssf sst cfr grw bkk iop : Int32) (f34 : Nat → Int32) (k : Nat) (ha : ad (39, 0) = aM) (ho : G (39, 0) = some (eO 10 [.int th, .int dy, .int (nI nm), .ref (ad (40, 3)), .ref (ad (40, 4)), .ref (ad (40, 5)), .ref (ad (40, 6)), .int td, .ref (ad (40, 8)), .ref (ad (40, 9)), .ref (ad (40, 10)), .int (nI ns), .ref (ad (40, 12)), .ref (ad (40, 13)), .ref (ad (40, 14)), .int (nI nl), .ref (ad (40, 16)), .ref (ad (40, 17)), .ref (ad (40, 18)), .int (nI nx), .ref (ad (40, 20)), .ref (ad (40, 21)), .ref (ad (40, 22)), .ref (ad (40, 23)), .ref (ad (40, 24)), .int ssf, .int sst, .int cfr, .int grw, .int (nI nf), .ref (ad (40, 30)), .ref (ad (40, 31)), .int bkk, .ref (ad (40, 33)), .ref (ad (40, 34)), .ref (ad (40, 35)), .int iop, .ref (ad (40, 37)), .int (nI my)])) (h34 : G (40, 34) = some (eI Z 2 f34)) (hk : k < 2) (hi : f34 k = -1) : dzWr l yX9_isFresh wsX9_isFresh 2 43 0 0 Z G ad [.ref aM, .int (nI k)] rv_i (fun (x : Int32) G1 ad1 => (∀ r9 : dzR, r9 ≠ (39, 0) → G1 r9 = G r9 ∧ ad1 r9 = ad r9) ∧ ad = ad1 ∧ x = 0 ∧ G1 (39, 0) = some (eO 10 [.int 2, .int dy, .int (nI nm), .ref (ad (40, 3)), .ref (ad (40, 4)), .ref (ad (40, 5)), .ref (ad (40, 6)), .int td, .ref (ad (40, 8)), .ref (ad (40, 9)), .ref (ad (40, 10)), .int (nI ns), .ref (ad (40, 12)), .ref (ad (40, 13)), .ref (ad (40, 14)), .int (nI nl), .ref (ad (40, 16)), .ref (ad (40, 17)), .ref (ad (40, 18)), .int (nI nx), .ref (ad (40, 20)), .ref (ad (40, 21)), .ref (ad (40, 22)), .ref (ad (40, 23)), .ref (ad (40, 24)), .int ssf, .int sst, .int cfr, .int grw, .int (nI nf), .ref (ad (40, 30)), .ref (ad (40, 31)), .int bkk, .ref (ad (40, 33)), .ref (ad (40, 34)), .ref (ad (40, 35)), .int iop, .ref (ad (40, 37)), .int (nI my)])) := by
  refine Met.ofW (cc := cX9_isFresh) (maxL := 3) (ret := (some .boolean)) (by decide) rfl ?_
  intro p e s m args below meth c s₁ B hml hv
  obtain ⟨rfl, hG, hE⟩ := hv
  have hx := B.exec
  have hb := B.bytes
  have hrt := B.returns
  have hts := atoms_spec (ws := wsX9_isFresh) B.pre
  have hown : s.vm.findClass RX9 = some m.cls := findClass_of_methodNamed B.named
  have hlocks := B.notSynchronized
  have hS : va_S (dz_A Z) s.heap s.heap [] := va_S.rf
  have hl := lv_entry ([.ref aM, .int (nI k)]) (n := 3) (Nat.le_of_ble_eq_true rfl)
  rw [lg_entry_eq]
  generalize (lg_sl ([.ref aM, .int (nI k)]) ++ List.replicate (3 - (lg_sl ([.ref aM, .int (nI k)])).length) Slot.unset).toArray = ls at hl ⊢
  have hl : lv_has ls 3 [(0, .ref aM), (1, .int (nI k))] := hl
  refine lv_aload_n hx hb dX9_isFresh_0 rfl (lv_at hl 0 rfl) ?_
  refine lv_iload_n hx hb dX9_isFresh_1 rfl (lv_at hl 1 rfl) ?_
  refine dz_kRi (va_runV (As := [_]) ⟨hx, hb, hml, hown, hts⟩ (c_X9_isHouse l Z _ _ _ _ _ _ _ _ _ _ _ _ _ _ _ _ _ _ _ ha ho) (cwV 1 hts gX9_isFresh_X9_isHouse rfl rfl rfl (by decide +kernel) ⟨Nat.le_of_ble_eq_true rfl, Nat.le_of_ble_eq_true rfl⟩) (dz_P.preV hE hS hG ho rfl ha) rfl rfl hl.1 rfl (lv_room (Nat.le_of_ble_eq_true rfl)) dX9_isFresh_2 ⟨Nat.le_of_ble_eq_true rfl, Nat.le_of_ble_eq_true rfl⟩) ?_
  refine lv_topi (fun v_1 ev_1 => ?_)
  obtain rfl : v_1 = 1 := ev_1.trans (dz_b1 (m_ix1 (n := 2) (by omega) hk))
  refine lv_istore_n (lv' := [(2, .int 1), (0, .ref aM), (1, .int (nI k))]) hx hb dX9_isFresh_5 rfl hl (by decide) rfl (fun ls hl => ?_)
  refine lv_aload_n hx hb dX9_isFresh_6 rfl (lv_at hl 1 rfl) ?_
  refine lv_iload_n hx hb dX9_isFresh_7 rfl (lv_at hl 0 rfl) ?_
  refine lv_if_ne (tgt := 15) hx hb dX9_isFresh_8 (by decide) (fun c_8 => ?_) (fun c_8 => absurd c_8 (by decide))
  refine lv_aload_n hx hb dX9_isFresh_15 rfl (lv_at hl 1 rfl) ?_
  refine dz_get hx hb hts (fun _ h => List.mem_cons_of_mem _ (List.mem_append_right _ h)) hown hE hG ha ho rfl 34 (by decide) (hts _ (List.mem_of_getElem? (i := 1) rfl)) (fun _ h9 => h9) rfl dX9_isFresh_16 ?_
  refine lv_iload_n hx hb dX9_isFresh_19 rfl (lv_at hl 2 rfl) ?_
  refine dz_iald hx hb hE hG rfl h34 (vp_in_nI (by omega) (by decide)) dX9_isFresh_20 ?_
  refine lv_topi (fun v_2 ev_2 => ?_)
  obtain rfl : v_2 = f34 k := ev_2.trans (by rw [nI_clamp (by omega)])
  refine lv_iconst (v := (-1)) hx hb dX9_isFresh_21 (by decide) ?_
  refine lv_icmp_ne (tgt := 29) hx hb dX9_isFresh_22 (by decide) (fun c_22 => absurd hi c_22) (fun c_22 => ?_)
  refine lv_iconst (v := 2) hx hb dX9_isFresh_25 (by decide) ?_
  refine lv_goto (tgt := 30) hx hb dX9_isFresh_26 (by decide) ?_
  refine dz_kMi (va_runV (As := [_]) ⟨hx, hb, hml, hown, hts⟩ (c_X9_refused l Z _ _ _ _ _ _ _ _ _ _ _ _ _ _ _ _ _ _ _ ha ho) (cwV 1 hts gX9_isFresh_X9_refused rfl rfl rfl (by decide +kernel) ⟨Nat.le_of_ble_eq_true rfl, Nat.le_of_ble_eq_true rfl⟩) (dz_P.preV hE hS hG ho rfl ha) rfl rfl hl.1 rfl (lv_room (Nat.le_of_ble_eq_true rfl)) dX9_isFresh_30 ⟨Nat.le_of_ble_eq_true rfl, Nat.le_of_ble_eq_true rfl⟩) hS (fun x_30_1 G_30_1 ad_30_1 H locs hp_30_1 hG hS => ?_)
  obtain ⟨fr_30_1, rfl, x9_30_1, g_30_1⟩ := hp_30_1
  obtain rfl : x_30_1 = 1 := x9_30_1.trans (by decide)
  refine lv_if_ne (tgt := 53) hx hb dX9_isFresh_33 (by decide) (fun c_33 => ?_) (fun c_33 => absurd c_33 (by decide))
  refine lv_iconst (v := 0) hx hb dX9_isFresh_53 (by decide) ?_
  refine W.widen (k := 0) (n := 0) (by first | omega | decide) (by first | omega | decide) ?_
  refine W.zret hx hb hrt (by decide) (fun t ht hW => dz_endM (f := rv_i) _ hE hS hG ?_ ht hW) (fun q h => hS.2.2 q h) dX9_isFresh_54
  refine ⟨fun r9 n_0 => (fr_30_1 r9 n_0), rfl, ?_⟩
  exact ⟨rfl, g_30_1⟩

set_option maxHeartbeats 4000000 in
set_option maxRecDepth 100000 in
theorem c_M_isFresh_ok (l : Launch) (Z : dzG) (G : dzW) (ad : dzA) (aM nm ns nl nx nf my : Nat) (th dy td ssf sst cfr grw bkk iop : Int32) (f34 : Nat → Int32) (k : Nat) (ha : ad (39, 0) = aM) (ho : G (39, 0) = some (eO 10 [.int th, .int dy, .int (nI nm), .ref (ad (40, 3)), .ref (ad (40, 4)), .ref (ad (40, 5)), .ref (ad (40, 6)), .int td, .ref (ad (40, 8)), .ref (ad (40, 9)), .ref (ad (40, 10)), .int (nI ns), .ref (ad (40, 12)), .ref (ad (40, 13)), .ref (ad (40, 14)), .int (nI nl), .ref (ad (40, 16)), .ref (ad (40, 17)), .ref (ad (40, 18)), .int (nI nx), .ref (ad (40, 20)), .ref (ad (40, 21)), .ref (ad (40, 22)), .ref (ad (40, 23)), .ref (ad (40, 24)), .int ssf, .int sst, .int cfr, .int grw, .int (nI nf), .ref (ad (40, 30)), .ref (ad (40, 31)), .int bkk, .ref (ad (40, 33)), .ref (ad (40, 34)), .ref (ad (40, 35)), .int iop, .ref (ad (40, 37)), .int (nI my)])) (h34 : G (40, 34) = some (eI Z 2 f34)) (hk : k < 2) (hi : ¬ f34 k = -1) : dzWr l yX9_isFresh wsX9_isFresh 2 43 0 0 Z G ad [.ref aM, .int (nI k)] rv_i (fun (x : Int32) G1 ad1 => (∀ r9 : dzR, r9 ≠ (39, 0) → G1 r9 = G r9 ∧ ad1 r9 = ad r9) ∧ ad = ad1 ∧ x = dz_b (f34 k = td) ∧ G1 (39, 0) = some (eO 10 [.int 0, .int dy, .int (nI nm), .ref (ad (40, 3)), .ref (ad (40, 4)), .ref (ad (40, 5)), .ref (ad (40, 6)), .int td, .ref (ad (40, 8)), .ref (ad (40, 9)), .ref (ad (40, 10)), .int (nI ns), .ref (ad (40, 12)), .ref (ad (40, 13)), .ref (ad (40, 14)), .int (nI nl), .ref (ad (40, 16)), .ref (ad (40, 17)), .ref (ad (40, 18)), .int (nI nx), .ref (ad (40, 20)), .ref (ad (40, 21)), .ref (ad (40, 22)), .ref (ad (40, 23)), .ref (ad (40, 24)), .int ssf, .int sst, .int cfr, .int grw, .int (nI nf), .ref (ad (40, 30)), .ref (ad (40, 31)), .int bkk, .ref (ad (40, 33)), .ref (ad (40, 34)), .ref (ad (40, 35)), .int iop, .ref (ad (40, 37)), .int (nI my)])) := by
  refine Met.ofW (cc := cX9_isFresh) (maxL := 3) (ret := (some .boolean)) (by decide) rfl ?_
  intro p e s m args below meth c s₁ B hml hv
  obtain ⟨rfl, hG, hE⟩ := hv
  have hx := B.exec
  have hb := B.bytes
  have hrt := B.returns
  have hts := atoms_spec (ws := wsX9_isFresh) B.pre
  have hown : s.vm.findClass RX9 = some m.cls := findClass_of_methodNamed B.named
  have hlocks := B.notSynchronized
  have hS : va_S (dz_A Z) s.heap s.heap [] := va_S.rf
  have hl := lv_entry ([.ref aM, .int (nI k)]) (n := 3) (Nat.le_of_ble_eq_true rfl)
  rw [lg_entry_eq]
  generalize (lg_sl ([.ref aM, .int (nI k)]) ++ List.replicate (3 - (lg_sl ([.ref aM, .int (nI k)])).length) Slot.unset).toArray = ls at hl ⊢
  have hl : lv_has ls 3 [(0, .ref aM), (1, .int (nI k))] := hl
  refine lv_aload_n hx hb dX9_isFresh_0 rfl (lv_at hl 0 rfl) ?_
  refine lv_iload_n hx hb dX9_isFresh_1 rfl (lv_at hl 1 rfl) ?_
  refine dz_kRi (va_runV (As := [_]) ⟨hx, hb, hml, hown, hts⟩ (c_X9_isHouse l Z _ _ _ _ _ _ _ _ _ _ _ _ _ _ _ _ _ _ _ ha ho) (cwV 1 hts gX9_isFresh_X9_isHouse rfl rfl rfl (by decide +kernel) ⟨Nat.le_of_ble_eq_true rfl, Nat.le_of_ble_eq_true rfl⟩) (dz_P.preV hE hS hG ho rfl ha) rfl rfl hl.1 rfl (lv_room (Nat.le_of_ble_eq_true rfl)) dX9_isFresh_2 ⟨Nat.le_of_ble_eq_true rfl, Nat.le_of_ble_eq_true rfl⟩) ?_
  refine lv_topi (fun v_1 ev_1 => ?_)
  obtain rfl : v_1 = 1 := ev_1.trans (dz_b1 (m_ix1 (n := 2) (by omega) hk))
  refine lv_istore_n (lv' := [(2, .int 1), (0, .ref aM), (1, .int (nI k))]) hx hb dX9_isFresh_5 rfl hl (by decide) rfl (fun ls hl => ?_)
  refine lv_aload_n hx hb dX9_isFresh_6 rfl (lv_at hl 1 rfl) ?_
  refine lv_iload_n hx hb dX9_isFresh_7 rfl (lv_at hl 0 rfl) ?_
  refine lv_if_ne (tgt := 15) hx hb dX9_isFresh_8 (by decide) (fun c_8 => ?_) (fun c_8 => absurd c_8 (by decide))
  refine lv_aload_n hx hb dX9_isFresh_15 rfl (lv_at hl 1 rfl) ?_
  refine dz_get hx hb hts (fun _ h => List.mem_cons_of_mem _ (List.mem_append_right _ h)) hown hE hG ha ho rfl 34 (by decide) (hts _ (List.mem_of_getElem? (i := 1) rfl)) (fun _ h9 => h9) rfl dX9_isFresh_16 ?_
  refine lv_iload_n hx hb dX9_isFresh_19 rfl (lv_at hl 2 rfl) ?_
  refine dz_iald hx hb hE hG rfl h34 (vp_in_nI (by omega) (by decide)) dX9_isFresh_20 ?_
  refine lv_topi (fun v_2 ev_2 => ?_)
  obtain rfl : v_2 = f34 k := ev_2.trans (by rw [nI_clamp (by omega)])
  refine lv_iconst (v := (-1)) hx hb dX9_isFresh_21 (by decide) ?_
  refine lv_icmp_ne (tgt := 29) hx hb dX9_isFresh_22 (by decide) (fun c_22 => ?_) (fun c_22 => absurd c_22 hi)
  refine lv_iconst (v := 0) hx hb dX9_isFresh_29 (by decide) ?_
  refine dz_kMi (va_runV (As := [_]) ⟨hx, hb, hml, hown, hts⟩ (c_X9_refused l Z _ _ _ _ _ _ _ _ _ _ _ _ _ _ _ _ _ _ _ ha ho) (cwV 1 hts gX9_isFresh_X9_refused rfl rfl rfl (by decide +kernel) ⟨Nat.le_of_ble_eq_true rfl, Nat.le_of_ble_eq_true rfl⟩) (dz_P.preV hE hS hG ho rfl ha) rfl rfl hl.1 rfl (lv_room (Nat.le_of_ble_eq_true rfl)) dX9_isFresh_30 ⟨Nat.le_of_ble_eq_true rfl, Nat.le_of_ble_eq_true rfl⟩) hS (fun x_30_1 G_30_1 ad_30_1 H locs hp_30_1 hG hS => ?_)
  obtain ⟨fr_30_1, rfl, x9_30_1, g_30_1⟩ := hp_30_1
  obtain rfl : x_30_1 = 0 := x9_30_1.trans (by decide)
  refine lv_if_ne (tgt := 53) hx hb dX9_isFresh_33 (by decide) (fun c_33 => absurd (by decide) c_33) (fun c_33 => ?_)
  refine lv_aload_n hx hb dX9_isFresh_36 rfl (lv_at hl 1 rfl) ?_
  refine dz_get hx hb hts (fun _ h => List.mem_cons_of_mem _ (List.mem_append_right _ h)) hown hE hG ha g_30_1 rfl 34 (by decide) (hts _ (List.mem_of_getElem? (i := 1) rfl)) (fun _ h9 => h9) rfl dX9_isFresh_37 ?_
  refine lv_iload_n hx hb dX9_isFresh_40 rfl (lv_at hl 2 rfl) ?_
  refine dz_iald hx hb hE hG ((fr_30_1 _ (dz_n rfl)).2.trans rfl) ((fr_30_1 _ (dz_n rfl)).1.trans h34) (vp_in_nI (by omega) (by decide)) dX9_isFresh_41 ?_
  refine lv_topi (fun v_3 ev_3 => ?_)
  obtain rfl : v_3 = f34 k := ev_3.trans (by rw [nI_clamp (by omega)])
  refine lv_aload_n hx hb dX9_isFresh_42 rfl (lv_at hl 1 rfl) ?_
  refine dz_get hx hb hts (fun _ h => List.mem_cons_of_mem _ (List.mem_append_right _ h)) hown hE hG ha g_30_1 rfl 7 (by decide) (hts _ (List.mem_of_getElem? (i := 2) rfl)) (fun _ h9 => h9) rfl dX9_isFresh_43 ?_
  refine lv_icmp_ne (tgt := 53) hx hb dX9_isFresh_46 (by decide) (fun c_46 => ?_) (fun c_46 => ?_)
  · refine lv_iconst (v := 0) hx hb dX9_isFresh_53 (by decide) ?_
    refine W.widen (k := 0) (n := 0) (by first | omega | decide) (by first | omega | decide) ?_
    refine W.zret hx hb hrt (by decide) (fun t ht hW => dz_endM (f := rv_i) _ hE hS hG ?_ ht hW) (fun q h => hS.2.2 q h) dX9_isFresh_54
    refine ⟨fun r9 n_0 => (fr_30_1 r9 n_0), rfl, ?_⟩
    first | exact ⟨(dz_b0 c_46).symm, g_30_1⟩ | exact ⟨(dz_b1 c_46).symm, g_30_1⟩
  · refine lv_iconst (v := 1) hx hb dX9_isFresh_49 (by decide) ?_
    refine lv_goto (tgt := 54) hx hb dX9_isFresh_50 (by decide) ?_
    refine W.widen (k := 0) (n := 0) (by first | omega | decide) (by first | omega | decide) ?_
    refine W.zret hx hb hrt (by decide) (fun t ht hW => dz_endM (f := rv_i) _ hE hS hG ?_ ht hW) (fun q h => hS.2.2 q h) dX9_isFresh_54
    refine ⟨fun r9 n_0 => (fr_30_1 r9 n_0), rfl, ?_⟩
    first | exact ⟨(dz_b0 c_46).symm, g_30_1⟩ | exact ⟨(dz_b1 c_46).symm, g_30_1⟩

set_option maxHeartbeats 4000000 in
set_option maxRecDepth 100000 in
theorem c_M_dispute_blind (l : Launch) (Z : dzG) (G : dzW) (ad : dzA) (aM nm ns nl nx nf my : Nat) (th dy td ssf sst cfr grw bkk iop : Int32) (ha : ad (39, 0) = aM) (ho : G (39, 0) = some (eO 10 [.int th, .int dy, .int (nI nm), .ref (ad (40, 3)), .ref (ad (40, 4)), .ref (ad (40, 5)), .ref (ad (40, 6)), .int td, .ref (ad (40, 8)), .ref (ad (40, 9)), .ref (ad (40, 10)), .int (nI ns), .ref (ad (40, 12)), .ref (ad (40, 13)), .ref (ad (40, 14)), .int (nI nl), .ref (ad (40, 16)), .ref (ad (40, 17)), .ref (ad (40, 18)), .int (nI nx), .ref (ad (40, 20)), .ref (ad (40, 21)), .ref (ad (40, 22)), .ref (ad (40, 23)), .ref (ad (40, 24)), .int ssf, .int sst, .int cfr, .int grw, .int (nI nf), .ref (ad (40, 30)), .ref (ad (40, 31)), .int bkk, .ref (ad (40, 33)), .ref (ad (40, 34)), .ref (ad (40, 35)), .int iop, .ref (ad (40, 37)), .int (nI my)])) (hi : iop = 0) : dzWr l yX9_dispute wsX9_dispute 1 21 0 0 Z G ad [.ref aM] rv_i (fun (x : Int32) G1 ad1 => (∀ r9 : dzR, r9 ≠ (39, 0) → G1 r9 = G r9 ∧ ad1 r9 = ad r9) ∧ ad = ad1 ∧ x = 0 ∧ G1 (39, 0) = some (eO 10 [.int 1, .int dy, .int (nI nm), .ref (ad (40, 3)), .ref (ad (40, 4)), .ref (ad (40, 5)), .ref (ad (40, 6)), .int td, .ref (ad (40, 8)), .ref (ad (40, 9)), .ref (ad (40, 10)), .int (nI ns), .ref (ad (40, 12)), .ref (ad (40, 13)), .ref (ad (40, 14)), .int (nI nl), .ref (ad (40, 16)), .ref (ad (40, 17)), .ref (ad (40, 18)), .int (nI nx), .ref (ad (40, 20)), .ref (ad (40, 21)), .ref (ad (40, 22)), .ref (ad (40, 23)), .ref (ad (40, 24)), .int ssf, .int sst, .int cfr, .int grw, .int (nI nf), .ref (ad (40, 30)), .ref (ad (40, 31)), .int bkk, .ref (ad (40, 33)), .ref (ad (40, 34)), .ref (ad (40, 35)), .int iop, .ref (ad (40, 37)), .int (nI my)])) := by
  refine Met.ofW (cc := cX9_dispute) (maxL := 1) (ret := (some .int)) (by decide) rfl ?_
  intro p e s m args below meth c s₁ B hml hv
  obtain ⟨rfl, hG, hE⟩ := hv
  have hx := B.exec
  have hb := B.bytes
  have hrt := B.returns
  have hts := atoms_spec (ws := wsX9_dispute) B.pre
  have hown : s.vm.findClass RX9 = some m.cls := findClass_of_methodNamed B.named
  have hlocks := B.notSynchronized
  have hS : va_S (dz_A Z) s.heap s.heap [] := va_S.rf
  have hl := lv_entry ([.ref aM]) (n := 1) (Nat.le_of_ble_eq_true rfl)
  rw [lg_entry_eq]
  generalize (lg_sl ([.ref aM]) ++ List.replicate (1 - (lg_sl ([.ref aM])).length) Slot.unset).toArray = ls at hl ⊢
  have hl : lv_has ls 1 [(0, .ref aM)] := hl
  refine lv_aload_n hx hb dX9_dispute_0 rfl (lv_at hl 0 rfl) ?_
  refine lv_aload_n hx hb dX9_dispute_1 rfl (lv_at hl 0 rfl) ?_
  refine dz_get hx hb hts (fun _ h => List.mem_cons_of_mem _ (List.mem_append_right _ h)) hown hE hG ha ho rfl 36 (by decide) (hts _ (List.mem_of_getElem? (i := 1) rfl)) (fun _ h9 => h9) rfl dX9_dispute_2 ?_
  refine lv_if_eq (tgt := 12) hx hb dX9_dispute_5 (by decide) (fun c_5 => ?_) (fun c_5 => absurd hi c_5)
  refine lv_iconst (v := 1) hx hb dX9_dispute_12 (by decide) ?_
  refine dz_kMi (va_runV (As := [_]) ⟨hx, hb, hml, hown, hts⟩ (c_X9_refused l Z _ _ _ _ _ _ _ _ _ _ _ _ _ _ _ _ _ _ _ ha ho) (cwV 1 hts gX9_dispute_X9_refused rfl rfl rfl (by decide +kernel) ⟨Nat.le_of_ble_eq_true rfl, Nat.le_of_ble_eq_true rfl⟩) (dz_P.preV hE hS hG ho rfl ha) rfl rfl hl.1 rfl (lv_room (Nat.le_of_ble_eq_true rfl)) dX9_dispute_13 ⟨Nat.le_of_ble_eq_true rfl, Nat.le_of_ble_eq_true rfl⟩) hS (fun x_13_1 G_13_1 ad_13_1 H locs hp_13_1 hG hS => ?_)
  obtain ⟨fr_13_1, rfl, x9_13_1, g_13_1⟩ := hp_13_1
  obtain rfl : x_13_1 = 1 := x9_13_1.trans (by decide)
  refine lv_if_eq (tgt := 21) hx hb dX9_dispute_16 (by decide) (fun c_16 => absurd c_16 (by decide)) (fun c_16 => ?_)
  refine lv_iconst (v := 0) hx hb dX9_dispute_19 (by decide) ?_
  refine W.widen (k := 0) (n := 0) (by first | omega | decide) (by first | omega | decide) ?_
  refine W.iret hx hb hrt (fun t ht hW => dz_endM (f := rv_i) _ hE hS hG ?_ ht hW) (fun q h => hS.2.2 q h) dX9_dispute_20
  refine ⟨fun r9 n_0 => (fr_13_1 r9 n_0), rfl, ?_⟩
  exact ⟨rfl, g_13_1⟩

set_option maxHeartbeats 4000000 in
set_option maxRecDepth 100000 in
theorem c_M_dispute_ok (l : Launch) (Z : dzG) (G : dzW) (ad : dzA) (aM nm ns nl nx nf my : Nat) (th dy td ssf sst cfr grw bkk iop : Int32) (f33 : Nat → Int32) (ha : ad (39, 0) = aM) (ho : G (39, 0) = some (eO 10 [.int th, .int dy, .int (nI nm), .ref (ad (40, 3)), .ref (ad (40, 4)), .ref (ad (40, 5)), .ref (ad (40, 6)), .int td, .ref (ad (40, 8)), .ref (ad (40, 9)), .ref (ad (40, 10)), .int (nI ns), .ref (ad (40, 12)), .ref (ad (40, 13)), .ref (ad (40, 14)), .int (nI nl), .ref (ad (40, 16)), .ref (ad (40, 17)), .ref (ad (40, 18)), .int (nI nx), .ref (ad (40, 20)), .ref (ad (40, 21)), .ref (ad (40, 22)), .ref (ad (40, 23)), .ref (ad (40, 24)), .int ssf, .int sst, .int cfr, .int grw, .int (nI nf), .ref (ad (40, 30)), .ref (ad (40, 31)), .int bkk, .ref (ad (40, 33)), .ref (ad (40, 34)), .ref (ad (40, 35)), .int iop, .ref (ad (40, 37)), .int (nI my)])) (h33 : G (40, 33) = some (eI Z 2 f33)) (hi : ¬ iop = 0) : dzWr l yX9_dispute wsX9_dispute 1 21 0 0 Z G ad [.ref aM] rv_i (fun (x : Int32) G1 ad1 => (∀ r9 : dzR, r9 ≠ (39, 0) → G1 r9 = G r9 ∧ ad1 r9 = ad r9) ∧ ad = ad1 ∧ x = (if f33 0 = -1 ∨ f33 1 = -1 then -1 else m_abs (f33 0 - f33 1)) ∧ G1 (39, 0) = some (eO 10 [.int 0, .int dy, .int (nI nm), .ref (ad (40, 3)), .ref (ad (40, 4)), .ref (ad (40, 5)), .ref (ad (40, 6)), .int td, .ref (ad (40, 8)), .ref (ad (40, 9)), .ref (ad (40, 10)), .int (nI ns), .ref (ad (40, 12)), .ref (ad (40, 13)), .ref (ad (40, 14)), .int (nI nl), .ref (ad (40, 16)), .ref (ad (40, 17)), .ref (ad (40, 18)), .int (nI nx), .ref (ad (40, 20)), .ref (ad (40, 21)), .ref (ad (40, 22)), .ref (ad (40, 23)), .ref (ad (40, 24)), .int ssf, .int sst, .int cfr, .int grw, .int (nI nf), .ref (ad (40, 30)), .ref (ad (40, 31)), .int bkk, .ref (ad (40, 33)), .ref (ad (40, 34)), .ref (ad (40, 35)), .int iop, .ref (ad (40, 37)), .int (nI my)])) := by
  refine Met.ofW (cc := cX9_dispute) (maxL := 1) (ret := (some .int)) (by decide) rfl ?_
  intro p e s m args below meth c s₁ B hml hv
  obtain ⟨rfl, hG, hE⟩ := hv
  have hx := B.exec
  have hb := B.bytes
  have hrt := B.returns
  have hts := atoms_spec (ws := wsX9_dispute) B.pre
  have hown : s.vm.findClass RX9 = some m.cls := findClass_of_methodNamed B.named
  have hlocks := B.notSynchronized
  have hS : va_S (dz_A Z) s.heap s.heap [] := va_S.rf
  have hl := lv_entry ([.ref aM]) (n := 1) (Nat.le_of_ble_eq_true rfl)
  rw [lg_entry_eq]
  generalize (lg_sl ([.ref aM]) ++ List.replicate (1 - (lg_sl ([.ref aM])).length) Slot.unset).toArray = ls at hl ⊢
  have hl : lv_has ls 1 [(0, .ref aM)] := hl
  refine lv_aload_n hx hb dX9_dispute_0 rfl (lv_at hl 0 rfl) ?_
  refine lv_aload_n hx hb dX9_dispute_1 rfl (lv_at hl 0 rfl) ?_
  refine dz_get hx hb hts (fun _ h => List.mem_cons_of_mem _ (List.mem_append_right _ h)) hown hE hG ha ho rfl 36 (by decide) (hts _ (List.mem_of_getElem? (i := 1) rfl)) (fun _ h9 => h9) rfl dX9_dispute_2 ?_
  refine lv_if_eq (tgt := 12) hx hb dX9_dispute_5 (by decide) (fun c_5 => absurd c_5 hi) (fun c_5 => ?_)
  refine lv_iconst (v := 0) hx hb dX9_dispute_8 (by decide) ?_
  refine lv_goto (tgt := 13) hx hb dX9_dispute_9 (by decide) ?_
  refine dz_kMi (va_runV (As := [_]) ⟨hx, hb, hml, hown, hts⟩ (c_X9_refused l Z _ _ _ _ _ _ _ _ _ _ _ _ _ _ _ _ _ _ _ ha ho) (cwV 1 hts gX9_dispute_X9_refused rfl rfl rfl (by decide +kernel) ⟨Nat.le_of_ble_eq_true rfl, Nat.le_of_ble_eq_true rfl⟩) (dz_P.preV hE hS hG ho rfl ha) rfl rfl hl.1 rfl (lv_room (Nat.le_of_ble_eq_true rfl)) dX9_dispute_13 ⟨Nat.le_of_ble_eq_true rfl, Nat.le_of_ble_eq_true rfl⟩) hS (fun x_13_1 G_13_1 ad_13_1 H locs hp_13_1 hG hS => ?_)
  obtain ⟨fr_13_1, rfl, x9_13_1, g_13_1⟩ := hp_13_1
  obtain rfl : x_13_1 = 0 := x9_13_1.trans (by decide)
  refine lv_if_eq (tgt := 21) hx hb dX9_dispute_16 (by decide) (fun c_16 => ?_) (fun c_16 => absurd (by decide) c_16)
  refine lv_aload_n hx hb dX9_dispute_21 rfl (lv_at hl 0 rfl) ?_
  refine dz_get hx hb hts (fun _ h => List.mem_cons_of_mem _ (List.mem_append_right _ h)) hown hE hG ha g_13_1 rfl 33 (by decide) (hts _ (List.mem_of_getElem? (i := 2) rfl)) (fun _ h9 => h9) rfl dX9_dispute_22 ?_
  refine lv_iconst (v := 0) hx hb dX9_dispute_25 (by decide) ?_
  refine dz_iald hx hb hE hG ((fr_13_1 _ (dz_n rfl)).2.trans rfl) ((fr_13_1 _ (dz_n rfl)).1.trans h33) (by unfold vp_in; decide) dX9_dispute_26 ?_
  refine lv_topi (fun v_1 ev_1 => ?_)
  obtain rfl : v_1 = f33 0 := ev_1
  refine lv_iconst (v := (-1)) hx hb dX9_dispute_27 (by decide) ?_
  refine lv_icmp_eq (tgt := 41) hx hb dX9_dispute_28 (by decide) (fun c_28 => ?_) (fun c_28 => ?_)
  · refine lv_iconst (v := (-1)) hx hb dX9_dispute_41 (by decide) ?_
    refine lv_goto (tgt := 61) hx hb dX9_dispute_42 (by decide) ?_
    refine W.widen (k := 0) (n := 0) (by first | omega | decide) (by first | omega | decide) ?_
    refine W.iret hx hb hrt (fun t ht hW => dz_endM (f := rv_i) _ hE hS hG ?_ ht hW) (fun q h => hS.2.2 q h) dX9_dispute_61
    refine ⟨fun r9 n_0 => (fr_13_1 r9 n_0), rfl, ?_⟩
    first | exact ⟨(if_pos (Or.inl c_28)).symm, g_13_1⟩ | exact ⟨(if_pos (Or.inr c_38)).symm, g_13_1⟩ | exact ⟨(if_neg (fun z => z.elim c_28 c_38)).symm, g_13_1⟩
  · refine lv_aload_n hx hb dX9_dispute_31 rfl (lv_at hl 0 rfl) ?_
    refine dz_get hx hb hts (fun _ h => List.mem_cons_of_mem _ (List.mem_append_right _ h)) hown hE hG ha g_13_1 rfl 33 (by decide) (hts _ (List.mem_of_getElem? (i := 2) rfl)) (fun _ h9 => h9) rfl dX9_dispute_32 ?_
    refine lv_iconst (v := 1) hx hb dX9_dispute_35 (by decide) ?_
    refine dz_iald hx hb hE hG ((fr_13_1 _ (dz_n rfl)).2.trans rfl) ((fr_13_1 _ (dz_n rfl)).1.trans h33) (by unfold vp_in; decide) dX9_dispute_36 ?_
    refine lv_topi (fun v_2 ev_2 => ?_)
    obtain rfl : v_2 = f33 1 := ev_2
    refine lv_iconst (v := (-1)) hx hb dX9_dispute_37 (by decide) ?_
    refine lv_icmp_ne (tgt := 45) hx hb dX9_dispute_38 (by decide) (fun c_38 => ?_) (fun c_38 => ?_)
    · refine lv_aload_n hx hb dX9_dispute_45 rfl (lv_at hl 0 rfl) ?_
      refine dz_get hx hb hts (fun _ h => List.mem_cons_of_mem _ (List.mem_append_right _ h)) hown hE hG ha g_13_1 rfl 33 (by decide) (hts _ (List.mem_of_getElem? (i := 2) rfl)) (fun _ h9 => h9) rfl dX9_dispute_46 ?_
      refine lv_iconst (v := 0) hx hb dX9_dispute_49 (by decide) ?_
      refine dz_iald hx hb hE hG ((fr_13_1 _ (dz_n rfl)).2.trans rfl) ((fr_13_1 _ (dz_n rfl)).1.trans h33) (by unfold vp_in; decide) dX9_dispute_50 ?_
      refine lv_topi (fun v_3 ev_3 => ?_)
      obtain rfl : v_3 = f33 0 := ev_3
      refine lv_aload_n hx hb dX9_dispute_51 rfl (lv_at hl 0 rfl) ?_
      refine dz_get hx hb hts (fun _ h => List.mem_cons_of_mem _ (List.mem_append_right _ h)) hown hE hG ha g_13_1 rfl 33 (by decide) (hts _ (List.mem_of_getElem? (i := 2) rfl)) (fun _ h9 => h9) rfl dX9_dispute_52 ?_
      refine lv_iconst (v := 1) hx hb dX9_dispute_55 (by decide) ?_
      refine dz_iald hx hb hE hG ((fr_13_1 _ (dz_n rfl)).2.trans rfl) ((fr_13_1 _ (dz_n rfl)).1.trans h33) (by unfold vp_in; decide) dX9_dispute_56 ?_
      refine lv_topi (fun v_4 ev_4 => ?_)
      obtain rfl : v_4 = f33 1 := ev_4
      refine lv_isub hx hb dX9_dispute_57 ?_
      refine dz_kRi (va_runS (As := [_]) ⟨hx, hb, hml, hown, hts⟩ (c_X9_size l Z _ _ _ ) (va_cwS 1 hts gX9_dispute_X9_size rfl rfl rfl (by decide +kernel) ⟨Nat.le_of_ble_eq_true rfl, Nat.le_of_ble_eq_true rfl⟩) (dz_P.pre hE hS hG) rfl rfl hl.1 rfl (lv_room (Nat.le_of_ble_eq_true rfl)) dX9_dispute_58 ⟨Nat.le_of_ble_eq_true rfl, Nat.le_of_ble_eq_true rfl⟩) ?_
      refine W.widen (k := 0) (n := 0) (by first | omega | decide) (by first | omega | decide) ?_
      refine W.iret hx hb hrt (fun t ht hW => dz_endM (f := rv_i) _ hE hS hG ?_ ht hW) (fun q h => hS.2.2 q h) dX9_dispute_61
      refine ⟨fun r9 n_0 => (fr_13_1 r9 n_0), rfl, ?_⟩
      first | exact ⟨(if_pos (Or.inl c_28)).symm, g_13_1⟩ | exact ⟨(if_pos (Or.inr c_38)).symm, g_13_1⟩ | exact ⟨(if_neg (fun z => z.elim c_28 c_38)).symm, g_13_1⟩
    · refine lv_iconst (v := (-1)) hx hb dX9_dispute_41 (by decide) ?_
      refine lv_goto (tgt := 61) hx hb dX9_dispute_42 (by decide) ?_
      refine W.widen (k := 0) (n := 0) (by first | omega | decide) (by first | omega | decide) ?_
      refine W.iret hx hb hrt (fun t ht hW => dz_endM (f := rv_i) _ hE hS hG ?_ ht hW) (fun q h => hS.2.2 q h) dX9_dispute_61
      refine ⟨fun r9 n_0 => (fr_13_1 r9 n_0), rfl, ?_⟩
      first | exact ⟨(if_pos (Or.inl c_28)).symm, g_13_1⟩ | exact ⟨(if_pos (Or.inr c_38)).symm, g_13_1⟩ | exact ⟨(if_neg (fun z => z.elim c_28 c_38)).symm, g_13_1⟩

set_option maxHeartbeats 4000000 in
set_option maxRecDepth 100000 in
theorem c_M_seen_no (l : Launch) (Z : dzG) (G : dzW) (ad : dzA) (aM nm ns nl nx nf my : Nat) (th dy td ssf sst cfr grw bkk iop : Int32) (v1 v2 v3 : Int32) (ha : ad (39, 0) = aM) (ho : G (39, 0) = some (eO 10 [.int th, .int dy, .int (nI nm), .ref (ad (40, 3)), .ref (ad (40, 4)), .ref (ad (40, 5)), .ref (ad (40, 6)), .int td, .ref (ad (40, 8)), .ref (ad (40, 9)), .ref (ad (40, 10)), .int (nI ns), .ref (ad (40, 12)), .ref (ad (40, 13)), .ref (ad (40, 14)), .int (nI nl), .ref (ad (40, 16)), .ref (ad (40, 17)), .ref (ad (40, 18)), .int (nI nx), .ref (ad (40, 20)), .ref (ad (40, 21)), .ref (ad (40, 22)), .ref (ad (40, 23)), .ref (ad (40, 24)), .int ssf, .int sst, .int cfr, .int grw, .int (nI nf), .ref (ad (40, 30)), .ref (ad (40, 31)), .int bkk, .ref (ad (40, 33)), .ref (ad (40, 34)), .ref (ad (40, 35)), .int iop, .ref (ad (40, 37)), .int (nI my)])) (hns : ns ≤ 5) (hnf : nf ≤ 60) (hbad : ¬ (((0 : Int32) ≤ v1 ∧ v1 ≤ nI nf - 1) ∧ ((0 : Int32) ≤ v2 ∧ v2 ≤ nI ns - 1))) : dzWr l yX9_seen wsX9_seen 2 43 0 0 Z G ad [.ref aM, .int v1, .int v2, .int v3] rv_i (fun (x : Int32) G1 ad1 => (∀ r9 : dzR, r9 ≠ (39, 0) → G1 r9 = G r9 ∧ ad1 r9 = ad r9) ∧ ad = ad1 ∧ x = 0 ∧ G1 (39, 0) = some (eO 10 [.int 1, .int dy, .int (nI nm), .ref (ad (40, 3)), .ref (ad (40, 4)), .ref (ad (40, 5)), .ref (ad (40, 6)), .int td, .ref (ad (40, 8)), .ref (ad (40, 9)), .ref (ad (40, 10)), .int (nI ns), .ref (ad (40, 12)), .ref (ad (40, 13)), .ref (ad (40, 14)), .int (nI nl), .ref (ad (40, 16)), .ref (ad (40, 17)), .ref (ad (40, 18)), .int (nI nx), .ref (ad (40, 20)), .ref (ad (40, 21)), .ref (ad (40, 22)), .ref (ad (40, 23)), .ref (ad (40, 24)), .int ssf, .int sst, .int cfr, .int grw, .int (nI nf), .ref (ad (40, 30)), .ref (ad (40, 31)), .int bkk, .ref (ad (40, 33)), .ref (ad (40, 34)), .ref (ad (40, 35)), .int iop, .ref (ad (40, 37)), .int (nI my)])) := by
  refine Met.ofW (cc := cX9_seen) (maxL := 5) (ret := (some .int)) (by decide) rfl ?_
  intro p e s m args below meth c s₁ B hml hv
  obtain ⟨rfl, hG, hE⟩ := hv
  have hx := B.exec
  have hb := B.bytes
  have hrt := B.returns
  have hts := atoms_spec (ws := wsX9_seen) B.pre
  have hown : s.vm.findClass RX9 = some m.cls := findClass_of_methodNamed B.named
  have hlocks := B.notSynchronized
  have hS : va_S (dz_A Z) s.heap s.heap [] := va_S.rf
  have hl := lv_entry ([.ref aM, .int v1, .int v2, .int v3]) (n := 5) (Nat.le_of_ble_eq_true rfl)
  rw [lg_entry_eq]
  generalize (lg_sl ([.ref aM, .int v1, .int v2, .int v3]) ++ List.replicate (5 - (lg_sl ([.ref aM, .int v1, .int v2, .int v3])).length) Slot.unset).toArray = ls at hl ⊢
  have hl : lv_has ls 5 [(0, .ref aM), (1, .int v1), (2, .int v2), (3, .int v3)] := hl
  refine lv_iload_n hx hb dX9_seen_0 rfl (lv_at hl 1 rfl) ?_
  refine lv_iconst (v := 0) hx hb dX9_seen_1 (by decide) ?_
  refine lv_aload_n hx hb dX9_seen_2 rfl (lv_at hl 0 rfl) ?_
  refine dz_get hx hb hts (fun _ h => List.mem_cons_of_mem _ (List.mem_append_right _ h)) hown hE hG ha ho rfl 29 (by decide) (hts _ (List.mem_of_getElem? (i := 1) rfl)) (fun _ h9 => h9) rfl dX9_seen_3 ?_
  refine lv_iconst (v := 1) hx hb dX9_seen_6 (by decide) ?_
  refine lv_isub hx hb dX9_seen_7 ?_
  refine dz_kRi (va_runS (As := [_, _, _]) ⟨hx, hb, hml, hown, hts⟩ (c_X9_in l Z _ _ _ _ _ ) (va_cwS 3 hts gX9_seen_X9_in rfl rfl rfl (by decide +kernel) ⟨Nat.le_of_ble_eq_true rfl, Nat.le_of_ble_eq_true rfl⟩) (dz_P.pre hE hS hG) rfl rfl hl.1 rfl (lv_room (Nat.le_of_ble_eq_true rfl)) dX9_seen_8 ⟨Nat.le_of_ble_eq_true rfl, Nat.le_of_ble_eq_true rfl⟩) ?_
  refine lv_if_eq (tgt := 26) hx hb dX9_seen_11 (by decide) (fun c_11 => ?_) (fun c_11 => ?_)
  · refine lv_iconst (v := 0) hx hb dX9_seen_26 (by decide) ?_
    refine lv_istore (lv' := [(4, .int 0), (0, .ref aM), (1, .int v1), (2, .int v2), (3, .int v3)]) hx hb dX9_seen_27 hl (by decide) rfl (fun ls hl => ?_)
    refine lv_aload_n hx hb dX9_seen_29 rfl (lv_at hl 1 rfl) ?_
    refine lv_iload hx hb dX9_seen_30 (lv_at hl 0 rfl) ?_
    refine lv_if_ne (tgt := 39) hx hb dX9_seen_32 (by decide) (fun c_32 => absurd (by decide) c_32) (fun c_32 => ?_)
    refine lv_iconst (v := 1) hx hb dX9_seen_35 (by decide) ?_
    refine lv_goto (tgt := 53) hx hb dX9_seen_36 (by decide) ?_
    refine dz_kMi (va_runV (As := [_]) ⟨hx, hb, hml, hown, hts⟩ (c_X9_refused l Z _ _ _ _ _ _ _ _ _ _ _ _ _ _ _ _ _ _ _ ha ho) (cwV 1 hts gX9_seen_X9_refused rfl rfl rfl (by decide +kernel) ⟨Nat.le_of_ble_eq_true rfl, Nat.le_of_ble_eq_true rfl⟩) (dz_P.preV hE hS hG ho rfl ha) rfl rfl hl.1 rfl (lv_room (Nat.le_of_ble_eq_true rfl)) dX9_seen_53 ⟨Nat.le_of_ble_eq_true rfl, Nat.le_of_ble_eq_true rfl⟩) hS (fun x_53_1 G_53_1 ad_53_1 H locs hp_53_1 hG hS => ?_)
    obtain ⟨fr_53_1, rfl, x9_53_1, g_53_1⟩ := hp_53_1
    obtain rfl : x_53_1 = 1 := x9_53_1.trans (by decide)
    refine lv_if_eq (tgt := 63) hx hb dX9_seen_56 (by decide) (fun c_56 => absurd c_56 (by decide)) (fun c_56 => ?_)
    refine lv_iconst (v := 0) hx hb dX9_seen_59 (by decide) ?_
    refine lv_goto (tgt := 70) hx hb dX9_seen_60 (by decide) ?_
    refine W.widen (k := 0) (n := 0) (by first | omega | decide) (by first | omega | decide) ?_
    refine W.iret hx hb hrt (fun t ht hW => dz_endM (f := rv_i) _ hE hS hG ?_ ht hW) (fun q h => hS.2.2 q h) dX9_seen_70
    refine ⟨fun r9 n_0 => (fr_53_1 r9 n_0), rfl, ?_⟩
    exact ⟨rfl, g_53_1⟩
  · refine lv_aload_n hx hb dX9_seen_14 rfl (lv_at hl 0 rfl) ?_
    refine lv_iload_n hx hb dX9_seen_15 rfl (lv_at hl 2 rfl) ?_
    refine dz_kRi (va_runV (As := [_]) ⟨hx, hb, hml, hown, hts⟩ (c_X9_isSource l Z _ _ _ _ _ _ _ _ _ _ _ _ _ _ _ _ _ _ _ ha ho hns) (cwV 1 hts gX9_seen_X9_isSource rfl rfl rfl (by decide +kernel) ⟨Nat.le_of_ble_eq_true rfl, Nat.le_of_ble_eq_true rfl⟩) (dz_P.preV hE hS hG ho rfl ha) rfl rfl hl.1 rfl (lv_room (Nat.le_of_ble_eq_true rfl)) dX9_seen_16 ⟨Nat.le_of_ble_eq_true rfl, Nat.le_of_ble_eq_true rfl⟩) ?_
    refine lv_if_eq (tgt := 26) hx hb dX9_seen_19 (by decide) (fun c_19 => ?_) (fun c_19 => ?_)
    · refine lv_iconst (v := 0) hx hb dX9_seen_26 (by decide) ?_
      refine lv_istore (lv' := [(4, .int 0), (0, .ref aM), (1, .int v1), (2, .int v2), (3, .int v3)]) hx hb dX9_seen_27 hl (by decide) rfl (fun ls hl => ?_)
      refine lv_aload_n hx hb dX9_seen_29 rfl (lv_at hl 1 rfl) ?_
      refine lv_iload hx hb dX9_seen_30 (lv_at hl 0 rfl) ?_
      refine lv_if_ne (tgt := 39) hx hb dX9_seen_32 (by decide) (fun c_32 => absurd (by decide) c_32) (fun c_32 => ?_)
      refine lv_iconst (v := 1) hx hb dX9_seen_35 (by decide) ?_
      refine lv_goto (tgt := 53) hx hb dX9_seen_36 (by decide) ?_
      refine dz_kMi (va_runV (As := [_]) ⟨hx, hb, hml, hown, hts⟩ (c_X9_refused l Z _ _ _ _ _ _ _ _ _ _ _ _ _ _ _ _ _ _ _ ha ho) (cwV 1 hts gX9_seen_X9_refused rfl rfl rfl (by decide +kernel) ⟨Nat.le_of_ble_eq_true rfl, Nat.le_of_ble_eq_true rfl⟩) (dz_P.preV hE hS hG ho rfl ha) rfl rfl hl.1 rfl (lv_room (Nat.le_of_ble_eq_true rfl)) dX9_seen_53 ⟨Nat.le_of_ble_eq_true rfl, Nat.le_of_ble_eq_true rfl⟩) hS (fun x_53_2 G_53_2 ad_53_2 H locs hp_53_2 hG hS => ?_)
      obtain ⟨fr_53_2, rfl, x9_53_2, g_53_2⟩ := hp_53_2
      obtain rfl : x_53_2 = 1 := x9_53_2.trans (by decide)
      refine lv_if_eq (tgt := 63) hx hb dX9_seen_56 (by decide) (fun c_56 => absurd c_56 (by decide)) (fun c_56 => ?_)
      refine lv_iconst (v := 0) hx hb dX9_seen_59 (by decide) ?_
      refine lv_goto (tgt := 70) hx hb dX9_seen_60 (by decide) ?_
      refine W.widen (k := 0) (n := 0) (by first | omega | decide) (by first | omega | decide) ?_
      refine W.iret hx hb hrt (fun t ht hW => dz_endM (f := rv_i) _ hE hS hG ?_ ht hW) (fun q h => hS.2.2 q h) dX9_seen_70
      refine ⟨fun r9 n_0 => (fr_53_2 r9 n_0), rfl, ?_⟩
      exact ⟨rfl, g_53_2⟩
    · exact absurd ⟨dz_by c_11, dz_by c_19⟩ hbad

set_option maxHeartbeats 4000000 in
set_option maxRecDepth 100000 in
theorem c_M_seen_bad (l : Launch) (Z : dzG) (G : dzW) (ad : dzA) (aM nm ns nl nx nf my : Nat) (th dy td ssf sst cfr grw bkk iop : Int32) (i sc : Nat) (v3 : Int32) (ha : ad (39, 0) = aM) (ho : G (39, 0) = some (eO 10 [.int th, .int dy, .int (nI nm), .ref (ad (40, 3)), .ref (ad (40, 4)), .ref (ad (40, 5)), .ref (ad (40, 6)), .int td, .ref (ad (40, 8)), .ref (ad (40, 9)), .ref (ad (40, 10)), .int (nI ns), .ref (ad (40, 12)), .ref (ad (40, 13)), .ref (ad (40, 14)), .int (nI nl), .ref (ad (40, 16)), .ref (ad (40, 17)), .ref (ad (40, 18)), .int (nI nx), .ref (ad (40, 20)), .ref (ad (40, 21)), .ref (ad (40, 22)), .ref (ad (40, 23)), .ref (ad (40, 24)), .int ssf, .int sst, .int cfr, .int grw, .int (nI nf), .ref (ad (40, 30)), .ref (ad (40, 31)), .int bkk, .ref (ad (40, 33)), .ref (ad (40, 34)), .ref (ad (40, 35)), .int iop, .ref (ad (40, 37)), .int (nI my)])) (hi : i < nf) (hnf : nf ≤ 60) (hsc : sc < ns) (hns : ns ≤ 5) (hbad : ¬ ((0 : Int32) ≤ v3 ∧ v3 ≤ 5)) : dzWr l yX9_seen wsX9_seen 2 43 0 0 Z G ad [.ref aM, .int (nI i), .int (nI sc), .int v3] rv_i (fun (x : Int32) G1 ad1 => (∀ r9 : dzR, r9 ≠ (39, 0) → G1 r9 = G r9 ∧ ad1 r9 = ad r9) ∧ ad = ad1 ∧ x = 0 ∧ G1 (39, 0) = some (eO 10 [.int 2, .int dy, .int (nI nm), .ref (ad (40, 3)), .ref (ad (40, 4)), .ref (ad (40, 5)), .ref (ad (40, 6)), .int td, .ref (ad (40, 8)), .ref (ad (40, 9)), .ref (ad (40, 10)), .int (nI ns), .ref (ad (40, 12)), .ref (ad (40, 13)), .ref (ad (40, 14)), .int (nI nl), .ref (ad (40, 16)), .ref (ad (40, 17)), .ref (ad (40, 18)), .int (nI nx), .ref (ad (40, 20)), .ref (ad (40, 21)), .ref (ad (40, 22)), .ref (ad (40, 23)), .ref (ad (40, 24)), .int ssf, .int sst, .int cfr, .int grw, .int (nI nf), .ref (ad (40, 30)), .ref (ad (40, 31)), .int bkk, .ref (ad (40, 33)), .ref (ad (40, 34)), .ref (ad (40, 35)), .int iop, .ref (ad (40, 37)), .int (nI my)])) := by
  refine Met.ofW (cc := cX9_seen) (maxL := 5) (ret := (some .int)) (by decide) rfl ?_
  intro p e s m args below meth c s₁ B hml hv
  obtain ⟨rfl, hG, hE⟩ := hv
  have hx := B.exec
  have hb := B.bytes
  have hrt := B.returns
  have hts := atoms_spec (ws := wsX9_seen) B.pre
  have hown : s.vm.findClass RX9 = some m.cls := findClass_of_methodNamed B.named
  have hlocks := B.notSynchronized
  have hS : va_S (dz_A Z) s.heap s.heap [] := va_S.rf
  have hl := lv_entry ([.ref aM, .int (nI i), .int (nI sc), .int v3]) (n := 5) (Nat.le_of_ble_eq_true rfl)
  rw [lg_entry_eq]
  generalize (lg_sl ([.ref aM, .int (nI i), .int (nI sc), .int v3]) ++ List.replicate (5 - (lg_sl ([.ref aM, .int (nI i), .int (nI sc), .int v3])).length) Slot.unset).toArray = ls at hl ⊢
  have hl : lv_has ls 5 [(0, .ref aM), (1, .int (nI i)), (2, .int (nI sc)), (3, .int v3)] := hl
  refine lv_iload_n hx hb dX9_seen_0 rfl (lv_at hl 1 rfl) ?_
  refine lv_iconst (v := 0) hx hb dX9_seen_1 (by decide) ?_
  refine lv_aload_n hx hb dX9_seen_2 rfl (lv_at hl 0 rfl) ?_
  refine dz_get hx hb hts (fun _ h => List.mem_cons_of_mem _ (List.mem_append_right _ h)) hown hE hG ha ho rfl 29 (by decide) (hts _ (List.mem_of_getElem? (i := 1) rfl)) (fun _ h9 => h9) rfl dX9_seen_3 ?_
  refine lv_iconst (v := 1) hx hb dX9_seen_6 (by decide) ?_
  refine lv_isub hx hb dX9_seen_7 ?_
  refine dz_kRi (va_runS (As := [_, _, _]) ⟨hx, hb, hml, hown, hts⟩ (c_X9_in l Z _ _ _ _ _ ) (va_cwS 3 hts gX9_seen_X9_in rfl rfl rfl (by decide +kernel) ⟨Nat.le_of_ble_eq_true rfl, Nat.le_of_ble_eq_true rfl⟩) (dz_P.pre hE hS hG) rfl rfl hl.1 rfl (lv_room (Nat.le_of_ble_eq_true rfl)) dX9_seen_8 ⟨Nat.le_of_ble_eq_true rfl, Nat.le_of_ble_eq_true rfl⟩) ?_
  refine lv_topi (fun v_1 ev_1 => ?_)
  obtain rfl : v_1 = 1 := ev_1.trans (dz_b1 (m_ix1 (by omega) hi))
  refine lv_if_eq (tgt := 26) hx hb dX9_seen_11 (by decide) (fun c_11 => absurd c_11 (by decide)) (fun c_11 => ?_)
  refine lv_aload_n hx hb dX9_seen_14 rfl (lv_at hl 0 rfl) ?_
  refine lv_iload_n hx hb dX9_seen_15 rfl (lv_at hl 2 rfl) ?_
  refine dz_kRi (va_runV (As := [_]) ⟨hx, hb, hml, hown, hts⟩ (c_X9_isSource l Z _ _ _ _ _ _ _ _ _ _ _ _ _ _ _ _ _ _ _ ha ho hns) (cwV 1 hts gX9_seen_X9_isSource rfl rfl rfl (by decide +kernel) ⟨Nat.le_of_ble_eq_true rfl, Nat.le_of_ble_eq_true rfl⟩) (dz_P.preV hE hS hG ho rfl ha) rfl rfl hl.1 rfl (lv_room (Nat.le_of_ble_eq_true rfl)) dX9_seen_16 ⟨Nat.le_of_ble_eq_true rfl, Nat.le_of_ble_eq_true rfl⟩) ?_
  refine lv_topi (fun v_2 ev_2 => ?_)
  obtain rfl : v_2 = 1 := ev_2.trans (dz_b1 (m_ix1 (by omega) hsc))
  refine lv_if_eq (tgt := 26) hx hb dX9_seen_19 (by decide) (fun c_19 => absurd c_19 (by decide)) (fun c_19 => ?_)
  refine lv_iconst (v := 1) hx hb dX9_seen_22 (by decide) ?_
  refine lv_goto (tgt := 27) hx hb dX9_seen_23 (by decide) ?_
  refine lv_istore (lv' := [(4, .int 1), (0, .ref aM), (1, .int (nI i)), (2, .int (nI sc)), (3, .int v3)]) hx hb dX9_seen_27 hl (by decide) rfl (fun ls hl => ?_)
  refine lv_aload_n hx hb dX9_seen_29 rfl (lv_at hl 1 rfl) ?_
  refine lv_iload hx hb dX9_seen_30 (lv_at hl 0 rfl) ?_
  refine lv_if_ne (tgt := 39) hx hb dX9_seen_32 (by decide) (fun c_32 => ?_) (fun c_32 => absurd c_32 (by decide))
  refine lv_iload_n hx hb dX9_seen_39 rfl (lv_at hl 4 rfl) ?_
  refine lv_iconst (v := 0) hx hb dX9_seen_40 (by decide) ?_
  refine lv_iconst (v := 5) hx hb dX9_seen_41 (by decide) ?_
  refine dz_kRi (va_runS (As := [_, _, _]) ⟨hx, hb, hml, hown, hts⟩ (c_X9_in l Z _ _ _ _ _ ) (va_cwS 3 hts gX9_seen_X9_in rfl rfl rfl (by decide +kernel) ⟨Nat.le_of_ble_eq_true rfl, Nat.le_of_ble_eq_true rfl⟩) (dz_P.pre hE hS hG) rfl rfl hl.1 rfl (lv_room (Nat.le_of_ble_eq_true rfl)) dX9_seen_42 ⟨Nat.le_of_ble_eq_true rfl, Nat.le_of_ble_eq_true rfl⟩) ?_
  refine lv_topi (fun v_3 ev_3 => ?_)
  obtain rfl : v_3 = 0 := ev_3.trans (dz_b0 hbad)
  refine lv_if_ne (tgt := 52) hx hb dX9_seen_45 (by decide) (fun c_45 => absurd (by decide) c_45) (fun c_45 => ?_)
  refine lv_iconst (v := 2) hx hb dX9_seen_48 (by decide) ?_
  refine lv_goto (tgt := 53) hx hb dX9_seen_49 (by decide) ?_
  refine dz_kMi (va_runV (As := [_]) ⟨hx, hb, hml, hown, hts⟩ (c_X9_refused l Z _ _ _ _ _ _ _ _ _ _ _ _ _ _ _ _ _ _ _ ha ho) (cwV 1 hts gX9_seen_X9_refused rfl rfl rfl (by decide +kernel) ⟨Nat.le_of_ble_eq_true rfl, Nat.le_of_ble_eq_true rfl⟩) (dz_P.preV hE hS hG ho rfl ha) rfl rfl hl.1 rfl (lv_room (Nat.le_of_ble_eq_true rfl)) dX9_seen_53 ⟨Nat.le_of_ble_eq_true rfl, Nat.le_of_ble_eq_true rfl⟩) hS (fun x_53_1 G_53_1 ad_53_1 H locs hp_53_1 hG hS => ?_)
  obtain ⟨fr_53_1, rfl, x9_53_1, g_53_1⟩ := hp_53_1
  obtain rfl : x_53_1 = 1 := x9_53_1.trans (by decide)
  refine lv_if_eq (tgt := 63) hx hb dX9_seen_56 (by decide) (fun c_56 => absurd c_56 (by decide)) (fun c_56 => ?_)
  refine lv_iconst (v := 0) hx hb dX9_seen_59 (by decide) ?_
  refine lv_goto (tgt := 70) hx hb dX9_seen_60 (by decide) ?_
  refine W.widen (k := 0) (n := 0) (by first | omega | decide) (by first | omega | decide) ?_
  refine W.iret hx hb hrt (fun t ht hW => dz_endM (f := rv_i) _ hE hS hG ?_ ht hW) (fun q h => hS.2.2 q h) dX9_seen_70
  refine ⟨fun r9 n_0 => (fr_53_1 r9 n_0), rfl, ?_⟩
  exact ⟨rfl, g_53_1⟩

set_option maxHeartbeats 4000000 in
set_option maxRecDepth 100000 in
theorem c_M_seen_ok (l : Launch) (Z : dzG) (G : dzW) (ad : dzA) (aM nm ns nl nx nf my : Nat) (th dy td ssf sst cfr grw bkk iop : Int32) (f31 : Nat → Int32) (i sc rk : Nat) (ha : ad (39, 0) = aM) (ho : G (39, 0) = some (eO 10 [.int th, .int dy, .int (nI nm), .ref (ad (40, 3)), .ref (ad (40, 4)), .ref (ad (40, 5)), .ref (ad (40, 6)), .int td, .ref (ad (40, 8)), .ref (ad (40, 9)), .ref (ad (40, 10)), .int (nI ns), .ref (ad (40, 12)), .ref (ad (40, 13)), .ref (ad (40, 14)), .int (nI nl), .ref (ad (40, 16)), .ref (ad (40, 17)), .ref (ad (40, 18)), .int (nI nx), .ref (ad (40, 20)), .ref (ad (40, 21)), .ref (ad (40, 22)), .ref (ad (40, 23)), .ref (ad (40, 24)), .int ssf, .int sst, .int cfr, .int grw, .int (nI nf), .ref (ad (40, 30)), .ref (ad (40, 31)), .int bkk, .ref (ad (40, 33)), .ref (ad (40, 34)), .ref (ad (40, 35)), .int iop, .ref (ad (40, 37)), .int (nI my)])) (h31 : G (40, 31) = some (eI Z 1800 f31)) (hi : i < nf) (hnf : nf ≤ 60) (hsc : sc < ns) (hns : ns ≤ 5) (hrk : rk < 6) : dzWr l yX9_seen wsX9_seen 2 43 0 0 Z G ad [.ref aM, .int (nI i), .int (nI sc), .int (nI rk)] rv_i (fun (x : Int32) G1 ad1 => (∀ r9 : dzR, r9 ≠ (39, 0) → G1 r9 = G r9 ∧ ad1 r9 = ad r9) ∧ ad = ad1 ∧ x = f31 (30 * i + 6 * sc + rk) ∧ G1 (39, 0) = some (eO 10 [.int 0, .int dy, .int (nI nm), .ref (ad (40, 3)), .ref (ad (40, 4)), .ref (ad (40, 5)), .ref (ad (40, 6)), .int td, .ref (ad (40, 8)), .ref (ad (40, 9)), .ref (ad (40, 10)), .int (nI ns), .ref (ad (40, 12)), .ref (ad (40, 13)), .ref (ad (40, 14)), .int (nI nl), .ref (ad (40, 16)), .ref (ad (40, 17)), .ref (ad (40, 18)), .int (nI nx), .ref (ad (40, 20)), .ref (ad (40, 21)), .ref (ad (40, 22)), .ref (ad (40, 23)), .ref (ad (40, 24)), .int ssf, .int sst, .int cfr, .int grw, .int (nI nf), .ref (ad (40, 30)), .ref (ad (40, 31)), .int bkk, .ref (ad (40, 33)), .ref (ad (40, 34)), .ref (ad (40, 35)), .int iop, .ref (ad (40, 37)), .int (nI my)])) := by
  refine Met.ofW (cc := cX9_seen) (maxL := 5) (ret := (some .int)) (by decide) rfl ?_
  intro p e s m args below meth c s₁ B hml hv
  obtain ⟨rfl, hG, hE⟩ := hv
  have hx := B.exec
  have hb := B.bytes
  have hrt := B.returns
  have hts := atoms_spec (ws := wsX9_seen) B.pre
  have hown : s.vm.findClass RX9 = some m.cls := findClass_of_methodNamed B.named
  have hlocks := B.notSynchronized
  have hS : va_S (dz_A Z) s.heap s.heap [] := va_S.rf
  have hl := lv_entry ([.ref aM, .int (nI i), .int (nI sc), .int (nI rk)]) (n := 5) (Nat.le_of_ble_eq_true rfl)
  rw [lg_entry_eq]
  generalize (lg_sl ([.ref aM, .int (nI i), .int (nI sc), .int (nI rk)]) ++ List.replicate (5 - (lg_sl ([.ref aM, .int (nI i), .int (nI sc), .int (nI rk)])).length) Slot.unset).toArray = ls at hl ⊢
  have hl : lv_has ls 5 [(0, .ref aM), (1, .int (nI i)), (2, .int (nI sc)), (3, .int (nI rk))] := hl
  refine lv_iload_n hx hb dX9_seen_0 rfl (lv_at hl 1 rfl) ?_
  refine lv_iconst (v := 0) hx hb dX9_seen_1 (by decide) ?_
  refine lv_aload_n hx hb dX9_seen_2 rfl (lv_at hl 0 rfl) ?_
  refine dz_get hx hb hts (fun _ h => List.mem_cons_of_mem _ (List.mem_append_right _ h)) hown hE hG ha ho rfl 29 (by decide) (hts _ (List.mem_of_getElem? (i := 1) rfl)) (fun _ h9 => h9) rfl dX9_seen_3 ?_
  refine lv_iconst (v := 1) hx hb dX9_seen_6 (by decide) ?_
  refine lv_isub hx hb dX9_seen_7 ?_
  refine dz_kRi (va_runS (As := [_, _, _]) ⟨hx, hb, hml, hown, hts⟩ (c_X9_in l Z _ _ _ _ _ ) (va_cwS 3 hts gX9_seen_X9_in rfl rfl rfl (by decide +kernel) ⟨Nat.le_of_ble_eq_true rfl, Nat.le_of_ble_eq_true rfl⟩) (dz_P.pre hE hS hG) rfl rfl hl.1 rfl (lv_room (Nat.le_of_ble_eq_true rfl)) dX9_seen_8 ⟨Nat.le_of_ble_eq_true rfl, Nat.le_of_ble_eq_true rfl⟩) ?_
  refine lv_topi (fun v_1 ev_1 => ?_)
  obtain rfl : v_1 = 1 := ev_1.trans (dz_b1 (m_ix1 (by omega) hi))
  refine lv_if_eq (tgt := 26) hx hb dX9_seen_11 (by decide) (fun c_11 => absurd c_11 (by decide)) (fun c_11 => ?_)
  refine lv_aload_n hx hb dX9_seen_14 rfl (lv_at hl 0 rfl) ?_
  refine lv_iload_n hx hb dX9_seen_15 rfl (lv_at hl 2 rfl) ?_
  refine dz_kRi (va_runV (As := [_]) ⟨hx, hb, hml, hown, hts⟩ (c_X9_isSource l Z _ _ _ _ _ _ _ _ _ _ _ _ _ _ _ _ _ _ _ ha ho hns) (cwV 1 hts gX9_seen_X9_isSource rfl rfl rfl (by decide +kernel) ⟨Nat.le_of_ble_eq_true rfl, Nat.le_of_ble_eq_true rfl⟩) (dz_P.preV hE hS hG ho rfl ha) rfl rfl hl.1 rfl (lv_room (Nat.le_of_ble_eq_true rfl)) dX9_seen_16 ⟨Nat.le_of_ble_eq_true rfl, Nat.le_of_ble_eq_true rfl⟩) ?_
  refine lv_topi (fun v_2 ev_2 => ?_)
  obtain rfl : v_2 = 1 := ev_2.trans (dz_b1 (m_ix1 (by omega) hsc))
  refine lv_if_eq (tgt := 26) hx hb dX9_seen_19 (by decide) (fun c_19 => absurd c_19 (by decide)) (fun c_19 => ?_)
  refine lv_iconst (v := 1) hx hb dX9_seen_22 (by decide) ?_
  refine lv_goto (tgt := 27) hx hb dX9_seen_23 (by decide) ?_
  refine lv_istore (lv' := [(4, .int 1), (0, .ref aM), (1, .int (nI i)), (2, .int (nI sc)), (3, .int (nI rk))]) hx hb dX9_seen_27 hl (by decide) rfl (fun ls hl => ?_)
  refine lv_aload_n hx hb dX9_seen_29 rfl (lv_at hl 1 rfl) ?_
  refine lv_iload hx hb dX9_seen_30 (lv_at hl 0 rfl) ?_
  refine lv_if_ne (tgt := 39) hx hb dX9_seen_32 (by decide) (fun c_32 => ?_) (fun c_32 => absurd c_32 (by decide))
  refine lv_iload_n hx hb dX9_seen_39 rfl (lv_at hl 4 rfl) ?_
  refine lv_iconst (v := 0) hx hb dX9_seen_40 (by decide) ?_
  refine lv_iconst (v := 5) hx hb dX9_seen_41 (by decide) ?_
  refine dz_kRi (va_runS (As := [_, _, _]) ⟨hx, hb, hml, hown, hts⟩ (c_X9_in l Z _ _ _ _ _ ) (va_cwS 3 hts gX9_seen_X9_in rfl rfl rfl (by decide +kernel) ⟨Nat.le_of_ble_eq_true rfl, Nat.le_of_ble_eq_true rfl⟩) (dz_P.pre hE hS hG) rfl rfl hl.1 rfl (lv_room (Nat.le_of_ble_eq_true rfl)) dX9_seen_42 ⟨Nat.le_of_ble_eq_true rfl, Nat.le_of_ble_eq_true rfl⟩) ?_
  refine lv_topi (fun v_3 ev_3 => ?_)
  obtain rfl : v_3 = 1 := ev_3.trans (dz_b1 (m_ix1 (n := 6) (by omega) hrk))
  refine lv_if_ne (tgt := 52) hx hb dX9_seen_45 (by decide) (fun c_45 => ?_) (fun c_45 => absurd c_45 (by decide))
  refine lv_iconst (v := 0) hx hb dX9_seen_52 (by decide) ?_
  refine dz_kMi (va_runV (As := [_]) ⟨hx, hb, hml, hown, hts⟩ (c_X9_refused l Z _ _ _ _ _ _ _ _ _ _ _ _ _ _ _ _ _ _ _ ha ho) (cwV 1 hts gX9_seen_X9_refused rfl rfl rfl (by decide +kernel) ⟨Nat.le_of_ble_eq_true rfl, Nat.le_of_ble_eq_true rfl⟩) (dz_P.preV hE hS hG ho rfl ha) rfl rfl hl.1 rfl (lv_room (Nat.le_of_ble_eq_true rfl)) dX9_seen_53 ⟨Nat.le_of_ble_eq_true rfl, Nat.le_of_ble_eq_true rfl⟩) hS (fun x_53_1 G_53_1 ad_53_1 H locs hp_53_1 hG hS => ?_)
  obtain ⟨fr_53_1, rfl, x9_53_1, g_53_1⟩ := hp_53_1
  obtain rfl : x_53_1 = 0 := x9_53_1.trans (by decide)
  refine lv_if_eq (tgt := 63) hx hb dX9_seen_56 (by decide) (fun c_56 => ?_) (fun c_56 => absurd (by decide) c_56)
  refine lv_aload_n hx hb dX9_seen_63 rfl (lv_at hl 1 rfl) ?_
  refine lv_iload_n hx hb dX9_seen_64 rfl (lv_at hl 2 rfl) ?_
  refine lv_iload_n hx hb dX9_seen_65 rfl (lv_at hl 3 rfl) ?_
  refine lv_iload_n hx hb dX9_seen_66 rfl (lv_at hl 4 rfl) ?_
  refine dz_kRi (va_runV (As := [_, _, _]) ⟨hx, hb, hml, hown, hts⟩ (c_X9_shown l Z _ _ _ _ _ _ _ _ _ _ _ _ _ _ _ _ _ _ _ _ _ _ ha g_53_1 ((fr_53_1 _ (dz_n rfl)).1.trans h31) (by omega) (by omega) hrk) (cwV 3 hts gX9_seen_X9_shown rfl rfl rfl (by decide +kernel) ⟨Nat.le_of_ble_eq_true rfl, Nat.le_of_ble_eq_true rfl⟩) (dz_P.preV hE hS hG g_53_1 rfl ha) rfl rfl hl.1 rfl (lv_room (Nat.le_of_ble_eq_true rfl)) dX9_seen_67 ⟨Nat.le_of_ble_eq_true rfl, Nat.le_of_ble_eq_true rfl⟩) ?_
  refine lv_topi (fun v_4 ev_4 => ?_)
  obtain rfl : v_4 = f31 (30 * i + 6 * sc + rk) := ev_4
  refine W.widen (k := 0) (n := 0) (by first | omega | decide) (by first | omega | decide) ?_
  refine W.iret hx hb hrt (fun t ht hW => dz_endM (f := rv_i) _ hE hS hG ?_ ht hW) (fun q h => hS.2.2 q h) dX9_seen_70
  refine ⟨fun r9 n_0 => (fr_53_1 r9 n_0), rfl, ?_⟩
  exact ⟨rfl, g_53_1⟩
