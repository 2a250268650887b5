set_option maxHeartbeats 4000000 in
set_option maxRecDepth 100000 in
theorem c_X5_shootAll (l : Launch) (Z : dzG) (G : dzW) (ad : dzA) (aR nm : Nat) (sh co ro st : Nat → Int32) (fc0 fr0 fw0 : Nat → Int32) (ha : ad (2, 0) = aR) (hR : dz_Rm Z G ad nm sh co ro st) (hc : G (5, 0) = some (eI Z 484 fc0)) (hr : G (6, 0) = some (eI Z 484 fr0)) (hw : G (7, 0) = some (eI Z 484 fw0)) (hN : nm ≤ 6) (hok : m_ok nm co ro) : dzWr l yX5_shootAll wsX5_shootAll 4 90 0 0 Z G ad [.ref aR] rv_v (fun (x : Unit) G1 ad1 => (∀ r9 : dzR, r9 ≠ (5, 0) → r9 ≠ (6, 0) → r9 ≠ (7, 0) → G1 r9 = G r9 ∧ ad1 r9 = ad r9) ∧ ad = ad1 ∧ G1 (5, 0) = some (eI Z 484 (m_tc nm sh co ro st)) ∧ G1 (6, 0) = some (eI Z 484 (m_tr nm sh co ro st)) ∧ G1 (7, 0) = some (eI Z 484 (m_tw nm sh co ro st))) := by
  refine Met.ofW (cc := cX5_shootAll) (maxL := 6) (ret := none) (by decide) rfl ?_
  intro p e s m args below meth c s₁ B hml hv
  obtain ⟨rfl, hG, hE⟩ := hv
  have hx := B.exec
  have hb := B.bytes
  have hrt := B.returns
  have hts := atoms_spec (ws := wsX5_shootAll) B.pre
  have hown : s.vm.findClass RX5 = some m.cls := findClass_of_methodNamed B.named
  have hlocks := B.notSynchronized
  have hS : va_S (dz_A Z) s.heap s.heap [] := va_S.rf
  have hl := lv_entry ([.ref aR]) (n := 6) (Nat.le_of_ble_eq_true rfl)
  rw [lg_entry_eq]
  generalize (lg_sl ([.ref aR]) ++ List.replicate (6 - (lg_sl ([.ref aR])).length) Slot.unset).toArray = ls at hl ⊢
  have hl : lv_has ls 6 [(0, .ref aR)] := hl
  refine lv_iconst (v := 0) hx hb dX5_shootAll_0 (by decide) ?_
  refine lv_istore_n (lv' := [(1, .int 0), (0, .ref aR)]) hx hb dX5_shootAll_1 rfl hl (by decide) rfl (fun ls hl => ?_)
  refine dz_lw (α := Nat × (Nat → Int32) × (Nat → Int32) × (Nat → Int32) × dzW × Array Slot) (fun a9 => (fun (k : Nat) (fc : Nat → Int32) (fr : Nat → Int32) (fw : Nat → Int32) (G_L2 : dzW) (ls : Array Slot) => 484 - k) a9.1 a9.2.1 a9.2.2.1 a9.2.2.2.1 a9.2.2.2.2.1 a9.2.2.2.2.2) (fun a9 H locs => (fun (k : Nat) (fc : Nat → Int32) (fr : Nat → Int32) (fw : Nat → Int32) (G_L2 : dzW) (ls : Array Slot) => (k ≤ 484) ∧ (∀ j, j < k → fc j = m_tc nm sh co ro st j) ∧ (∀ j, j < k → fr j = m_tr nm sh co ro st j) ∧ (∀ j, j < k → fw j = m_tw nm sh co ro st j) ∧ (∀ r9 : dzR, r9 ≠ (5, 0) → r9 ≠ (6, 0) → r9 ≠ (7, 0) → G_L2 r9 = G r9 ∧ ad r9 = ad r9) ∧ (G_L2 (5, 0) = some (eI Z 484 fc)) ∧ (G_L2 (6, 0) = some (eI Z 484 fr)) ∧ (G_L2 (7, 0) = some (eI Z 484 fw)) ∧ dz_w Z G_L2 ad H ∧ va_S (dz_A Z) s.heap H locs ∧ lv_has ls 6 [(1, .int (nI k)), (0, .ref aR)]) a9.1 a9.2.1 a9.2.2.1 a9.2.2.2.1 a9.2.2.2.2.1 a9.2.2.2.2.2) (fun a9 => F0 m 2 a9.2.2.2.2.2 []) (fun a9 H locs hI ih_2 => ?_) (0, fc0, fr0, fw0, G, ls) ⟨(Nat.zero_le _), (fun j hj => absurd hj (Nat.not_lt_zero _)), (fun j hj => absurd hj (Nat.not_lt_zero _)), (fun j hj => absurd hj (Nat.not_lt_zero _)), (fun r9 _ _ _ => ⟨rfl, rfl⟩), hc, hr, hw, hG, hS, lv_sub hl [0, 1] rfl⟩
  obtain ⟨k, fc, fr, fw, G_L2, ls⟩ := a9
  obtain ⟨hk, qc, qr, qw, fr_L2, gc, gr, gw, hG, hS, hl⟩ := hI
  have hk : k ≤ 484 := hk
  have qc : ∀ j, j < k → fc j = m_tc nm sh co ro st j := qc
  have qr : ∀ j, j < k → fr j = m_tr nm sh co ro st j := qr
  have qw : ∀ j, j < k → fw j = m_tw nm sh co ro st j := qw
  have fr_L2 : ∀ r9 : dzR, r9 ≠ (5, 0) → r9 ≠ (6, 0) → r9 ≠ (7, 0) → G_L2 r9 = G r9 ∧ ad r9 = ad r9 := fr_L2
  have gc : G_L2 (5, 0) = some (eI Z 484 fc) := gc
  have gr : G_L2 (6, 0) = some (eI Z 484 fr) := gr
  have gw : G_L2 (7, 0) = some (eI Z 484 fw) := gw
  have hG : dz_w Z G_L2 ad H := hG
  have hS : va_S (dz_A Z) s.heap H locs := hS
  have hl : lv_has ls 6 [(1, .int (nI k)), (0, .ref aR)] := hl
  refine lv_iload_n hx hb dX5_shootAll_2 rfl (lv_at hl 0 rfl) ?_
  refine lv_aload_n hx hb dX5_shootAll_3 rfl (lv_at hl 1 rfl) ?_
  refine dz_get hx hb hts (fun _ h => List.mem_cons_of_mem _ (List.mem_append_left _ (List.mem_append_left _ (List.mem_append_right _ h)))) hown hE hG ((fr_L2 _ (dz_n rfl) (dz_n rfl) (dz_n rfl)).2.trans ha) ((fr_L2 _ (dz_n rfl) (dz_n rfl) (dz_n rfl)).1.trans hR.1) rfl 1 (by decide) (hts _ (List.mem_of_getElem? (i := 1) rfl)) (fun _ h9 => h9) rfl dX5_shootAll_4 ?_
  refine dz_alen hx hb hE hG rfl gc 0 rfl dX5_shootAll_7 ?_
  refine lv_icmp_ge (tgt := 89) hx hb dX5_shootAll_8 (by decide) (fun c_8 => ?_) (fun c_8 => ?_)
  · have hk2 : k = 484 := by have := (nI_leI (Nat.le_of_ble_eq_true rfl) (by omega)).mp c_8; omega
    obtain ⟨G_1, hG, w_1, o_1⟩ := dz_re (m_tc nm sh co ro st) hG gc (fun j hj => qc j (by omega))
    obtain ⟨G_2, hG, w_2, o_2⟩ := dz_re (m_tr nm sh co ro st) hG ((o_1 _ (dz_n rfl)).1.trans gr) (fun j hj => qr j (by omega))
    obtain ⟨G_3, hG, w_3, o_3⟩ := dz_re (m_tw nm sh co ro st) hG ((o_2 _ (dz_n rfl)).1.trans ((o_1 _ (dz_n rfl)).1.trans gw)) (fun j hj => qw j (by omega))
    refine W.widen (k := 0) (n := 0) (by first | omega | decide) (by first | omega | decide) ?_
    refine W.vret hx hb hrt (fun t ht hW => dz_endM (f := rv_v) () hE hS hG ?_ ht hW) (fun q h => hS.2.2 q h) dX5_shootAll_89
    refine ⟨fun r9 n_0 n_1 n_2 => (dz_tr (o_3 r9 n_2) (dz_tr (o_2 r9 n_1) (dz_tr (o_1 r9 n_0) (fr_L2 r9 n_0 n_1 n_2)))), rfl, ?_⟩
    exact ⟨((o_3 _ (dz_n rfl)).1.trans ((o_2 _ (dz_n rfl)).1.trans w_1)), ((o_3 _ (dz_n rfl)).1.trans w_2), w_3⟩
  · have hlt : k < 484 := by
      rcases Nat.lt_or_ge k 484 with q | q
      · exact q
      · exact absurd ((nI_leI (Nat.le_of_ble_eq_true rfl) (by omega)).mpr q) c_8
    refine lv_iload_n hx hb dX5_shootAll_11 rfl (lv_at hl 0 rfl) ?_
    refine dz_kRi (va_runS (As := [_]) ⟨hx, hb, hml, hown, hts⟩ (c_X5_columnOf l Z _ _ _ ) (va_cwS 1 hts gX5_shootAll_X5_columnOf rfl rfl rfl (by decide +kernel) ⟨Nat.le_of_ble_eq_true rfl, Nat.le_of_ble_eq_true rfl⟩) (dz_P.pre hE hS hG) rfl rfl hl.1 rfl (lv_room (Nat.le_of_ble_eq_true rfl)) dX5_shootAll_12 ⟨Nat.le_of_ble_eq_true rfl, Nat.le_of_ble_eq_true rfl⟩) ?_
    refine lv_topi (fun v_1 ev_1 => ?_)
    obtain rfl : v_1 = m_pc k := ev_1
    refine lv_istore_n (lv' := [(2, .int (m_pc k)), (1, .int (nI k)), (0, .ref aR)]) hx hb dX5_shootAll_15 rfl hl (by decide) rfl (fun ls hl => ?_)
    refine lv_iload_n hx hb dX5_shootAll_16 rfl (lv_at hl 1 rfl) ?_
    refine dz_kRi (va_runS (As := [_]) ⟨hx, hb, hml, hown, hts⟩ (c_X5_rowOf l Z _ _ _ ) (va_cwS 1 hts gX5_shootAll_X5_rowOf rfl rfl rfl (by decide +kernel) ⟨Nat.le_of_ble_eq_true rfl, Nat.le_of_ble_eq_true rfl⟩) (dz_P.pre hE hS hG) rfl rfl hl.1 rfl (lv_room (Nat.le_of_ble_eq_true rfl)) dX5_shootAll_17 ⟨Nat.le_of_ble_eq_true rfl, Nat.le_of_ble_eq_true rfl⟩) ?_
    refine lv_topi (fun v_2 ev_2 => ?_)
    obtain rfl : v_2 = m_pr k := ev_2
    refine lv_istore_n (lv' := [(3, .int (m_pr k)), (2, .int (m_pc k)), (1, .int (nI k)), (0, .ref aR)]) hx hb dX5_shootAll_20 rfl hl (by decide) rfl (fun ls hl => ?_)
    refine lv_aload_n hx hb dX5_shootAll_21 rfl (lv_at hl 3 rfl) ?_
    refine lv_iload_n hx hb dX5_shootAll_22 rfl (lv_at hl 1 rfl) ?_
    refine lv_iload_n hx hb dX5_shootAll_23 rfl (lv_at hl 0 rfl) ?_
    refine dz_kRi (va_runV (As := [_, _]) ⟨hx, hb, hml, hown, hts⟩ (c_X5_bentInColumns l Z _ _ _ _ _ _ _ _ _ _ ((fr_L2 _ (dz_n rfl) (dz_n rfl) (dz_n rfl)).2.trans ha) (dz_Rm.frame hR (fun r h => fr_L2 r (by rintro rfl; simp at h) (by rintro rfl; simp at h) (by rintro rfl; simp at h)) (fun _ _ => rfl)) hN (by rw [fl_pcj k (by omega), fl_prj k (by omega)]; exact m_dsn hok (by omega) (by omega))) (cwV 2 hts gX5_shootAll_X5_bentInColumns rfl rfl rfl (by decide +kernel) ⟨Nat.le_of_ble_eq_true rfl, Nat.le_of_ble_eq_true rfl⟩) (dz_P.preV hE hS hG ((fr_L2 _ (dz_n rfl) (dz_n rfl) (dz_n rfl)).1.trans hR.1) rfl ((fr_L2 _ (dz_n rfl) (dz_n rfl) (dz_n rfl)).2.trans ha)) rfl rfl hl.1 rfl (lv_room (Nat.le_of_ble_eq_true rfl)) dX5_shootAll_24 ⟨Nat.le_of_ble_eq_true rfl, Nat.le_of_ble_eq_true rfl⟩) ?_
    refine lv_topi (fun v_3 ev_3 => ?_)
    obtain rfl : v_3 = m_bcol sh co ro st (m_pc k) (m_pr k) nm := ev_3
    refine lv_istore (lv' := [(4, .int (m_bcol sh co ro st (m_pc k) (m_pr k) nm)), (3, .int (m_pr k)), (2, .int (m_pc k)), (1, .int (nI k)), (0, .ref aR)]) hx hb dX5_shootAll_27 hl (by decide) rfl (fun ls hl => ?_)
    refine lv_aload_n hx hb dX5_shootAll_29 rfl (lv_at hl 4 rfl) ?_
    refine lv_iload_n hx hb dX5_shootAll_30 rfl (lv_at hl 2 rfl) ?_
    refine lv_iload_n hx hb dX5_shootAll_31 rfl (lv_at hl 1 rfl) ?_
    refine dz_kRi (va_runV (As := [_, _]) ⟨hx, hb, hml, hown, hts⟩ (c_X5_bentInRows l Z _ _ _ _ _ _ _ _ _ _ ((fr_L2 _ (dz_n rfl) (dz_n rfl) (dz_n rfl)).2.trans ha) (dz_Rm.frame hR (fun r h => fr_L2 r (by rintro rfl; simp at h) (by rintro rfl; simp at h) (by rintro rfl; simp at h)) (fun _ _ => rfl)) hN (by rw [fl_pcj k (by omega), fl_prj k (by omega)]; exact m_dsn hok (by omega) (by omega))) (cwV 2 hts gX5_shootAll_X5_bentInRows rfl rfl rfl (by decide +kernel) ⟨Nat.le_of_ble_eq_true rfl, Nat.le_of_ble_eq_true rfl⟩) (dz_P.preV hE hS hG ((fr_L2 _ (dz_n rfl) (dz_n rfl) (dz_n rfl)).1.trans hR.1) rfl ((fr_L2 _ (dz_n rfl) (dz_n rfl) (dz_n rfl)).2.trans ha)) rfl rfl hl.1 rfl (lv_room (Nat.le_of_ble_eq_true rfl)) dX5_shootAll_32 ⟨Nat.le_of_ble_eq_true rfl, Nat.le_of_ble_eq_true rfl⟩) ?_
    refine lv_topi (fun v_4 ev_4 => ?_)
    obtain rfl : v_4 = m_brow sh co ro st (m_pc k) (m_pr k) nm := ev_4
    refine lv_istore (lv' := [(5, .int (m_brow sh co ro st (m_pc k) (m_pr k) nm)), (4, .int (m_bcol sh co ro st (m_pc k) (m_pr k) nm)), (3, .int (m_pr k)), (2, .int (m_pc k)), (1, .int (nI k)), (0, .ref aR)]) hx hb dX5_shootAll_35 hl (by decide) rfl (fun ls hl => ?_)
    refine lv_aload_n hx hb dX5_shootAll_37 rfl (lv_at hl 5 rfl) ?_
    refine dz_get hx hb hts (fun _ h => List.mem_cons_of_mem _ (List.mem_append_left _ (List.mem_append_left _ (List.mem_append_right _ h)))) hown hE hG ((fr_L2 _ (dz_n rfl) (dz_n rfl) (dz_n rfl)).2.trans ha) ((fr_L2 _ (dz_n rfl) (dz_n rfl) (dz_n rfl)).1.trans hR.1) rfl 1 (by decide) (hts _ (List.mem_of_getElem? (i := 1) rfl)) (fun _ h9 => h9) rfl dX5_shootAll_38 ?_
    refine lv_iload_n hx hb dX5_shootAll_41 rfl (lv_at hl 4 rfl) ?_
    refine lv_iload_n hx hb dX5_shootAll_42 rfl (lv_at hl 3 rfl) ?_
    refine lv_iload hx hb dX5_shootAll_43 (lv_at hl 1 rfl) ?_
    refine lv_isub hx hb dX5_shootAll_45 ?_
    refine lv_topi (fun v_5 ev_5 => ?_)
    obtain rfl : v_5 = m_tc nm sh co ro st k := ev_5
    refine dz_iast hx hb hE hG rfl hS gc (vp_in_nI hlt (by decide)) dX5_shootAll_46 (fun H locs hG hS => ?_)
    obtain ⟨G_4, hG, w_4, o_4⟩ := dz_nm hG
    refine lv_aload_n hx hb dX5_shootAll_47 rfl (lv_at hl 5 rfl) ?_
    refine dz_get hx hb hts (fun _ h => List.mem_cons_of_mem _ (List.mem_append_left _ (List.mem_append_left _ (List.mem_append_right _ h)))) hown hE hG ((o_4 _ (dz_n rfl)).2.trans ((fr_L2 _ (dz_n rfl) (dz_n rfl) (dz_n rfl)).2.trans ha)) ((o_4 _ (dz_n rfl)).1.trans ((fr_L2 _ (dz_n rfl) (dz_n rfl) (dz_n rfl)).1.trans hR.1)) rfl 2 (by decide) (hts _ (List.mem_of_getElem? (i := 2) rfl)) (fun _ h9 => h9) rfl dX5_shootAll_48 ?_
    refine lv_iload_n hx hb dX5_shootAll_51 rfl (lv_at hl 4 rfl) ?_
    refine lv_iload_n hx hb dX5_shootAll_52 rfl (lv_at hl 2 rfl) ?_
    refine lv_iload hx hb dX5_shootAll_53 (lv_at hl 0 rfl) ?_
    refine lv_isub hx hb dX5_shootAll_55 ?_
    refine lv_topi (fun v_6 ev_6 => ?_)
    obtain rfl : v_6 = m_tr nm sh co ro st k := ev_6
    refine dz_iast hx hb hE hG ((o_4 _ (dz_n rfl)).2.trans rfl) hS ((o_4 _ (dz_n rfl)).1.trans gr) (vp_in_nI hlt (by decide)) dX5_shootAll_56 (fun H locs hG hS => ?_)
    obtain ⟨G_5, hG, w_5, o_5⟩ := dz_nm hG
    refine lv_aload_n hx hb dX5_shootAll_57 rfl (lv_at hl 5 rfl) ?_
    refine dz_get hx hb hts (fun _ h => List.mem_cons_of_mem _ (List.mem_append_left _ (List.mem_append_left _ (List.mem_append_right _ h)))) hown hE hG ((o_5 _ (dz_n rfl)).2.trans ((o_4 _ (dz_n rfl)).2.trans ((fr_L2 _ (dz_n rfl) (dz_n rfl) (dz_n rfl)).2.trans ha))) ((o_5 _ (dz_n rfl)).1.trans ((o_4 _ (dz_n rfl)).1.trans ((fr_L2 _ (dz_n rfl) (dz_n rfl) (dz_n rfl)).1.trans hR.1))) rfl 3 (by decide) (hts _ (List.mem_of_getElem? (i := 3) rfl)) (fun _ h9 => h9) rfl dX5_shootAll_58 ?_
    refine lv_iload_n hx hb dX5_shootAll_61 rfl (lv_at hl 4 rfl) ?_
    refine lv_iconst (v := 5) hx hb dX5_shootAll_62 (by decide) ?_
    refine lv_iload hx hb dX5_shootAll_63 (lv_at hl 1 rfl) ?_
    refine lv_iload hx hb dX5_shootAll_65 (lv_at hl 1 rfl) ?_
    refine lv_imul hx hb dX5_shootAll_67 ?_
    refine lv_iload hx hb dX5_shootAll_68 (lv_at hl 0 rfl) ?_
    refine lv_iload hx hb dX5_shootAll_70 (lv_at hl 0 rfl) ?_
    refine lv_imul hx hb dX5_shootAll_72 ?_
    refine lv_iadd hx hb dX5_shootAll_73 ?_
    refine lv_imul hx hb dX5_shootAll_74 ?_
    refine lv_aload_n hx hb dX5_shootAll_75 rfl (lv_at hl 5 rfl) ?_
    refine lv_iload_n hx hb dX5_shootAll_76 rfl (lv_at hl 3 rfl) ?_
    refine lv_iload_n hx hb dX5_shootAll_77 rfl (lv_at hl 2 rfl) ?_
    refine dz_kRi (va_runV (As := [_, _]) ⟨hx, hb, hml, hown, hts⟩ (c_X5_shortened l Z _ _ _ _ _ _ _ _ _ _ ((o_5 _ (dz_n rfl)).2.trans ((o_4 _ (dz_n rfl)).2.trans ((fr_L2 _ (dz_n rfl) (dz_n rfl) (dz_n rfl)).2.trans ha))) (dz_Rm.frame (dz_Rm.frame (dz_Rm.frame hR (fun r h => fr_L2 r (by rintro rfl; simp at h) (by rintro rfl; simp at h) (by rintro rfl; simp at h)) (fun _ _ => rfl)) (fun r h => o_4 r (by rintro rfl; simp at h)) (fun _ _ => rfl)) (fun r h => o_5 r (by rintro rfl; simp at h)) (fun _ _ => rfl)) hN) (cwV 2 hts gX5_shootAll_X5_shortened rfl rfl rfl (by decide +kernel) ⟨Nat.le_of_ble_eq_true rfl, Nat.le_of_ble_eq_true rfl⟩) (dz_P.preV hE hS hG ((o_5 _ (dz_n rfl)).1.trans ((o_4 _ (dz_n rfl)).1.trans ((fr_L2 _ (dz_n rfl) (dz_n rfl) (dz_n rfl)).1.trans hR.1))) rfl ((o_5 _ (dz_n rfl)).2.trans ((o_4 _ (dz_n rfl)).2.trans ((fr_L2 _ (dz_n rfl) (dz_n rfl) (dz_n rfl)).2.trans ha)))) rfl rfl hl.1 rfl (lv_room (Nat.le_of_ble_eq_true rfl)) dX5_shootAll_78 ⟨Nat.le_of_ble_eq_true rfl, Nat.le_of_ble_eq_true rfl⟩) ?_
    refine lv_topi (fun v_7 ev_7 => ?_)
    obtain rfl : v_7 = m_bsho sh co ro st (m_pc k) (m_pr k) nm := ev_7
    refine lv_isub hx hb dX5_shootAll_81 ?_
    refine lv_topi (fun v_8 ev_8 => ?_)
    obtain rfl : v_8 = m_tw nm sh co ro st k := ev_8
    refine dz_iast hx hb hE hG ((o_5 _ (dz_n rfl)).2.trans ((o_4 _ (dz_n rfl)).2.trans rfl)) hS ((o_5 _ (dz_n rfl)).1.trans ((o_4 _ (dz_n rfl)).1.trans gw)) (vp_in_nI hlt (by decide)) dX5_shootAll_82 (fun H locs hG hS => ?_)
    obtain ⟨G_6, hG, w_6, o_6⟩ := dz_nm hG
    obtain ⟨v_9, ev_9⟩ : ∃ y : Int32, y = (nI k) + 1 := ⟨_, rfl⟩
    refine lv_iinc (v := v_9) (lv' := [(1, .int v_9), (5, .int (m_brow sh co ro st (m_pc k) (m_pr k) nm)), (4, .int (m_bcol sh co ro st (m_pc k) (m_pr k) nm)), (3, .int (m_pr k)), (2, .int (m_pc k)), (0, .ref aR)]) hx hb dX5_shootAll_83 hl (k := 4) rfl (by rw [ev_9]; rfl) (by decide) rfl (fun ls hl => ?_)
    refine lv_goto (tgt := 2) hx hb dX5_shootAll_86 (by decide) ?_
    obtain rfl : v_9 = nI (k + 1) := ev_9.trans (nI_1 k)
    exact ih_2 (k + 1, _, _, _, G_6, ls) _ _ (by first | (dsimp only; omega) | omega) ⟨(by omega), (m_up (by omega) qc rfl), (m_up (by omega) qr rfl), (m_up (by omega) qw rfl), (fun r9 n_0 n_1 n_2 => (dz_tr (o_6 r9 n_2) (dz_tr (o_5 r9 n_1) (dz_tr (o_4 r9 n_0) (fr_L2 r9 n_0 n_1 n_2))))), ((o_6 _ (dz_n rfl)).1.trans ((o_5 _ (dz_n rfl)).1.trans w_4)), ((o_6 _ (dz_n rfl)).1.trans w_5), w_6, hG, hS, lv_sub hl [0, 5] rfl⟩

set_option maxHeartbeats 4000000 in
set_option maxRecDepth 100000 in
theorem c_X4_init (l : Launch) (Z : dzG) (G : dzW) (ad : dzA) (r : dzR) (a : Nat) (sv cv rv tv : Int32) (ha : ad r = a) (hf : G r = some (eO 5 [.int 0, .int 0, .int 0, .int 0])) : dzWr l yX4_init wsX4_init 1 20 0 0 Z G ad [.ref a, .int sv, .int cv, .int rv, .int tv] rv_v (fun (x : Unit) G1 ad1 => (∀ r9 : dzR, r9 ≠ r → G1 r9 = G r9 ∧ ad1 r9 = ad r9) ∧ ad = ad1 ∧ G1 r = some (eO 5 [.int sv, .int cv, .int rv, .int tv]) ∧ ad1 r = a) := by
  refine Met.ofW (cc := cX4_init) (maxL := 5) (ret := none) (by decide) rfl ?_
  intro p e s m args below meth c s₁ B hml hv
  obtain ⟨rfl, hG, hE⟩ := hv
  have hx := B.exec
  have hb := B.bytes
  have hrt := B.returns
  have hts := atoms_spec (ws := wsX4_init) B.pre
  have hown : s.vm.findClass RX4 = some m.cls := findClass_of_methodNamed B.named
  have hlocks := B.notSynchronized
  have hini : meth.name = "<init>" := (name_of_methodNamed B.named B.method).1
  have hS : va_S (dz_A Z) s.heap s.heap [] := va_S.rf
  have hl := lv_entry ([.ref a, .int sv, .int cv, .int rv, .int tv]) (n := 5) (Nat.le_of_ble_eq_true rfl)
  rw [lg_entry_eq]
  generalize (lg_sl ([.ref a, .int sv, .int cv, .int rv, .int tv]) ++ List.replicate (5 - (lg_sl ([.ref a, .int sv, .int cv, .int rv, .int tv])).length) Slot.unset).toArray = ls at hl ⊢
  have hl : lv_has ls 5 [(0, .ref a), (1, .int sv), (2, .int cv), (3, .int rv), (4, .int tv)] := hl
  refine lv_aload_n hx hb dX4_init_0 rfl (lv_at hl 0 rfl) ?_
  refine W.objInit hx hb hown (hts _ (List.mem_of_getElem? (i := 1) rfl)) (hts _ (List.mem_of_getElem? (i := 2) rfl)) (hts _ (List.mem_of_getElem? (i := 3) rfl)) rfl (by rw [hml]; exact hl.1) rfl dX4_init_1 (Nat.le_of_ble_eq_true rfl) (Nat.le_of_ble_eq_true rfl) ?_
  refine W.eq (g2 := F0 m 4 ls []) rfl ?_
  refine lv_aload_n hx hb dX4_init_4 rfl (lv_at hl 0 rfl) ?_
  refine lv_iload_n hx hb dX4_init_5 rfl (lv_at hl 1 rfl) ?_
  refine dz_putF hx hb hts (fun _ h => List.mem_cons_of_mem _ (List.mem_append_right _ h)) tyX4 tyX4_ok nmX4 hown hE hG ha hS hf rfl 0 (by decide) (hts _ (List.mem_of_getElem? (i := 4) rfl)) (fun _ h9 => h9) rfl hini rfl (ty := .int) (by decide +kernel) rfl rfl (fs' := [.int sv, .int 0, .int 0, .int 0]) rfl (Nat.le_of_ble_eq_true rfl) dX4_init_6 (fun H locs hG hS => ?_)
  obtain ⟨G_1, hG, w_1, o_1⟩ := dz_nm hG
  refine lv_aload_n hx hb dX4_init_9 rfl (lv_at hl 0 rfl) ?_
  refine lv_iload_n hx hb dX4_init_10 rfl (lv_at hl 2 rfl) ?_
  refine dz_putF hx hb hts (fun _ h => List.mem_cons_of_mem _ (List.mem_append_right _ h)) tyX4 tyX4_ok nmX4 hown hE hG ha hS w_1 rfl 1 (by decide) (hts _ (List.mem_of_getElem? (i := 5) rfl)) (fun _ h9 => h9) rfl hini rfl (ty := .int) (by decide +kernel) rfl rfl (fs' := [.int sv, .int cv, .int 0, .int 0]) rfl (Nat.le_of_ble_eq_true rfl) dX4_init_11 (fun H locs hG hS => ?_)
  obtain ⟨G_2, hG, w_2, o_2⟩ := dz_nm hG
  refine lv_aload_n hx hb dX4_init_14 rfl (lv_at hl 0 rfl) ?_
  refine lv_iload_n hx hb dX4_init_15 rfl (lv_at hl 3 rfl) ?_
  refine dz_putF hx hb hts (fun _ h => List.mem_cons_of_mem _ (List.mem_append_right _ h)) tyX4 tyX4_ok nmX4 hown hE hG ha hS w_2 rfl 2 (by decide) (hts _ (List.mem_of_getElem? (i := 6) rfl)) (fun _ h9 => h9) rfl hini rfl (ty := .int) (by decide +kernel) rfl rfl (fs' := [.int sv, .int cv, .int rv, .int 0]) rfl (Nat.le_of_ble_eq_true rfl) dX4_init_16 (fun H locs hG hS => ?_)
  obtain ⟨G_3, hG, w_3, o_3⟩ := dz_nm hG
  refine lv_aload_n hx hb dX4_init_19 rfl (lv_at hl 0 rfl) ?_
  refine lv_iload hx hb dX4_init_20 (lv_at hl 4 rfl) ?_
  refine dz_put hx hb hts (fun _ h => List.mem_cons_of_mem _ (List.mem_append_right _ h)) tyX4 tyX4_ok nmX4 hown hE hG ha hS w_3 rfl 3 (by decide) (hts _ (List.mem_of_getElem? (i := 7) rfl)) (fun _ h9 => h9) rfl (ty := .int) (by decide +kernel) rfl rfl (fs' := [.int sv, .int cv, .int rv, .int tv]) rfl (Nat.le_of_ble_eq_true rfl) dX4_init_22 (fun H locs hG hS => ?_)
  obtain ⟨G_4, hG, w_4, o_4⟩ := dz_nm hG
  refine W.widen (k := 0) (n := 0) (by first | omega | decide) (by first | omega | decide) ?_
  refine W.vret hx hb hrt (fun t ht hW => dz_endM (f := rv_v) () hE hS hG ?_ ht hW) (fun q h => hS.2.2 q h) dX4_init_25
  refine ⟨fun r9 n_0 => (dz_tr (o_4 r9 n_0) (dz_tr (o_3 r9 n_0) (dz_tr (o_2 r9 n_0) (o_1 r9 n_0)))), rfl, ?_⟩
  exact ⟨w_4, ha⟩

set_option maxHeartbeats 4000000 in
set_option maxRecDepth 100000 in
theorem c_X5_count (l : Launch) (Z : dzG) (G : dzW) (ad : dzA) (aR nm : Nat) (sh co ro st : Nat → Int32) (ha : ad (2, 0) = aR) (hR : dz_Rm Z G ad nm sh co ro st) (hN : nm ≤ 6) : dzRd l yX5_count wsX5_count 1 20 Z G ad [.ref aR] (some (.int (nI nm))) := by
  refine Met.ofW (cc := cX5_count) (maxL := 1) (ret := (some .int)) (by decide) rfl ?_
  intro p e s m args below meth c s₁ B hml hv
  obtain ⟨rfl, hG, hE⟩ := hv
  have hx := B.exec
  have hb := B.bytes
  have hrt := B.returns
  have hts := atoms_spec (ws := wsX5_count) B.pre
  have hown : s.vm.findClass RX5 = some m.cls := findClass_of_methodNamed B.named
  have hlocks := B.notSynchronized
  have hS : va_S (dz_A Z) s.heap s.heap [] := va_S.rf
  have hl := lv_entry ([.ref aR]) (n := 1) (Nat.le_of_ble_eq_true rfl)
  rw [lg_entry_eq]
  generalize (lg_sl ([.ref aR]) ++ List.replicate (1 - (lg_sl ([.ref aR])).length) Slot.unset).toArray = ls at hl ⊢
  have hl : lv_has ls 1 [(0, .ref aR)] := hl
  refine lv_aload_n hx hb dX5_count_0 rfl (lv_at hl 0 rfl) ?_
  refine dz_get hx hb hts (fun _ h => List.mem_cons_of_mem _ (List.mem_append_left _ (List.mem_append_right _ h))) hown hE hG ha hR.1 rfl 0 (by decide) (hts _ (List.mem_of_getElem? (i := 1) rfl)) (fun _ h9 => h9) rfl dX5_count_1 ?_
  refine dz_kRi (va_runV (As := []) ⟨hx, hb, hml, hown, hts⟩ (c_Jx4a65c_size_8abf5 l Z _ _ _ _ _ _ _ rfl hR.2.1) (cwV 0 hts gX5_count_Jx4a65c_size_8abf5 rfl rfl rfl (by decide +kernel) ⟨Nat.le_of_ble_eq_true rfl, Nat.le_of_ble_eq_true rfl⟩) (dz_P.preL hE hS hG hR.2.1 rfl) rfl rfl hl.1 rfl (lv_room (Nat.le_of_ble_eq_true rfl)) dX5_count_4 ⟨Nat.le_of_ble_eq_true rfl, Nat.le_of_ble_eq_true rfl⟩) ?_
  refine W.iret hx hb hrt (fun t ht hW => ⟨congrArg (fun x => Outcome.returned (some (Value.int x))) ?_, ht⟩) (fun _ h => by cases h) dX5_count_7
  rfl

set_option maxHeartbeats 4000000 in
set_option maxRecDepth 100000 in
theorem c_X5_isFull (l : Launch) (Z : dzG) (G : dzW) (ad : dzA) (aR nm : Nat) (sh co ro st : Nat → Int32) (ha : ad (2, 0) = aR) (hR : dz_Rm Z G ad nm sh co ro st) (hN : nm ≤ 6) : dzRd l yX5_isFull wsX5_isFull 1 20 Z G ad [.ref aR] (some (.int (dz_b (6 ≤ nm)))) := by
  refine Met.ofW (cc := cX5_isFull) (maxL := 1) (ret := (some .boolean)) (by decide) rfl ?_
  intro p e s m args below meth c s₁ B hml hv
  obtain ⟨rfl, hG, hE⟩ := hv
  have hx := B.exec
  have hb := B.bytes
  have hrt := B.returns
  have hts := atoms_spec (ws := wsX5_isFull) B.pre
  have hown : s.vm.findClass RX5 = some m.cls := findClass_of_methodNamed B.named
  have hlocks := B.notSynchronized
  have hS : va_S (dz_A Z) s.heap s.heap [] := va_S.rf
  have hl := lv_entry ([.ref aR]) (n := 1) (Nat.le_of_ble_eq_true rfl)
  rw [lg_entry_eq]
  generalize (lg_sl ([.ref aR]) ++ List.replicate (1 - (lg_sl ([.ref aR])).length) Slot.unset).toArray = ls at hl ⊢
  have hl : lv_has ls 1 [(0, .ref aR)] := hl
  refine lv_aload_n hx hb dX5_isFull_0 rfl (lv_at hl 0 rfl) ?_
  refine dz_get hx hb hts (fun _ h => List.mem_cons_of_mem _ (List.mem_append_left _ (List.mem_append_right _ h))) hown hE hG ha hR.1 rfl 0 (by decide) (hts _ (List.mem_of_getElem? (i := 1) rfl)) (fun _ h9 => h9) rfl dX5_isFull_1 ?_
  refine dz_kRi (va_runV (As := []) ⟨hx, hb, hml, hown, hts⟩ (c_Jx4a65c_size_8abf5 l Z _ _ _ _ _ _ _ rfl hR.2.1) (cwV 0 hts gX5_isFull_Jx4a65c_size_8abf5 rfl rfl rfl (by decide +kernel) ⟨Nat.le_of_ble_eq_true rfl, Nat.le_of_ble_eq_true rfl⟩) (dz_P.preL hE hS hG hR.2.1 rfl) rfl rfl hl.1 rfl (lv_room (Nat.le_of_ble_eq_true rfl)) dX5_isFull_4 ⟨Nat.le_of_ble_eq_true rfl, Nat.le_of_ble_eq_true rfl⟩) ?_
  refine lv_bipush (v := 6) hx hb dX5_isFull_7 (by decide) ?_
  refine lv_icmp_lt (tgt := 16) hx hb dX5_isFull_9 (by decide) (fun c_9 => ?_) (fun c_9 => ?_)
  · refine lv_iconst (v := 0) hx hb dX5_isFull_16 (by decide) ?_
    refine W.zret hx hb hrt (by decide) (fun t ht hW => ⟨congrArg (fun x => Outcome.returned (some (Value.int x))) ?_, ht⟩) (fun _ h => by cases h) dX5_isFull_17
    first | exact (dz_b0 (fun z => (nI_nlt (a := nm) (b := 6) z (by omega)) c_9)).symm | exact (dz_b1 (Nat.not_lt.mp (fun z => c_9 (nI_lt z (by decide))))).symm
  · refine lv_iconst (v := 1) hx hb dX5_isFull_12 (by decide) ?_
    refine lv_goto (tgt := 17) hx hb dX5_isFull_13 (by decide) ?_
    refine W.zret hx hb hrt (by decide) (fun t ht hW => ⟨congrArg (fun x => Outcome.returned (some (Value.int x))) ?_, ht⟩) (fun _ h => by cases h) dX5_isFull_17
    first | exact (dz_b0 (fun z => (nI_nlt (a := nm) (b := 6) z (by omega)) c_9)).symm | exact (dz_b1 (Nat.not_lt.mp (fun z => c_9 (nI_lt z (by decide))))).symm

set_option maxHeartbeats 4000000 in
set_option maxRecDepth 100000 in
theorem c_massIn (l : Launch) (Z : dzG) (G : dzW) (ad : dzA) (aR nm : Nat) (sh co ro st : Nat → Int32) (i : Nat) (ha : ad (2, 0) = aR) (hR : dz_Rm Z G ad nm sh co ro st) (hN : nm ≤ 6) (hi : i < nm) : dzRd l yX5_massAt wsX5_massAt 3 64 Z G ad [.ref aR, .int (nI i)] (some (.ref (ad (8, i)))) := by
  refine Met.ofW (cc := cX5_massAt) (maxL := 2) (ret := (some (.object "Delaylens$Mass"))) (by decide) rfl ?_
  intro p e s m args below meth c s₁ B hml hv
  obtain ⟨rfl, hG, hE⟩ := hv
  have hx := B.exec
  have hb := B.bytes
  have hrt := B.returns
  have hts := atoms_spec (ws := wsX5_massAt) B.pre
  have hown : s.vm.findClass RX5 = some m.cls := findClass_of_methodNamed B.named
  have hlocks := B.notSynchronized
  have hS : va_S (dz_A Z) s.heap s.heap [] := va_S.rf
  have hl := lv_entry ([.ref aR, .int (nI i)]) (n := 2) (Nat.le_of_ble_eq_true rfl)
  rw [lg_entry_eq]
  generalize (lg_sl ([.ref aR, .int (nI i)]) ++ List.replicate (2 - (lg_sl ([.ref aR, .int (nI i)])).length) Slot.unset).toArray = ls at hl ⊢
  have hl : lv_has ls 2 [(0, .ref aR), (1, .int (nI i))] := hl
  refine lv_iload_n hx hb dX5_massAt_0 rfl (lv_at hl 1 rfl) ?_
  refine lv_if_lt (tgt := 29) hx hb dX5_massAt_1 (by decide) (fun c_1 => absurd c_1 (nI_pos (by omega))) (fun c_1 => ?_)
  refine lv_iload_n hx hb dX5_massAt_4 rfl (lv_at hl 1 rfl) ?_
  refine lv_aload_n hx hb dX5_massAt_5 rfl (lv_at hl 0 rfl) ?_
  refine dz_get hx hb hts (fun _ h => List.mem_cons_of_mem _ (List.mem_append_left _ (List.mem_append_right _ h))) hown hE hG ha hR.1 rfl 0 (by decide) (hts _ (List.mem_of_getElem? (i := 1) rfl)) (fun _ h9 => h9) rfl dX5_massAt_6 ?_
  refine dz_kRi (va_runV (As := []) ⟨hx, hb, hml, hown, hts⟩ (c_Jx4a65c_size_8abf5 l Z _ _ _ _ _ _ _ rfl hR.2.1) (cwV 0 hts gX5_massAt_Jx4a65c_size_8abf5 rfl rfl rfl (by decide +kernel) ⟨Nat.le_of_ble_eq_true rfl, Nat.le_of_ble_eq_true rfl⟩) (dz_P.preL hE hS hG hR.2.1 rfl) rfl rfl hl.1 rfl (lv_room (Nat.le_of_ble_eq_true rfl)) dX5_massAt_9 ⟨Nat.le_of_ble_eq_true rfl, Nat.le_of_ble_eq_true rfl⟩) ?_
  refine lv_icmp_ge (tgt := 29) hx hb dX5_massAt_12 (by decide) (fun c_12 => absurd c_12 (nI_ge hi (by omega))) (fun c_12 => ?_)
  refine lv_aload_n hx hb dX5_massAt_15 rfl (lv_at hl 0 rfl) ?_
  refine dz_get hx hb hts (fun _ h => List.mem_cons_of_mem _ (List.mem_append_left _ (List.mem_append_right _ h))) hown hE hG ha hR.1 rfl 0 (by decide) (hts _ (List.mem_of_getElem? (i := 1) rfl)) (fun _ h9 => h9) rfl dX5_massAt_16 ?_
  refine lv_iload_n hx hb dX5_massAt_19 rfl (lv_at hl 1 rfl) ?_
  refine dz_kRr (va_runV (As := [_]) ⟨hx, hb, hml, hown, hts⟩ (c_Jx4a65c_get_915e3 l Z _ _ _ _ _ _ _ _ rfl hR.2.1 hi) (cwV 1 hts gX5_massAt_Jx4a65c_get_915e3 rfl rfl rfl (by decide +kernel) ⟨Nat.le_of_ble_eq_true rfl, Nat.le_of_ble_eq_true rfl⟩) (dz_P.preL hE hS hG hR.2.1 rfl) rfl rfl hl.1 rfl (lv_room (Nat.le_of_ble_eq_true rfl)) dX5_massAt_20 ⟨Nat.le_of_ble_eq_true rfl, Nat.le_of_ble_eq_true rfl⟩) ?_
  refine dz_cst hx hb hown (hts _ (List.mem_of_getElem? (i := 2) rfl)) hE hG rfl (hR.2.2 i hi) rfl dX5_massAt_23 ?_
  refine lv_goto (tgt := 30) hx hb dX5_massAt_26 (by decide) ?_
  refine W.aret hx hb hrt (Or.inl ⟨_, rfl⟩) (Or.inr ⟨_, rfl⟩) (fun t ht hW => ⟨congrArg (fun x => Outcome.returned (some x)) ?_, ht⟩) (fun _ h => by cases h) dX5_massAt_30
  rfl

set_option maxHeartbeats 4000000 in
set_option maxRecDepth 100000 in
theorem c_massOut (l : Launch) (Z : dzG) (G : dzW) (ad : dzA) (aR nm : Nat) (sh co ro st : Nat → Int32) (v : Int32) (ha : ad (2, 0) = aR) (hR : dz_Rm Z G ad nm sh co ro st) (hN : nm ≤ 6) (hv : v < 0 ∨ nI nm ≤ v) : dzRd l yX5_massAt wsX5_massAt 1 20 Z G ad [.ref aR, .int v] (some .null) := by
  refine Met.ofW (cc := cX5_massAt) (maxL := 2) (ret := (some (.object "Delaylens$Mass"))) (by decide) rfl ?_
  intro p e s m args below meth c s₁ B hml hv
  obtain ⟨rfl, hG, hE⟩ := hv
  have hx := B.exec
  have hb := B.bytes
  have hrt := B.returns
  have hts := atoms_spec (ws := wsX5_massAt) B.pre
  have hown : s.vm.findClass RX5 = some m.cls := findClass_of_methodNamed B.named
  have hlocks := B.notSynchronized
  have hS : va_S (dz_A Z) s.heap s.heap [] := va_S.rf
  have hl := lv_entry ([.ref aR, .int v]) (n := 2) (Nat.le_of_ble_eq_true rfl)
  rw [lg_entry_eq]
  generalize (lg_sl ([.ref aR, .int v]) ++ List.replicate (2 - (lg_sl ([.ref aR, .int v])).length) Slot.unset).toArray = ls at hl ⊢
  have hl : lv_has ls 2 [(0, .ref aR), (1, .int v)] := hl
  refine lv_iload_n hx hb dX5_massAt_0 rfl (lv_at hl 1 rfl) ?_
  refine lv_if_lt (tgt := 29) hx hb dX5_massAt_1 (by decide) (fun c_1 => ?_) (fun c_1 => ?_)
  · refine lv_null hx hb dX5_massAt_29 ?_
    refine W.aret hx hb hrt (Or.inl ⟨_, rfl⟩) (Or.inl rfl) (fun t ht hW => ⟨congrArg (fun x => Outcome.returned (some x)) ?_, ht⟩) (fun _ h => by cases h) dX5_massAt_30
    rfl
  · refine lv_iload_n hx hb dX5_massAt_4 rfl (lv_at hl 1 rfl) ?_
    refine lv_aload_n hx hb dX5_massAt_5 rfl (lv_at hl 0 rfl) ?_
    refine dz_get hx hb hts (fun _ h => List.mem_cons_of_mem _ (List.mem_append_left _ (List.mem_append_right _ h))) hown hE hG ha hR.1 rfl 0 (by decide) (hts _ (List.mem_of_getElem? (i := 1) rfl)) (fun _ h9 => h9) rfl dX5_massAt_6 ?_
    refine dz_kRi (va_runV (As := []) ⟨hx, hb, hml, hown, hts⟩ (c_Jx4a65c_size_8abf5 l Z _ _ _ _ _ _ _ rfl hR.2.1) (cwV 0 hts gX5_massAt_Jx4a65c_size_8abf5 rfl rfl rfl (by decide +kernel) ⟨Nat.le_of_ble_eq_true rfl, Nat.le_of_ble_eq_true rfl⟩) (dz_P.preL hE hS hG hR.2.1 rfl) rfl rfl hl.1 rfl (lv_room (Nat.le_of_ble_eq_true rfl)) dX5_massAt_9 ⟨Nat.le_of_ble_eq_true rfl, Nat.le_of_ble_eq_true rfl⟩) ?_
    refine lv_icmp_ge (tgt := 29) hx hb dX5_massAt_12 (by decide) (fun c_12 => ?_) (fun c_12 => absurd (hv.resolve_left c_1) c_12)
    refine lv_null hx hb dX5_massAt_29 ?_
    refine W.aret hx hb hrt (Or.inl ⟨_, rfl⟩) (Or.inl rfl) (fun t ht hW => ⟨congrArg (fun x => Outcome.returned (some x)) ?_, ht⟩) (fun _ h => by cases h) dX5_massAt_30
    rfl

set_option maxHeartbeats 4000000 in
set_option maxRecDepth 100000 in
theorem c_X5_add (l : Launch) (Z : dzG) (G : dzW) (ad : dzA) (aR nm : Nat) (sh co ro st : Nat → Int32) (am : Nat) (fc0 fr0 fw0 : Nat → Int32) (ha : ad (2, 0) = aR) (hR : dz_Rm Z G ad nm sh co ro st) (hm : ad (8, nm) = am) (hM : G (8, nm) = some (eO 5 [.int (sh nm), .int (co nm), .int (ro nm), .int (st nm)])) (hc : G (5, 0) = some (eI Z 484 fc0)) (hr : G (6, 0) = some (eI Z 484 fr0)) (hw : G (7, 0) = some (eI Z 484 fw0)) (hN : nm ≤ 5) (hok : m_ok (nm + 1) co ro) : dzWr l yX5_add wsX5_add 7 184 1 100 Z G ad [.ref aR, .ref am] rv_i (fun (x : Int32) G1 ad1 => (∀ r9 : dzR, r9 ≠ (3, 0) → r9 ≠ (4, 0) → r9 ≠ (90, 0) → r9 ≠ (5, 0) → r9 ≠ (6, 0) → r9 ≠ (7, 0) → G1 r9 = G r9 ∧ ad1 r9 = ad r9) ∧ x = nI nm ∧ ad1 (3, 0) = ad (3, 0) ∧ dz_Rm Z G1 ad1 (nm + 1) sh co ro st ∧ G1 (5, 0) = some (eI Z 484 (m_tc (nm + 1) sh co ro st)) ∧ G1 (6, 0) = some (eI Z 484 (m_tr (nm + 1) sh co ro st)) ∧ G1 (7, 0) = some (eI Z 484 (m_tw (nm + 1) sh co ro st))) := by
  refine Met.ofW (cc := cX5_add) (maxL := 2) (ret := (some .int)) (by decide) rfl ?_
  intro p e s m args below meth c s₁ B hml hv
  obtain ⟨rfl, hG, hE⟩ := hv
  have hx := B.exec
  have hb := B.bytes
  have hrt := B.returns
  have hts := atoms_spec (ws := wsX5_add) B.pre
  have hown : s.vm.findClass RX5 = some m.cls := findClass_of_methodNamed B.named
  have hlocks := B.notSynchronized
  have hS : va_S (dz_A Z) s.heap s.heap [] := va_S.rf
  have hl := lv_entry ([.ref aR, .ref am]) (n := 2) (Nat.le_of_ble_eq_true rfl)
  rw [lg_entry_eq]
  generalize (lg_sl ([.ref aR, .ref am]) ++ List.replicate (2 - (lg_sl ([.ref aR, .ref am])).length) Slot.unset).toArray = ls at hl ⊢
  have hl : lv_has ls 2 [(0, .ref aR), (1, .ref am)] := hl
  subst hm
  have hN2 : nm + 1 ≤ 6 := by omega
  refine lv_aload_n hx hb dX5_add_0 rfl (lv_at hl 0 rfl) ?_
  refine dz_get hx hb hts (fun _ h => List.mem_cons_of_mem _ (List.mem_append_left _ (List.mem_append_left _ (List.mem_append_right _ h)))) hown hE hG ha hR.1 rfl 0 (by decide) (hts _ (List.mem_of_getElem? (i := 1) rfl)) (fun _ h9 => h9) rfl dX5_add_1 ?_
  refine lv_aload_n hx hb dX5_add_4 rfl (lv_at hl 1 rfl) ?_
  refine dz_kMi (va_runV (As := [_]) ⟨hx, hb, hml, hown, hts⟩ (c_Jx4a65c_add_9ea2d l Z _ _ _ _ _ _ _ _ _ _ _ _ _ _ rfl hR.2.1 (by omega) (fun j hj => ⟨(8, j), _, rfl, hR.2.2 j hj, dz_n rfl, dz_n rfl⟩) (dz_n rfl) (dz_n rfl) (dz_n rfl) (dz_n rfl) (dz_n rfl) (dz_n rfl) (rfl : vwCl[5]? = some (RX4, TX4, 4)) (by decide +kernel) rfl hM) (cwV 1 hts gX5_add_Jx4a65c_add_9ea2d rfl rfl rfl (by decide +kernel) ⟨Nat.le_of_ble_eq_true rfl, Nat.le_of_ble_eq_true rfl⟩) (dz_P.preL hE hS hG hR.2.1 rfl) rfl rfl hl.1 rfl (lv_room (Nat.le_of_ble_eq_true rfl)) dX5_add_5 ⟨Nat.le_of_ble_eq_true rfl, Nat.le_of_ble_eq_true rfl⟩) hS (fun x_5_1 G_5_1 ad_5_1 H locs hp_5_1 hG hS => ?_)
  refine W.widen (k := 1) (n := 100) (by omega) (by omega) ?_
  obtain ⟨fr_5_1, e_5_1, g_5_1⟩ := hp_5_1
  have hR2 : dz_Rm Z G_5_1 ad_5_1 (nm + 1) sh co ro st := hR.push hM fr_5_1 g_5_1.1 (fun j hj => by
    show ad (8, j) = if j = nm then ad (8, nm) else ad (8, j)
    by_cases c9 : j = nm
    · rw [if_pos c9, c9]
    · rw [if_neg c9]) g_5_1.2
  refine lv_pop hx hb dX5_add_8 rfl ?_
  refine lv_aload_n hx hb dX5_add_9 rfl (lv_at hl 0 rfl) ?_
  refine dz_kMv (va_runV (As := []) ⟨hx, hb, hml, hown, hts⟩ (c_X5_shootAll l Z _ _ _ _ _ _ _ _ _ _ _ ((fr_5_1 (2, 0) (dz_n rfl) (dz_n rfl) (dz_n rfl)).2.trans ha) hR2 ((fr_5_1 _ (dz_n rfl) (dz_n rfl) (dz_n rfl)).1.trans hc) ((fr_5_1 _ (dz_n rfl) (dz_n rfl) (dz_n rfl)).1.trans hr) ((fr_5_1 _ (dz_n rfl) (dz_n rfl) (dz_n rfl)).1.trans hw) hN2 hok) (cwV 0 hts gX5_add_X5_shootAll rfl rfl rfl (by decide +kernel) ⟨Nat.le_of_ble_eq_true rfl, Nat.le_of_ble_eq_true rfl⟩) (dz_P.preV hE hS hG hR2.1 rfl ((fr_5_1 (2, 0) (dz_n rfl) (dz_n rfl) (dz_n rfl)).2.trans ha)) rfl rfl hl.1 rfl (lv_room (Nat.le_of_ble_eq_true rfl)) dX5_add_10 ⟨Nat.le_of_ble_eq_true rfl, Nat.le_of_ble_eq_true rfl⟩) hS (fun G_10_2 ad_10_2 H locs hp_10_2 hG hS => ?_)
  obtain ⟨fr_10_2, rfl, g_10_2⟩ := hp_10_2
  refine lv_aload_n hx hb dX5_add_13 rfl (lv_at hl 0 rfl) ?_
  refine dz_get hx hb hts (fun _ h => List.mem_cons_of_mem _ (List.mem_append_left _ (List.mem_append_left _ (List.mem_append_right _ h)))) hown hE hG ((fr_10_2 _ (dz_n rfl) (dz_n rfl) (dz_n rfl)).2.trans ((fr_5_1 (2, 0) (dz_n rfl) (dz_n rfl) (dz_n rfl)).2.trans ha)) ((fr_10_2 _ (dz_n rfl) (dz_n rfl) (dz_n rfl)).1.trans hR2.1) rfl 0 (by decide) (hts _ (List.mem_of_getElem? (i := 1) rfl)) (fun _ h9 => h9) rfl dX5_add_14 ?_
  refine dz_kRi (va_runV (As := []) ⟨hx, hb, hml, hown, hts⟩ (c_Jx4a65c_size_8abf5 l Z _ _ _ _ _ _ _ ((fr_10_2 _ (dz_n rfl) (dz_n rfl) (dz_n rfl)).2.trans rfl) (dz_L.frame hR2.2.1 (fr_10_2 _ (dz_n rfl) (dz_n rfl) (dz_n rfl)).1 (fr_10_2 _ (dz_n rfl) (dz_n rfl) (dz_n rfl)))) (cwV 0 hts gX5_add_Jx4a65c_size_8abf5 rfl rfl rfl (by decide +kernel) ⟨Nat.le_of_ble_eq_true rfl, Nat.le_of_ble_eq_true rfl⟩) (dz_P.preL hE hS hG (dz_L.frame hR2.2.1 (fr_10_2 _ (dz_n rfl) (dz_n rfl) (dz_n rfl)).1 (fr_10_2 _ (dz_n rfl) (dz_n rfl) (dz_n rfl))) ((fr_10_2 _ (dz_n rfl) (dz_n rfl) (dz_n rfl)).2.trans rfl)) rfl rfl hl.1 rfl (lv_room (Nat.le_of_ble_eq_true rfl)) dX5_add_17 ⟨Nat.le_of_ble_eq_true rfl, Nat.le_of_ble_eq_true rfl⟩) ?_
  refine lv_iconst (v := 1) hx hb dX5_add_20 (by decide) ?_
  refine lv_isub hx hb dX5_add_21 ?_
  refine lv_topi (fun v_1 ev_1 => ?_)
  obtain rfl : v_1 = nI nm := ev_1.trans ((pk_sub (a := nm + 1) (b := 1) (by omega)).trans (by rw [Nat.add_sub_cancel]))
  refine W.widen (k := 1) (n := 100) (by first | omega | decide) (by first | omega | decide) ?_
  refine W.iret hx hb hrt (fun t ht hW => dz_endM (f := rv_i) _ hE hS hG ?_ ht hW) (fun q h => hS.2.2 q h) dX5_add_22
  refine ⟨fun r9 n_0 n_1 n_2 n_3 n_4 n_5 => (dz_tr (fr_10_2 r9 n_3 n_4 n_5) (fr_5_1 r9 n_0 n_1 n_2)), ?_⟩
  exact ⟨rfl, g_5_1.2, (dz_Rm.frame hR2 (fun r h => fr_10_2 r (by rintro rfl; simp at h) (by rintro rfl; simp at h) (by rintro rfl; simp at h)) (fun _ _ => rfl)), g_10_2⟩

set_option maxHeartbeats 4000000 in
set_option maxRecDepth 100000 in
theorem c_X5_init (l : Launch) (Z : dzG) (G : dzW) (ad : dzA) (aR : Nat) (sh co ro st : Nat → Int32) (ha : ad (2, 0) = aR) (ho : G (2, 0) = some (eO 6 [.null, .null, .null, .null])) : dzWr l yX5_init wsX5_init 5 115 4 1455 Z G ad [.ref aR] rv_v (fun (x : Unit) G1 ad1 => (∀ r9 : dzR, r9 ≠ (2, 0) → r9 ≠ (3, 0) → r9 ≠ (5, 0) → r9 ≠ (6, 0) → r9 ≠ (7, 0) → G1 r9 = G r9 ∧ ad1 r9 = ad r9) ∧ ad1 (2, 0) = aR ∧ dz_Rm Z G1 ad1 0 sh co ro st ∧ G1 (5, 0) = some (eI Z 484 (m_tc 0 sh co ro st)) ∧ G1 (6, 0) = some (eI Z 484 (m_tr 0 sh co ro st)) ∧ G1 (7, 0) = some (eI Z 484 (m_tw 0 sh co ro st))) := by
  refine Met.ofW (cc := cX5_init) (maxL := 1) (ret := none) (by decide) rfl ?_
  intro p e s m args below meth c s₁ B hml hv
  obtain ⟨rfl, hG, hE⟩ := hv
  have hx := B.exec
  have hb := B.bytes
  have hrt := B.returns
  have hts := atoms_spec (ws := wsX5_init) B.pre
  have hown : s.vm.findClass RX5 = some m.cls := findClass_of_methodNamed B.named
  have hlocks := B.notSynchronized
  have hini : meth.name = "<init>" := (name_of_methodNamed B.named B.method).1
  have hS : va_S (dz_A Z) s.heap s.heap [] := va_S.rf
  have hl := lv_entry ([.ref aR]) (n := 1) (Nat.le_of_ble_eq_true rfl)
  rw [lg_entry_eq]
  generalize (lg_sl ([.ref aR]) ++ List.replicate (1 - (lg_sl ([.ref aR])).length) Slot.unset).toArray = ls at hl ⊢
  have hl : lv_has ls 1 [(0, .ref aR)] := hl
  refine lv_aload_n hx hb dX5_init_0 rfl (lv_at hl 0 rfl) ?_
  refine W.objInit hx hb hown (hts _ (List.mem_of_getElem? (i := 1) rfl)) (hts _ (List.mem_of_getElem? (i := 2) rfl)) (hts _ (List.mem_of_getElem? (i := 3) rfl)) rfl (by rw [hml]; exact hl.1) rfl dX5_init_1 (Nat.le_of_ble_eq_true rfl) (Nat.le_of_ble_eq_true rfl) ?_
  refine W.eq (g2 := F0 m 4 ls []) rfl ?_
  refine lv_aload_n hx hb dX5_init_4 rfl (lv_at hl 0 rfl) ?_
  refine dz_new (ci := 0) hx hb hts (fun _ h => List.mem_cons_of_mem _ (List.mem_append_left _ (List.mem_append_left _ (List.mem_append_right _ h)))) tyJx4a65c tyJx4a65c_ok hown (hts _ (List.mem_of_getElem? (i := 4) rfl)) (hts _ (List.mem_of_getElem? (i := 5) rfl)) (hts _ (List.mem_of_getElem? (i := 6) rfl)) hE hG hS (3, 0) rfl (fs := [.int 0, .null, .int 0]) (fun j hj => by rcases (show j = 0 ∨ j = 1 ∨ j = 2 by omega) with rfl | rfl | rfl <;> rfl) (Nat.le_of_ble_eq_true rfl) (Nat.le_of_ble_eq_true rfl) dX5_init_5 (fun q_1 H hG hS => ?_)
  refine W.widen (k := 1) (n := 3) (by omega) (by omega) ?_
  obtain ⟨G_1, ad_1, hG, w_1, a_1, o_1⟩ := dz_nma hG
  refine lv_dup hx hb dX5_init_8 rfl ?_
  refine dz_kMv (va_runI (As := []) ⟨hx, hb, hml, hown, hts⟩ (c_Jx4a65c_init_da8c8 l Z _ _ _ (4, 0) _ (fun _ => 0) _ a_1 w_1) (cwI 0 hts gX5_init_Jx4a65c_init_da8c8 rfl rfl rfl (hts _ (List.mem_of_getElem? (i := 6) rfl)) (hts _ (List.mem_of_getElem? (i := 12) rfl)) (hts _ (List.mem_of_getElem? (i := 13) rfl)) rfl (by decide +kernel) ⟨Nat.le_of_ble_eq_true rfl, Nat.le_of_ble_eq_true rfl⟩) (dz_P.pre hE hS hG) rfl rfl hl.1 rfl (lv_room (Nat.le_of_ble_eq_true rfl)) dX5_init_9 ⟨Nat.le_of_ble_eq_true rfl, Nat.le_of_ble_eq_true rfl⟩) hS (fun G_9_1 ad_9_1 H locs hp_9_1 hG hS => ?_)
  obtain ⟨fr_9_1, g_9_1⟩ := hp_9_1
  refine dz_putF hx hb hts (fun _ h => List.mem_cons_of_mem _ (List.mem_append_left _ (List.mem_append_right _ h))) tyX5 tyX5_ok nmX5 hown hE hG ((fr_9_1 _ (dz_n rfl)).2.trans ((o_1 _ (dz_n rfl)).2.trans ha)) hS ((fr_9_1 _ (dz_n rfl)).1.trans ((o_1 _ (dz_n rfl)).1.trans ho)) rfl 0 (by decide) (hts _ (List.mem_of_getElem? (i := 7) rfl)) (fun _ h9 => h9) rfl hini rfl (ty := .object "java/util/ArrayList") (by decide +kernel) rfl rfl (fs' := [.ref q_1, .null, .null, .null]) rfl (Nat.le_of_ble_eq_true rfl) dX5_init_12 (fun H locs hG hS => ?_)
  obtain ⟨G_2, hG, w_2, o_2⟩ := dz_nm hG
  refine lv_aload_n hx hb dX5_init_15 rfl (lv_at hl 0 rfl) ?_
  refine lv_sipush (v := 484) hx hb dX5_init_16 (by decide) ?_
  refine dz_newa (atype := .int) (a0 := (484, .inl (fun _ => 0))) hx hb (hts _ (List.mem_of_getElem? (i := 8) rfl)) hE hG hS (5, 0) 0 rfl rfl (by decide) rfl (Nat.le_of_ble_eq_true rfl) (Nat.le_of_ble_eq_true rfl) (Nat.le_of_ble_eq_true rfl) dX5_init_19 (fun q_2 H hG hS => ?_)
  refine W.widen (k := 2) (n := 487) (by omega) (by omega) ?_
  obtain ⟨G_3, ad_3, hG, w_3, a_3, o_3⟩ := dz_nma hG
  refine dz_putF hx hb hts (fun _ h => List.mem_cons_of_mem _ (List.mem_append_left _ (List.mem_append_right _ h))) tyX5 tyX5_ok nmX5 hown hE hG ((o_3 _ (dz_n rfl)).2.trans ((fr_9_1 _ (dz_n rfl)).2.trans ((o_1 _ (dz_n rfl)).2.trans ha))) hS ((o_3 _ (dz_n rfl)).1.trans w_2) rfl 1 (by decide) (hts _ (List.mem_of_getElem? (i := 9) rfl)) (fun _ h9 => h9) rfl hini rfl (ty := .array .int) (by decide +kernel) rfl rfl (fs' := [.ref q_1, .ref q_2, .null, .null]) rfl (Nat.le_of_ble_eq_true rfl) dX5_init_21 (fun H locs hG hS => ?_)
  obtain ⟨G_4, hG, w_4, o_4⟩ := dz_nm hG
  refine lv_aload_n hx hb dX5_init_24 rfl (lv_at hl 0 rfl) ?_
  refine lv_sipush (v := 484) hx hb dX5_init_25 (by decide) ?_
  refine dz_newa (atype := .int) (a0 := (484, .inl (fun _ => 0))) hx hb (hts _ (List.mem_of_getElem? (i := 8) rfl)) hE hG hS (6, 0) 0 rfl rfl (by decide) rfl (Nat.le_of_ble_eq_true rfl) (Nat.le_of_ble_eq_true rfl) (Nat.le_of_ble_eq_true rfl) dX5_init_28 (fun q_3 H hG hS => ?_)
  refine W.widen (k := 3) (n := 971) (by omega) (by omega) ?_
  obtain ⟨G_5, ad_5, hG, w_5, a_5, o_5⟩ := dz_nma hG
  refine dz_putF hx hb hts (fun _ h => List.mem_cons_of_mem _ (List.mem_append_left _ (List.mem_append_right _ h))) tyX5 tyX5_ok nmX5 hown hE hG ((o_5 _ (dz_n rfl)).2.trans ((o_3 _ (dz_n rfl)).2.trans ((fr_9_1 _ (dz_n rfl)).2.trans ((o_1 _ (dz_n rfl)).2.trans ha)))) hS ((o_5 _ (dz_n rfl)).1.trans w_4) rfl 2 (by decide) (hts _ (List.mem_of_getElem? (i := 10) rfl)) (fun _ h9 => h9) rfl hini rfl (ty := .array .int) (by decide +kernel) rfl rfl (fs' := [.ref q_1, .ref q_2, .ref q_3, .null]) rfl (Nat.le_of_ble_eq_true rfl) dX5_init_30 (fun H locs hG hS => ?_)
  obtain ⟨G_6, hG, w_6, o_6⟩ := dz_nm hG
  refine lv_aload_n hx hb dX5_init_33 rfl (lv_at hl 0 rfl) ?_
  refine lv_sipush (v := 484) hx hb dX5_init_34 (by decide) ?_
  refine dz_newa (atype := .int) (a0 := (484, .inl (fun _ => 0))) hx hb (hts _ (List.mem_of_getElem? (i := 8) rfl)) hE hG hS (7, 0) 0 rfl rfl (by decide) rfl (Nat.le_of_ble_eq_true rfl) (Nat.le_of_ble_eq_true rfl) (Nat.le_of_ble_eq_true rfl) dX5_init_37 (fun q_4 H hG hS => ?_)
  refine W.widen (k := 4) (n := 1455) (by omega) (by omega) ?_
  obtain ⟨G_7, ad_7, hG, w_7, a_7, o_7⟩ := dz_nma hG
  refine dz_putF hx hb hts (fun _ h => List.mem_cons_of_mem _ (List.mem_append_left _ (List.mem_append_right _ h))) tyX5 tyX5_ok nmX5 hown hE hG ((o_7 _ (dz_n rfl)).2.trans ((o_5 _ (dz_n rfl)).2.trans ((o_3 _ (dz_n rfl)).2.trans ((fr_9_1 _ (dz_n rfl)).2.trans ((o_1 _ (dz_n rfl)).2.trans ha))))) hS ((o_7 _ (dz_n rfl)).1.trans w_6) rfl 3 (by decide) (hts _ (List.mem_of_getElem? (i := 11) rfl)) (fun _ h9 => h9) rfl hini rfl (ty := .array .int) (by decide +kernel) rfl rfl (fs' := [.ref q_1, .ref q_2, .ref q_3, .ref q_4]) rfl (Nat.le_of_ble_eq_true rfl) dX5_init_39 (fun H locs hG hS => ?_)
  obtain ⟨G_8, hG, w_8, o_8⟩ := dz_nm hG
  refine lv_aload_n hx hb dX5_init_42 rfl (lv_at hl 0 rfl) ?_
  have hR : dz_Rm Z G_8 ad_7 0 sh co ro st := by
    refine ⟨?_, (dz_L.frame (dz_L.frame (dz_L.frame (dz_L.frame (dz_L.frame (dz_L.frame (dz_L.frame (g_9_1.1) (o_2 _ (dz_n rfl)).1 (o_2 _ (dz_n rfl))) (o_3 _ (dz_n rfl)).1 (o_3 _ (dz_n rfl))) (o_4 _ (dz_n rfl)).1 (o_4 _ (dz_n rfl))) (o_5 _ (dz_n rfl)).1 (o_5 _ (dz_n rfl))) (o_6 _ (dz_n rfl)).1 (o_6 _ (dz_n rfl))) (o_7 _ (dz_n rfl)).1 (o_7 _ (dz_n rfl))) (o_8 _ (dz_n rfl)).1 (o_8 _ (dz_n rfl))).el (fun j hj => absurd hj (Nat.not_lt_zero _)), fun i hi => absurd hi (Nat.not_lt_zero _)⟩
    rw [show ad_7 (3, 0) = _ from ((o_8 _ (dz_n rfl)).2.trans ((o_7 _ (dz_n rfl)).2.trans ((o_6 _ (dz_n rfl)).2.trans ((o_5 _ (dz_n rfl)).2.trans ((o_4 _ (dz_n rfl)).2.trans ((o_3 _ (dz_n rfl)).2.trans ((o_2 _ (dz_n rfl)).2.trans (g_9_1.2)))))))), show ad_7 (5, 0) = _ from ((o_8 _ (dz_n rfl)).2.trans ((o_7 _ (dz_n rfl)).2.trans ((o_6 _ (dz_n rfl)).2.trans ((o_5 _ (dz_n rfl)).2.trans ((o_4 _ (dz_n rfl)).2.trans a_3))))), show ad_7 (6, 0) = _ from ((o_8 _ (dz_n rfl)).2.trans ((o_7 _ (dz_n rfl)).2.trans ((o_6 _ (dz_n rfl)).2.trans a_5))), show ad_7 (7, 0) = _ from ((o_8 _ (dz_n rfl)).2.trans a_7)]
    exact w_8
  refine dz_kMv (va_runV (As := []) ⟨hx, hb, hml, hown, hts⟩ (c_X5_shootAll l Z _ _ _ _ _ _ _ _ _ _ _ ((o_7 _ (dz_n rfl)).2.trans ((o_5 _ (dz_n rfl)).2.trans ((o_3 _ (dz_n rfl)).2.trans ((fr_9_1 _ (dz_n rfl)).2.trans ((o_1 _ (dz_n rfl)).2.trans ha))))) hR ((o_8 _ (dz_n rfl)).1.trans ((o_7 _ (dz_n rfl)).1.trans ((o_6 _ (dz_n rfl)).1.trans ((o_5 _ (dz_n rfl)).1.trans ((o_4 _ (dz_n rfl)).1.trans w_3))))) ((o_8 _ (dz_n rfl)).1.trans ((o_7 _ (dz_n rfl)).1.trans ((o_6 _ (dz_n rfl)).1.trans w_5))) ((o_8 _ (dz_n rfl)).1.trans w_7) (by omega) (fun k hk => absurd hk (Nat.not_lt_zero _))) (cwV 0 hts gX5_init_X5_shootAll rfl rfl rfl (by decide +kernel) ⟨Nat.le_of_ble_eq_true rfl, Nat.le_of_ble_eq_true rfl⟩) (dz_P.preV hE hS hG w_8 rfl ((o_7 _ (dz_n rfl)).2.trans ((o_5 _ (dz_n rfl)).2.trans ((o_3 _ (dz_n rfl)).2.trans ((fr_9_1 _ (dz_n rfl)).2.trans ((o_1 _ (dz_n rfl)).2.trans ha)))))) rfl rfl hl.1 rfl (lv_room (Nat.le_of_ble_eq_true rfl)) dX5_init_43 ⟨Nat.le_of_ble_eq_true rfl, Nat.le_of_ble_eq_true rfl⟩) hS (fun G_43_2 ad_43_2 H locs hp_43_2 hG hS => ?_)
  obtain ⟨fr_43_2, rfl, g_43_2⟩ := hp_43_2
  refine W.widen (k := 4) (n := 1455) (by first | omega | decide) (by first | omega | decide) ?_
  refine W.vret hx hb hrt (fun t ht hW => dz_endM (f := rv_v) () hE hS hG ?_ ht hW) (fun q h => hS.2.2 q h) dX5_init_46
  refine ⟨fun r9 n_0 n_1 n_2 n_3 n_4 => (dz_tr (fr_43_2 r9 n_2 n_3 n_4) (dz_tr (o_8 r9 n_0) (dz_tr (o_7 r9 n_4) (dz_tr (o_6 r9 n_0) (dz_tr (o_5 r9 n_3) (dz_tr (o_4 r9 n_0) (dz_tr (o_3 r9 n_2) (dz_tr (o_2 r9 n_0) (dz_tr (fr_9_1 r9 n_1) (o_1 r9 n_1)))))))))), ?_⟩
  exact ⟨((fr_43_2 _ (dz_n rfl) (dz_n rfl) (dz_n rfl)).2.trans ((o_7 _ (dz_n rfl)).2.trans ((o_5 _ (dz_n rfl)).2.trans ((o_3 _ (dz_n rfl)).2.trans ((fr_9_1 _ (dz_n rfl)).2.trans ((o_1 _ (dz_n rfl)).2.trans ha)))))), (dz_Rm.frame hR (fun r h => fr_43_2 r (by rintro rfl; simp at h) (by rintro rfl; simp at h) (by rintro rfl; simp at h)) (fun _ _ => rfl)), g_43_2⟩

set_option maxHeartbeats 4000000 in
set_option maxRecDepth 100000 in
theorem c_X4_split (l : Launch) (Z : dzG) (G : dzW) (ad : dzA) (k n a : Nat) (sh co ro tv cc rr : Int32) (ha : ad (8, k) = a) (hf : G (8, k) = some (eO 5 [.int sh, .int co, .int ro, .int tv])) (hkn : k ≠ n) (h2 : ¬ tv / 2 < 1) : dzWr l yX4_split wsX4_split 2 44 1 4 Z G ad [.ref a, .int cc, .int rr] rv_r (fun (x : Nat) G1 ad1 => (∀ r9 : dzR, r9 ≠ (8, k) → r9 ≠ (8, n) → G1 r9 = G r9 ∧ ad1 r9 = ad r9) ∧ (G1 (8, k) = some (eO 5 [.int sh, .int co, .int ro, .int (tv / 2)]) ∧ ad1 (8, k) = a) ∧ G1 (8, n) = some (eO 5 [.int sh, .int cc, .int rr, .int (tv - tv / 2)]) ∧ ad1 (8, n) = x) := by
  refine Met.ofW (cc := cX4_split) (maxL := 5) (ret := (some (.object "Delaylens$Mass"))) (by decide) rfl ?_
  intro p e s m args below meth c s₁ B hml hv
  obtain ⟨rfl, hG, hE⟩ := hv
  have hx := B.exec
  have hb := B.bytes
  have hrt := B.returns
  have hts := atoms_spec (ws := wsX4_split) B.pre
  have hown : s.vm.findClass RX4 = some m.cls := findClass_of_methodNamed B.named
  have hlocks := B.notSynchronized
  have hS : va_S (dz_A Z) s.heap s.heap [] := va_S.rf
  have hl := lv_entry ([.ref a, .int cc, .int rr]) (n := 5) (Nat.le_of_ble_eq_true rfl)
  rw [lg_entry_eq]
  generalize (lg_sl ([.ref a, .int cc, .int rr]) ++ List.replicate (5 - (lg_sl ([.ref a, .int cc, .int rr])).length) Slot.unset).toArray = ls at hl ⊢
  have hl : lv_has ls 5 [(0, .ref a), (1, .int cc), (2, .int rr)] := hl
  refine lv_aload_n hx hb dX4_split_0 rfl (lv_at hl 0 rfl) ?_
  refine dz_get hx hb hts (fun _ h => List.mem_cons_of_mem _ (List.mem_append_right _ h)) hown hE hG ha hf rfl 3 (by decide) (hts _ (List.mem_of_getElem? (i := 1) rfl)) (fun _ h9 => h9) rfl dX4_split_1 ?_
  refine lv_iconst (v := 2) hx hb dX4_split_4 (by decide) ?_
  refine lv_idiv hx hb dX4_split_5 (by decide) ?_
  refine lv_iconst (v := 1) hx hb dX4_split_6 (by decide) ?_
  refine va_mmax hx hb (hml.trans hl.1.symm) hown (hts _ (List.mem_of_getElem? (i := 2) rfl)) (hts _ (List.mem_of_getElem? (i := 3) rfl)) (hts _ (List.mem_of_getElem? (i := 4) rfl)) (hts _ (List.mem_of_getElem? (i := 5) rfl)) (Nat.le_of_ble_eq_true rfl) (Nat.le_of_ble_eq_true rfl) (Nat.le_of_ble_eq_true rfl) (Nat.le_of_ble_eq_true rfl) dX4_split_7 ?_
  refine lv_topi (fun v_1 ev_1 => ?_)
  obtain rfl : v_1 = tv / 2 := ev_1.trans (if_neg h2)
  refine lv_istore_n (lv' := [(3, .int (tv / 2)), (0, .ref a), (1, .int cc), (2, .int rr)]) hx hb dX4_split_10 rfl hl (by decide) rfl (fun ls hl => ?_)
  refine dz_new (ci := 5) hx hb hts (fun _ h => List.mem_cons_of_mem _ (List.mem_append_right _ h)) tyX4 tyX4_ok hown (hts _ (List.mem_of_getElem? (i := 6) rfl)) (hts _ (List.mem_of_getElem? (i := 7) rfl)) (hts _ (List.mem_of_getElem? (i := 8) rfl)) hE hG hS (8, n) rfl (fs := [.int 0, .int 0, .int 0, .int 0]) (fun j hj => by rcases (show j = 0 ∨ j = 1 ∨ j = 2 ∨ j = 3 by omega) with rfl | rfl | rfl | rfl <;> rfl) (Nat.le_of_ble_eq_true rfl) (Nat.le_of_ble_eq_true rfl) dX4_split_11 (fun q_2 H hG hS => ?_)
  refine W.widen (k := 1) (n := 4) (by omega) (by omega) ?_
  obtain ⟨G_1, ad_1, hG, w_1, a_1, o_1⟩ := dz_nma hG
  refine lv_dup hx hb dX4_split_14 rfl ?_
  refine lv_aload_n hx hb dX4_split_15 rfl (lv_at hl 1 rfl) ?_
  refine dz_get hx hb hts (fun _ h => List.mem_cons_of_mem _ (List.mem_append_right _ h)) hown hE hG ((o_1 _ (dz_n2 hkn)).2.trans ha) ((o_1 _ (dz_n2 hkn)).1.trans hf) rfl 0 (by decide) (hts _ (List.mem_of_getElem? (i := 9) rfl)) (fun _ h9 => h9) rfl dX4_split_16 ?_
  refine lv_iload_n hx hb dX4_split_19 rfl (lv_at hl 2 rfl) ?_
  refine lv_iload_n hx hb dX4_split_20 rfl (lv_at hl 3 rfl) ?_
  refine lv_aload_n hx hb dX4_split_21 rfl (lv_at hl 1 rfl) ?_
  refine dz_get hx hb hts (fun _ h => List.mem_cons_of_mem _ (List.mem_append_right _ h)) hown hE hG ((o_1 _ (dz_n2 hkn)).2.trans ha) ((o_1 _ (dz_n2 hkn)).1.trans hf) rfl 3 (by decide) (hts _ (List.mem_of_getElem? (i := 1) rfl)) (fun _ h9 => h9) rfl dX4_split_22 ?_
  refine lv_iload_n hx hb dX4_split_25 rfl (lv_at hl 0 rfl) ?_
  refine lv_isub hx hb dX4_split_26 ?_
  refine lv_topi (fun v_3 ev_3 => ?_)
  obtain rfl : v_3 = tv - tv / 2 := ev_3
  refine dz_kMv (va_runI (As := [_, _, _, _]) ⟨hx, hb, hml, hown, hts⟩ (c_X4_init l Z _ _ _ _ _ _ _ _ a_1 w_1) (cwI 4 hts gX4_split_X4_init rfl rfl rfl (hts _ (List.mem_of_getElem? (i := 8) rfl)) (hts _ (List.mem_of_getElem? (i := 10) rfl)) (hts _ (List.mem_of_getElem? (i := 11) rfl)) rfl (by decide +kernel) ⟨Nat.le_of_ble_eq_true rfl, Nat.le_of_ble_eq_true rfl⟩) (dz_P.pre hE hS hG) rfl rfl hl.1 rfl (lv_room (Nat.le_of_ble_eq_true rfl)) dX4_split_27 ⟨Nat.le_of_ble_eq_true rfl, Nat.le_of_ble_eq_true rfl⟩) hS (fun G_27_1 ad_27_1 H locs hp_27_1 hG hS => ?_)
  obtain ⟨fr_27_1, rfl, g_27_1⟩ := hp_27_1
  refine lv_astore (lv' := [(4, .ref q_2), (3, .int (tv / 2)), (0, .ref a), (1, .int cc), (2, .int rr)]) hx hb dX4_split_30 hl (by decide) rfl (fun ls hl => ?_)
  refine lv_aload_n hx hb dX4_split_32 rfl (lv_at hl 2 rfl) ?_
  refine lv_iload_n hx hb dX4_split_33 rfl (lv_at hl 1 rfl) ?_
  refine dz_put hx hb hts (fun _ h => List.mem_cons_of_mem _ (List.mem_append_right _ h)) tyX4 tyX4_ok nmX4 hown hE hG ((fr_27_1 _ (dz_n2 hkn)).2.trans ((o_1 _ (dz_n2 hkn)).2.trans ha)) hS ((fr_27_1 _ (dz_n2 hkn)).1.trans ((o_1 _ (dz_n2 hkn)).1.trans hf)) rfl 3 (by decide) (hts _ (List.mem_of_getElem? (i := 1) rfl)) (fun _ h9 => h9) rfl (ty := .int) (by decide +kernel) rfl rfl (fs' := [.int sh, .int co, .int ro, .int (tv / 2)]) rfl (Nat.le_of_ble_eq_true rfl) dX4_split_34 (fun H locs hG hS => ?_)
  obtain ⟨G_2, hG, w_2, o_2⟩ := dz_nm hG
  refine lv_aload hx hb dX4_split_37 (lv_at hl 0 rfl) ?_
  refine W.widen (k := 1) (n := 4) (by first | omega | decide) (by first | omega | decide) ?_
  refine W.aret hx hb hrt (Or.inl ⟨_, rfl⟩) (Or.inr ⟨_, rfl⟩) (fun t ht hW => dz_endM (f := rv_r) _ hE hS hG ?_ ht hW) (fun q h => hS.2.2 q h) dX4_split_39
  refine ⟨fun r9 n_0 n_1 => (dz_tr (o_2 r9 n_0) (dz_tr (fr_27_1 r9 n_1) (o_1 r9 n_1))), ?_⟩
  exact ⟨⟨w_2, ((fr_27_1 _ (dz_n2 hkn)).2.trans ((o_1 _ (dz_n2 hkn)).2.trans ha))⟩, ((o_2 _ (Ne.symm (dz_n2 hkn))).1.trans (g_27_1.1)), ((o_2 _ (Ne.symm (dz_n2 hkn))).2.trans (g_27_1.2))⟩
