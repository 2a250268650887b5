set_option maxHeartbeats 4000000 in
set_option maxRecDepth 100000 in
theorem c_L_takes (l : Launch) (Z : dzG) (G : dzW) (ad : dzA) (hst : l.stackTraces = false) (aX : Nat) (S : lwS) (aN : Nat) (nv : Nat → Int32) (k y : Nat) (hC : lwC Z G ad aX S) (hB : lwB S) (han : ad (60, 0) = aN) (hn : G (60, 0) = some (eI Z 21 nv)) (hI : lw_I k S nv) (hk30 : k < 31) (hy : y < 2 ^ 31) : dzWr l yL_takes wsL_takes 11 324 22 1272 Z G ad [.ref aX, .ref aN, .int (nI y)] rv_i (fun (x : Int32) G1 ad1 => ∃ (S' : lwS) (nv' : Nat → Int32), lwC Z G1 ad1 aX S' ∧ lwB S' ∧ G1 (60, 0) = some (eI Z 21 nv') ∧ ad1 (60, 0) = aN ∧ lw_I (k + 1) S' nv' ∧ ¬ x = -5 ∧ (lw_ref x → S' = S)) := by
  refine Met.ofW (cc := cL_takes) (maxL := 5) (ret := (some .int)) (by decide) rfl ?_
  intro p e s m args below meth c s₁ B hml hv
  obtain ⟨rfl, hG, hE⟩ := hv
  have hx := B.exec
  have hb := B.bytes
  have hrt := B.returns
  have hts := atoms_spec (ws := wsL_takes) B.pre
  have hown : s.vm.findClass RL = some m.cls := findClass_of_methodNamed B.named
  have hlocks := B.notSynchronized
  have hS : va_S (dz_A Z) s.heap s.heap [] := va_S.rf
  have hl := lv_entry ([.ref aX, .ref aN, .int (nI y)]) (n := 5) (Nat.le_of_ble_eq_true rfl)
  rw [lg_entry_eq]
  generalize (lg_sl ([.ref aX, .ref aN, .int (nI y)]) ++ List.replicate (5 - (lg_sl ([.ref aX, .ref aN, .int (nI y)])).length) Slot.unset).toArray = ls at hl ⊢
  have hl : lv_has ls 5 [(0, .ref aX), (1, .ref aN), (2, .int (nI y))] := hl
  obtain ⟨ha0, fs0, ho0⟩ := lwC.obj hC
  refine lv_aload_n hx hb dL_takes_0 rfl (lv_at hl 0 rfl) ?_
  refine dz_kMi (vx_runSW (As := [_]) ⟨hx, hb, hml, hown, hts⟩ (t_frame l hst hC hB) (vx_cwSW 1 hts gL_takes_L_frame rfl rfl rfl (by decide +kernel) ⟨Nat.le_of_ble_eq_true rfl, Nat.le_of_ble_eq_true rfl⟩) (dz_P.pre hE hS hG) rfl rfl hl.1 rfl (lv_room (Nat.le_of_ble_eq_true rfl)) dL_takes_1 ⟨Nat.le_of_ble_eq_true rfl, Nat.le_of_ble_eq_true rfl⟩) hS (fun x_1_1 G_1_1 ad_1_1 H locs hp_1_1 hG hS => ?_)
  obtain ⟨fr_1_1, S_1_1, hC_1_1, hB_1_1, hR_1_1⟩ := hp_1_1
  refine W.widen (k := 5) (n := 600) (by omega) (by omega) ?_
  obtain ⟨ha_1, fs_1, ho_1⟩ := lwC.obj hC_1_1
  refine lv_istore_n (lv' := [(3, .int x_1_1), (0, .ref aX), (1, .ref aN), (2, .int (nI y))]) hx hb dL_takes_4 rfl hl (by decide) rfl (fun ls hl => ?_)
  rcases hR_1_1 with ⟨hr9, hS9⟩ | hR9
  · have h59 := q_r5 hr9
    refine lv_iload_n hx hb dL_takes_5 rfl (lv_at hl 0 rfl) ?_
    refine dz_kRi (va_runS (As := [_]) ⟨hx, hb, hml, hown, hts⟩ (c_L_isRefused l Z _ _ x_1_1) (va_cwS 1 hts gL_takes_L_isRefused rfl rfl rfl (by decide +kernel) ⟨Nat.le_of_ble_eq_true rfl, Nat.le_of_ble_eq_true rfl⟩) (dz_P.pre hE hS hG) rfl rfl hl.1 rfl (lv_room (Nat.le_of_ble_eq_true rfl)) dL_takes_6 ⟨Nat.le_of_ble_eq_true rfl, Nat.le_of_ble_eq_true rfl⟩) ?_
    refine lv_topi (fun v_1 ev_1 => ?_)
    obtain rfl : v_1 = 1 := ev_1.trans (dz_b1 hr9)
    refine lv_if_eq (tgt := 31) hx hb dL_takes_9 (by decide) (fun c_9 => absurd c_9 (by decide)) (fun c_9 => ?_)
    refine lv_aload_n hx hb dL_takes_12 rfl (lv_at hl 1 rfl) ?_
    refine lv_iconst (v := 1) hx hb dL_takes_13 (by decide) ?_
    refine lv_iload_n hx hb dL_takes_14 rfl (lv_at hl 3 rfl) ?_
    refine lv_iconst (v := 5) hx hb dL_takes_15 (by decide) ?_
    refine lv_irem hx hb dL_takes_16 (by decide) ?_
    refine lv_iadd hx hb dL_takes_17 ?_
    refine lv_topi (fun v_2 ev_2 => ?_)
    obtain rfl : v_2 = (nI (1 + y % 5)) := ev_2.trans ((congrArg (fun x => 1 + x) (q_rem (b := 5) hy (by decide) (by decide))).trans (nI_add 1 _))
    refine dz_kMi (vx_runSW (As := [_, _]) ⟨hx, hb, hml, hown, hts⟩ (t_passK l hst hC_1_1 hB_1_1 (hS9.symm ▸ I_day hk30 hI) (by omega) (by omega)) (vx_cwSW 2 hts gL_takes_L_pass rfl rfl rfl (by decide +kernel) ⟨Nat.le_of_ble_eq_true rfl, Nat.le_of_ble_eq_true rfl⟩) (dz_P.pre hE hS hG) rfl rfl hl.1 rfl (lv_room (Nat.le_of_ble_eq_true rfl)) dL_takes_18 ⟨Nat.le_of_ble_eq_true rfl, Nat.le_of_ble_eq_true rfl⟩) hS (fun x_18_2 G_18_2 ad_18_2 H locs hp_18_2 hG hS => ?_)
    obtain ⟨fr_18_2, S_18_2, hC_18_2, hB_18_2, hR_18_2⟩ := hp_18_2
    refine W.widen (k := 10) (n := 1200) (by omega) (by omega) ?_
    obtain ⟨ha_2, fs_2, ho_2⟩ := lwC.obj hC_18_2
    refine lv_if_ge (tgt := 29) hx hb dL_takes_21 (by decide) (fun c_21 => ?_) (fun c_21 => absurd hR_18_2.1 c_21)
    refine lv_iconst (v := 0) hx hb dL_takes_29 (by decide) ?_
    refine W.widen (k := 22) (n := 1272) (by first | omega | decide) (by first | omega | decide) ?_
    refine W.iret hx hb hrt (fun t ht hW => dz_endM (f := rv_i) _ hE hS hG ?_ ht hW) (fun q h => hS.2.2 q h) dL_takes_30
    exact ⟨S_18_2, nv, hC_18_2, hB_18_2, ((fr_18_2 (60, 0) rfl).1.trans ((fr_1_1 (60, 0) rfl).1.trans hn)), ((fr_18_2 (60, 0) rfl).2.trans ((fr_1_1 (60, 0) rfl).2.trans han)), I_pass (w := 1 + y % 5) (by omega) (hS9 ▸ hR_18_2.2.1) (hS9 ▸ hR_18_2.2.2.1) (hS9 ▸ hR_18_2.2.2.2.1) (hS9 ▸ hR_18_2.2.2.2.2.1) (hS9 ▸ hR_18_2.2.2.2.2.2) hI, by decide, fun z => absurd z (by decide)⟩
  · obtain ⟨hx9, hf59, hq1, hqf, hqo, hql, hq3, hq4, hq5⟩ := hR9
    obtain rfl := hx9
    obtain ⟨hnr9, h59⟩ := q_nn (nI_pos' (show S.1 4 < 2 ^ 31 by omega))
    have hS60 : S_1_1.1 4 ≤ 60 := hB_1_1.nf6
    refine lv_iload_n hx hb dL_takes_5 rfl (lv_at hl 0 rfl) ?_
    refine dz_kRi (va_runS (As := [_]) ⟨hx, hb, hml, hown, hts⟩ (c_L_isRefused l Z _ _ (nI (S.1 4))) (va_cwS 1 hts gL_takes_L_isRefused rfl rfl rfl (by decide +kernel) ⟨Nat.le_of_ble_eq_true rfl, Nat.le_of_ble_eq_true rfl⟩) (dz_P.pre hE hS hG) rfl rfl hl.1 rfl (lv_room (Nat.le_of_ble_eq_true rfl)) dL_takes_6 ⟨Nat.le_of_ble_eq_true rfl, Nat.le_of_ble_eq_true rfl⟩) ?_
    refine lv_topi (fun v_3 ev_3 => ?_)
    obtain rfl : v_3 = 0 := ev_3.trans (dz_b0 hnr9)
    refine lv_if_eq (tgt := 31) hx hb dL_takes_9 (by decide) (fun c_9 => ?_) (fun c_9 => absurd (by decide) c_9)
    refine lv_aload_n hx hb dL_takes_31 rfl (lv_at hl 2 rfl) ?_
    refine lv_bipush (v := 19) hx hb dL_takes_32 (by decide) ?_
    refine lv_iload_n hx hb dL_takes_34 rfl (lv_at hl 0 rfl) ?_
    refine dz_iast hx hb hE hG ((fr_1_1 (60, 0) rfl).2.trans han) hS ((fr_1_1 (60, 0) rfl).1.trans hn) (by unfold vp_in; decide) dL_takes_35 (fun H locs hG hS => ?_)
    rw [show Int32.toNatClampNeg 19 = 19 from rfl] at hG
    obtain ⟨G_1, hG, w_1, o_1⟩ := dz_nm hG
    refine lv_iconst (v := 0) hx hb dL_takes_36 (by decide) ?_
    refine lv_istore (lv' := [(4, .int 0), (3, .int (nI (S.1 4))), (0, .ref aX), (1, .ref aN), (2, .int (nI y))]) hx hb dL_takes_37 hl (by decide) rfl (fun ls hl => ?_)
    refine W.widen (k := (5 + 1 * 0)) (n := (600 + 6 * 0)) (by omega) (by omega) ?_
    refine dz_la (α := Nat × dzW × Array Slot) (fun a9 => (fun (j : Nat) (G_L39_63 : dzW) (ls : Array Slot) => 12 - j) a9.1 a9.2.1 a9.2.2) (fun a9 => (fun (j : Nat) (G_L39_63 : dzW) (ls : Array Slot) => (5 + 1 * j)) a9.1 a9.2.1 a9.2.2) (fun a9 => (fun (j : Nat) (G_L39_63 : dzW) (ls : Array Slot) => (600 + 6 * j)) a9.1 a9.2.1 a9.2.2) (fun a9 H locs => (fun (j : Nat) (G_L39_63 : dzW) (ls : Array Slot) => (j ≤ 12) ∧ (∀ r9 : dzR, r9 ≠ (60, 0) → G_L39_63 r9 = G_1 r9 ∧ ad_1_1 r9 = ad_1_1 r9) ∧ (G_L39_63 (60, 0) = some (eI Z 21 (q_wr (upd nv 19 (nI (S.1 4))) (s_sv S_1_1 (S.1 4)) j))) ∧ dz_w Z G_L39_63 ad_1_1 H ∧ va_S (dz_A Z) s.heap H locs ∧ lv_has ls 5 [(4, .int (nI j)), (3, .int (nI (S.1 4))), (0, .ref aX), (1, .ref aN), (2, .int (nI y))]) a9.1 a9.2.1 a9.2.2) (fun a9 => F0 m 39 a9.2.2 []) (fun a9 H locs hI9 ih_39 => ?_) (0, G_1, ls) ⟨Nat.zero_le _, (fun r9 _ => ⟨rfl, rfl⟩), w_1, hG, hS, lv_sub hl [0, 1, 2, 3, 4] rfl⟩
    obtain ⟨j, G_L39_63, ls⟩ := a9
    obtain ⟨hj1, fr_L39, fn_L39, hG, hS, hl⟩ := hI9
    have hj1 : j ≤ 12 := hj1
    have fr_L39 : ∀ r9 : dzR, r9 ≠ (60, 0) → G_L39_63 r9 = G_1 r9 ∧ ad_1_1 r9 = ad_1_1 r9 := fr_L39
    have fn_L39 : G_L39_63 (60, 0) = some (eI Z 21 (q_wr (upd nv 19 (nI (S.1 4))) (s_sv S_1_1 (S.1 4)) j)) := fn_L39
    have hG : dz_w Z G_L39_63 ad_1_1 H := hG
    have hS : va_S (dz_A Z) s.heap H locs := hS
    have hl : lv_has ls 5 [(4, .int (nI j)), (3, .int (nI (S.1 4))), (0, .ref aX), (1, .ref aN), (2, .int (nI y))] := hl
    show W p l e _ s m _ below meth c H locs (5 + 1 * j) (600 + 6 * j) _ _
    refine lv_iload hx hb dL_takes_39 (lv_at hl 0 rfl) ?_
    refine lv_bipush (v := 12) hx hb dL_takes_41 (by decide) ?_
    refine lv_icmp_ge (tgt := 74) hx hb dL_takes_43 (by decide) (fun c_43 => ?_) (fun c_43 => ?_)
    · have hj12 : j = 12 := q_end (b := 12) c_43 hj1 (by decide)
      rw [hj12] at fn_L39
      refine lv_aload_n hx hb dL_takes_74 rfl (lv_at hl 3 rfl) ?_
      refine lv_iconst (v := 1) hx hb dL_takes_75 (by decide) ?_
      refine dz_iald hx hb hE hG ((fr_1_1 (60, 0) rfl).2.trans han) fn_L39 (by unfold vp_in; decide) dL_takes_76 ?_
      refine lv_topi (fun v_4 ev_4 => ?_)
      obtain rfl : v_4 = (nI (S.1 1)) := ev_4.trans ((q_wr_o 12 (Or.inl (by decide))).trans ((pk_un (by decide)).trans hI.1.1))
      refine lv_if_eq (tgt := 101) hx hb dL_takes_77 (by decide) (fun c_77 => ?_) (fun c_77 => ?_)
      · refine lv_iconst (v := 1) hx hb dL_takes_101 (by decide) ?_
        refine lv_goto (tgt := 106) hx hb dL_takes_102 (by decide) ?_
        refine lv_istore (lv' := [(4, .int 1), (3, .int (nI (S.1 4))), (0, .ref aX), (1, .ref aN), (2, .int (nI y))]) hx hb dL_takes_106 hl (by decide) rfl (fun ls hl => ?_)
        refine lv_aload_n hx hb dL_takes_108 rfl (lv_at hl 2 rfl) ?_
        refine lv_iconst (v := 1) hx hb dL_takes_109 (by decide) ?_
        refine lv_iload_n hx hb dL_takes_110 rfl (lv_at hl 4 rfl) ?_
        refine lv_iconst (v := 3) hx hb dL_takes_111 (by decide) ?_
        refine lv_irem hx hb dL_takes_112 (by decide) ?_
        refine lv_iadd hx hb dL_takes_113 ?_
        refine lv_topi (fun v_5 ev_5 => ?_)
        obtain rfl : v_5 = (nI (1 + y % 3)) := ev_5.trans ((congrArg (fun x => 1 + x) (q_rem (b := 3) hy (by decide) (by decide))).trans (nI_add 1 _))
        refine dz_kMi (vx_runSW (As := [_, _]) ⟨hx, hb, hml, hown, hts⟩ (t_passK l hst (lwC.frame (lwC.frame hC_1_1 (fun r h => o_1 r (by rintro rfl; simp at h))) (fun r h => fr_L39 r (by rintro rfl; simp at h))) hB_1_1 (hq3.symm ▸ I_day hk30 hI) (by omega) (by omega)) (vx_cwSW 2 hts gL_takes_L_pass rfl rfl rfl (by decide +kernel) ⟨Nat.le_of_ble_eq_true rfl, Nat.le_of_ble_eq_true rfl⟩) (dz_P.pre hE hS hG) rfl rfl hl.1 rfl (lv_room (Nat.le_of_ble_eq_true rfl)) dL_takes_114 ⟨by show _ ≤ 22; omega, by show _ ≤ 1272; omega⟩) hS (fun x_114_3 G_114_3 ad_114_3 H locs hp_114_3 hG hS => ?_)
        obtain ⟨fr_114_3, S_114_3, hC_114_3, hB_114_3, hR_114_3⟩ := hp_114_3
        refine W.widen (k := (5 + 1 * j) + 5) (n := (600 + 6 * j) + 600) (by omega) (by omega) ?_
        obtain ⟨ha_3, fs_3, ho_3⟩ := lwC.obj hC_114_3
        refine lv_if_lt (tgt := 125) hx hb dL_takes_117 (by decide) (fun c_117 => absurd c_117 (Int32.not_lt.mpr hR_114_3.1)) (fun c_117 => ?_)
        refine lv_iload hx hb dL_takes_120 (lv_at hl 0 rfl) ?_
        refine lv_if_ne (tgt := 130) hx hb dL_takes_122 (by decide) (fun c_122 => ?_) (fun c_122 => absurd c_122 (by decide))
        refine lv_iload_n hx hb dL_takes_130 rfl (lv_at hl 1 rfl) ?_
        refine W.widen (k := 22) (n := 1272) (by first | omega | decide) (by first | omega | decide) ?_
        refine W.iret hx hb hrt (fun t ht hW => dz_endM (f := rv_i) _ hE hS hG ?_ ht hW) (fun q h => hS.2.2 q h) dL_takes_131
        exact ⟨S_114_3, _, hC_114_3, hB_114_3, ((fr_114_3 (60, 0) rfl).1.trans fn_L39), ((fr_114_3 (60, 0) rfl).2.trans ((fr_1_1 (60, 0) rfl).2.trans han)), I_frame hB_1_1 (w := 1 + y % 3) (by omega) hq1 hqf hq3 hq4 hq5 hR_114_3.2.1 hR_114_3.2.2.1 hR_114_3.2.2.2.1 hR_114_3.2.2.2.2.1 hR_114_3.2.2.2.2.2 hI, h59, fun z => absurd z hnr9⟩
      · have hs0 : 0 < S.1 1 := Nat.pos_of_ne_zero (fun z => c_77 (by rw [z]; rfl))
        have hs1 := hI.1.2.1
        refine lv_aload_n hx hb dL_takes_80 rfl (lv_at hl 2 rfl) ?_
        refine lv_iconst (v := 0) hx hb dL_takes_81 (by decide) ?_
        refine dz_kRi (vx_runSW (As := [_, _]) ⟨hx, hb, hml, hown, hts⟩ (r_images l hst (lwC.frame (lwC.frame hC_1_1 (fun r h => o_1 r (by rintro rfl; simp at h))) (fun r h => fr_L39 r (by rintro rfl; simp at h))) hB_1_1 (sc := 0) (by rw [hq1.1]; exact hs0)) (vx_cwSW 2 hts gL_takes_L_images rfl rfl rfl (by decide +kernel) ⟨Nat.le_of_ble_eq_true rfl, Nat.le_of_ble_eq_true rfl⟩) (dz_P.pre hE hS hG) rfl rfl hl.1 rfl (lv_room (Nat.le_of_ble_eq_true rfl)) dL_takes_82 ⟨by show _ ≤ 22; omega, by show _ ≤ 1272; omega⟩) ?_
        refine lv_if_eq (tgt := 101) hx hb dL_takes_85 (by decide) (fun c_85 => ?_) (fun c_85 => ?_)
        · refine lv_iconst (v := 1) hx hb dL_takes_101 (by decide) ?_
          refine lv_goto (tgt := 106) hx hb dL_takes_102 (by decide) ?_
          refine lv_istore (lv' := [(4, .int 1), (3, .int (nI (S.1 4))), (0, .ref aX), (1, .ref aN), (2, .int (nI y))]) hx hb dL_takes_106 hl (by decide) rfl (fun ls hl => ?_)
          refine lv_aload_n hx hb dL_takes_108 rfl (lv_at hl 2 rfl) ?_
          refine lv_iconst (v := 1) hx hb dL_takes_109 (by decide) ?_
          refine lv_iload_n hx hb dL_takes_110 rfl (lv_at hl 4 rfl) ?_
          refine lv_iconst (v := 3) hx hb dL_takes_111 (by decide) ?_
          refine lv_irem hx hb dL_takes_112 (by decide) ?_
          refine lv_iadd hx hb dL_takes_113 ?_
          refine lv_topi (fun v_6 ev_6 => ?_)
          obtain rfl : v_6 = (nI (1 + y % 3)) := ev_6.trans ((congrArg (fun x => 1 + x) (q_rem (b := 3) hy (by decide) (by decide))).trans (nI_add 1 _))
          refine dz_kMi (vx_runSW (As := [_, _]) ⟨hx, hb, hml, hown, hts⟩ (t_passK l hst (lwC.frame (lwC.frame hC_1_1 (fun r h => o_1 r (by rintro rfl; simp at h))) (fun r h => fr_L39 r (by rintro rfl; simp at h))) hB_1_1 (hq3.symm ▸ I_day hk30 hI) (by omega) (by omega)) (vx_cwSW 2 hts gL_takes_L_pass rfl rfl rfl (by decide +kernel) ⟨Nat.le_of_ble_eq_true rfl, Nat.le_of_ble_eq_true rfl⟩) (dz_P.pre hE hS hG) rfl rfl hl.1 rfl (lv_room (Nat.le_of_ble_eq_true rfl)) dL_takes_114 ⟨by show _ ≤ 22; omega, by show _ ≤ 1272; omega⟩) hS (fun x_114_4 G_114_4 ad_114_4 H locs hp_114_4 hG hS => ?_)
          obtain ⟨fr_114_4, S_114_4, hC_114_4, hB_114_4, hR_114_4⟩ := hp_114_4
          refine W.widen (k := (5 + 1 * j) + 5) (n := (600 + 6 * j) + 600) (by omega) (by omega) ?_
          obtain ⟨ha_4, fs_4, ho_4⟩ := lwC.obj hC_114_4
          refine lv_if_lt (tgt := 125) hx hb dL_takes_117 (by decide) (fun c_117 => absurd c_117 (Int32.not_lt.mpr hR_114_4.1)) (fun c_117 => ?_)
          refine lv_iload hx hb dL_takes_120 (lv_at hl 0 rfl) ?_
          refine lv_if_ne (tgt := 130) hx hb dL_takes_122 (by decide) (fun c_122 => ?_) (fun c_122 => absurd c_122 (by decide))
          refine lv_iload_n hx hb dL_takes_130 rfl (lv_at hl 1 rfl) ?_
          refine W.widen (k := 22) (n := 1272) (by first | omega | decide) (by first | omega | decide) ?_
          refine W.iret hx hb hrt (fun t ht hW => dz_endM (f := rv_i) _ hE hS hG ?_ ht hW) (fun q h => hS.2.2 q h) dL_takes_131
          exact ⟨S_114_4, _, hC_114_4, hB_114_4, ((fr_114_4 (60, 0) rfl).1.trans fn_L39), ((fr_114_4 (60, 0) rfl).2.trans ((fr_1_1 (60, 0) rfl).2.trans han)), I_frame hB_1_1 (w := 1 + y % 3) (by omega) hq1 hqf hq3 hq4 hq5 hR_114_4.2.1 hR_114_4.2.2.1 hR_114_4.2.2.2.1 hR_114_4.2.2.2.2.1 hR_114_4.2.2.2.2.2 hI, h59, fun z => absurd z hnr9⟩
        · have hi0 := Nat.pos_of_ne_zero (fun z => c_85 ((congrArg nI z).trans nI_0))
          refine lv_aload_n hx hb dL_takes_88 rfl (lv_at hl 3 rfl) ?_
          refine lv_bipush (v := 7) hx hb dL_takes_89 (by decide) ?_
          refine dz_iald hx hb hE hG ((fr_1_1 (60, 0) rfl).2.trans han) fn_L39 (by unfold vp_in; decide) dL_takes_91 ?_
          refine lv_topi (fun v_91 ev_91 => ?_)
          obtain rfl : v_91 = s_lv S_1_1 0 0 := ev_91.trans ((q_wr_i (j := 0) 12 (by decide)).trans ((if_pos (show 0 / 6 < S_1_1.1 1 by rw [hq1.1]; omega)).trans (hql 0 0 (by decide) (by decide))))
          refine lv_aload_n hx hb dL_takes_92 rfl (lv_at hl 2 rfl) ?_
          refine lv_iconst (v := 0) hx hb dL_takes_93 (by decide) ?_
          refine lv_iconst (v := 0) hx hb dL_takes_94 (by decide) ?_
          refine dz_kRi (vx_runSW (As := [_, _, _]) ⟨hx, hb, hml, hown, hts⟩ (r_light l hst (lwC.frame (lwC.frame hC_1_1 (fun r h => o_1 r (by rintro rfl; simp at h))) (fun r h => fr_L39 r (by rintro rfl; simp at h))) hB_1_1 (sc := 0) (rk := 0) (by rw [hq1.1]; exact hs0) hi0) (vx_cwSW 3 hts gL_takes_L_light rfl rfl rfl (by decide +kernel) ⟨Nat.le_of_ble_eq_true rfl, Nat.le_of_ble_eq_true rfl⟩) (dz_P.pre hE hS hG) rfl rfl hl.1 rfl (lv_room (Nat.le_of_ble_eq_true rfl)) dL_takes_95 ⟨by show _ ≤ 22; omega, by show _ ≤ 1272; omega⟩) ?_
          refine lv_icmp_ne (tgt := 105) hx hb dL_takes_98 (by decide) (fun c_98 => absurd rfl c_98) (fun c_98 => ?_)
          refine lv_iconst (v := 1) hx hb dL_takes_101 (by decide) ?_
          refine lv_goto (tgt := 106) hx hb dL_takes_102 (by decide) ?_
          refine lv_istore (lv' := [(4, .int 1), (3, .int (nI (S.1 4))), (0, .ref aX), (1, .ref aN), (2, .int (nI y))]) hx hb dL_takes_106 hl (by decide) rfl (fun ls hl => ?_)
          refine lv_aload_n hx hb dL_takes_108 rfl (lv_at hl 2 rfl) ?_
          refine lv_iconst (v := 1) hx hb dL_takes_109 (by decide) ?_
          refine lv_iload_n hx hb dL_takes_110 rfl (lv_at hl 4 rfl) ?_
          refine lv_iconst (v := 3) hx hb dL_takes_111 (by decide) ?_
          refine lv_irem hx hb dL_takes_112 (by decide) ?_
          refine lv_iadd hx hb dL_takes_113 ?_
          refine lv_topi (fun v_7 ev_7 => ?_)
          obtain rfl : v_7 = (nI (1 + y % 3)) := ev_7.trans ((congrArg (fun x => 1 + x) (q_rem (b := 3) hy (by decide) (by decide))).trans (nI_add 1 _))
          refine dz_kMi (vx_runSW (As := [_, _]) ⟨hx, hb, hml, hown, hts⟩ (t_passK l hst (lwC.frame (lwC.frame hC_1_1 (fun r h => o_1 r (by rintro rfl; simp at h))) (fun r h => fr_L39 r (by rintro rfl; simp at h))) hB_1_1 (hq3.symm ▸ I_day hk30 hI) (by omega) (by omega)) (vx_cwSW 2 hts gL_takes_L_pass rfl rfl rfl (by decide +kernel) ⟨Nat.le_of_ble_eq_true rfl, Nat.le_of_ble_eq_true rfl⟩) (dz_P.pre hE hS hG) rfl rfl hl.1 rfl (lv_room (Nat.le_of_ble_eq_true rfl)) dL_takes_114 ⟨by show _ ≤ 22; omega, by show _ ≤ 1272; omega⟩) hS (fun x_114_5 G_114_5 ad_114_5 H locs hp_114_5 hG hS => ?_)
          obtain ⟨fr_114_5, S_114_5, hC_114_5, hB_114_5, hR_114_5⟩ := hp_114_5
          refine W.widen (k := (5 + 1 * j) + 5) (n := (600 + 6 * j) + 600) (by omega) (by omega) ?_
          obtain ⟨ha_5, fs_5, ho_5⟩ := lwC.obj hC_114_5
          refine lv_if_lt (tgt := 125) hx hb dL_takes_117 (by decide) (fun c_117 => absurd c_117 (Int32.not_lt.mpr hR_114_5.1)) (fun c_117 => ?_)
          refine lv_iload hx hb dL_takes_120 (lv_at hl 0 rfl) ?_
          refine lv_if_ne (tgt := 130) hx hb dL_takes_122 (by decide) (fun c_122 => ?_) (fun c_122 => absurd c_122 (by decide))
          refine lv_iload_n hx hb dL_takes_130 rfl (lv_at hl 1 rfl) ?_
          refine W.widen (k := 22) (n := 1272) (by first | omega | decide) (by first | omega | decide) ?_
          refine W.iret hx hb hrt (fun t ht hW => dz_endM (f := rv_i) _ hE hS hG ?_ ht hW) (fun q h => hS.2.2 q h) dL_takes_131
          exact ⟨S_114_5, _, hC_114_5, hB_114_5, ((fr_114_5 (60, 0) rfl).1.trans fn_L39), ((fr_114_5 (60, 0) rfl).2.trans ((fr_1_1 (60, 0) rfl).2.trans han)), I_frame hB_1_1 (w := 1 + y % 3) (by omega) hq1 hqf hq3 hq4 hq5 hR_114_5.2.1 hR_114_5.2.2.1 hR_114_5.2.2.2.1 hR_114_5.2.2.2.2.1 hR_114_5.2.2.2.2.2 hI, h59, fun z => absurd z hnr9⟩
    · have hj : j < 12 := q_lt (b := 12) c_43 (by decide) (by omega)
      refine lv_aload_n hx hb dL_takes_46 rfl (lv_at hl 3 rfl) ?_
      refine lv_bipush (v := 7) hx hb dL_takes_47 (by decide) ?_
      refine lv_iload hx hb dL_takes_49 (lv_at hl 0 rfl) ?_
      refine lv_iadd hx hb dL_takes_51 ?_
      refine lv_topi (fun v_8 ev_8 => ?_)
      obtain rfl : v_8 = (nI (7 + j)) := ev_8.trans (nI_add 7 j)
      refine lv_aload_n hx hb dL_takes_52 rfl (lv_at hl 2 rfl) ?_
      refine lv_iload_n hx hb dL_takes_53 rfl (lv_at hl 1 rfl) ?_
      refine lv_iload hx hb dL_takes_54 (lv_at hl 0 rfl) ?_
      refine lv_bipush (v := 6) hx hb dL_takes_56 (by decide) ?_
      refine lv_idiv hx hb dL_takes_58 (by decide) ?_
      refine lv_topi (fun v_9 ev_9 => ?_)
      obtain rfl : v_9 = (nI (j / 6)) := ev_9.trans (q_d6 j hj).1
      refine lv_iload hx hb dL_takes_59 (lv_at hl 0 rfl) ?_
      refine lv_bipush (v := 6) hx hb dL_takes_61 (by decide) ?_
      refine lv_irem hx hb dL_takes_63 (by decide) ?_
      refine lv_topi (fun v_10 ev_10 => ?_)
      obtain rfl : v_10 = (nI (j % 6)) := ev_10.trans (q_d6 j hj).2
      refine dz_kMi (vx_runSW (As := [_, _, _, _]) ⟨hx, hb, hml, hown, hts⟩ (r_seenV l hst (lwC.frame (lwC.frame hC_1_1 (fun r h => o_1 r (by rintro rfl; simp at h))) (fun r h => fr_L39 r (by rintro rfl; simp at h))) hB_1_1 (i := S.1 4) (j := j) (by omega) hj) (vx_cwSW 4 hts gL_takes_L_seen rfl rfl rfl (by decide +kernel) ⟨Nat.le_of_ble_eq_true rfl, Nat.le_of_ble_eq_true rfl⟩) (dz_P.pre hE hS hG) rfl rfl hl.1 rfl (lv_room (Nat.le_of_ble_eq_true rfl)) dL_takes_64 ⟨by show _ ≤ 22; omega, by show _ ≤ 1272; omega⟩) hS (fun x_64_6 G_64_6 ad_64_6 H locs hp_64_6 hG hS => ?_)
      rw [hp_64_6.2.1, hp_64_6.2.2] at hG
      rw [hp_64_6.1]
      refine W.widen (k := (5 + 1 * j) + 1) (n := (600 + 6 * j) + 6) (by omega) (by omega) ?_
      refine dz_iast hx hb hE hG ((fr_1_1 (60, 0) rfl).2.trans han) hS fn_L39 (vp_in_nI (by omega) (by decide)) dL_takes_67 (fun H locs hG hS => ?_)
      rw [nI_clamp (show (7 + j) < 2 ^ 31 by omega)] at hG
      obtain ⟨G_2, hG, w_2, o_2⟩ := dz_nm hG
      obtain ⟨v_11, ev_11⟩ : ∃ y : Int32, y = (nI j) + 1 := ⟨_, rfl⟩
      refine lv_iinc (v := v_11) (lv' := [(4, .int v_11), (3, .int (nI (S.1 4))), (0, .ref aX), (1, .ref aN), (2, .int (nI y))]) hx hb dL_takes_68 hl (k := 0) rfl (by rw [ev_11]; rfl) (by decide) rfl (fun ls hl => ?_)
      refine lv_goto (tgt := 39) hx hb dL_takes_71 (by decide) ?_
      obtain rfl : v_11 = (nI (j + 1)) := ev_11.trans (nI_1 j)
      refine W.widen (k := (5 + 1 * (j + 1))) (n := (600 + 6 * (j + 1))) (by omega) (by omega) ?_
      exact ih_39 (j + 1, G_2, ls) _ _ (by first | (dsimp only; omega) | omega) ⟨(by omega), (fun r9 n_0 => dz_tr (o_2 r9 n_0) (fr_L39 r9 n_0)), w_2, hG, hS, lv_sub hl [0, 1, 2, 3, 4] rfl⟩
