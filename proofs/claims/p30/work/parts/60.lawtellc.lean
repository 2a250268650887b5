set_option maxHeartbeats 4000000 in
set_option maxRecDepth 100000 in
theorem c_L_does (l : Launch) (Z : dzG) (G : dzW) (ad : dzA) (hst : l.stackTraces = false) (aX : Nat) (S : lwS) (aN : Nat) (nv : Nat → Int32) (k n : Nat) (hC : lwC Z G ad aX S) (hB : lwB S) (han : ad (60, 0) = aN) (hn : G (60, 0) = some (eI Z 21 nv)) (hI : lw_I k S nv) (hk30 : k < 31) (hnb : n < 2 ^ 31) : dzWr l yL_does wsL_does 12 348 22 1272 Z G ad [.ref aX, .ref aN, .int (nI n)] rv_i (fun (x : Int32) G1 ad1 => ∃ (S' : lwS) (nv' : Nat → Int32), lwC Z G1 ad1 aX S' ∧ lwB S' ∧ G1 (60, 0) = some (eI Z 21 nv') ∧ ad1 (60, 0) = aN ∧ lw_I (k + 1) S' nv' ∧ ¬ x = -5 ∧ (lw_ref x → S' = S)) := by
  refine Met.ofW (cc := cL_does) (maxL := 6) (ret := (some .int)) (by decide) rfl ?_
  intro p e s m args below meth c s₁ B hml hv
  obtain ⟨rfl, hG, hE⟩ := hv
  have hx := B.exec
  have hb := B.bytes
  have hrt := B.returns
  have hts := atoms_spec (ws := wsL_does) B.pre
  have hown : s.vm.findClass RL = some m.cls := findClass_of_methodNamed B.named
  have hlocks := B.notSynchronized
  have hS : va_S (dz_A Z) s.heap s.heap [] := va_S.rf
  have hl := lv_entry ([.ref aX, .ref aN, .int (nI n)]) (n := 6) (Nat.le_of_ble_eq_true rfl)
  rw [lg_entry_eq]
  generalize (lg_sl ([.ref aX, .ref aN, .int (nI n)]) ++ List.replicate (6 - (lg_sl ([.ref aX, .ref aN, .int (nI n)])).length) Slot.unset).toArray = ls at hl ⊢
  have hl : lv_has ls 6 [(0, .ref aX), (1, .ref aN), (2, .int (nI n))] := hl
  obtain ⟨ha0, fs0, ho0⟩ := lwC.obj hC
  refine lv_iload_n hx hb dL_does_0 rfl (lv_at hl 2 rfl) ?_
  refine lv_bipush (v := 20) hx hb dL_does_1 (by decide) ?_
  refine lv_idiv hx hb dL_does_3 (by decide) ?_
  refine lv_topi (fun v_1 ev_1 => ?_)
  obtain rfl : v_1 = (nI (n / 20)) := ev_1.trans (q_div (b := 20) hnb (by decide) (by decide))
  refine lv_istore_n (lv' := [(3, .int (nI (n / 20))), (0, .ref aX), (1, .ref aN), (2, .int (nI n))]) hx hb dL_does_4 rfl hl (by decide) rfl (fun ls hl => ?_)
  refine lv_iload_n hx hb dL_does_5 rfl (lv_at hl 0 rfl) ?_
  refine lv_iconst (v := 3) hx hb dL_does_6 (by decide) ?_
  refine lv_irem hx hb dL_does_7 (by decide) ?_
  refine lv_topi (fun v_2 ev_2 => ?_)
  obtain rfl : v_2 = ((nI (n / 20)) - (nI (n / 20)) / 3 * 3) := ev_2
  refine lv_istore (lv' := [(4, .int ((nI (n / 20)) - (nI (n / 20)) / 3 * 3)), (3, .int (nI (n / 20))), (0, .ref aX), (1, .ref aN), (2, .int (nI n))]) hx hb dL_does_8 hl (by decide) rfl (fun ls hl => ?_)
  refine lv_iload_n hx hb dL_does_10 rfl (lv_at hl 4 rfl) ?_
  refine lv_bipush (v := 20) hx hb dL_does_11 (by decide) ?_
  refine lv_irem hx hb dL_does_13 (by decide) ?_
  obtain ⟨cs, hcs, ecs⟩ := q_20 hnb
  refine lv_topi (fun v_s ev_s => ?_)
  obtain rfl : v_s = nI cs := ev_s.trans ecs
  rcases (show cs = 0 ∨ cs = 1 ∨ cs = 2 ∨ cs = 3 ∨ cs = 4 ∨ cs = 5 ∨ cs = 6 ∨ cs = 7 ∨ cs = 8 ∨ cs = 9 ∨ cs = 10 ∨ cs = 11 ∨ cs = 12 ∨ 13 ≤ cs by omega) with rfl | rfl | rfl | rfl | rfl | rfl | rfl | rfl | rfl | rfl | rfl | rfl | rfl | h13
  · refine lv_tableIn (off := 66) (tgt := 80) hx hb dL_does_14 (by decide) (by decide) (by decide) (by decide) ?_
    refine lv_aload_n hx hb dL_does_80 rfl (lv_at hl 2 rfl) ?_
    refine lv_iload_n hx hb dL_does_81 rfl (lv_at hl 1 rfl) ?_
    refine lv_iconst (v := 4) hx hb dL_does_82 (by decide) ?_
    refine lv_irem hx hb dL_does_83 (by decide) ?_
    refine lv_iload_n hx hb dL_does_84 rfl (lv_at hl 1 rfl) ?_
    refine lv_iconst (v := 4) hx hb dL_does_85 (by decide) ?_
    refine lv_idiv hx hb dL_does_86 (by decide) ?_
    refine lv_bipush (v := 7) hx hb dL_does_87 (by decide) ?_
    refine lv_irem hx hb dL_does_89 (by decide) ?_
    refine lv_iconst (v := 3) hx hb dL_does_90 (by decide) ?_
    refine lv_isub hx hb dL_does_91 ?_
    refine lv_iload_n hx hb dL_does_92 rfl (lv_at hl 1 rfl) ?_
    refine lv_bipush (v := 28) hx hb dL_does_93 (by decide) ?_
    refine lv_idiv hx hb dL_does_95 (by decide) ?_
    refine lv_bipush (v := 7) hx hb dL_does_96 (by decide) ?_
    refine lv_irem hx hb dL_does_98 (by decide) ?_
    refine lv_iconst (v := 3) hx hb dL_does_99 (by decide) ?_
    refine lv_isub hx hb dL_does_100 ?_
    refine lv_iload_n hx hb dL_does_101 rfl (lv_at hl 1 rfl) ?_
    refine lv_sipush (v := 196) hx hb dL_does_102 (by decide) ?_
    refine lv_idiv hx hb dL_does_105 (by decide) ?_
    refine lv_bipush (v := 9) hx hb dL_does_106 (by decide) ?_
    refine lv_irem hx hb dL_does_108 (by decide) ?_
    refine dz_kMi (vx_runSW (As := [_, _, _, _, _]) ⟨hx, hb, hml, hown, hts⟩ (t_mass l hst hC hB _ _ _ _) (vx_cwSW 5 hts gL_does_L_mass rfl rfl rfl (by decide +kernel) ⟨Nat.le_of_ble_eq_true rfl, Nat.le_of_ble_eq_true rfl⟩) (dz_P.pre hE hS hG) rfl rfl hl.1 rfl (lv_room (Nat.le_of_ble_eq_true rfl)) dL_does_109 ⟨Nat.le_of_ble_eq_true rfl, Nat.le_of_ble_eq_true rfl⟩) hS (fun x_109_1 G_109_1 ad_109_1 H locs hp_109_1 hG hS => ?_)
    obtain ⟨fr_109_1, S_109_1, hC_109_1, hB_109_1, hR_109_1⟩ := hp_109_1
    refine W.widen (k := 5) (n := 600) (by omega) (by omega) ?_
    obtain ⟨ha_1, fs_1, ho_1⟩ := lwC.obj hC_109_1
    refine lv_istore (lv' := [(5, .int x_109_1), (4, .int ((nI (n / 20)) - (nI (n / 20)) / 3 * 3)), (3, .int (nI (n / 20))), (0, .ref aX), (1, .ref aN), (2, .int (nI n))]) hx hb dL_does_112 hl (by decide) rfl (fun ls hl => ?_)
    rcases hR_109_1 with ⟨hr9, hS9⟩ | hR9
    · have h59 := q_r5 hr9
      refine lv_aload_n hx hb dL_does_114 rfl (lv_at hl 4 rfl) ?_
      refine lv_bipush (v := 19) hx hb dL_does_115 (by decide) ?_
      refine lv_iload hx hb dL_does_117 (lv_at hl 0 rfl) ?_
      refine dz_kRi (va_runS (As := [_]) ⟨hx, hb, hml, hown, hts⟩ (c_L_isRefused l Z _ _ x_109_1) (va_cwS 1 hts gL_does_L_isRefused rfl rfl rfl (by decide +kernel) ⟨Nat.le_of_ble_eq_true rfl, Nat.le_of_ble_eq_true rfl⟩) (dz_P.pre hE hS hG) rfl rfl hl.1 rfl (lv_room (Nat.le_of_ble_eq_true rfl)) dL_does_119 ⟨Nat.le_of_ble_eq_true rfl, Nat.le_of_ble_eq_true rfl⟩) ?_
      refine lv_topi (fun v_3 ev_3 => ?_)
      obtain rfl : v_3 = 1 := ev_3.trans (dz_b1 hr9)
      refine lv_if_eq (tgt := 132) hx hb dL_does_122 (by decide) (fun c_122 => absurd c_122 (by decide)) (fun c_122 => ?_)
      refine lv_aload_n hx hb dL_does_125 rfl (lv_at hl 4 rfl) ?_
      refine lv_bipush (v := 19) hx hb dL_does_126 (by decide) ?_
      refine dz_iald hx hb hE hG ((fr_109_1 (60, 0) rfl).2.trans han) ((fr_109_1 (60, 0) rfl).1.trans hn) (by unfold vp_in; decide) dL_does_128 ?_
      refine lv_topi (fun v_4 ev_4 => ?_)
      obtain rfl : v_4 = (nv 19) := ev_4
      refine lv_goto (tgt := 133) hx hb dL_does_129 (by decide) ?_
      refine dz_iast hx hb hE hG ((fr_109_1 (60, 0) rfl).2.trans han) hS ((fr_109_1 (60, 0) rfl).1.trans hn) (by unfold vp_in; decide) dL_does_133 (fun H locs hG hS => ?_)
      rw [show Int32.toNatClampNeg 19 = 19 from rfl] at hG
      obtain ⟨G_1, hG, w_1, o_1⟩ := dz_nm hG
      refine lv_iload hx hb dL_does_134 (lv_at hl 0 rfl) ?_
      refine dz_kRi (va_runS (As := [_]) ⟨hx, hb, hml, hown, hts⟩ (c_L_isRefused l Z _ _ x_109_1) (va_cwS 1 hts gL_does_L_isRefused rfl rfl rfl (by decide +kernel) ⟨Nat.le_of_ble_eq_true rfl, Nat.le_of_ble_eq_true rfl⟩) (dz_P.pre hE hS hG) rfl rfl hl.1 rfl (lv_room (Nat.le_of_ble_eq_true rfl)) dL_does_136 ⟨Nat.le_of_ble_eq_true rfl, Nat.le_of_ble_eq_true rfl⟩) ?_
      refine lv_topi (fun v_5 ev_5 => ?_)
      obtain rfl : v_5 = 1 := ev_5.trans (dz_b1 hr9)
      refine lv_if_ne (tgt := 149) hx hb dL_does_139 (by decide) (fun c_139 => ?_) (fun c_139 => absurd c_139 (by decide))
      refine lv_iload hx hb dL_does_149 (lv_at hl 0 rfl) ?_
      refine lv_goto (tgt := 156) hx hb dL_does_151 (by decide) ?_
      refine W.widen (k := 22) (n := 1272) (by first | omega | decide) (by first | omega | decide) ?_
      refine W.iret hx hb hrt (fun t ht hW => dz_endM (f := rv_i) _ hE hS hG ?_ ht hW) (fun q h => hS.2.2 q h) dL_does_156
      exact ⟨S_109_1, _, (lwC.frame hC_109_1 (fun r h => o_1 r (by rintro rfl; simp at h))), hB_109_1, w_1, ((fr_109_1 (60, 0) rfl).2.trans han), I_ref hS9 (by rw [q_ups]; exact hI), h59, fun _ => hS9⟩
    · obtain ⟨hnr9, h59⟩ := q_nn hR9.1
      refine lv_aload_n hx hb dL_does_114 rfl (lv_at hl 4 rfl) ?_
      refine lv_bipush (v := 19) hx hb dL_does_115 (by decide) ?_
      refine lv_iload hx hb dL_does_117 (lv_at hl 0 rfl) ?_
      refine dz_kRi (va_runS (As := [_]) ⟨hx, hb, hml, hown, hts⟩ (c_L_isRefused l Z _ _ x_109_1) (va_cwS 1 hts gL_does_L_isRefused rfl rfl rfl (by decide +kernel) ⟨Nat.le_of_ble_eq_true rfl, Nat.le_of_ble_eq_true rfl⟩) (dz_P.pre hE hS hG) rfl rfl hl.1 rfl (lv_room (Nat.le_of_ble_eq_true rfl)) dL_does_119 ⟨Nat.le_of_ble_eq_true rfl, Nat.le_of_ble_eq_true rfl⟩) ?_
      refine lv_topi (fun v_6 ev_6 => ?_)
      obtain rfl : v_6 = 0 := ev_6.trans (dz_b0 hnr9)
      refine lv_if_eq (tgt := 132) hx hb dL_does_122 (by decide) (fun c_122 => ?_) (fun c_122 => absurd (by decide) c_122)
      refine lv_iconst (v := (-1)) hx hb dL_does_132 (by decide) ?_
      refine dz_iast hx hb hE hG ((fr_109_1 (60, 0) rfl).2.trans han) hS ((fr_109_1 (60, 0) rfl).1.trans hn) (by unfold vp_in; decide) dL_does_133 (fun H locs hG hS => ?_)
      rw [show Int32.toNatClampNeg 19 = 19 from rfl] at hG
      obtain ⟨G_2, hG, w_2, o_2⟩ := dz_nm hG
      refine lv_iload hx hb dL_does_134 (lv_at hl 0 rfl) ?_
      refine dz_kRi (va_runS (As := [_]) ⟨hx, hb, hml, hown, hts⟩ (c_L_isRefused l Z _ _ x_109_1) (va_cwS 1 hts gL_does_L_isRefused rfl rfl rfl (by decide +kernel) ⟨Nat.le_of_ble_eq_true rfl, Nat.le_of_ble_eq_true rfl⟩) (dz_P.pre hE hS hG) rfl rfl hl.1 rfl (lv_room (Nat.le_of_ble_eq_true rfl)) dL_does_136 ⟨Nat.le_of_ble_eq_true rfl, Nat.le_of_ble_eq_true rfl⟩) ?_
      refine lv_topi (fun v_7 ev_7 => ?_)
      obtain rfl : v_7 = 0 := ev_7.trans (dz_b0 hnr9)
      refine lv_if_ne (tgt := 149) hx hb dL_does_139 (by decide) (fun c_139 => absurd (by decide) c_139) (fun c_139 => ?_)
      refine lv_aload_n hx hb dL_does_142 rfl (lv_at hl 3 rfl) ?_
      refine dz_kRi (va_runV (As := []) ⟨hx, hb, hml, hown, hts⟩ (r_frames l hst (lwC.frame hC_109_1 (fun r h => o_2 r (by rintro rfl; simp at h))) hB_109_1) (cwV 0 hts gL_does_X8_frames rfl rfl rfl (by decide +kernel) ⟨Nat.le_of_ble_eq_true rfl, Nat.le_of_ble_eq_true rfl⟩) (dz_P.preV hE hS hG ((o_2 _ (dz_n rfl)).1.trans ho_1) rfl ((o_2 _ (dz_n rfl)).2.trans ha_1)) rfl rfl hl.1 rfl (lv_room (Nat.le_of_ble_eq_true rfl)) dL_does_143 ⟨Nat.le_of_ble_eq_true rfl, Nat.le_of_ble_eq_true rfl⟩) ?_
      refine lv_topi (fun v_8 ev_8 => ?_)
      obtain rfl : v_8 = 0 := ev_8.trans ((congrArg nI hR9.2.2.1).trans nI_0)
      refine lv_if_ne (tgt := 154) hx hb dL_does_146 (by decide) (fun c_146 => absurd (by decide) c_146) (fun c_146 => ?_)
      refine lv_iload hx hb dL_does_149 (lv_at hl 0 rfl) ?_
      refine lv_goto (tgt := 156) hx hb dL_does_151 (by decide) ?_
      refine W.widen (k := 22) (n := 1272) (by first | omega | decide) (by first | omega | decide) ?_
      refine W.iret hx hb hrt (fun t ht hW => dz_endM (f := rv_i) _ hE hS hG ?_ ht hW) (fun q h => hS.2.2 q h) dL_does_156
      exact ⟨S_109_1, _, (lwC.frame hC_109_1 (fun r h => o_2 r (by rintro rfl; simp at h))), hB_109_1, w_2, ((fr_109_1 (60, 0) rfl).2.trans han), I_mass hR9.2.1 hR9.2.2.1 hR9.2.2.2.1 hR9.2.2.2.2.1 hR9.2.2.2.2.2 hI, h59, fun z => absurd z hnr9⟩
  · refine lv_tableIn (off := 143) (tgt := 157) hx hb dL_does_14 (by decide) (by decide) (by decide) (by decide) ?_
    refine lv_aload_n hx hb dL_does_157 rfl (lv_at hl 2 rfl) ?_
    refine lv_iload_n hx hb dL_does_158 rfl (lv_at hl 1 rfl) ?_
    refine lv_iconst (v := 4) hx hb dL_does_159 (by decide) ?_
    refine lv_irem hx hb dL_does_160 (by decide) ?_
    refine lv_iload_n hx hb dL_does_161 rfl (lv_at hl 1 rfl) ?_
    refine lv_iconst (v := 4) hx hb dL_does_162 (by decide) ?_
    refine lv_idiv hx hb dL_does_163 (by decide) ?_
    refine lv_bipush (v := 23) hx hb dL_does_164 (by decide) ?_
    refine lv_irem hx hb dL_does_166 (by decide) ?_
    refine lv_bipush (v := 11) hx hb dL_does_167 (by decide) ?_
    refine lv_isub hx hb dL_does_169 ?_
    refine lv_iload_n hx hb dL_does_170 rfl (lv_at hl 1 rfl) ?_
    refine lv_bipush (v := 92) hx hb dL_does_171 (by decide) ?_
    refine lv_idiv hx hb dL_does_173 (by decide) ?_
    refine lv_bipush (v := 7) hx hb dL_does_174 (by decide) ?_
    refine lv_irem hx hb dL_does_176 (by decide) ?_
    refine lv_iconst (v := 3) hx hb dL_does_177 (by decide) ?_
    refine lv_isub hx hb dL_does_178 ?_
    refine dz_kMi (vx_runSW (As := [_, _, _, _]) ⟨hx, hb, hml, hown, hts⟩ (t_two l hst hC hB _ _ _) (vx_cwSW 4 hts gL_does_L_two rfl rfl rfl (by decide +kernel) ⟨Nat.le_of_ble_eq_true rfl, Nat.le_of_ble_eq_true rfl⟩) (dz_P.pre hE hS hG) rfl rfl hl.1 rfl (lv_room (Nat.le_of_ble_eq_true rfl)) dL_does_179 ⟨Nat.le_of_ble_eq_true rfl, Nat.le_of_ble_eq_true rfl⟩) hS (fun x_179_2 G_179_2 ad_179_2 H locs hp_179_2 hG hS => ?_)
    obtain ⟨fr_179_2, S_179_2, hC_179_2, hB_179_2, hR_179_2⟩ := hp_179_2
    refine W.widen (k := 5) (n := 600) (by omega) (by omega) ?_
    obtain ⟨ha_2, fs_2, ho_2⟩ := lwC.obj hC_179_2
    refine lv_istore (lv' := [(5, .int x_179_2), (4, .int ((nI (n / 20)) - (nI (n / 20)) / 3 * 3)), (3, .int (nI (n / 20))), (0, .ref aX), (1, .ref aN), (2, .int (nI n))]) hx hb dL_does_182 hl (by decide) rfl (fun ls hl => ?_)
    rcases hR_179_2 with ⟨hr9, hS9⟩ | hR9
    · have h59 := q_r5 hr9
      refine lv_aload_n hx hb dL_does_184 rfl (lv_at hl 4 rfl) ?_
      refine lv_bipush (v := 19) hx hb dL_does_185 (by decide) ?_
      refine lv_iload hx hb dL_does_187 (lv_at hl 0 rfl) ?_
      refine dz_kRi (va_runS (As := [_]) ⟨hx, hb, hml, hown, hts⟩ (c_L_isRefused l Z _ _ x_179_2) (va_cwS 1 hts gL_does_L_isRefused rfl rfl rfl (by decide +kernel) ⟨Nat.le_of_ble_eq_true rfl, Nat.le_of_ble_eq_true rfl⟩) (dz_P.pre hE hS hG) rfl rfl hl.1 rfl (lv_room (Nat.le_of_ble_eq_true rfl)) dL_does_189 ⟨Nat.le_of_ble_eq_true rfl, Nat.le_of_ble_eq_true rfl⟩) ?_
      refine lv_topi (fun v_9 ev_9 => ?_)
      obtain rfl : v_9 = 1 := ev_9.trans (dz_b1 hr9)
      refine lv_if_eq (tgt := 202) hx hb dL_does_192 (by decide) (fun c_192 => absurd c_192 (by decide)) (fun c_192 => ?_)
      refine lv_aload_n hx hb dL_does_195 rfl (lv_at hl 4 rfl) ?_
      refine lv_bipush (v := 19) hx hb dL_does_196 (by decide) ?_
      refine dz_iald hx hb hE hG ((fr_179_2 (60, 0) rfl).2.trans han) ((fr_179_2 (60, 0) rfl).1.trans hn) (by unfold vp_in; decide) dL_does_198 ?_
      refine lv_topi (fun v_10 ev_10 => ?_)
      obtain rfl : v_10 = (nv 19) := ev_10
      refine lv_goto (tgt := 203) hx hb dL_does_199 (by decide) ?_
      refine dz_iast hx hb hE hG ((fr_179_2 (60, 0) rfl).2.trans han) hS ((fr_179_2 (60, 0) rfl).1.trans hn) (by unfold vp_in; decide) dL_does_203 (fun H locs hG hS => ?_)
      rw [show Int32.toNatClampNeg 19 = 19 from rfl] at hG
      obtain ⟨G_3, hG, w_3, o_3⟩ := dz_nm hG
      refine lv_iload hx hb dL_does_204 (lv_at hl 0 rfl) ?_
      refine dz_kRi (va_runS (As := [_]) ⟨hx, hb, hml, hown, hts⟩ (c_L_isRefused l Z _ _ x_179_2) (va_cwS 1 hts gL_does_L_isRefused rfl rfl rfl (by decide +kernel) ⟨Nat.le_of_ble_eq_true rfl, Nat.le_of_ble_eq_true rfl⟩) (dz_P.pre hE hS hG) rfl rfl hl.1 rfl (lv_room (Nat.le_of_ble_eq_true rfl)) dL_does_206 ⟨Nat.le_of_ble_eq_true rfl, Nat.le_of_ble_eq_true rfl⟩) ?_
      refine lv_topi (fun v_11 ev_11 => ?_)
      obtain rfl : v_11 = 1 := ev_11.trans (dz_b1 hr9)
      refine lv_if_ne (tgt := 219) hx hb dL_does_209 (by decide) (fun c_209 => ?_) (fun c_209 => absurd c_209 (by decide))
      refine lv_iload hx hb dL_does_219 (lv_at hl 0 rfl) ?_
      refine lv_goto (tgt := 226) hx hb dL_does_221 (by decide) ?_
      refine W.widen (k := 22) (n := 1272) (by first | omega | decide) (by first | omega | decide) ?_
      refine W.iret hx hb hrt (fun t ht hW => dz_endM (f := rv_i) _ hE hS hG ?_ ht hW) (fun q h => hS.2.2 q h) dL_does_226
      exact ⟨S_179_2, _, (lwC.frame hC_179_2 (fun r h => o_3 r (by rintro rfl; simp at h))), hB_179_2, w_3, ((fr_179_2 (60, 0) rfl).2.trans han), I_ref hS9 (by rw [q_ups]; exact hI), h59, fun _ => hS9⟩
    · obtain ⟨hnr9, h59⟩ := q_nn hR9.1
      refine lv_aload_n hx hb dL_does_184 rfl (lv_at hl 4 rfl) ?_
      refine lv_bipush (v := 19) hx hb dL_does_185 (by decide) ?_
      refine lv_iload hx hb dL_does_187 (lv_at hl 0 rfl) ?_
      refine dz_kRi (va_runS (As := [_]) ⟨hx, hb, hml, hown, hts⟩ (c_L_isRefused l Z _ _ x_179_2) (va_cwS 1 hts gL_does_L_isRefused rfl rfl rfl (by decide +kernel) ⟨Nat.le_of_ble_eq_true rfl, Nat.le_of_ble_eq_true rfl⟩) (dz_P.pre hE hS hG) rfl rfl hl.1 rfl (lv_room (Nat.le_of_ble_eq_true rfl)) dL_does_189 ⟨Nat.le_of_ble_eq_true rfl, Nat.le_of_ble_eq_true rfl⟩) ?_
      refine lv_topi (fun v_12 ev_12 => ?_)
      obtain rfl : v_12 = 0 := ev_12.trans (dz_b0 hnr9)
      refine lv_if_eq (tgt := 202) hx hb dL_does_192 (by decide) (fun c_192 => ?_) (fun c_192 => absurd (by decide) c_192)
      refine lv_iconst (v := (-1)) hx hb dL_does_202 (by decide) ?_
      refine dz_iast hx hb hE hG ((fr_179_2 (60, 0) rfl).2.trans han) hS ((fr_179_2 (60, 0) rfl).1.trans hn) (by unfold vp_in; decide) dL_does_203 (fun H locs hG hS => ?_)
      rw [show Int32.toNatClampNeg 19 = 19 from rfl] at hG
      obtain ⟨G_4, hG, w_4, o_4⟩ := dz_nm hG
      refine lv_iload hx hb dL_does_204 (lv_at hl 0 rfl) ?_
      refine dz_kRi (va_runS (As := [_]) ⟨hx, hb, hml, hown, hts⟩ (c_L_isRefused l Z _ _ x_179_2) (va_cwS 1 hts gL_does_L_isRefused rfl rfl rfl (by decide +kernel) ⟨Nat.le_of_ble_eq_true rfl, Nat.le_of_ble_eq_true rfl⟩) (dz_P.pre hE hS hG) rfl rfl hl.1 rfl (lv_room (Nat.le_of_ble_eq_true rfl)) dL_does_206 ⟨Nat.le_of_ble_eq_true rfl, Nat.le_of_ble_eq_true rfl⟩) ?_
      refine lv_topi (fun v_13 ev_13 => ?_)
      obtain rfl : v_13 = 0 := ev_13.trans (dz_b0 hnr9)
      refine lv_if_ne (tgt := 219) hx hb dL_does_209 (by decide) (fun c_209 => absurd (by decide) c_209) (fun c_209 => ?_)
      refine lv_aload_n hx hb dL_does_212 rfl (lv_at hl 3 rfl) ?_
      refine dz_kRi (va_runV (As := []) ⟨hx, hb, hml, hown, hts⟩ (r_frames l hst (lwC.frame hC_179_2 (fun r h => o_4 r (by rintro rfl; simp at h))) hB_179_2) (cwV 0 hts gL_does_X8_frames rfl rfl rfl (by decide +kernel) ⟨Nat.le_of_ble_eq_true rfl, Nat.le_of_ble_eq_true rfl⟩) (dz_P.preV hE hS hG ((o_4 _ (dz_n rfl)).1.trans ho_2) rfl ((o_4 _ (dz_n rfl)).2.trans ha_2)) rfl rfl hl.1 rfl (lv_room (Nat.le_of_ble_eq_true rfl)) dL_does_213 ⟨Nat.le_of_ble_eq_true rfl, Nat.le_of_ble_eq_true rfl⟩) ?_
      refine lv_topi (fun v_14 ev_14 => ?_)
      obtain rfl : v_14 = 0 := ev_14.trans ((congrArg nI hR9.2.2.1).trans nI_0)
      refine lv_if_ne (tgt := 224) hx hb dL_does_216 (by decide) (fun c_216 => absurd (by decide) c_216) (fun c_216 => ?_)
      refine lv_iload hx hb dL_does_219 (lv_at hl 0 rfl) ?_
      refine lv_goto (tgt := 226) hx hb dL_does_221 (by decide) ?_
      refine W.widen (k := 22) (n := 1272) (by first | omega | decide) (by first | omega | decide) ?_
      refine W.iret hx hb hrt (fun t ht hW => dz_endM (f := rv_i) _ hE hS hG ?_ ht hW) (fun q h => hS.2.2 q h) dL_does_226
      exact ⟨S_179_2, _, (lwC.frame hC_179_2 (fun r h => o_4 r (by rintro rfl; simp at h))), hB_179_2, w_4, ((fr_179_2 (60, 0) rfl).2.trans han), I_mass hR9.2.1 hR9.2.2.1 hR9.2.2.2.1 hR9.2.2.2.2.1 hR9.2.2.2.2.2 hI, h59, fun z => absurd z hnr9⟩
  · refine lv_tableIn (off := 213) (tgt := 227) hx hb dL_does_14 (by decide) (by decide) (by decide) (by decide) ?_
    refine lv_aload_n hx hb dL_does_227 rfl (lv_at hl 3 rfl) ?_
    refine lv_iconst (v := 1) hx hb dL_does_228 (by decide) ?_
    refine dz_iald hx hb hE hG han hn (by unfold vp_in; decide) dL_does_229 ?_
    refine lv_topi (fun v_15 ev_15 => ?_)
    obtain rfl : v_15 = (nI (S.1 1)) := ev_15.trans hI.1.1
    refine lv_iconst (v := 2) hx hb dL_does_230 (by decide) ?_
    refine lv_icmp_ne (tgt := 238) hx hb dL_does_231 (by decide) (fun c_231 => ?_) (fun c_231 => ?_)
    · have hs2 : ¬ S.1 1 = 2 := fun z => c_231 ((congrArg nI z).trans rfl)
      have hs1 := hI.1.2.1
      refine lv_aload_n hx hb dL_does_238 rfl (lv_at hl 2 rfl) ?_
      refine lv_iload_n hx hb dL_does_239 rfl (lv_at hl 1 rfl) ?_
      refine lv_iconst (v := 5) hx hb dL_does_240 (by decide) ?_
      refine lv_irem hx hb dL_does_241 (by decide) ?_
      refine lv_iconst (v := 2) hx hb dL_does_242 (by decide) ?_
      refine lv_isub hx hb dL_does_243 ?_
      refine lv_topi (fun v_16 ev_16 => ?_)
      obtain rfl : v_16 = ((nI (n / 20)) - (nI (n / 20)) / 5 * 5 - 2) := ev_16
      refine lv_iload_n hx hb dL_does_244 rfl (lv_at hl 1 rfl) ?_
      refine lv_iconst (v := 5) hx hb dL_does_245 (by decide) ?_
      refine lv_idiv hx hb dL_does_246 (by decide) ?_
      refine lv_iconst (v := 5) hx hb dL_does_247 (by decide) ?_
      refine lv_irem hx hb dL_does_248 (by decide) ?_
      refine lv_iconst (v := 2) hx hb dL_does_249 (by decide) ?_
      refine lv_isub hx hb dL_does_250 ?_
      refine lv_topi (fun v_17 ev_17 => ?_)
      obtain rfl : v_17 = ((nI (n / 20)) / 5 - (nI (n / 20)) / 5 / 5 * 5 - 2) := ev_17
      refine lv_iload_n hx hb dL_does_251 rfl (lv_at hl 1 rfl) ?_
      refine lv_bipush (v := 25) hx hb dL_does_252 (by decide) ?_
      refine lv_idiv hx hb dL_does_254 (by decide) ?_
      refine lv_bipush (v := 101) hx hb dL_does_255 (by decide) ?_
      refine lv_irem hx hb dL_does_257 (by decide) ?_
      refine dz_kMi (vx_runSW (As := [_, _, _, _]) ⟨hx, hb, hml, hown, hts⟩ (t_source l hst hC hB _ _ _) (vx_cwSW 4 hts gL_does_L_source rfl rfl rfl (by decide +kernel) ⟨Nat.le_of_ble_eq_true rfl, Nat.le_of_ble_eq_true rfl⟩) (dz_P.pre hE hS hG) rfl rfl hl.1 rfl (lv_room (Nat.le_of_ble_eq_true rfl)) dL_does_258 ⟨Nat.le_of_ble_eq_true rfl, Nat.le_of_ble_eq_true rfl⟩) hS (fun x_258_3 G_258_3 ad_258_3 H locs hp_258_3 hG hS => ?_)
      obtain ⟨fr_258_3, S_258_3, hC_258_3, hB_258_3, hR_258_3⟩ := hp_258_3
      refine W.widen (k := 5) (n := 600) (by omega) (by omega) ?_
      obtain ⟨ha_3, fs_3, ho_3⟩ := lwC.obj hC_258_3
      refine lv_istore (lv' := [(5, .int x_258_3), (4, .int ((nI (n / 20)) - (nI (n / 20)) / 3 * 3)), (3, .int (nI (n / 20))), (0, .ref aX), (1, .ref aN), (2, .int (nI n))]) hx hb dL_does_261 hl (by decide) rfl (fun ls hl => ?_)
      rcases hR_258_3 with ⟨hr9, hS9⟩ | hR9
      · have h59 := q_r5 hr9
        refine lv_aload_n hx hb dL_does_263 rfl (lv_at hl 4 rfl) ?_
        refine lv_iconst (v := 1) hx hb dL_does_264 (by decide) ?_
        refine dz_iald hx hb hE hG ((fr_258_3 (60, 0) rfl).2.trans han) ((fr_258_3 (60, 0) rfl).1.trans hn) (by unfold vp_in; decide) dL_does_265 ?_
        refine lv_topi (fun v_18 ev_18 => ?_)
        obtain rfl : v_18 = (nI (S.1 1)) := ev_18.trans hI.1.1
        refine lv_iconst (v := 2) hx hb dL_does_266 (by decide) ?_
        refine lv_icmp_ge (tgt := 315) hx hb dL_does_267 (by decide) (fun c_267 => absurd c_267 (nI_ge (a := S.1 1) (b := 2) (by omega) (by decide))) (fun c_267 => ?_)
        refine lv_iload hx hb dL_does_270 (lv_at hl 0 rfl) ?_
        refine dz_kRi (va_runS (As := [_]) ⟨hx, hb, hml, hown, hts⟩ (c_L_isRefused l Z _ _ x_258_3) (va_cwS 1 hts gL_does_L_isRefused rfl rfl rfl (by decide +kernel) ⟨Nat.le_of_ble_eq_true rfl, Nat.le_of_ble_eq_true rfl⟩) (dz_P.pre hE hS hG) rfl rfl hl.1 rfl (lv_room (Nat.le_of_ble_eq_true rfl)) dL_does_272 ⟨Nat.le_of_ble_eq_true rfl, Nat.le_of_ble_eq_true rfl⟩) ?_
        refine lv_topi (fun v_19 ev_19 => ?_)
        obtain rfl : v_19 = 1 := ev_19.trans (dz_b1 hr9)
        refine lv_if_ne (tgt := 315) hx hb dL_does_275 (by decide) (fun c_275 => ?_) (fun c_275 => absurd c_275 (by decide))
        refine lv_iload hx hb dL_does_315 (lv_at hl 0 rfl) ?_
        refine W.widen (k := 22) (n := 1272) (by first | omega | decide) (by first | omega | decide) ?_
        refine W.iret hx hb hrt (fun t ht hW => dz_endM (f := rv_i) _ hE hS hG ?_ ht hW) (fun q h => hS.2.2 q h) dL_does_317
        exact ⟨S_258_3, nv, hC_258_3, hB_258_3, ((fr_258_3 (60, 0) rfl).1.trans hn), ((fr_258_3 (60, 0) rfl).2.trans han), I_ref hS9 hI, h59, fun _ => hS9⟩
      · obtain ⟨hnr9, h59⟩ := q_nn hR9.1
        refine lv_aload_n hx hb dL_does_263 rfl (lv_at hl 4 rfl) ?_
        refine lv_iconst (v := 1) hx hb dL_does_264 (by decide) ?_
        refine dz_iald hx hb hE hG ((fr_258_3 (60, 0) rfl).2.trans han) ((fr_258_3 (60, 0) rfl).1.trans hn) (by unfold vp_in; decide) dL_does_265 ?_
        refine lv_topi (fun v_20 ev_20 => ?_)
        obtain rfl : v_20 = (nI (S.1 1)) := ev_20.trans hI.1.1
        refine lv_iconst (v := 2) hx hb dL_does_266 (by decide) ?_
        refine lv_icmp_ge (tgt := 315) hx hb dL_does_267 (by decide) (fun c_267 => absurd c_267 (nI_ge (a := S.1 1) (b := 2) (by omega) (by decide))) (fun c_267 => ?_)
        refine lv_iload hx hb dL_does_270 (lv_at hl 0 rfl) ?_
        refine dz_kRi (va_runS (As := [_]) ⟨hx, hb, hml, hown, hts⟩ (c_L_isRefused l Z _ _ x_258_3) (va_cwS 1 hts gL_does_L_isRefused rfl rfl rfl (by decide +kernel) ⟨Nat.le_of_ble_eq_true rfl, Nat.le_of_ble_eq_true rfl⟩) (dz_P.pre hE hS hG) rfl rfl hl.1 rfl (lv_room (Nat.le_of_ble_eq_true rfl)) dL_does_272 ⟨Nat.le_of_ble_eq_true rfl, Nat.le_of_ble_eq_true rfl⟩) ?_
        refine lv_topi (fun v_21 ev_21 => ?_)
        obtain rfl : v_21 = 0 := ev_21.trans (dz_b0 hnr9)
        refine lv_if_ne (tgt := 315) hx hb dL_does_275 (by decide) (fun c_275 => absurd (by decide) c_275) (fun c_275 => ?_)
        refine lv_aload_n hx hb dL_does_278 rfl (lv_at hl 4 rfl) ?_
        refine lv_iconst (v := 3) hx hb dL_does_279 (by decide) ?_
        refine lv_iconst (v := 2) hx hb dL_does_280 (by decide) ?_
        refine lv_aload_n hx hb dL_does_281 rfl (lv_at hl 4 rfl) ?_
        refine lv_iconst (v := 1) hx hb dL_does_282 (by decide) ?_
        refine dz_iald hx hb hE hG ((fr_258_3 (60, 0) rfl).2.trans han) ((fr_258_3 (60, 0) rfl).1.trans hn) (by unfold vp_in; decide) dL_does_283 ?_
        refine lv_topi (fun v_22 ev_22 => ?_)
        obtain rfl : v_22 = (nI (S.1 1)) := ev_22.trans hI.1.1
        refine lv_imul hx hb dL_does_284 ?_
        refine lv_iadd hx hb dL_does_285 ?_
        refine lv_topi (fun v_23 ev_23 => ?_)
        obtain rfl : v_23 = (nI (3 + 2 * S.1 1)) := ev_23.trans ((congrArg (fun x => 3 + x) (nI_mul2 _ (by omega))).trans (nI_add 3 _))
        refine lv_iload_n hx hb dL_does_286 rfl (lv_at hl 2 rfl) ?_
        refine lv_iconst (v := 5) hx hb dL_does_287 (by decide) ?_
        refine lv_irem hx hb dL_does_288 (by decide) ?_
        refine lv_iconst (v := 2) hx hb dL_does_289 (by decide) ?_
        refine lv_isub hx hb dL_does_290 ?_
        refine lv_topi (fun v_24 ev_24 => ?_)
        obtain rfl : v_24 = ((nI (n / 20)) - (nI (n / 20)) / 5 * 5 - 2) := ev_24
        refine dz_iast hx hb hE hG ((fr_258_3 (60, 0) rfl).2.trans han) hS ((fr_258_3 (60, 0) rfl).1.trans hn) (vp_in_nI (by omega) (by decide)) dL_does_291 (fun H locs hG hS => ?_)
        rw [nI_clamp (show (3 + 2 * S.1 1) < 2 ^ 31 by omega)] at hG
        obtain ⟨G_5, hG, w_5, o_5⟩ := dz_nm hG
        refine lv_aload_n hx hb dL_does_292 rfl (lv_at hl 4 rfl) ?_
        refine lv_iconst (v := 4) hx hb dL_does_293 (by decide) ?_
        refine lv_iconst (v := 2) hx hb dL_does_294 (by decide) ?_
        refine lv_aload_n hx hb dL_does_295 rfl (lv_at hl 4 rfl) ?_
        refine lv_iconst (v := 1) hx hb dL_does_296 (by decide) ?_
        refine dz_iald hx hb hE hG ((fr_258_3 (60, 0) rfl).2.trans han) w_5 (by unfold vp_in; decide) dL_does_297 ?_
        refine lv_topi (fun v_25 ev_25 => ?_)
        obtain rfl : v_25 = (nI (S.1 1)) := ev_25.trans ((pk_un (show 1 ≠ 3 + 2 * S.1 1 by omega)).trans hI.1.1)
        refine lv_imul hx hb dL_does_298 ?_
        refine lv_iadd hx hb dL_does_299 ?_
        refine lv_topi (fun v_26 ev_26 => ?_)
        obtain rfl : v_26 = (nI (4 + 2 * S.1 1)) := ev_26.trans ((congrArg (fun x => 4 + x) (nI_mul2 _ (by omega))).trans (nI_add 4 _))
        refine lv_iload_n hx hb dL_does_300 rfl (lv_at hl 2 rfl) ?_
        refine lv_iconst (v := 5) hx hb dL_does_301 (by decide) ?_
        refine lv_idiv hx hb dL_does_302 (by decide) ?_
        refine lv_iconst (v := 5) hx hb dL_does_303 (by decide) ?_
        refine lv_irem hx hb dL_does_304 (by decide) ?_
        refine lv_iconst (v := 2) hx hb dL_does_305 (by decide) ?_
        refine lv_isub hx hb dL_does_306 ?_
        refine lv_topi (fun v_27 ev_27 => ?_)
        obtain rfl : v_27 = ((nI (n / 20)) / 5 - (nI (n / 20)) / 5 / 5 * 5 - 2) := ev_27
        refine dz_iast hx hb hE hG ((fr_258_3 (60, 0) rfl).2.trans han) hS w_5 (vp_in_nI (by omega) (by decide)) dL_does_307 (fun H locs hG hS => ?_)
        rw [nI_clamp (show (4 + 2 * S.1 1) < 2 ^ 31 by omega)] at hG
        obtain ⟨G_6, hG, w_6, o_6⟩ := dz_nm hG
        refine lv_aload_n hx hb dL_does_308 rfl (lv_at hl 4 rfl) ?_
        refine lv_iconst (v := 1) hx hb dL_does_309 (by decide) ?_
        refine lv_dup2_11 hx hb dL_does_310 rfl rfl ?_
        refine dz_iald hx hb hE hG ((fr_258_3 (60, 0) rfl).2.trans han) w_6 (by unfold vp_in; decide) dL_does_311 ?_
        refine lv_topi (fun v_28 ev_28 => ?_)
        obtain rfl : v_28 = (nI (S.1 1)) := ev_28.trans ((pk_un (show 1 ≠ 4 + 2 * S.1 1 by omega)).trans ((pk_un (show 1 ≠ 3 + 2 * S.1 1 by omega)).trans hI.1.1))
        refine lv_iconst (v := 1) hx hb dL_does_312 (by decide) ?_
        refine lv_iadd hx hb dL_does_313 ?_
        refine lv_topi (fun v_29 ev_29 => ?_)
        obtain rfl : v_29 = (nI (S.1 1 + 1)) := ev_29.trans (nI_1 _)
        refine dz_iast hx hb hE hG ((fr_258_3 (60, 0) rfl).2.trans han) hS w_6 (by unfold vp_in; decide) dL_does_314 (fun H locs hG hS => ?_)
        rw [show Int32.toNatClampNeg 1 = 1 from rfl] at hG
        obtain ⟨G_7, hG, w_7, o_7⟩ := dz_nm hG
        refine lv_iload hx hb dL_does_315 (lv_at hl 0 rfl) ?_
        refine W.widen (k := 22) (n := 1272) (by first | omega | decide) (by first | omega | decide) ?_
        refine W.iret hx hb hrt (fun t ht hW => dz_endM (f := rv_i) _ hE hS hG ?_ ht hW) (fun q h => hS.2.2 q h) dL_does_317
        exact ⟨S_258_3, _, (lwC.frame (lwC.frame (lwC.frame hC_258_3 (fun r h => o_5 r (by rintro rfl; simp at h))) (fun r h => o_6 r (by rintro rfl; simp at h))) (fun r h => o_7 r (by rintro rfl; simp at h))), hB_258_3, w_7, ((fr_258_3 (60, 0) rfl).2.trans han), I_source (by omega) hR9.2.1 hR9.2.2.1 hR9.2.2.2.1 hR9.2.2.2.2.1 hR9.2.2.2.2.2 hI, h59, fun z => absurd z hnr9⟩
    · have c_231s : nI (S.1 1) = 2 := c_231
      refine lv_iconst (v := 0) hx hb dL_does_234 (by decide) ?_
      refine lv_goto (tgt := 261) hx hb dL_does_235 (by decide) ?_
      refine lv_istore (lv' := [(5, .int 0), (4, .int ((nI (n / 20)) - (nI (n / 20)) / 3 * 3)), (3, .int (nI (n / 20))), (0, .ref aX), (1, .ref aN), (2, .int (nI n))]) hx hb dL_does_261 hl (by decide) rfl (fun ls hl => ?_)
      refine lv_aload_n hx hb dL_does_263 rfl (lv_at hl 4 rfl) ?_
      refine lv_iconst (v := 1) hx hb dL_does_264 (by decide) ?_
      refine dz_iald hx hb hE hG han hn (by unfold vp_in; decide) dL_does_265 ?_
      refine lv_topi (fun v_30 ev_30 => ?_)
      obtain rfl : v_30 = (nI (S.1 1)) := ev_30.trans hI.1.1
      refine lv_iconst (v := 2) hx hb dL_does_266 (by decide) ?_
      refine lv_icmp_ge (tgt := 315) hx hb dL_does_267 (by decide) (fun c_267 => ?_) (fun c_267 => absurd (by rw [show nI (S.1 1) = 2 from c_231s]; exact Int32.le_refl _) c_267)
      refine lv_iload hx hb dL_does_315 (lv_at hl 0 rfl) ?_
      refine W.widen (k := 22) (n := 1272) (by first | omega | decide) (by first | omega | decide) ?_
      refine W.iret hx hb hrt (fun t ht hW => dz_endM (f := rv_i) _ hE hS hG ?_ ht hW) (fun q h => hS.2.2 q h) dL_does_317
      exact ⟨S, nv, hC, hB, hn, han, I_mono hI, by decide, fun z => absurd z (by decide)⟩
  · refine lv_tableIn (off := 304) (tgt := 318) hx hb dL_does_14 (by decide) (by decide) (by decide) (by decide) ?_
    refine lv_aload_n hx hb dL_does_318 rfl (lv_at hl 2 rfl) ?_
    refine lv_iload hx hb dL_does_319 (lv_at hl 0 rfl) ?_
    refine lv_iload_n hx hb dL_does_321 rfl (lv_at hl 1 rfl) ?_
    refine lv_iconst (v := 3) hx hb dL_does_322 (by decide) ?_
    refine lv_idiv hx hb dL_does_323 (by decide) ?_
    refine lv_sipush (v := 240) hx hb dL_does_324 (by decide) ?_
    refine lv_irem hx hb dL_does_327 (by decide) ?_
    refine lv_bipush (v := 120) hx hb dL_does_328 (by decide) ?_
    refine lv_isub hx hb dL_does_330 ?_
    refine dz_kMi (vx_runSW (As := [_, _, _]) ⟨hx, hb, hml, hown, hts⟩ (t_flare l hst hC hB _ _) (vx_cwSW 3 hts gL_does_L_flare rfl rfl rfl (by decide +kernel) ⟨Nat.le_of_ble_eq_true rfl, Nat.le_of_ble_eq_true rfl⟩) (dz_P.pre hE hS hG) rfl rfl hl.1 rfl (lv_room (Nat.le_of_ble_eq_true rfl)) dL_does_331 ⟨Nat.le_of_ble_eq_true rfl, Nat.le_of_ble_eq_true rfl⟩) hS (fun x_331_4 G_331_4 ad_331_4 H locs hp_331_4 hG hS => ?_)
    obtain ⟨fr_331_4, S_331_4, hC_331_4, hB_331_4, hR_331_4⟩ := hp_331_4
    refine W.widen (k := 5) (n := 600) (by omega) (by omega) ?_
    obtain ⟨ha_4, fs_4, ho_4⟩ := lwC.obj hC_331_4
    refine W.widen (k := 22) (n := 1272) (by first | omega | decide) (by first | omega | decide) ?_
    refine W.iret hx hb hrt (fun t ht hW => dz_endM (f := rv_i) _ hE hS hG ?_ ht hW) (fun q h => hS.2.2 q h) dL_does_334
    rcases hR_331_4 with ⟨hr9, hS9⟩ | hR9
    · exact ⟨S_331_4, nv, hC_331_4, hB_331_4, ((fr_331_4 (60, 0) rfl).1.trans hn), ((fr_331_4 (60, 0) rfl).2.trans han), I_ref hS9 hI, q_r5 hr9, fun _ => hS9⟩
    · exact ⟨S_331_4, nv, hC_331_4, hB_331_4, ((fr_331_4 (60, 0) rfl).1.trans hn), ((fr_331_4 (60, 0) rfl).2.trans han), I_same hR9.2.1 hR9.2.2.1 hR9.2.2.2.1 hR9.2.2.2.2.1 hR9.2.2.2.2.2 hI, (q_nn hR9.1).2, fun z => absurd z (q_nn hR9.1).1⟩
  · refine lv_tableIn (off := 304) (tgt := 318) hx hb dL_does_14 (by decide) (by decide) (by decide) (by decide) ?_
    refine lv_aload_n hx hb dL_does_318 rfl (lv_at hl 2 rfl) ?_
    refine lv_iload hx hb dL_does_319 (lv_at hl 0 rfl) ?_
    refine lv_iload_n hx hb dL_does_321 rfl (lv_at hl 1 rfl) ?_
    refine lv_iconst (v := 3) hx hb dL_does_322 (by decide) ?_
    refine lv_idiv hx hb dL_does_323 (by decide) ?_
    refine lv_sipush (v := 240) hx hb dL_does_324 (by decide) ?_
    refine lv_irem hx hb dL_does_327 (by decide) ?_
    refine lv_bipush (v := 120) hx hb dL_does_328 (by decide) ?_
    refine lv_isub hx hb dL_does_330 ?_
    refine dz_kMi (vx_runSW (As := [_, _, _]) ⟨hx, hb, hml, hown, hts⟩ (t_flare l hst hC hB _ _) (vx_cwSW 3 hts gL_does_L_flare rfl rfl rfl (by decide +kernel) ⟨Nat.le_of_ble_eq_true rfl, Nat.le_of_ble_eq_true rfl⟩) (dz_P.pre hE hS hG) rfl rfl hl.1 rfl (lv_room (Nat.le_of_ble_eq_true rfl)) dL_does_331 ⟨Nat.le_of_ble_eq_true rfl, Nat.le_of_ble_eq_true rfl⟩) hS (fun x_331_5 G_331_5 ad_331_5 H locs hp_331_5 hG hS => ?_)
    obtain ⟨fr_331_5, S_331_5, hC_331_5, hB_331_5, hR_331_5⟩ := hp_331_5
    refine W.widen (k := 5) (n := 600) (by omega) (by omega) ?_
    obtain ⟨ha_5, fs_5, ho_5⟩ := lwC.obj hC_331_5
    refine W.widen (k := 22) (n := 1272) (by first | omega | decide) (by first | omega | decide) ?_
    refine W.iret hx hb hrt (fun t ht hW => dz_endM (f := rv_i) _ hE hS hG ?_ ht hW) (fun q h => hS.2.2 q h) dL_does_334
    rcases hR_331_5 with ⟨hr9, hS9⟩ | hR9
    · exact ⟨S_331_5, nv, hC_331_5, hB_331_5, ((fr_331_5 (60, 0) rfl).1.trans hn), ((fr_331_5 (60, 0) rfl).2.trans han), I_ref hS9 hI, q_r5 hr9, fun _ => hS9⟩
    · exact ⟨S_331_5, nv, hC_331_5, hB_331_5, ((fr_331_5 (60, 0) rfl).1.trans hn), ((fr_331_5 (60, 0) rfl).2.trans han), I_same hR9.2.1 hR9.2.2.1 hR9.2.2.2.1 hR9.2.2.2.2.1 hR9.2.2.2.2.2 hI, (q_nn hR9.1).2, fun z => absurd z (q_nn hR9.1).1⟩
  · refine lv_tableIn (off := 321) (tgt := 335) hx hb dL_does_14 (by decide) (by decide) (by decide) (by decide) ?_
    refine lv_aload_n hx hb dL_does_335 rfl (lv_at hl 2 rfl) ?_
    refine lv_iload hx hb dL_does_336 (lv_at hl 0 rfl) ?_
    refine lv_iload_n hx hb dL_does_338 rfl (lv_at hl 1 rfl) ?_
    refine lv_iconst (v := 3) hx hb dL_does_339 (by decide) ?_
    refine lv_idiv hx hb dL_does_340 (by decide) ?_
    refine lv_iconst (v := 5) hx hb dL_does_341 (by decide) ?_
    refine lv_irem hx hb dL_does_342 (by decide) ?_
    refine lv_iload_n hx hb dL_does_343 rfl (lv_at hl 1 rfl) ?_
    refine lv_bipush (v := 15) hx hb dL_does_344 (by decide) ?_
    refine lv_idiv hx hb dL_does_346 (by decide) ?_
    refine lv_bipush (v := 52) hx hb dL_does_347 (by decide) ?_
    refine lv_irem hx hb dL_does_349 (by decide) ?_
    refine lv_iload_n hx hb dL_does_350 rfl (lv_at hl 1 rfl) ?_
    refine lv_sipush (v := 780) hx hb dL_does_351 (by decide) ?_
    refine lv_idiv hx hb dL_does_354 (by decide) ?_
    refine lv_sipush (v := 1100) hx hb dL_does_355 (by decide) ?_
    refine lv_irem hx hb dL_does_358 (by decide) ?_
    refine dz_kMi (vx_runSW (As := [_, _, _, _, _]) ⟨hx, hb, hml, hown, hts⟩ (t_cross l hst hC hB _ _ _ _) (vx_cwSW 5 hts gL_does_L_cross rfl rfl rfl (by decide +kernel) ⟨Nat.le_of_ble_eq_true rfl, Nat.le_of_ble_eq_true rfl⟩) (dz_P.pre hE hS hG) rfl rfl hl.1 rfl (lv_room (Nat.le_of_ble_eq_true rfl)) dL_does_359 ⟨Nat.le_of_ble_eq_true rfl, Nat.le_of_ble_eq_true rfl⟩) hS (fun x_359_6 G_359_6 ad_359_6 H locs hp_359_6 hG hS => ?_)
    obtain ⟨fr_359_6, S_359_6, hC_359_6, hB_359_6, hR_359_6⟩ := hp_359_6
    refine W.widen (k := 5) (n := 600) (by omega) (by omega) ?_
    obtain ⟨ha_6, fs_6, ho_6⟩ := lwC.obj hC_359_6
    refine W.widen (k := 22) (n := 1272) (by first | omega | decide) (by first | omega | decide) ?_
    refine W.iret hx hb hrt (fun t ht hW => dz_endM (f := rv_i) _ hE hS hG ?_ ht hW) (fun q h => hS.2.2 q h) dL_does_362
    rcases hR_359_6 with ⟨hr9, hS9⟩ | hR9
    · exact ⟨S_359_6, nv, hC_359_6, hB_359_6, ((fr_359_6 (60, 0) rfl).1.trans hn), ((fr_359_6 (60, 0) rfl).2.trans han), I_ref hS9 hI, q_r5 hr9, fun _ => hS9⟩
    · exact ⟨S_359_6, nv, hC_359_6, hB_359_6, ((fr_359_6 (60, 0) rfl).1.trans hn), ((fr_359_6 (60, 0) rfl).2.trans han), I_same hR9.2.1 hR9.2.2.1 hR9.2.2.2.1 hR9.2.2.2.2.1 hR9.2.2.2.2.2 hI, (q_nn hR9.1).2, fun z => absurd z (q_nn hR9.1).1⟩
  · refine lv_tableIn (off := 349) (tgt := 363) hx hb dL_does_14 (by decide) (by decide) (by decide) (by decide) ?_
    refine lv_aload_n hx hb dL_does_363 rfl (lv_at hl 2 rfl) ?_
    refine lv_iconst (v := 0) hx hb dL_does_364 (by decide) ?_
    refine lv_bipush (v := 60) hx hb dL_does_365 (by decide) ?_
    refine lv_iload_n hx hb dL_does_367 rfl (lv_at hl 1 rfl) ?_
    refine lv_bipush (v := 60) hx hb dL_does_368 (by decide) ?_
    refine lv_irem hx hb dL_does_370 (by decide) ?_
    refine lv_iadd hx hb dL_does_371 ?_
    refine dz_kMi (vx_runSW (As := [_, _, _]) ⟨hx, hb, hml, hown, hts⟩ (t_season l hst hC hB _ _) (vx_cwSW 3 hts gL_does_L_season rfl rfl rfl (by decide +kernel) ⟨Nat.le_of_ble_eq_true rfl, Nat.le_of_ble_eq_true rfl⟩) (dz_P.pre hE hS hG) rfl rfl hl.1 rfl (lv_room (Nat.le_of_ble_eq_true rfl)) dL_does_372 ⟨Nat.le_of_ble_eq_true rfl, Nat.le_of_ble_eq_true rfl⟩) hS (fun x_372_7 G_372_7 ad_372_7 H locs hp_372_7 hG hS => ?_)
    obtain ⟨fr_372_7, S_372_7, hC_372_7, hB_372_7, hR_372_7⟩ := hp_372_7
    refine W.widen (k := 5) (n := 600) (by omega) (by omega) ?_
    obtain ⟨ha_7, fs_7, ho_7⟩ := lwC.obj hC_372_7
    refine W.widen (k := 22) (n := 1272) (by first | omega | decide) (by first | omega | decide) ?_
    refine W.iret hx hb hrt (fun t ht hW => dz_endM (f := rv_i) _ hE hS hG ?_ ht hW) (fun q h => hS.2.2 q h) dL_does_375
    rcases hR_372_7 with ⟨hr9, hS9⟩ | hR9
    · exact ⟨S_372_7, nv, hC_372_7, hB_372_7, ((fr_372_7 (60, 0) rfl).1.trans hn), ((fr_372_7 (60, 0) rfl).2.trans han), I_ref hS9 hI, q_r5 hr9, fun _ => hS9⟩
    · exact ⟨S_372_7, nv, hC_372_7, hB_372_7, ((fr_372_7 (60, 0) rfl).1.trans hn), ((fr_372_7 (60, 0) rfl).2.trans han), I_same hR9.2.1 hR9.2.2.1 hR9.2.2.2.1 hR9.2.2.2.2.1 hR9.2.2.2.2.2 hI, (q_nn hR9.1).2, fun z => absurd z (q_nn hR9.1).1⟩
  · refine lv_tableIn (off := 362) (tgt := 376) hx hb dL_does_14 (by decide) (by decide) (by decide) (by decide) ?_
    refine lv_aload_n hx hb dL_does_376 rfl (lv_at hl 2 rfl) ?_
    refine lv_iload_n hx hb dL_does_377 rfl (lv_at hl 1 rfl) ?_
    refine lv_iconst (v := 4) hx hb dL_does_378 (by decide) ?_
    refine lv_irem hx hb dL_does_379 (by decide) ?_
    refine dz_kMi (vx_runSW (As := [_, _]) ⟨hx, hb, hml, hown, hts⟩ (t_cloud l hst hC hB _) (vx_cwSW 2 hts gL_does_L_cloud rfl rfl rfl (by decide +kernel) ⟨Nat.le_of_ble_eq_true rfl, Nat.le_of_ble_eq_true rfl⟩) (dz_P.pre hE hS hG) rfl rfl hl.1 rfl (lv_room (Nat.le_of_ble_eq_true rfl)) dL_does_380 ⟨Nat.le_of_ble_eq_true rfl, Nat.le_of_ble_eq_true rfl⟩) hS (fun x_380_8 G_380_8 ad_380_8 H locs hp_380_8 hG hS => ?_)
    obtain ⟨fr_380_8, S_380_8, hC_380_8, hB_380_8, hR_380_8⟩ := hp_380_8
    refine W.widen (k := 5) (n := 600) (by omega) (by omega) ?_
    obtain ⟨ha_8, fs_8, ho_8⟩ := lwC.obj hC_380_8
    refine W.widen (k := 22) (n := 1272) (by first | omega | decide) (by first | omega | decide) ?_
    refine W.iret hx hb hrt (fun t ht hW => dz_endM (f := rv_i) _ hE hS hG ?_ ht hW) (fun q h => hS.2.2 q h) dL_does_383
    rcases hR_380_8 with ⟨hr9, hS9⟩ | hR9
    · exact ⟨S_380_8, nv, hC_380_8, hB_380_8, ((fr_380_8 (60, 0) rfl).1.trans hn), ((fr_380_8 (60, 0) rfl).2.trans han), I_ref hS9 hI, q_r5 hr9, fun _ => hS9⟩
    · exact ⟨S_380_8, nv, hC_380_8, hB_380_8, ((fr_380_8 (60, 0) rfl).1.trans hn), ((fr_380_8 (60, 0) rfl).2.trans han), I_same hR9.2.1 hR9.2.2.1 hR9.2.2.2.1 hR9.2.2.2.2.1 hR9.2.2.2.2.2 hI, (q_nn hR9.1).2, fun z => absurd z (q_nn hR9.1).1⟩
  · refine lv_tableIn (off := 370) (tgt := 384) hx hb dL_does_14 (by decide) (by decide) (by decide) (by decide) ?_
    refine lv_aload_n hx hb dL_does_384 rfl (lv_at hl 2 rfl) ?_
    refine lv_bipush (v := 35) hx hb dL_does_385 (by decide) ?_
    refine lv_iload_n hx hb dL_does_387 rfl (lv_at hl 1 rfl) ?_
    refine lv_bipush (v := 70) hx hb dL_does_388 (by decide) ?_
    refine lv_irem hx hb dL_does_390 (by decide) ?_
    refine lv_iadd hx hb dL_does_391 ?_
    refine dz_kMi (vx_runSW (As := [_, _]) ⟨hx, hb, hml, hown, hts⟩ (t_world l hst hC hB _) (vx_cwSW 2 hts gL_does_L_world rfl rfl rfl (by decide +kernel) ⟨Nat.le_of_ble_eq_true rfl, Nat.le_of_ble_eq_true rfl⟩) (dz_P.pre hE hS hG) rfl rfl hl.1 rfl (lv_room (Nat.le_of_ble_eq_true rfl)) dL_does_392 ⟨Nat.le_of_ble_eq_true rfl, Nat.le_of_ble_eq_true rfl⟩) hS (fun x_392_9 G_392_9 ad_392_9 H locs hp_392_9 hG hS => ?_)
    obtain ⟨fr_392_9, S_392_9, hC_392_9, hB_392_9, hR_392_9⟩ := hp_392_9
    refine W.widen (k := 5) (n := 600) (by omega) (by omega) ?_
    obtain ⟨ha_9, fs_9, ho_9⟩ := lwC.obj hC_392_9
    refine W.widen (k := 22) (n := 1272) (by first | omega | decide) (by first | omega | decide) ?_
    refine W.iret hx hb hrt (fun t ht hW => dz_endM (f := rv_i) _ hE hS hG ?_ ht hW) (fun q h => hS.2.2 q h) dL_does_395
    rcases hR_392_9 with ⟨hr9, hS9⟩ | hR9
    · exact ⟨S_392_9, nv, hC_392_9, hB_392_9, ((fr_392_9 (60, 0) rfl).1.trans hn), ((fr_392_9 (60, 0) rfl).2.trans han), I_ref hS9 hI, q_r5 hr9, fun _ => hS9⟩
    · exact ⟨S_392_9, nv, hC_392_9, hB_392_9, ((fr_392_9 (60, 0) rfl).1.trans hn), ((fr_392_9 (60, 0) rfl).2.trans han), I_same hR9.2.1 hR9.2.2.1 hR9.2.2.2.1 hR9.2.2.2.2.1 hR9.2.2.2.2.2 hI, (q_nn hR9.1).2, fun z => absurd z (q_nn hR9.1).1⟩
  · refine lv_tableIn (off := 382) (tgt := 396) hx hb dL_does_14 (by decide) (by decide) (by decide) (by decide) ?_
    refine lv_aload_n hx hb dL_does_396 rfl (lv_at hl 2 rfl) ?_
    refine lv_iload_n hx hb dL_does_397 rfl (lv_at hl 1 rfl) ?_
    refine dz_kMi (va_runS (As := [_, _]) ⟨hx, hb, hml, hown, hts⟩ (c_L_books l Z _ _ hst aX S _ hC hB (I_b0 (by omega) hI)) (va_cwS 2 hts gL_does_L_books rfl rfl rfl (by decide +kernel) ⟨Nat.le_of_ble_eq_true rfl, Nat.le_of_ble_eq_true rfl⟩) (dz_P.pre hE hS hG) rfl rfl hl.1 rfl (lv_room (Nat.le_of_ble_eq_true rfl)) dL_does_398 ⟨Nat.le_of_ble_eq_true rfl, Nat.le_of_ble_eq_true rfl⟩) hS (fun x_398_10 G_398_10 ad_398_10 H locs hp_398_10 hG hS => ?_)
    obtain ⟨fr_398_10, S_398_10, hC_398_10, hB_398_10, hR_398_10⟩ := hp_398_10
    refine W.widen (k := 5) (n := 600) (by omega) (by omega) ?_
    obtain ⟨ha_10, fs_10, ho_10⟩ := lwC.obj hC_398_10
    refine W.widen (k := 22) (n := 1272) (by first | omega | decide) (by first | omega | decide) ?_
    refine W.iret hx hb hrt (fun t ht hW => dz_endM (f := rv_i) _ hE hS hG ?_ ht hW) (fun q h => hS.2.2 q h) dL_does_401
    rcases hR_398_10 with ⟨hr9, hS9⟩ | hR9
    · exact ⟨S_398_10, nv, hC_398_10, hB_398_10, ((fr_398_10 (60, 0) rfl).1.trans hn), ((fr_398_10 (60, 0) rfl).2.trans han), I_ref hS9 hI, q_r5 hr9, fun _ => hS9⟩
    · exact ⟨S_398_10, nv, hC_398_10, hB_398_10, ((fr_398_10 (60, 0) rfl).1.trans hn), ((fr_398_10 (60, 0) rfl).2.trans han), I_book hR9.2.1 hR9.2.2.1 hR9.2.2.2.1 hR9.2.2.2.2.1 hR9.2.2.2.2.2 hI, (q_nn (by rw [hR9.1]; exact I_b0 (by omega) hI)).2, fun z => absurd z (q_nn (by rw [hR9.1]; exact I_b0 (by omega) hI)).1⟩
  · refine lv_tableIn (off := 382) (tgt := 396) hx hb dL_does_14 (by decide) (by decide) (by decide) (by decide) ?_
    refine lv_aload_n hx hb dL_does_396 rfl (lv_at hl 2 rfl) ?_
    refine lv_iload_n hx hb dL_does_397 rfl (lv_at hl 1 rfl) ?_
    refine dz_kMi (va_runS (As := [_, _]) ⟨hx, hb, hml, hown, hts⟩ (c_L_books l Z _ _ hst aX S _ hC hB (I_b0 (by omega) hI)) (va_cwS 2 hts gL_does_L_books rfl rfl rfl (by decide +kernel) ⟨Nat.le_of_ble_eq_true rfl, Nat.le_of_ble_eq_true rfl⟩) (dz_P.pre hE hS hG) rfl rfl hl.1 rfl (lv_room (Nat.le_of_ble_eq_true rfl)) dL_does_398 ⟨Nat.le_of_ble_eq_true rfl, Nat.le_of_ble_eq_true rfl⟩) hS (fun x_398_11 G_398_11 ad_398_11 H locs hp_398_11 hG hS => ?_)
    obtain ⟨fr_398_11, S_398_11, hC_398_11, hB_398_11, hR_398_11⟩ := hp_398_11
    refine W.widen (k := 5) (n := 600) (by omega) (by omega) ?_
    obtain ⟨ha_11, fs_11, ho_11⟩ := lwC.obj hC_398_11
    refine W.widen (k := 22) (n := 1272) (by first | omega | decide) (by first | omega | decide) ?_
    refine W.iret hx hb hrt (fun t ht hW => dz_endM (f := rv_i) _ hE hS hG ?_ ht hW) (fun q h => hS.2.2 q h) dL_does_401
    rcases hR_398_11 with ⟨hr9, hS9⟩ | hR9
    · exact ⟨S_398_11, nv, hC_398_11, hB_398_11, ((fr_398_11 (60, 0) rfl).1.trans hn), ((fr_398_11 (60, 0) rfl).2.trans han), I_ref hS9 hI, q_r5 hr9, fun _ => hS9⟩
    · exact ⟨S_398_11, nv, hC_398_11, hB_398_11, ((fr_398_11 (60, 0) rfl).1.trans hn), ((fr_398_11 (60, 0) rfl).2.trans han), I_book hR9.2.1 hR9.2.2.1 hR9.2.2.2.1 hR9.2.2.2.2.1 hR9.2.2.2.2.2 hI, (q_nn (by rw [hR9.1]; exact I_b0 (by omega) hI)).2, fun z => absurd z (q_nn (by rw [hR9.1]; exact I_b0 (by omega) hI)).1⟩
  · refine lv_tableIn (off := 388) (tgt := 402) hx hb dL_does_14 (by decide) (by decide) (by decide) (by decide) ?_
    refine lv_aload_n hx hb dL_does_402 rfl (lv_at hl 2 rfl) ?_
    refine lv_iload_n hx hb dL_does_403 rfl (lv_at hl 1 rfl) ?_
    refine lv_bipush (v := 6) hx hb dL_does_404 (by decide) ?_
    refine lv_irem hx hb dL_does_406 (by decide) ?_
    refine lv_iload_n hx hb dL_does_407 rfl (lv_at hl 1 rfl) ?_
    refine lv_bipush (v := 6) hx hb dL_does_408 (by decide) ?_
    refine lv_idiv hx hb dL_does_410 (by decide) ?_
    refine lv_iconst (v := 3) hx hb dL_does_411 (by decide) ?_
    refine lv_irem hx hb dL_does_412 (by decide) ?_
    refine lv_if_le (tgt := 420) hx hb dL_does_413 (by decide) (fun c_413 => ?_) (fun c_413 => ?_)
    · refine lv_iconst (v := 0) hx hb dL_does_420 (by decide) ?_
      refine dz_kMi (vx_runSW (As := [_, _, _]) ⟨hx, hb, hml, hown, hts⟩ (t_vote l hst hC hB _ _ (by rfl)) (vx_cwSW 3 hts gL_does_L_vote rfl rfl rfl (by decide +kernel) ⟨Nat.le_of_ble_eq_true rfl, Nat.le_of_ble_eq_true rfl⟩) (dz_P.pre hE hS hG) rfl rfl hl.1 rfl (lv_room (Nat.le_of_ble_eq_true rfl)) dL_does_421 ⟨Nat.le_of_ble_eq_true rfl, Nat.le_of_ble_eq_true rfl⟩) hS (fun x_421_12 G_421_12 ad_421_12 H locs hp_421_12 hG hS => ?_)
      obtain ⟨fr_421_12, S_421_12, hC_421_12, hB_421_12, hR_421_12⟩ := hp_421_12
      refine W.widen (k := 5) (n := 600) (by omega) (by omega) ?_
      obtain ⟨ha_12, fs_12, ho_12⟩ := lwC.obj hC_421_12
      refine lv_istore (lv' := [(5, .int x_421_12), (4, .int ((nI (n / 20)) - (nI (n / 20)) / 3 * 3)), (3, .int (nI (n / 20))), (0, .ref aX), (1, .ref aN), (2, .int (nI n))]) hx hb dL_does_424 hl (by decide) rfl (fun ls hl => ?_)
      rcases hR_421_12 with ⟨hr9, hS9⟩ | hR9
      · have h59 := q_r5 hr9
        refine lv_aload_n hx hb dL_does_426 rfl (lv_at hl 4 rfl) ?_
        refine lv_bipush (v := 20) hx hb dL_does_427 (by decide) ?_
        refine lv_iload hx hb dL_does_429 (lv_at hl 0 rfl) ?_
        refine lv_iconst (v := 1) hx hb dL_does_431 (by decide) ?_
        refine lv_icmp_ne (tgt := 439) hx hb dL_does_432 (by decide) (fun c_432 => ?_) (fun c_432 => ?_)
        · refine lv_aload_n hx hb dL_does_439 rfl (lv_at hl 4 rfl) ?_
          refine lv_bipush (v := 20) hx hb dL_does_440 (by decide) ?_
          refine dz_iald hx hb hE hG ((fr_421_12 (60, 0) rfl).2.trans han) ((fr_421_12 (60, 0) rfl).1.trans hn) (by unfold vp_in; decide) dL_does_442 ?_
          refine lv_topi (fun v_31 ev_31 => ?_)
          obtain rfl : v_31 = (nv 20) := ev_31
          refine dz_iast hx hb hE hG ((fr_421_12 (60, 0) rfl).2.trans han) hS ((fr_421_12 (60, 0) rfl).1.trans hn) (by unfold vp_in; decide) dL_does_443 (fun H locs hG hS => ?_)
          rw [show Int32.toNatClampNeg 20 = 20 from rfl] at hG
          obtain ⟨G_8, hG, w_8, o_8⟩ := dz_nm hG
          refine lv_aload_n hx hb dL_does_444 rfl (lv_at hl 4 rfl) ?_
          refine lv_bipush (v := 20) hx hb dL_does_445 (by decide) ?_
          refine dz_iald hx hb hE hG ((fr_421_12 (60, 0) rfl).2.trans han) w_8 (by unfold vp_in; decide) dL_does_447 ?_
          refine lv_topi (fun v_447 ev_447 => ?_)
          obtain rfl : v_447 = (nv 20) := ev_447.trans pk_us
          refine lv_iconst (v := 1) hx hb dL_does_448 (by decide) ?_
          refine lv_icmp_ne (tgt := 462) hx hb dL_does_449 (by decide) (fun c_449 => ?_) (fun c_449 => ?_)
          · refine lv_iload hx hb dL_does_462 (lv_at hl 0 rfl) ?_
            refine W.widen (k := 22) (n := 1272) (by first | omega | decide) (by first | omega | decide) ?_
            refine W.iret hx hb hrt (fun t ht hW => dz_endM (f := rv_i) _ hE hS hG ?_ ht hW) (fun q h => hS.2.2 q h) dL_does_464
            first
              | exact absurd (show lw_ref 1 from c_432 ▸ hr9) (by decide)
              | exact ⟨S_421_12, _, (lwC.frame hC_421_12 (fun r h => o_8 r (by rintro rfl; simp at h))), hB_421_12, w_8, ((fr_421_12 (60, 0) rfl).2.trans han), I_ref hS9 (by rw [q_ups]; exact hI), h59, fun _ => hS9⟩
          · refine lv_iload hx hb dL_does_452 (lv_at hl 0 rfl) ?_
            refine lv_if_ne (tgt := 462) hx hb dL_does_454 (by decide) (fun c_454 => ?_) (fun c_454 => ?_)
            · refine lv_iload hx hb dL_does_462 (lv_at hl 0 rfl) ?_
              refine W.widen (k := 22) (n := 1272) (by first | omega | decide) (by first | omega | decide) ?_
              refine W.iret hx hb hrt (fun t ht hW => dz_endM (f := rv_i) _ hE hS hG ?_ ht hW) (fun q h => hS.2.2 q h) dL_does_464
              first
                | exact absurd (show lw_ref 1 from c_432 ▸ hr9) (by decide)
                | exact ⟨S_421_12, _, (lwC.frame hC_421_12 (fun r h => o_8 r (by rintro rfl; simp at h))), hB_421_12, w_8, ((fr_421_12 (60, 0) rfl).2.trans han), I_ref hS9 (by rw [q_ups]; exact hI), h59, fun _ => hS9⟩
            · exact absurd (c_454 ▸ hr9) (by decide)
        · refine lv_iconst (v := 1) hx hb dL_does_435 (by decide) ?_
          refine lv_goto (tgt := 443) hx hb dL_does_436 (by decide) ?_
          refine dz_iast hx hb hE hG ((fr_421_12 (60, 0) rfl).2.trans han) hS ((fr_421_12 (60, 0) rfl).1.trans hn) (by unfold vp_in; decide) dL_does_443 (fun H locs hG hS => ?_)
          rw [show Int32.toNatClampNeg 20 = 20 from rfl] at hG
          obtain ⟨G_9, hG, w_9, o_9⟩ := dz_nm hG
          refine lv_aload_n hx hb dL_does_444 rfl (lv_at hl 4 rfl) ?_
          refine lv_bipush (v := 20) hx hb dL_does_445 (by decide) ?_
          refine dz_iald hx hb hE hG ((fr_421_12 (60, 0) rfl).2.trans han) w_9 (by unfold vp_in; decide) dL_does_447 ?_
          refine lv_topi (fun v_447 ev_447 => ?_)
          obtain rfl : v_447 = 1 := ev_447.trans pk_us
          refine lv_iconst (v := 1) hx hb dL_does_448 (by decide) ?_
          refine lv_icmp_ne (tgt := 462) hx hb dL_does_449 (by decide) (fun c_449 => absurd (by decide) c_449) (fun c_449 => ?_)
          refine lv_iload hx hb dL_does_452 (lv_at hl 0 rfl) ?_
          refine lv_if_ne (tgt := 462) hx hb dL_does_454 (by decide) (fun c_454 => ?_) (fun c_454 => ?_)
          · refine lv_iload hx hb dL_does_462 (lv_at hl 0 rfl) ?_
            refine W.widen (k := 22) (n := 1272) (by first | omega | decide) (by first | omega | decide) ?_
            refine W.iret hx hb hrt (fun t ht hW => dz_endM (f := rv_i) _ hE hS hG ?_ ht hW) (fun q h => hS.2.2 q h) dL_does_464
            first
              | exact absurd (show lw_ref 1 from c_432 ▸ hr9) (by decide)
              | exact ⟨S_421_12, _, (lwC.frame hC_421_12 (fun r h => o_9 r (by rintro rfl; simp at h))), hB_421_12, w_9, ((fr_421_12 (60, 0) rfl).2.trans han), I_ref hS9 (by rw [q_ups]; exact hI), h59, fun _ => hS9⟩
          · exact absurd (c_454 ▸ hr9) (by decide)
      · have h59 : ¬ x_421_12 = -5 ∧ ¬ lw_ref x_421_12 := by rw [hR9.1]; split <;> decide
        obtain ⟨h59, hnr9⟩ := h59
        refine lv_aload_n hx hb dL_does_426 rfl (lv_at hl 4 rfl) ?_
        refine lv_bipush (v := 20) hx hb dL_does_427 (by decide) ?_
        refine lv_iload hx hb dL_does_429 (lv_at hl 0 rfl) ?_
        refine lv_iconst (v := 1) hx hb dL_does_431 (by decide) ?_
        refine lv_icmp_ne (tgt := 439) hx hb dL_does_432 (by decide) (fun c_432 => ?_) (fun c_432 => ?_)
        · refine lv_aload_n hx hb dL_does_439 rfl (lv_at hl 4 rfl) ?_
          refine lv_bipush (v := 20) hx hb dL_does_440 (by decide) ?_
          refine dz_iald hx hb hE hG ((fr_421_12 (60, 0) rfl).2.trans han) ((fr_421_12 (60, 0) rfl).1.trans hn) (by unfold vp_in; decide) dL_does_442 ?_
          refine lv_topi (fun v_32 ev_32 => ?_)
          obtain rfl : v_32 = (nv 20) := ev_32
          refine dz_iast hx hb hE hG ((fr_421_12 (60, 0) rfl).2.trans han) hS ((fr_421_12 (60, 0) rfl).1.trans hn) (by unfold vp_in; decide) dL_does_443 (fun H locs hG hS => ?_)
          rw [show Int32.toNatClampNeg 20 = 20 from rfl] at hG
          obtain ⟨G_10, hG, w_10, o_10⟩ := dz_nm hG
          refine lv_aload_n hx hb dL_does_444 rfl (lv_at hl 4 rfl) ?_
          refine lv_bipush (v := 20) hx hb dL_does_445 (by decide) ?_
          refine dz_iald hx hb hE hG ((fr_421_12 (60, 0) rfl).2.trans han) w_10 (by unfold vp_in; decide) dL_does_447 ?_
          refine lv_topi (fun v_447 ev_447 => ?_)
          obtain rfl : v_447 = (nv 20) := ev_447.trans pk_us
          refine lv_iconst (v := 1) hx hb dL_does_448 (by decide) ?_
          refine lv_icmp_ne (tgt := 462) hx hb dL_does_449 (by decide) (fun c_449 => ?_) (fun c_449 => ?_)
          · refine lv_iload hx hb dL_does_462 (lv_at hl 0 rfl) ?_
            refine W.widen (k := 22) (n := 1272) (by first | omega | decide) (by first | omega | decide) ?_
            refine W.iret hx hb hrt (fun t ht hW => dz_endM (f := rv_i) _ hE hS hG ?_ ht hW) (fun q h => hS.2.2 q h) dL_does_464
            first
              | exact ⟨S_421_12, _, (lwC.frame hC_421_12 (fun r h => o_10 r (by rintro rfl; simp at h))), hB_421_12, w_10, ((fr_421_12 (60, 0) rfl).2.trans han), I_vote hR9.2.1 hR9.2.2.1 hR9.2.2.2.1 hR9.2.2.2.2.1 (fun _ z => absurd (c_432.symm.trans (hR9.1.trans (if_pos z))) (by decide)) hI, h59, fun z => absurd z hnr9⟩
              | exact ⟨S_421_12, _, (lwC.frame hC_421_12 (fun r h => o_10 r (by rintro rfl; simp at h))), hB_421_12, w_10, ((fr_421_12 (60, 0) rfl).2.trans han), I_vote hR9.2.1 hR9.2.2.1 hR9.2.2.2.1 hR9.2.2.2.2.1 (fun z => hR9.2.2.2.2.2 (hI.2.2.1 z)) hI, h59, fun z => absurd z hnr9⟩
          · refine lv_iload hx hb dL_does_452 (lv_at hl 0 rfl) ?_
            refine lv_if_ne (tgt := 462) hx hb dL_does_454 (by decide) (fun c_454 => ?_) (fun c_454 => ?_)
            · refine lv_iload hx hb dL_does_462 (lv_at hl 0 rfl) ?_
              refine W.widen (k := 22) (n := 1272) (by first | omega | decide) (by first | omega | decide) ?_
              refine W.iret hx hb hrt (fun t ht hW => dz_endM (f := rv_i) _ hE hS hG ?_ ht hW) (fun q h => hS.2.2 q h) dL_does_464
              first
                | exact ⟨S_421_12, _, (lwC.frame hC_421_12 (fun r h => o_10 r (by rintro rfl; simp at h))), hB_421_12, w_10, ((fr_421_12 (60, 0) rfl).2.trans han), I_vote hR9.2.1 hR9.2.2.1 hR9.2.2.2.1 hR9.2.2.2.2.1 (fun _ z => absurd (c_432.symm.trans (hR9.1.trans (if_pos z))) (by decide)) hI, h59, fun z => absurd z hnr9⟩
                | exact ⟨S_421_12, _, (lwC.frame hC_421_12 (fun r h => o_10 r (by rintro rfl; simp at h))), hB_421_12, w_10, ((fr_421_12 (60, 0) rfl).2.trans han), I_vote hR9.2.1 hR9.2.2.1 hR9.2.2.2.1 hR9.2.2.2.2.1 (fun z => hR9.2.2.2.2.2 (hI.2.2.1 z)) hI, h59, fun z => absurd z hnr9⟩
            · first | exact absurd (c_432.symm.trans c_454) (by decide) | exact absurd (c_454.symm.trans (hR9.1.trans (if_neg (hR9.2.2.2.2.2 (hI.2.2.1 c_449))))) (by decide)
        · refine lv_iconst (v := 1) hx hb dL_does_435 (by decide) ?_
          refine lv_goto (tgt := 443) hx hb dL_does_436 (by decide) ?_
          refine dz_iast hx hb hE hG ((fr_421_12 (60, 0) rfl).2.trans han) hS ((fr_421_12 (60, 0) rfl).1.trans hn) (by unfold vp_in; decide) dL_does_443 (fun H locs hG hS => ?_)
          rw [show Int32.toNatClampNeg 20 = 20 from rfl] at hG
          obtain ⟨G_11, hG, w_11, o_11⟩ := dz_nm hG
          refine lv_aload_n hx hb dL_does_444 rfl (lv_at hl 4 rfl) ?_
          refine lv_bipush (v := 20) hx hb dL_does_445 (by decide) ?_
          refine dz_iald hx hb hE hG ((fr_421_12 (60, 0) rfl).2.trans han) w_11 (by unfold vp_in; decide) dL_does_447 ?_
          refine lv_topi (fun v_447 ev_447 => ?_)
          obtain rfl : v_447 = 1 := ev_447.trans pk_us
          refine lv_iconst (v := 1) hx hb dL_does_448 (by decide) ?_
          refine lv_icmp_ne (tgt := 462) hx hb dL_does_449 (by decide) (fun c_449 => absurd (by decide) c_449) (fun c_449 => ?_)
          refine lv_iload hx hb dL_does_452 (lv_at hl 0 rfl) ?_
          refine lv_if_ne (tgt := 462) hx hb dL_does_454 (by decide) (fun c_454 => ?_) (fun c_454 => ?_)
          · refine lv_iload hx hb dL_does_462 (lv_at hl 0 rfl) ?_
            refine W.widen (k := 22) (n := 1272) (by first | omega | decide) (by first | omega | decide) ?_
            refine W.iret hx hb hrt (fun t ht hW => dz_endM (f := rv_i) _ hE hS hG ?_ ht hW) (fun q h => hS.2.2 q h) dL_does_464
            first
              | exact ⟨S_421_12, _, (lwC.frame hC_421_12 (fun r h => o_11 r (by rintro rfl; simp at h))), hB_421_12, w_11, ((fr_421_12 (60, 0) rfl).2.trans han), I_vote hR9.2.1 hR9.2.2.1 hR9.2.2.2.1 hR9.2.2.2.2.1 (fun _ z => absurd (c_432.symm.trans (hR9.1.trans (if_pos z))) (by decide)) hI, h59, fun z => absurd z hnr9⟩
              | exact ⟨S_421_12, _, (lwC.frame hC_421_12 (fun r h => o_11 r (by rintro rfl; simp at h))), hB_421_12, w_11, ((fr_421_12 (60, 0) rfl).2.trans han), I_vote hR9.2.1 hR9.2.2.1 hR9.2.2.2.1 hR9.2.2.2.2.1 (fun z => hR9.2.2.2.2.2 (hI.2.2.1 z)) hI, h59, fun z => absurd z hnr9⟩
          · first | exact absurd (c_432.symm.trans c_454) (by decide) | exact absurd (c_454.symm.trans (hR9.1.trans (if_neg (hR9.2.2.2.2.2 (hI.2.2.1 c_449))))) (by decide)
    · refine lv_iconst (v := 1) hx hb dL_does_416 (by decide) ?_
      refine lv_goto (tgt := 421) hx hb dL_does_417 (by decide) ?_
      refine dz_kMi (vx_runSW (As := [_, _, _]) ⟨hx, hb, hml, hown, hts⟩ (t_vote l hst hC hB _ _ (by rfl)) (vx_cwSW 3 hts gL_does_L_vote rfl rfl rfl (by decide +kernel) ⟨Nat.le_of_ble_eq_true rfl, Nat.le_of_ble_eq_true rfl⟩) (dz_P.pre hE hS hG) rfl rfl hl.1 rfl (lv_room (Nat.le_of_ble_eq_true rfl)) dL_does_421 ⟨Nat.le_of_ble_eq_true rfl, Nat.le_of_ble_eq_true rfl⟩) hS (fun x_421_13 G_421_13 ad_421_13 H locs hp_421_13 hG hS => ?_)
      obtain ⟨fr_421_13, S_421_13, hC_421_13, hB_421_13, hR_421_13⟩ := hp_421_13
      refine W.widen (k := 5) (n := 600) (by omega) (by omega) ?_
      obtain ⟨ha_13, fs_13, ho_13⟩ := lwC.obj hC_421_13
      refine lv_istore (lv' := [(5, .int x_421_13), (4, .int ((nI (n / 20)) - (nI (n / 20)) / 3 * 3)), (3, .int (nI (n / 20))), (0, .ref aX), (1, .ref aN), (2, .int (nI n))]) hx hb dL_does_424 hl (by decide) rfl (fun ls hl => ?_)
      rcases hR_421_13 with ⟨hr9, hS9⟩ | hR9
      · have h59 := q_r5 hr9
        refine lv_aload_n hx hb dL_does_426 rfl (lv_at hl 4 rfl) ?_
        refine lv_bipush (v := 20) hx hb dL_does_427 (by decide) ?_
        refine lv_iload hx hb dL_does_429 (lv_at hl 0 rfl) ?_
        refine lv_iconst (v := 1) hx hb dL_does_431 (by decide) ?_
        refine lv_icmp_ne (tgt := 439) hx hb dL_does_432 (by decide) (fun c_432 => ?_) (fun c_432 => ?_)
        · refine lv_aload_n hx hb dL_does_439 rfl (lv_at hl 4 rfl) ?_
          refine lv_bipush (v := 20) hx hb dL_does_440 (by decide) ?_
          refine dz_iald hx hb hE hG ((fr_421_13 (60, 0) rfl).2.trans han) ((fr_421_13 (60, 0) rfl).1.trans hn) (by unfold vp_in; decide) dL_does_442 ?_
          refine lv_topi (fun v_33 ev_33 => ?_)
          obtain rfl : v_33 = (nv 20) := ev_33
          refine dz_iast hx hb hE hG ((fr_421_13 (60, 0) rfl).2.trans han) hS ((fr_421_13 (60, 0) rfl).1.trans hn) (by unfold vp_in; decide) dL_does_443 (fun H locs hG hS => ?_)
          rw [show Int32.toNatClampNeg 20 = 20 from rfl] at hG
          obtain ⟨G_12, hG, w_12, o_12⟩ := dz_nm hG
          refine lv_aload_n hx hb dL_does_444 rfl (lv_at hl 4 rfl) ?_
          refine lv_bipush (v := 20) hx hb dL_does_445 (by decide) ?_
          refine dz_iald hx hb hE hG ((fr_421_13 (60, 0) rfl).2.trans han) w_12 (by unfold vp_in; decide) dL_does_447 ?_
          refine lv_topi (fun v_447 ev_447 => ?_)
          obtain rfl : v_447 = (nv 20) := ev_447.trans pk_us
          refine lv_iconst (v := 1) hx hb dL_does_448 (by decide) ?_
          refine lv_icmp_ne (tgt := 462) hx hb dL_does_449 (by decide) (fun c_449 => ?_) (fun c_449 => ?_)
          · refine lv_iload hx hb dL_does_462 (lv_at hl 0 rfl) ?_
            refine W.widen (k := 22) (n := 1272) (by first | omega | decide) (by first | omega | decide) ?_
            refine W.iret hx hb hrt (fun t ht hW => dz_endM (f := rv_i) _ hE hS hG ?_ ht hW) (fun q h => hS.2.2 q h) dL_does_464
            first
              | exact absurd (show lw_ref 1 from c_432 ▸ hr9) (by decide)
              | exact ⟨S_421_13, _, (lwC.frame hC_421_13 (fun r h => o_12 r (by rintro rfl; simp at h))), hB_421_13, w_12, ((fr_421_13 (60, 0) rfl).2.trans han), I_ref hS9 (by rw [q_ups]; exact hI), h59, fun _ => hS9⟩
          · refine lv_iload hx hb dL_does_452 (lv_at hl 0 rfl) ?_
            refine lv_if_ne (tgt := 462) hx hb dL_does_454 (by decide) (fun c_454 => ?_) (fun c_454 => ?_)
            · refine lv_iload hx hb dL_does_462 (lv_at hl 0 rfl) ?_
              refine W.widen (k := 22) (n := 1272) (by first | omega | decide) (by first | omega | decide) ?_
              refine W.iret hx hb hrt (fun t ht hW => dz_endM (f := rv_i) _ hE hS hG ?_ ht hW) (fun q h => hS.2.2 q h) dL_does_464
              first
                | exact absurd (show lw_ref 1 from c_432 ▸ hr9) (by decide)
                | exact ⟨S_421_13, _, (lwC.frame hC_421_13 (fun r h => o_12 r (by rintro rfl; simp at h))), hB_421_13, w_12, ((fr_421_13 (60, 0) rfl).2.trans han), I_ref hS9 (by rw [q_ups]; exact hI), h59, fun _ => hS9⟩
            · exact absurd (c_454 ▸ hr9) (by decide)
        · refine lv_iconst (v := 1) hx hb dL_does_435 (by decide) ?_
          refine lv_goto (tgt := 443) hx hb dL_does_436 (by decide) ?_
          refine dz_iast hx hb hE hG ((fr_421_13 (60, 0) rfl).2.trans han) hS ((fr_421_13 (60, 0) rfl).1.trans hn) (by unfold vp_in; decide) dL_does_443 (fun H locs hG hS => ?_)
          rw [show Int32.toNatClampNeg 20 = 20 from rfl] at hG
          obtain ⟨G_13, hG, w_13, o_13⟩ := dz_nm hG
          refine lv_aload_n hx hb dL_does_444 rfl (lv_at hl 4 rfl) ?_
          refine lv_bipush (v := 20) hx hb dL_does_445 (by decide) ?_
          refine dz_iald hx hb hE hG ((fr_421_13 (60, 0) rfl).2.trans han) w_13 (by unfold vp_in; decide) dL_does_447 ?_
          refine lv_topi (fun v_447 ev_447 => ?_)
          obtain rfl : v_447 = 1 := ev_447.trans pk_us
          refine lv_iconst (v := 1) hx hb dL_does_448 (by decide) ?_
          refine lv_icmp_ne (tgt := 462) hx hb dL_does_449 (by decide) (fun c_449 => absurd (by decide) c_449) (fun c_449 => ?_)
          refine lv_iload hx hb dL_does_452 (lv_at hl 0 rfl) ?_
          refine lv_if_ne (tgt := 462) hx hb dL_does_454 (by decide) (fun c_454 => ?_) (fun c_454 => ?_)
          · refine lv_iload hx hb dL_does_462 (lv_at hl 0 rfl) ?_
            refine W.widen (k := 22) (n := 1272) (by first | omega | decide) (by first | omega | decide) ?_
            refine W.iret hx hb hrt (fun t ht hW => dz_endM (f := rv_i) _ hE hS hG ?_ ht hW) (fun q h => hS.2.2 q h) dL_does_464
            first
              | exact absurd (show lw_ref 1 from c_432 ▸ hr9) (by decide)
              | exact ⟨S_421_13, _, (lwC.frame hC_421_13 (fun r h => o_13 r (by rintro rfl; simp at h))), hB_421_13, w_13, ((fr_421_13 (60, 0) rfl).2.trans han), I_ref hS9 (by rw [q_ups]; exact hI), h59, fun _ => hS9⟩
          · exact absurd (c_454 ▸ hr9) (by decide)
      · have h59 : ¬ x_421_13 = -5 ∧ ¬ lw_ref x_421_13 := by rw [hR9.1]; split <;> decide
        obtain ⟨h59, hnr9⟩ := h59
        refine lv_aload_n hx hb dL_does_426 rfl (lv_at hl 4 rfl) ?_
        refine lv_bipush (v := 20) hx hb dL_does_427 (by decide) ?_
        refine lv_iload hx hb dL_does_429 (lv_at hl 0 rfl) ?_
        refine lv_iconst (v := 1) hx hb dL_does_431 (by decide) ?_
        refine lv_icmp_ne (tgt := 439) hx hb dL_does_432 (by decide) (fun c_432 => ?_) (fun c_432 => ?_)
        · refine lv_aload_n hx hb dL_does_439 rfl (lv_at hl 4 rfl) ?_
          refine lv_bipush (v := 20) hx hb dL_does_440 (by decide) ?_
          refine dz_iald hx hb hE hG ((fr_421_13 (60, 0) rfl).2.trans han) ((fr_421_13 (60, 0) rfl).1.trans hn) (by unfold vp_in; decide) dL_does_442 ?_
          refine lv_topi (fun v_34 ev_34 => ?_)
          obtain rfl : v_34 = (nv 20) := ev_34
          refine dz_iast hx hb hE hG ((fr_421_13 (60, 0) rfl).2.trans han) hS ((fr_421_13 (60, 0) rfl).1.trans hn) (by unfold vp_in; decide) dL_does_443 (fun H locs hG hS => ?_)
          rw [show Int32.toNatClampNeg 20 = 20 from rfl] at hG
          obtain ⟨G_14, hG, w_14, o_14⟩ := dz_nm hG
          refine lv_aload_n hx hb dL_does_444 rfl (lv_at hl 4 rfl) ?_
          refine lv_bipush (v := 20) hx hb dL_does_445 (by decide) ?_
          refine dz_iald hx hb hE hG ((fr_421_13 (60, 0) rfl).2.trans han) w_14 (by unfold vp_in; decide) dL_does_447 ?_
          refine lv_topi (fun v_447 ev_447 => ?_)
          obtain rfl : v_447 = (nv 20) := ev_447.trans pk_us
          refine lv_iconst (v := 1) hx hb dL_does_448 (by decide) ?_
          refine lv_icmp_ne (tgt := 462) hx hb dL_does_449 (by decide) (fun c_449 => ?_) (fun c_449 => ?_)
          · refine lv_iload hx hb dL_does_462 (lv_at hl 0 rfl) ?_
            refine W.widen (k := 22) (n := 1272) (by first | omega | decide) (by first | omega | decide) ?_
            refine W.iret hx hb hrt (fun t ht hW => dz_endM (f := rv_i) _ hE hS hG ?_ ht hW) (fun q h => hS.2.2 q h) dL_does_464
            first
              | exact ⟨S_421_13, _, (lwC.frame hC_421_13 (fun r h => o_14 r (by rintro rfl; simp at h))), hB_421_13, w_14, ((fr_421_13 (60, 0) rfl).2.trans han), I_vote hR9.2.1 hR9.2.2.1 hR9.2.2.2.1 hR9.2.2.2.2.1 (fun _ z => absurd (c_432.symm.trans (hR9.1.trans (if_pos z))) (by decide)) hI, h59, fun z => absurd z hnr9⟩
              | exact ⟨S_421_13, _, (lwC.frame hC_421_13 (fun r h => o_14 r (by rintro rfl; simp at h))), hB_421_13, w_14, ((fr_421_13 (60, 0) rfl).2.trans han), I_vote hR9.2.1 hR9.2.2.1 hR9.2.2.2.1 hR9.2.2.2.2.1 (fun z => hR9.2.2.2.2.2 (hI.2.2.1 z)) hI, h59, fun z => absurd z hnr9⟩
          · refine lv_iload hx hb dL_does_452 (lv_at hl 0 rfl) ?_
            refine lv_if_ne (tgt := 462) hx hb dL_does_454 (by decide) (fun c_454 => ?_) (fun c_454 => ?_)
            · refine lv_iload hx hb dL_does_462 (lv_at hl 0 rfl) ?_
              refine W.widen (k := 22) (n := 1272) (by first | omega | decide) (by first | omega | decide) ?_
              refine W.iret hx hb hrt (fun t ht hW => dz_endM (f := rv_i) _ hE hS hG ?_ ht hW) (fun q h => hS.2.2 q h) dL_does_464
              first
                | exact ⟨S_421_13, _, (lwC.frame hC_421_13 (fun r h => o_14 r (by rintro rfl; simp at h))), hB_421_13, w_14, ((fr_421_13 (60, 0) rfl).2.trans han), I_vote hR9.2.1 hR9.2.2.1 hR9.2.2.2.1 hR9.2.2.2.2.1 (fun _ z => absurd (c_432.symm.trans (hR9.1.trans (if_pos z))) (by decide)) hI, h59, fun z => absurd z hnr9⟩
                | exact ⟨S_421_13, _, (lwC.frame hC_421_13 (fun r h => o_14 r (by rintro rfl; simp at h))), hB_421_13, w_14, ((fr_421_13 (60, 0) rfl).2.trans han), I_vote hR9.2.1 hR9.2.2.1 hR9.2.2.2.1 hR9.2.2.2.2.1 (fun z => hR9.2.2.2.2.2 (hI.2.2.1 z)) hI, h59, fun z => absurd z hnr9⟩
            · first | exact absurd (c_432.symm.trans c_454) (by decide) | exact absurd (c_454.symm.trans (hR9.1.trans (if_neg (hR9.2.2.2.2.2 (hI.2.2.1 c_449))))) (by decide)
        · refine lv_iconst (v := 1) hx hb dL_does_435 (by decide) ?_
          refine lv_goto (tgt := 443) hx hb dL_does_436 (by decide) ?_
          refine dz_iast hx hb hE hG ((fr_421_13 (60, 0) rfl).2.trans han) hS ((fr_421_13 (60, 0) rfl).1.trans hn) (by unfold vp_in; decide) dL_does_443 (fun H locs hG hS => ?_)
          rw [show Int32.toNatClampNeg 20 = 20 from rfl] at hG
          obtain ⟨G_15, hG, w_15, o_15⟩ := dz_nm hG
          refine lv_aload_n hx hb dL_does_444 rfl (lv_at hl 4 rfl) ?_
          refine lv_bipush (v := 20) hx hb dL_does_445 (by decide) ?_
          refine dz_iald hx hb hE hG ((fr_421_13 (60, 0) rfl).2.trans han) w_15 (by unfold vp_in; decide) dL_does_447 ?_
          refine lv_topi (fun v_447 ev_447 => ?_)
          obtain rfl : v_447 = 1 := ev_447.trans pk_us
          refine lv_iconst (v := 1) hx hb dL_does_448 (by decide) ?_
          refine lv_icmp_ne (tgt := 462) hx hb dL_does_449 (by decide) (fun c_449 => absurd (by decide) c_449) (fun c_449 => ?_)
          refine lv_iload hx hb dL_does_452 (lv_at hl 0 rfl) ?_
          refine lv_if_ne (tgt := 462) hx hb dL_does_454 (by decide) (fun c_454 => ?_) (fun c_454 => ?_)
          · refine lv_iload hx hb dL_does_462 (lv_at hl 0 rfl) ?_
            refine W.widen (k := 22) (n := 1272) (by first | omega | decide) (by first | omega | decide) ?_
            refine W.iret hx hb hrt (fun t ht hW => dz_endM (f := rv_i) _ hE hS hG ?_ ht hW) (fun q h => hS.2.2 q h) dL_does_464
            first
              | exact ⟨S_421_13, _, (lwC.frame hC_421_13 (fun r h => o_15 r (by rintro rfl; simp at h))), hB_421_13, w_15, ((fr_421_13 (60, 0) rfl).2.trans han), I_vote hR9.2.1 hR9.2.2.1 hR9.2.2.2.1 hR9.2.2.2.2.1 (fun _ z => absurd (c_432.symm.trans (hR9.1.trans (if_pos z))) (by decide)) hI, h59, fun z => absurd z hnr9⟩
              | exact ⟨S_421_13, _, (lwC.frame hC_421_13 (fun r h => o_15 r (by rintro rfl; simp at h))), hB_421_13, w_15, ((fr_421_13 (60, 0) rfl).2.trans han), I_vote hR9.2.1 hR9.2.2.1 hR9.2.2.2.1 hR9.2.2.2.2.1 (fun z => hR9.2.2.2.2.2 (hI.2.2.1 z)) hI, h59, fun z => absurd z hnr9⟩
          · first | exact absurd (c_432.symm.trans c_454) (by decide) | exact absurd (c_454.symm.trans (hR9.1.trans (if_neg (hR9.2.2.2.2.2 (hI.2.2.1 c_449))))) (by decide)
  · refine lv_tableIn (off := 451) (tgt := 465) hx hb dL_does_14 (by decide) (by decide) (by decide) (by decide) ?_
    refine lv_aload_n hx hb dL_does_465 rfl (lv_at hl 2 rfl) ?_
    refine lv_iload hx hb dL_does_466 (lv_at hl 0 rfl) ?_
    refine lv_iload_n hx hb dL_does_468 rfl (lv_at hl 1 rfl) ?_
    refine lv_iconst (v := 3) hx hb dL_does_469 (by decide) ?_
    refine lv_idiv hx hb dL_does_470 (by decide) ?_
    refine lv_bipush (v := 7) hx hb dL_does_471 (by decide) ?_
    refine lv_irem hx hb dL_does_473 (by decide) ?_
    refine lv_iload_n hx hb dL_does_474 rfl (lv_at hl 1 rfl) ?_
    refine lv_bipush (v := 21) hx hb dL_does_475 (by decide) ?_
    refine lv_idiv hx hb dL_does_477 (by decide) ?_
    refine lv_bipush (v := 7) hx hb dL_does_478 (by decide) ?_
    refine lv_irem hx hb dL_does_480 (by decide) ?_
    refine dz_kMi (vx_runSW (As := [_, _, _, _]) ⟨hx, hb, hml, hown, hts⟩ (t_measured l hst hC hB _ _ _) (vx_cwSW 4 hts gL_does_L_measured rfl rfl rfl (by decide +kernel) ⟨Nat.le_of_ble_eq_true rfl, Nat.le_of_ble_eq_true rfl⟩) (dz_P.pre hE hS hG) rfl rfl hl.1 rfl (lv_room (Nat.le_of_ble_eq_true rfl)) dL_does_481 ⟨Nat.le_of_ble_eq_true rfl, Nat.le_of_ble_eq_true rfl⟩) hS (fun x_481_14 G_481_14 ad_481_14 H locs hp_481_14 hG hS => ?_)
    obtain ⟨fr_481_14, S_481_14, hC_481_14, hB_481_14, hR_481_14⟩ := hp_481_14
    refine W.widen (k := 5) (n := 600) (by omega) (by omega) ?_
    obtain ⟨ha_14, fs_14, ho_14⟩ := lwC.obj hC_481_14
    refine W.widen (k := 22) (n := 1272) (by first | omega | decide) (by first | omega | decide) ?_
    refine W.iret hx hb hrt (fun t ht hW => dz_endM (f := rv_i) _ hE hS hG ?_ ht hW) (fun q h => hS.2.2 q h) dL_does_484
    rcases hR_481_14 with ⟨hr9, hS9⟩ | hR9
    · exact ⟨S_481_14, nv, hC_481_14, hB_481_14, ((fr_481_14 (60, 0) rfl).1.trans hn), ((fr_481_14 (60, 0) rfl).2.trans han), I_ref hS9 hI, q_r5 hr9, fun _ => hS9⟩
    · exact ⟨S_481_14, nv, hC_481_14, hB_481_14, ((fr_481_14 (60, 0) rfl).1.trans hn), ((fr_481_14 (60, 0) rfl).2.trans han), I_ref hR9.1 hI, (hR9.2.elim (fun z => (q_nn z).2) (fun z => by rw [z]; decide)), fun _ => hR9.1⟩
  · refine lv_tableOut (tgt := 485) hx hb dL_does_14 (Or.inr (by rw [nI_toInt (show cs < 2 ^ 31 by omega)]; omega)) (by decide) ?_
    refine lv_aload_n hx hb dL_does_485 rfl (lv_at hl 2 rfl) ?_
    refine lv_aload_n hx hb dL_does_486 rfl (lv_at hl 3 rfl) ?_
    refine lv_iload_n hx hb dL_does_487 rfl (lv_at hl 1 rfl) ?_
    refine dz_kMi (va_runS (As := [_, _, _]) ⟨hx, hb, hml, hown, hts⟩ (c_L_takes l Z _ _ hst aX S aN nv k (n / 20) hC hB han hn hI hk30 (by omega)) (va_cwS 3 hts gL_does_L_takes rfl rfl rfl (by decide +kernel) ⟨Nat.le_of_ble_eq_true rfl, Nat.le_of_ble_eq_true rfl⟩) (dz_P.pre hE hS hG) rfl rfl hl.1 rfl (lv_room (Nat.le_of_ble_eq_true rfl)) dL_does_488 ⟨Nat.le_of_ble_eq_true rfl, Nat.le_of_ble_eq_true rfl⟩) hS (fun x_488_15 G_488_15 ad_488_15 H locs hp_488_15 hG hS => ?_)
    obtain ⟨S_488_15, nv_488_15, hC_488_15, hB_488_15, hn_488_15, han_488_15, hI_488_15, h5_488_15, hrf_488_15⟩ := hp_488_15
    refine W.widen (k := 22) (n := 1272) (by omega) (by omega) ?_
    obtain ⟨ha_15, fs_15, ho_15⟩ := lwC.obj hC_488_15
    refine W.widen (k := 22) (n := 1272) (by first | omega | decide) (by first | omega | decide) ?_
    refine W.iret hx hb hrt (fun t ht hW => dz_endM (f := rv_i) _ hE hS hG ?_ ht hW) (fun q h => hS.2.2 q h) dL_does_491
    exact ⟨S_488_15, nv_488_15, hC_488_15, hB_488_15, hn_488_15, han_488_15, hI_488_15, h5_488_15, hrf_488_15⟩
