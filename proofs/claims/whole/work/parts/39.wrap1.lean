set_option maxHeartbeats 4000000 in
set_option maxRecDepth 100000 in
theorem c_L_frame_W (l : Launch) (Z : dzG) (G : dzW) (ad : dzA) (aX aO : Nat) (fs : List Value) (fo : Nat → Int64) (fr lo mc ms : Nat) (Po : Int32 → dzW → dzA → Prop) (ha : ad (1, 0) = aX) (ho : G (1, 0) = some (.inr (9, fs))) (hM : dzWr l yX8_frame wsX8_frame fr lo mc ms Z G ad [.ref aX] rv_i Po) (hP : ∀ y G1 ad1, Po y G1 ad1 → G1 (50, 0) = some (eJ Z 1 fo) ∧ ad1 (50, 0) = aO) : dzWr l yL_frame wsL_frame (fr + 1) (8 + (1 + 11) + lo) mc ms Z G ad [.ref aX, .ref aO] rv_i (fun (x : Int32) G1 ad1 => x = 0 ∧ ∃ (y : Int32) (G2 : dzW), Po y G2 ad1 ∧ (∀ r9 : dzR, r9 ≠ (50, 0) → G1 r9 = G2 r9) ∧ G1 (50, 0) = some (eJ Z 1 (vp_updL fo 0 y.toInt64))) := by
  refine dz_ofWH (cc := cL_frame) (maxL := 3) (ret := (some .int)) (by decide) rfl ?_
  intro p e s m args below meth c s₁ B hml hv
  obtain ⟨rfl, hG, hE⟩ := hv
  have hx := B.exec
  have hb := B.bytes
  have hrt := B.returns
  have hts := atoms_spec (ws := wsL_frame) B.pre
  have hown : s.vm.findClass RL = some m.cls := findClass_of_methodNamed B.named
  have hS : va_S (dz_A Z) s.heap s.heap [] := va_S.rf
  have hl := lv_entry ([.ref aX, .ref aO]) (n := 3) (Nat.le_of_ble_eq_true rfl)
  rw [lg_entry_eq]
  generalize (lg_sl ([.ref aX, .ref aO]) ++ List.replicate (3 - (lg_sl ([.ref aX, .ref aO])).length) Slot.unset).toArray = ls at hl ⊢
  have hl : lv_has ls 3 [(0, .ref aX), (1, .ref aO)] := hl
  refine lv_aload_n hx hb dL_frame_0 rfl (lv_at hl 1 rfl) ?_
  refine lv_iconst (v := 0) hx hb dL_frame_1 (by decide) ?_
  refine lv_aload_n hx hb dL_frame_2 rfl (lv_at hl 0 rfl) ?_
  refine dz_kMi (va_runV (As := []) ⟨hx, hb, hml, hown, hts⟩ hM (cwV 0 hts gL_frame_X8_frame rfl rfl rfl (by decide +kernel) ⟨Nat.le_refl _, Nat.le_refl _⟩) (dz_P.preV hE hS hG ho rfl ha) rfl rfl hl.1 rfl (lv_room (Nat.le_of_ble_eq_true rfl)) dL_frame_3 ⟨Nat.le_of_eq (Nat.zero_add mc), Nat.le_of_eq (Nat.zero_add ms)⟩) hS (fun y G2 ad2 H locs hp hG hS => ?_)
  obtain ⟨h50, ha50⟩ := hP y G2 ad2 hp
  refine lv_i2l hx hb dL_frame_6 rfl ?_
  refine dz_last hx hb hE hG ha50 hS h50 (by unfold vp_in; decide) dL_frame_7 (fun H locs hG hS => ?_)
  refine lv_goto (tgt := 14) hx hb dL_frame_8 (by decide) ?_
  refine lv_iconst (v := 0) hx hb dL_frame_14 (by decide) ?_
  refine W.widen (k := mc) (n := ms) (by omega) (by omega) ?_
  refine W.iret hx hb hrt (fun t ht hW => dz_endM (f := rv_i) 0 hE hS hG ?_ ht hW) (fun q h => hS.2.2 q h) dL_frame_15
  exact ⟨rfl, y, G2, hp, fun r9 n9 => dz_o n9 rfl, dz_s⟩
set_option maxHeartbeats 4000000 in
set_option maxRecDepth 100000 in
theorem c_L_frame_X1 (l : Launch) (Z : dzG) (G : dzW) (ad : dzA) (aX aO : Nat) (fs : List Value) (fr lo : Nat) (ha : ad (1, 0) = aX) (ho : G (1, 0) = some (.inr (9, fs))) (hM : vx_Met l yX8_frame wsX8_frame (dz_rm fr lo 1 6) (dz_P Z G ad [.ref aX]) (fun _ _ _ _ => False) (dz_XC Z G ad (fun E => E = "java/lang/IllegalStateException")) 1 6 (dz_A Z)) : dzWr l yL_frame wsL_frame (fr + 1) (8 + (1 + 11) + lo) 1 6 Z G ad [.ref aX, .ref aO] rv_i (fun (x : Int32) G1 ad1 => x = 1 ∧ G1 = G ∧ ad1 = ad) := by
  refine dz_ofWH (cc := cL_frame) (maxL := 3) (ret := (some .int)) (by decide) rfl ?_
  intro p e s m args below meth c s₁ B hml hv
  obtain ⟨rfl, hG, hE⟩ := hv
  have hx := B.exec
  have hb := B.bytes
  have hrt := B.returns
  have hts := atoms_spec (ws := wsL_frame) B.pre
  have hown : s.vm.findClass RL = some m.cls := findClass_of_methodNamed B.named
  have hS : va_S (dz_A Z) s.heap s.heap [] := va_S.rf
  have hl := lv_entry ([.ref aX, .ref aO]) (n := 3) (Nat.le_of_ble_eq_true rfl)
  rw [lg_entry_eq]
  generalize (lg_sl ([.ref aX, .ref aO]) ++ List.replicate (3 - (lg_sl ([.ref aX, .ref aO])).length) Slot.unset).toArray = ls at hl ⊢
  have hl : lv_has ls 3 [(0, .ref aX), (1, .ref aO)] := hl
  refine lv_aload_n hx hb dL_frame_0 rfl (lv_at hl 1 rfl) ?_
  refine lv_iconst (v := 0) hx hb dL_frame_1 (by decide) ?_
  refine lv_aload_n hx hb dL_frame_2 rfl (lv_at hl 0 rfl) ?_
  refine dz_kX (av := #[]) (vx_runV (As := []) ⟨hx, hb, hml, hown, hts⟩ hM (cwV 0 hts gL_frame_X8_frame rfl rfl rfl (by decide +kernel) ⟨Nat.le_refl _, Nat.le_refl _⟩) (dz_P.preV hE hS hG ho rfl ha) rfl rfl hl.1 rfl (lv_room (Nat.le_of_ble_eq_true rfl)) dL_frame_3 ⟨Nat.le_refl _, Nat.le_refl _⟩) hS (fun E q ce H locs hEx hG hS hce hcv hcl => ?_)
  subst hEx
  refine vx_catch (name := "java/lang/IllegalStateException") hown [] ⟨0, 8, 11, 15⟩ [] ((vx_table (x := yL_frame) B (hts _ List.mem_cons_self)).trans rfl) (fun z h => absurd h List.not_mem_nil) (by decide) (by decide) (hts _ (List.mem_of_getElem? (i := 1) rfl)) (va_Nw.use rfl (hE.2.2.2.2.2.2.1 ("java/lang/IllegalStateException", "java/lang/IllegalStateException") (by decide +kernel))) hce hcv hcl ?_
  refine lv_astore_n (lv' := [(2, .ref q), (0, .ref aX), (1, .ref aO)]) (pc := 11) hx hb dL_frame_11 rfl hl (by decide) rfl (fun ls hl => ?_)
  refine lv_iconst (v := 1) hx hb dL_frame_12 (by decide) ?_
  refine W.widen (k := 1) (n := 6) (by omega) (by omega) ?_
  refine W.iret hx hb hrt (fun t ht hW => dz_endM (f := rv_i) 1 hE hS hG ?_ ht hW) (fun q h => hS.2.2 q h) dL_frame_13
  exact ⟨rfl, rfl, rfl⟩

set_option maxHeartbeats 4000000 in
set_option maxRecDepth 100000 in
theorem c_L_pass_W (l : Launch) (Z : dzG) (G : dzW) (ad : dzA) (aX aO : Nat) (v1 : Int32) (fs : List Value) (fo : Nat → Int64) (fr lo mc ms : Nat) (Po : Int32 → dzW → dzA → Prop) (ha : ad (1, 0) = aX) (ho : G (1, 0) = some (.inr (9, fs))) (hM : dzWr l yX8_pass wsX8_pass fr lo mc ms Z G ad [.ref aX, .int v1] rv_i Po) (hP : ∀ y G1 ad1, Po y G1 ad1 → G1 (50, 0) = some (eJ Z 1 fo) ∧ ad1 (50, 0) = aO) : dzWr l yL_pass wsL_pass (fr + 1) (8 + (2 + 11) + lo) mc ms Z G ad [.ref aX, .int v1, .ref aO] rv_i (fun (x : Int32) G1 ad1 => x = 0 ∧ ∃ (y : Int32) (G2 : dzW), Po y G2 ad1 ∧ (∀ r9 : dzR, r9 ≠ (50, 0) → G1 r9 = G2 r9) ∧ G1 (50, 0) = some (eJ Z 1 (vp_updL fo 0 y.toInt64))) := by
  refine dz_ofWH (cc := cL_pass) (maxL := 4) (ret := (some .int)) (by decide) rfl ?_
  intro p e s m args below meth c s₁ B hml hv
  obtain ⟨rfl, hG, hE⟩ := hv
  have hx := B.exec
  have hb := B.bytes
  have hrt := B.returns
  have hts := atoms_spec (ws := wsL_pass) B.pre
  have hown : s.vm.findClass RL = some m.cls := findClass_of_methodNamed B.named
  have hS : va_S (dz_A Z) s.heap s.heap [] := va_S.rf
  have hl := lv_entry ([.ref aX, .int v1, .ref aO]) (n := 4) (Nat.le_of_ble_eq_true rfl)
  rw [lg_entry_eq]
  generalize (lg_sl ([.ref aX, .int v1, .ref aO]) ++ List.replicate (4 - (lg_sl ([.ref aX, .int v1, .ref aO])).length) Slot.unset).toArray = ls at hl ⊢
  have hl : lv_has ls 4 [(0, .ref aX), (1, .int v1), (2, .ref aO)] := hl
  refine lv_aload_n hx hb dL_pass_0 rfl (lv_at hl 2 rfl) ?_
  refine lv_iconst (v := 0) hx hb dL_pass_1 (by decide) ?_
  refine lv_aload_n hx hb dL_pass_2 rfl (lv_at hl 0 rfl) ?_
  refine lv_iload_n hx hb dL_pass_3 rfl (lv_at hl 1 rfl) ?_
  refine dz_kMi (va_runV (As := [_]) ⟨hx, hb, hml, hown, hts⟩ hM (cwV 1 hts gL_pass_X8_pass rfl rfl rfl (by decide +kernel) ⟨Nat.le_refl _, Nat.le_refl _⟩) (dz_P.preV hE hS hG ho rfl ha) rfl rfl hl.1 rfl (lv_room (Nat.le_of_ble_eq_true rfl)) dL_pass_4 ⟨Nat.le_of_eq (Nat.zero_add mc), Nat.le_of_eq (Nat.zero_add ms)⟩) hS (fun y G2 ad2 H locs hp hG hS => ?_)
  obtain ⟨h50, ha50⟩ := hP y G2 ad2 hp
  refine lv_i2l hx hb dL_pass_7 rfl ?_
  refine dz_last hx hb hE hG ha50 hS h50 (by unfold vp_in; decide) dL_pass_8 (fun H locs hG hS => ?_)
  refine lv_goto (tgt := 18) hx hb dL_pass_9 (by decide) ?_
  refine lv_iconst (v := 0) hx hb dL_pass_18 (by decide) ?_
  refine W.widen (k := mc) (n := ms) (by omega) (by omega) ?_
  refine W.iret hx hb hrt (fun t ht hW => dz_endM (f := rv_i) 0 hE hS hG ?_ ht hW) (fun q h => hS.2.2 q h) dL_pass_19
  exact ⟨rfl, y, G2, hp, fun r9 n9 => dz_o n9 rfl, dz_s⟩
set_option maxHeartbeats 4000000 in
set_option maxRecDepth 100000 in
theorem c_L_pass_X1 (l : Launch) (Z : dzG) (G : dzW) (ad : dzA) (aX aO : Nat) (v1 : Int32) (fs : List Value) (fr lo : Nat) (ha : ad (1, 0) = aX) (ho : G (1, 0) = some (.inr (9, fs))) (hM : vx_Met l yX8_pass wsX8_pass (dz_rm fr lo 1 6) (dz_P Z G ad [.ref aX, .int v1]) (fun _ _ _ _ => False) (dz_XC Z G ad (fun E => E = "java/lang/IllegalArgumentException")) 1 6 (dz_A Z)) : dzWr l yL_pass wsL_pass (fr + 1) (8 + (2 + 11) + lo) 1 6 Z G ad [.ref aX, .int v1, .ref aO] rv_i (fun (x : Int32) G1 ad1 => x = 1 ∧ G1 = G ∧ ad1 = ad) := by
  refine dz_ofWH (cc := cL_pass) (maxL := 4) (ret := (some .int)) (by decide) rfl ?_
  intro p e s m args below meth c s₁ B hml hv
  obtain ⟨rfl, hG, hE⟩ := hv
  have hx := B.exec
  have hb := B.bytes
  have hrt := B.returns
  have hts := atoms_spec (ws := wsL_pass) B.pre
  have hown : s.vm.findClass RL = some m.cls := findClass_of_methodNamed B.named
  have hS : va_S (dz_A Z) s.heap s.heap [] := va_S.rf
  have hl := lv_entry ([.ref aX, .int v1, .ref aO]) (n := 4) (Nat.le_of_ble_eq_true rfl)
  rw [lg_entry_eq]
  generalize (lg_sl ([.ref aX, .int v1, .ref aO]) ++ List.replicate (4 - (lg_sl ([.ref aX, .int v1, .ref aO])).length) Slot.unset).toArray = ls at hl ⊢
  have hl : lv_has ls 4 [(0, .ref aX), (1, .int v1), (2, .ref aO)] := hl
  refine lv_aload_n hx hb dL_pass_0 rfl (lv_at hl 2 rfl) ?_
  refine lv_iconst (v := 0) hx hb dL_pass_1 (by decide) ?_
  refine lv_aload_n hx hb dL_pass_2 rfl (lv_at hl 0 rfl) ?_
  refine lv_iload_n hx hb dL_pass_3 rfl (lv_at hl 1 rfl) ?_
  refine dz_kX (av := #[]) (vx_runV (As := [_]) ⟨hx, hb, hml, hown, hts⟩ hM (cwV 1 hts gL_pass_X8_pass rfl rfl rfl (by decide +kernel) ⟨Nat.le_refl _, Nat.le_refl _⟩) (dz_P.preV hE hS hG ho rfl ha) rfl rfl hl.1 rfl (lv_room (Nat.le_of_ble_eq_true rfl)) dL_pass_4 ⟨Nat.le_refl _, Nat.le_refl _⟩) hS (fun E q ce H locs hEx hG hS hce hcv hcl => ?_)
  subst hEx
  refine vx_catch (name := "java/lang/IllegalArgumentException") hown [] ⟨0, 9, 12, 13⟩ [⟨0, 9, 15, 15⟩] ((vx_table (x := yL_pass) B (hts _ List.mem_cons_self)).trans rfl) (fun z h => absurd h List.not_mem_nil) (by decide) (by decide) (hts _ (List.mem_of_getElem? (i := 1) rfl)) (va_Nw.use rfl (hE.2.2.2.2.2.2.1 ("java/lang/IllegalArgumentException", "java/lang/IllegalArgumentException") (by decide +kernel))) hce hcv hcl ?_
  refine lv_astore_n (lv' := [(3, .ref q), (0, .ref aX), (1, .int v1), (2, .ref aO)]) (pc := 12) hx hb dL_pass_12 rfl hl (by decide) rfl (fun ls hl => ?_)
  refine lv_iconst (v := 1) hx hb dL_pass_13 (by decide) ?_
  refine W.widen (k := 1) (n := 6) (by omega) (by omega) ?_
  refine W.iret hx hb hrt (fun t ht hW => dz_endM (f := rv_i) 1 hE hS hG ?_ ht hW) (fun q h => hS.2.2 q h) dL_pass_14
  exact ⟨rfl, rfl, rfl⟩
set_option maxHeartbeats 4000000 in
set_option maxRecDepth 100000 in
theorem c_L_pass_X2 (l : Launch) (Z : dzG) (G : dzW) (ad : dzA) (aX aO : Nat) (v1 : Int32) (fs : List Value) (fr lo : Nat) (ha : ad (1, 0) = aX) (ho : G (1, 0) = some (.inr (9, fs))) (hM : vx_Met l yX8_pass wsX8_pass (dz_rm fr lo 1 6) (dz_P Z G ad [.ref aX, .int v1]) (fun _ _ _ _ => False) (dz_XC Z G ad (fun E => E = "java/lang/IllegalStateException")) 1 6 (dz_A Z)) : dzWr l yL_pass wsL_pass (fr + 1) (8 + (2 + 11) + lo) 1 6 Z G ad [.ref aX, .int v1, .ref aO] rv_i (fun (x : Int32) G1 ad1 => x = 2 ∧ G1 = G ∧ ad1 = ad) := by
  refine dz_ofWH (cc := cL_pass) (maxL := 4) (ret := (some .int)) (by decide) rfl ?_
  intro p e s m args below meth c s₁ B hml hv
  obtain ⟨rfl, hG, hE⟩ := hv
  have hx := B.exec
  have hb := B.bytes
  have hrt := B.returns
  have hts := atoms_spec (ws := wsL_pass) B.pre
  have hown : s.vm.findClass RL = some m.cls := findClass_of_methodNamed B.named
  have hS : va_S (dz_A Z) s.heap s.heap [] := va_S.rf
  have hl := lv_entry ([.ref aX, .int v1, .ref aO]) (n := 4) (Nat.le_of_ble_eq_true rfl)
  rw [lg_entry_eq]
  generalize (lg_sl ([.ref aX, .int v1, .ref aO]) ++ List.replicate (4 - (lg_sl ([.ref aX, .int v1, .ref aO])).length) Slot.unset).toArray = ls at hl ⊢
  have hl : lv_has ls 4 [(0, .ref aX), (1, .int v1), (2, .ref aO)] := hl
  refine lv_aload_n hx hb dL_pass_0 rfl (lv_at hl 2 rfl) ?_
  refine lv_iconst (v := 0) hx hb dL_pass_1 (by decide) ?_
  refine lv_aload_n hx hb dL_pass_2 rfl (lv_at hl 0 rfl) ?_
  refine lv_iload_n hx hb dL_pass_3 rfl (lv_at hl 1 rfl) ?_
  refine dz_kX (av := #[]) (vx_runV (As := [_]) ⟨hx, hb, hml, hown, hts⟩ hM (cwV 1 hts gL_pass_X8_pass rfl rfl rfl (by decide +kernel) ⟨Nat.le_refl _, Nat.le_refl _⟩) (dz_P.preV hE hS hG ho rfl ha) rfl rfl hl.1 rfl (lv_room (Nat.le_of_ble_eq_true rfl)) dL_pass_4 ⟨Nat.le_refl _, Nat.le_refl _⟩) hS (fun E q ce H locs hEx hG hS hce hcv hcl => ?_)
  subst hEx
  refine vx_catch (name := "java/lang/IllegalStateException") hown [⟨0, 9, 12, 13⟩] ⟨0, 9, 15, 15⟩ [] ((vx_table (x := yL_pass) B (hts _ List.mem_cons_self)).trans rfl) (List.forall_mem_cons.mpr ⟨Or.inr ⟨by decide, "java/lang/IllegalArgumentException", (hts _ (List.mem_of_getElem? (i := 1) rfl)), hE.2.2.2.2.2.2.2.2.2.2.2.1 ("java/lang/IllegalStateException", "java/lang/IllegalArgumentException") (by decide +kernel)⟩, (fun z h => absurd h List.not_mem_nil)⟩) (by decide) (by decide) (hts _ (List.mem_of_getElem? (i := 2) rfl)) (va_Nw.use rfl (hE.2.2.2.2.2.2.1 ("java/lang/IllegalStateException", "java/lang/IllegalStateException") (by decide +kernel))) hce hcv hcl ?_
  refine lv_astore_n (lv' := [(3, .ref q), (0, .ref aX), (1, .int v1), (2, .ref aO)]) (pc := 15) hx hb dL_pass_15 rfl hl (by decide) rfl (fun ls hl => ?_)
  refine lv_iconst (v := 2) hx hb dL_pass_16 (by decide) ?_
  refine W.widen (k := 1) (n := 6) (by omega) (by omega) ?_
  refine W.iret hx hb hrt (fun t ht hW => dz_endM (f := rv_i) 2 hE hS hG ?_ ht hW) (fun q h => hS.2.2 q h) dL_pass_17
  exact ⟨rfl, rfl, rfl⟩

set_option maxHeartbeats 4000000 in
set_option maxRecDepth 100000 in
theorem c_L_book_W (l : Launch) (Z : dzG) (G : dzW) (ad : dzA) (aX aO : Nat) (v1 v2 v3 v4 : Int32) (fs : List Value) (fo : Nat → Int64) (fr lo mc ms : Nat) (Po : Int32 → dzW → dzA → Prop) (ha : ad (1, 0) = aX) (ho : G (1, 0) = some (.inr (9, fs))) (hM : dzWr l yX8_book wsX8_book fr lo mc ms Z G ad [.ref aX, .int v1, .int v2, .int v3, .int v4] rv_i Po) (hP : ∀ y G1 ad1, Po y G1 ad1 → G1 (50, 0) = some (eJ Z 1 fo) ∧ ad1 (50, 0) = aO) : dzWr l yL_book wsL_book (fr + 1) (8 + (9 + 11) + lo) mc ms Z G ad [.ref aX, .int v1, .int v2, .int v3, .int v4, .ref aO] rv_i (fun (x : Int32) G1 ad1 => x = 0 ∧ ∃ (y : Int32) (G2 : dzW), Po y G2 ad1 ∧ (∀ r9 : dzR, r9 ≠ (50, 0) → G1 r9 = G2 r9) ∧ G1 (50, 0) = some (eJ Z 1 (vp_updL fo 0 y.toInt64))) := by
  refine dz_ofWH (cc := cL_book) (maxL := 7) (ret := (some .int)) (by decide) rfl ?_
  intro p e s m args below meth c s₁ B hml hv
  obtain ⟨rfl, hG, hE⟩ := hv
  have hx := B.exec
  have hb := B.bytes
  have hrt := B.returns
  have hts := atoms_spec (ws := wsL_book) B.pre
  have hown : s.vm.findClass RL = some m.cls := findClass_of_methodNamed B.named
  have hS : va_S (dz_A Z) s.heap s.heap [] := va_S.rf
  have hl := lv_entry ([.ref aX, .int v1, .int v2, .int v3, .int v4, .ref aO]) (n := 7) (Nat.le_of_ble_eq_true rfl)
  rw [lg_entry_eq]
  generalize (lg_sl ([.ref aX, .int v1, .int v2, .int v3, .int v4, .ref aO]) ++ List.replicate (7 - (lg_sl ([.ref aX, .int v1, .int v2, .int v3, .int v4, .ref aO])).length) Slot.unset).toArray = ls at hl ⊢
  have hl : lv_has ls 7 [(0, .ref aX), (1, .int v1), (2, .int v2), (3, .int v3), (4, .int v4), (5, .ref aO)] := hl
  refine lv_aload hx hb dL_book_0 (lv_at hl 5 rfl) ?_
  refine lv_iconst (v := 0) hx hb dL_book_2 (by decide) ?_
  refine lv_aload_n hx hb dL_book_3 rfl (lv_at hl 0 rfl) ?_
  refine lv_iload_n hx hb dL_book_4 rfl (lv_at hl 1 rfl) ?_
  refine lv_iload_n hx hb dL_book_5 rfl (lv_at hl 2 rfl) ?_
  refine lv_iload_n hx hb dL_book_6 rfl (lv_at hl 3 rfl) ?_
  refine lv_iload hx hb dL_book_7 (lv_at hl 4 rfl) ?_
  refine dz_kMi (va_runV (As := [_, _, _, _]) ⟨hx, hb, hml, hown, hts⟩ hM (cwV 4 hts gL_book_X8_book rfl rfl rfl (by decide +kernel) ⟨Nat.le_refl _, Nat.le_refl _⟩) (dz_P.preV hE hS hG ho rfl ha) rfl rfl hl.1 rfl (lv_room (Nat.le_of_ble_eq_true rfl)) dL_book_9 ⟨Nat.le_of_eq (Nat.zero_add mc), Nat.le_of_eq (Nat.zero_add ms)⟩) hS (fun y G2 ad2 H locs hp hG hS => ?_)
  obtain ⟨h50, ha50⟩ := hP y G2 ad2 hp
  refine lv_i2l hx hb dL_book_12 rfl ?_
  refine dz_last hx hb hE hG ha50 hS h50 (by unfold vp_in; decide) dL_book_13 (fun H locs hG hS => ?_)
  refine lv_goto (tgt := 25) hx hb dL_book_14 (by decide) ?_
  refine lv_iconst (v := 0) hx hb dL_book_25 (by decide) ?_
  refine W.widen (k := mc) (n := ms) (by omega) (by omega) ?_
  refine W.iret hx hb hrt (fun t ht hW => dz_endM (f := rv_i) 0 hE hS hG ?_ ht hW) (fun q h => hS.2.2 q h) dL_book_26
  exact ⟨rfl, y, G2, hp, fun r9 n9 => dz_o n9 rfl, dz_s⟩
set_option maxHeartbeats 4000000 in
set_option maxRecDepth 100000 in
theorem c_L_book_X1 (l : Launch) (Z : dzG) (G : dzW) (ad : dzA) (aX aO : Nat) (v1 v2 v3 v4 : Int32) (fs : List Value) (fr lo : Nat) (ha : ad (1, 0) = aX) (ho : G (1, 0) = some (.inr (9, fs))) (hM : vx_Met l yX8_book wsX8_book (dz_rm fr lo 1 6) (dz_P Z G ad [.ref aX, .int v1, .int v2, .int v3, .int v4]) (fun _ _ _ _ => False) (dz_XC Z G ad (fun E => E = "java/lang/IndexOutOfBoundsException")) 1 6 (dz_A Z)) : dzWr l yL_book wsL_book (fr + 1) (8 + (9 + 11) + lo) 1 6 Z G ad [.ref aX, .int v1, .int v2, .int v3, .int v4, .ref aO] rv_i (fun (x : Int32) G1 ad1 => x = 1 ∧ G1 = G ∧ ad1 = ad) := by
  refine dz_ofWH (cc := cL_book) (maxL := 7) (ret := (some .int)) (by decide) rfl ?_
  intro p e s m args below meth c s₁ B hml hv
  obtain ⟨rfl, hG, hE⟩ := hv
  have hx := B.exec
  have hb := B.bytes
  have hrt := B.returns
  have hts := atoms_spec (ws := wsL_book) B.pre
  have hown : s.vm.findClass RL = some m.cls := findClass_of_methodNamed B.named
  have hS : va_S (dz_A Z) s.heap s.heap [] := va_S.rf
  have hl := lv_entry ([.ref aX, .int v1, .int v2, .int v3, .int v4, .ref aO]) (n := 7) (Nat.le_of_ble_eq_true rfl)
  rw [lg_entry_eq]
  generalize (lg_sl ([.ref aX, .int v1, .int v2, .int v3, .int v4, .ref aO]) ++ List.replicate (7 - (lg_sl ([.ref aX, .int v1, .int v2, .int v3, .int v4, .ref aO])).length) Slot.unset).toArray = ls at hl ⊢
  have hl : lv_has ls 7 [(0, .ref aX), (1, .int v1), (2, .int v2), (3, .int v3), (4, .int v4), (5, .ref aO)] := hl
  refine lv_aload hx hb dL_book_0 (lv_at hl 5 rfl) ?_
  refine lv_iconst (v := 0) hx hb dL_book_2 (by decide) ?_
  refine lv_aload_n hx hb dL_book_3 rfl (lv_at hl 0 rfl) ?_
  refine lv_iload_n hx hb dL_book_4 rfl (lv_at hl 1 rfl) ?_
  refine lv_iload_n hx hb dL_book_5 rfl (lv_at hl 2 rfl) ?_
  refine lv_iload_n hx hb dL_book_6 rfl (lv_at hl 3 rfl) ?_
  refine lv_iload hx hb dL_book_7 (lv_at hl 4 rfl) ?_
  refine dz_kX (av := #[]) (vx_runV (As := [_, _, _, _]) ⟨hx, hb, hml, hown, hts⟩ hM (cwV 4 hts gL_book_X8_book rfl rfl rfl (by decide +kernel) ⟨Nat.le_refl _, Nat.le_refl _⟩) (dz_P.preV hE hS hG ho rfl ha) rfl rfl hl.1 rfl (lv_room (Nat.le_of_ble_eq_true rfl)) dL_book_9 ⟨Nat.le_refl _, Nat.le_refl _⟩) hS (fun E q ce H locs hEx hG hS hce hcv hcl => ?_)
  subst hEx
  refine vx_catch (name := "java/lang/IndexOutOfBoundsException") hown [] ⟨0, 14, 17, 21⟩ [⟨0, 14, 21, 13⟩] ((vx_table (x := yL_book) B (hts _ List.mem_cons_self)).trans rfl) (fun z h => absurd h List.not_mem_nil) (by decide) (by decide) (hts _ (List.mem_of_getElem? (i := 1) rfl)) (va_Nw.use rfl (hE.2.2.2.2.2.2.1 ("java/lang/IndexOutOfBoundsException", "java/lang/IndexOutOfBoundsException") (by decide +kernel))) hce hcv hcl ?_
  refine lv_astore (lv' := [(6, .ref q), (0, .ref aX), (1, .int v1), (2, .int v2), (3, .int v3), (4, .int v4), (5, .ref aO)]) (pc := 17) hx hb dL_book_17 hl (by decide) rfl (fun ls hl => ?_)
  refine lv_iconst (v := 1) hx hb dL_book_19 (by decide) ?_
  refine W.widen (k := 1) (n := 6) (by omega) (by omega) ?_
  refine W.iret hx hb hrt (fun t ht hW => dz_endM (f := rv_i) 1 hE hS hG ?_ ht hW) (fun q h => hS.2.2 q h) dL_book_20
  exact ⟨rfl, rfl, rfl⟩
set_option maxHeartbeats 4000000 in
set_option maxRecDepth 100000 in
theorem c_L_book_X2 (l : Launch) (Z : dzG) (G : dzW) (ad : dzA) (aX aO : Nat) (v1 v2 v3 v4 : Int32) (fs : List Value) (fr lo : Nat) (ha : ad (1, 0) = aX) (ho : G (1, 0) = some (.inr (9, fs))) (hM : vx_Met l yX8_book wsX8_book (dz_rm fr lo 1 6) (dz_P Z G ad [.ref aX, .int v1, .int v2, .int v3, .int v4]) (fun _ _ _ _ => False) (dz_XC Z G ad (fun E => E = "java/lang/IllegalArgumentException")) 1 6 (dz_A Z)) : dzWr l yL_book wsL_book (fr + 1) (8 + (9 + 11) + lo) 1 6 Z G ad [.ref aX, .int v1, .int v2, .int v3, .int v4, .ref aO] rv_i (fun (x : Int32) G1 ad1 => x = 2 ∧ G1 = G ∧ ad1 = ad) := by
  refine dz_ofWH (cc := cL_book) (maxL := 7) (ret := (some .int)) (by decide) rfl ?_
  intro p e s m args below meth c s₁ B hml hv
  obtain ⟨rfl, hG, hE⟩ := hv
  have hx := B.exec
  have hb := B.bytes
  have hrt := B.returns
  have hts := atoms_spec (ws := wsL_book) B.pre
  have hown : s.vm.findClass RL = some m.cls := findClass_of_methodNamed B.named
  have hS : va_S (dz_A Z) s.heap s.heap [] := va_S.rf
  have hl := lv_entry ([.ref aX, .int v1, .int v2, .int v3, .int v4, .ref aO]) (n := 7) (Nat.le_of_ble_eq_true rfl)
  rw [lg_entry_eq]
  generalize (lg_sl ([.ref aX, .int v1, .int v2, .int v3, .int v4, .ref aO]) ++ List.replicate (7 - (lg_sl ([.ref aX, .int v1, .int v2, .int v3, .int v4, .ref aO])).length) Slot.unset).toArray = ls at hl ⊢
  have hl : lv_has ls 7 [(0, .ref aX), (1, .int v1), (2, .int v2), (3, .int v3), (4, .int v4), (5, .ref aO)] := hl
  refine lv_aload hx hb dL_book_0 (lv_at hl 5 rfl) ?_
  refine lv_iconst (v := 0) hx hb dL_book_2 (by decide) ?_
  refine lv_aload_n hx hb dL_book_3 rfl (lv_at hl 0 rfl) ?_
  refine lv_iload_n hx hb dL_book_4 rfl (lv_at hl 1 rfl) ?_
  refine lv_iload_n hx hb dL_book_5 rfl (lv_at hl 2 rfl) ?_
  refine lv_iload_n hx hb dL_book_6 rfl (lv_at hl 3 rfl) ?_
  refine lv_iload hx hb dL_book_7 (lv_at hl 4 rfl) ?_
  refine dz_kX (av := #[]) (vx_runV (As := [_, _, _, _]) ⟨hx, hb, hml, hown, hts⟩ hM (cwV 4 hts gL_book_X8_book rfl rfl rfl (by decide +kernel) ⟨Nat.le_refl _, Nat.le_refl _⟩) (dz_P.preV hE hS hG ho rfl ha) rfl rfl hl.1 rfl (lv_room (Nat.le_of_ble_eq_true rfl)) dL_book_9 ⟨Nat.le_refl _, Nat.le_refl _⟩) hS (fun E q ce H locs hEx hG hS hce hcv hcl => ?_)
  subst hEx
  refine vx_catch (name := "java/lang/IllegalArgumentException") hown [⟨0, 14, 17, 21⟩] ⟨0, 14, 21, 13⟩ [] ((vx_table (x := yL_book) B (hts _ List.mem_cons_self)).trans rfl) (List.forall_mem_cons.mpr ⟨Or.inr ⟨by decide, "java/lang/IndexOutOfBoundsException", (hts _ (List.mem_of_getElem? (i := 1) rfl)), hE.2.2.2.2.2.2.2.2.2.2.2.1 ("java/lang/IllegalArgumentException", "java/lang/IndexOutOfBoundsException") (by decide +kernel)⟩, (fun z h => absurd h List.not_mem_nil)⟩) (by decide) (by decide) (hts _ (List.mem_of_getElem? (i := 2) rfl)) (va_Nw.use rfl (hE.2.2.2.2.2.2.1 ("java/lang/IllegalArgumentException", "java/lang/IllegalArgumentException") (by decide +kernel))) hce hcv hcl ?_
  refine lv_astore (lv' := [(6, .ref q), (0, .ref aX), (1, .int v1), (2, .int v2), (3, .int v3), (4, .int v4), (5, .ref aO)]) (pc := 21) hx hb dL_book_21 hl (by decide) rfl (fun ls hl => ?_)
  refine lv_iconst (v := 2) hx hb dL_book_23 (by decide) ?_
  refine W.widen (k := 1) (n := 6) (by omega) (by omega) ?_
  refine W.iret hx hb hrt (fun t ht hW => dz_endM (f := rv_i) 2 hE hS hG ?_ ht hW) (fun q h => hS.2.2 q h) dL_book_24
  exact ⟨rfl, rfl, rfl⟩

set_option maxHeartbeats 4000000 in
set_option maxRecDepth 100000 in
theorem c_L_vote_W (l : Launch) (Z : dzG) (G : dzW) (ad : dzA) (aX aO : Nat) (v1 v2 : Int32) (fs : List Value) (fo : Nat → Int64) (fr lo mc ms : Nat) (Po : Int32 → dzW → dzA → Prop) (ha : ad (1, 0) = aX) (ho : G (1, 0) = some (.inr (9, fs))) (hM : dzWr l yX8_vote wsX8_vote fr lo mc ms Z G ad [.ref aX, .int v1, .int v2] rv_i Po) (hP : ∀ y G1 ad1, Po y G1 ad1 → G1 (50, 0) = some (eJ Z 1 fo) ∧ ad1 (50, 0) = aO) : dzWr l yL_vote wsL_vote (fr + 1) (8 + (3 + 11) + lo) mc ms Z G ad [.ref aX, .int v1, .int v2, .ref aO] rv_i (fun (x : Int32) G1 ad1 => x = 0 ∧ ∃ (y : Int32) (G2 : dzW), Po y G2 ad1 ∧ (∀ r9 : dzR, r9 ≠ (50, 0) → G1 r9 = G2 r9) ∧ G1 (50, 0) = some (eJ Z 1 (vp_updL fo 0 (if y = 0 then 0 else 1)))) := by
  refine dz_ofWH (cc := cL_vote) (maxL := 5) (ret := (some .int)) (by decide) rfl ?_
  intro p e s m args below meth c s₁ B hml hv
  obtain ⟨rfl, hG, hE⟩ := hv
  have hx := B.exec
  have hb := B.bytes
  have hrt := B.returns
  have hts := atoms_spec (ws := wsL_vote) B.pre
  have hown : s.vm.findClass RL = some m.cls := findClass_of_methodNamed B.named
  have hS : va_S (dz_A Z) s.heap s.heap [] := va_S.rf
  have hl := lv_entry ([.ref aX, .int v1, .int v2, .ref aO]) (n := 5) (Nat.le_of_ble_eq_true rfl)
  rw [lg_entry_eq]
  generalize (lg_sl ([.ref aX, .int v1, .int v2, .ref aO]) ++ List.replicate (5 - (lg_sl ([.ref aX, .int v1, .int v2, .ref aO])).length) Slot.unset).toArray = ls at hl ⊢
  have hl : lv_has ls 5 [(0, .ref aX), (1, .int v1), (2, .int v2), (3, .ref aO)] := hl
  refine lv_aload_n hx hb dL_vote_0 rfl (lv_at hl 3 rfl) ?_
  refine lv_iconst (v := 0) hx hb dL_vote_1 (by decide) ?_
  refine lv_aload_n hx hb dL_vote_2 rfl (lv_at hl 0 rfl) ?_
  refine lv_iload_n hx hb dL_vote_3 rfl (lv_at hl 1 rfl) ?_
  refine lv_iload_n hx hb dL_vote_4 rfl (lv_at hl 2 rfl) ?_
  refine dz_kMi (va_runV (As := [_, _]) ⟨hx, hb, hml, hown, hts⟩ hM (cwV 2 hts gL_vote_X8_vote rfl rfl rfl (by decide +kernel) ⟨Nat.le_refl _, Nat.le_refl _⟩) (dz_P.preV hE hS hG ho rfl ha) rfl rfl hl.1 rfl (lv_room (Nat.le_of_ble_eq_true rfl)) dL_vote_5 ⟨Nat.le_of_eq (Nat.zero_add mc), Nat.le_of_eq (Nat.zero_add ms)⟩) hS (fun y G2 ad2 H locs hp hG hS => ?_)
  obtain ⟨h50, ha50⟩ := hP y G2 ad2 hp
  refine lv_if_eq (tgt := 15) hx hb dL_vote_8 (by decide) (fun c9 => ?_) (fun c9 => ?_)
  · refine lv_lconst (v := 0) hx hb dL_vote_15 (by decide) ?_
    refine dz_last hx hb hE hG ha50 hS h50 (by unfold vp_in; decide) dL_vote_16 (fun H locs hG hS => ?_)
    refine lv_goto (tgt := 24) hx hb dL_vote_17 (by decide) ?_
    refine lv_iconst (v := 0) hx hb dL_vote_24 (by decide) ?_
    refine W.widen (k := mc) (n := ms) (by omega) (by omega) ?_
    refine W.iret hx hb hrt (fun t ht hW => dz_endM (f := rv_i) 0 hE hS hG ?_ ht hW) (fun q h => hS.2.2 q h) dL_vote_25
    exact ⟨rfl, y, G2, hp, fun r9 n9 => dz_o n9 rfl, by rw [if_pos c9]; exact dz_s⟩
  · refine lv_lconst (v := 1) hx hb dL_vote_11 (by decide) ?_
    refine lv_goto (tgt := 16) hx hb dL_vote_12 (by decide) ?_
    refine dz_last hx hb hE hG ha50 hS h50 (by unfold vp_in; decide) dL_vote_16 (fun H locs hG hS => ?_)
    refine lv_goto (tgt := 24) hx hb dL_vote_17 (by decide) ?_
    refine lv_iconst (v := 0) hx hb dL_vote_24 (by decide) ?_
    refine W.widen (k := mc) (n := ms) (by omega) (by omega) ?_
    refine W.iret hx hb hrt (fun t ht hW => dz_endM (f := rv_i) 0 hE hS hG ?_ ht hW) (fun q h => hS.2.2 q h) dL_vote_25
    exact ⟨rfl, y, G2, hp, fun r9 n9 => dz_o n9 rfl, by rw [if_neg c9]; exact dz_s⟩
set_option maxHeartbeats 4000000 in
set_option maxRecDepth 100000 in
theorem c_L_vote_X1 (l : Launch) (Z : dzG) (G : dzW) (ad : dzA) (aX aO : Nat) (v1 v2 : Int32) (fs : List Value) (fr lo : Nat) (ha : ad (1, 0) = aX) (ho : G (1, 0) = some (.inr (9, fs))) (hM : vx_Met l yX8_vote wsX8_vote (dz_rm fr lo 1 6) (dz_P Z G ad [.ref aX, .int v1, .int v2]) (fun _ _ _ _ => False) (dz_XC Z G ad (fun E => E = "java/lang/IndexOutOfBoundsException")) 1 6 (dz_A Z)) : dzWr l yL_vote wsL_vote (fr + 1) (8 + (3 + 11) + lo) 1 6 Z G ad [.ref aX, .int v1, .int v2, .ref aO] rv_i (fun (x : Int32) G1 ad1 => x = 1 ∧ G1 = G ∧ ad1 = ad) := by
  refine dz_ofWH (cc := cL_vote) (maxL := 5) (ret := (some .int)) (by decide) rfl ?_
  intro p e s m args below meth c s₁ B hml hv
  obtain ⟨rfl, hG, hE⟩ := hv
  have hx := B.exec
  have hb := B.bytes
  have hrt := B.returns
  have hts := atoms_spec (ws := wsL_vote) B.pre
  have hown : s.vm.findClass RL = some m.cls := findClass_of_methodNamed B.named
  have hS : va_S (dz_A Z) s.heap s.heap [] := va_S.rf
  have hl := lv_entry ([.ref aX, .int v1, .int v2, .ref aO]) (n := 5) (Nat.le_of_ble_eq_true rfl)
  rw [lg_entry_eq]
  generalize (lg_sl ([.ref aX, .int v1, .int v2, .ref aO]) ++ List.replicate (5 - (lg_sl ([.ref aX, .int v1, .int v2, .ref aO])).length) Slot.unset).toArray = ls at hl ⊢
  have hl : lv_has ls 5 [(0, .ref aX), (1, .int v1), (2, .int v2), (3, .ref aO)] := hl
  refine lv_aload_n hx hb dL_vote_0 rfl (lv_at hl 3 rfl) ?_
  refine lv_iconst (v := 0) hx hb dL_vote_1 (by decide) ?_
  refine lv_aload_n hx hb dL_vote_2 rfl (lv_at hl 0 rfl) ?_
  refine lv_iload_n hx hb dL_vote_3 rfl (lv_at hl 1 rfl) ?_
  refine lv_iload_n hx hb dL_vote_4 rfl (lv_at hl 2 rfl) ?_
  refine dz_kX (av := #[]) (vx_runV (As := [_, _]) ⟨hx, hb, hml, hown, hts⟩ hM (cwV 2 hts gL_vote_X8_vote rfl rfl rfl (by decide +kernel) ⟨Nat.le_refl _, Nat.le_refl _⟩) (dz_P.preV hE hS hG ho rfl ha) rfl rfl hl.1 rfl (lv_room (Nat.le_of_ble_eq_true rfl)) dL_vote_5 ⟨Nat.le_refl _, Nat.le_refl _⟩) hS (fun E q ce H locs hEx hG hS hce hcv hcl => ?_)
  subst hEx
  refine vx_catch (name := "java/lang/IndexOutOfBoundsException") hown [] ⟨0, 17, 20, 21⟩ [] ((vx_table (x := yL_vote) B (hts _ List.mem_cons_self)).trans rfl) (fun z h => absurd h List.not_mem_nil) (by decide) (by decide) (hts _ (List.mem_of_getElem? (i := 1) rfl)) (va_Nw.use rfl (hE.2.2.2.2.2.2.1 ("java/lang/IndexOutOfBoundsException", "java/lang/IndexOutOfBoundsException") (by decide +kernel))) hce hcv hcl ?_
  refine lv_astore (lv' := [(4, .ref q), (0, .ref aX), (1, .int v1), (2, .int v2), (3, .ref aO)]) (pc := 20) hx hb dL_vote_20 hl (by decide) rfl (fun ls hl => ?_)
  refine lv_iconst (v := 1) hx hb dL_vote_22 (by decide) ?_
  refine W.widen (k := 1) (n := 6) (by omega) (by omega) ?_
  refine W.iret hx hb hrt (fun t ht hW => dz_endM (f := rv_i) 1 hE hS hG ?_ ht hW) (fun q h => hS.2.2 q h) dL_vote_23
  exact ⟨rfl, rfl, rfl⟩

set_option maxHeartbeats 4000000 in
set_option maxRecDepth 100000 in
theorem c_L_from_W (l : Launch) (Z : dzG) (G : dzW) (ad : dzA) (aX aO : Nat) (v1 v2 v3 : Int32) (fs : List Value) (fo : Nat → Int64) (fr lo mc ms : Nat) (Po : Int32 → dzW → dzA → Prop) (ha : ad (1, 0) = aX) (ho : G (1, 0) = some (.inr (9, fs))) (hM : dzWr l yX8_from wsX8_from fr lo mc ms Z G ad [.ref aX, .int v1, .int v2, .int v3] rv_i Po) (hP : ∀ y G1 ad1, Po y G1 ad1 → G1 (50, 0) = some (eJ Z 1 fo) ∧ ad1 (50, 0) = aO) : dzWr l yL_from wsL_from (fr + 1) (8 + (5 + 11) + lo) mc ms Z G ad [.ref aX, .int v1, .int v2, .int v3, .ref aO] rv_i (fun (x : Int32) G1 ad1 => x = 0 ∧ ∃ (y : Int32) (G2 : dzW), Po y G2 ad1 ∧ (∀ r9 : dzR, r9 ≠ (50, 0) → G1 r9 = G2 r9) ∧ G1 (50, 0) = some (eJ Z 1 (vp_updL fo 0 y.toInt64))) := by
  refine dz_ofWH (cc := cL_from) (maxL := 6) (ret := (some .int)) (by decide) rfl ?_
  intro p e s m args below meth c s₁ B hml hv
  obtain ⟨rfl, hG, hE⟩ := hv
  have hx := B.exec
  have hb := B.bytes
  have hrt := B.returns
  have hts := atoms_spec (ws := wsL_from) B.pre
  have hown : s.vm.findClass RL = some m.cls := findClass_of_methodNamed B.named
  have hS : va_S (dz_A Z) s.heap s.heap [] := va_S.rf
  have hl := lv_entry ([.ref aX, .int v1, .int v2, .int v3, .ref aO]) (n := 6) (Nat.le_of_ble_eq_true rfl)
  rw [lg_entry_eq]
  generalize (lg_sl ([.ref aX, .int v1, .int v2, .int v3, .ref aO]) ++ List.replicate (6 - (lg_sl ([.ref aX, .int v1, .int v2, .int v3, .ref aO])).length) Slot.unset).toArray = ls at hl ⊢
  have hl : lv_has ls 6 [(0, .ref aX), (1, .int v1), (2, .int v2), (3, .int v3), (4, .ref aO)] := hl
  refine lv_aload hx hb dL_from_0 (lv_at hl 4 rfl) ?_
  refine lv_iconst (v := 0) hx hb dL_from_2 (by decide) ?_
  refine lv_aload_n hx hb dL_from_3 rfl (lv_at hl 0 rfl) ?_
  refine lv_iload_n hx hb dL_from_4 rfl (lv_at hl 1 rfl) ?_
  refine lv_iload_n hx hb dL_from_5 rfl (lv_at hl 2 rfl) ?_
  refine lv_iload_n hx hb dL_from_6 rfl (lv_at hl 3 rfl) ?_
  refine dz_kMi (va_runV (As := [_, _, _]) ⟨hx, hb, hml, hown, hts⟩ hM (cwV 3 hts gL_from_X8_from rfl rfl rfl (by decide +kernel) ⟨Nat.le_refl _, Nat.le_refl _⟩) (dz_P.preV hE hS hG ho rfl ha) rfl rfl hl.1 rfl (lv_room (Nat.le_of_ble_eq_true rfl)) dL_from_7 ⟨Nat.le_of_eq (Nat.zero_add mc), Nat.le_of_eq (Nat.zero_add ms)⟩) hS (fun y G2 ad2 H locs hp hG hS => ?_)
  obtain ⟨h50, ha50⟩ := hP y G2 ad2 hp
  refine lv_i2l hx hb dL_from_10 rfl ?_
  refine dz_last hx hb hE hG ha50 hS h50 (by unfold vp_in; decide) dL_from_11 (fun H locs hG hS => ?_)
  refine lv_goto (tgt := 19) hx hb dL_from_12 (by decide) ?_
  refine lv_iconst (v := 0) hx hb dL_from_19 (by decide) ?_
  refine W.widen (k := mc) (n := ms) (by omega) (by omega) ?_
  refine W.iret hx hb hrt (fun t ht hW => dz_endM (f := rv_i) 0 hE hS hG ?_ ht hW) (fun q h => hS.2.2 q h) dL_from_20
  exact ⟨rfl, y, G2, hp, fun r9 n9 => dz_o n9 rfl, dz_s⟩
set_option maxHeartbeats 4000000 in
set_option maxRecDepth 100000 in
theorem c_L_from_X1 (l : Launch) (Z : dzG) (G : dzW) (ad : dzA) (aX aO : Nat) (v1 v2 v3 : Int32) (fs : List Value) (fr lo : Nat) (ha : ad (1, 0) = aX) (ho : G (1, 0) = some (.inr (9, fs))) (hM : vx_Met l yX8_from wsX8_from (dz_rm fr lo 1 6) (dz_P Z G ad [.ref aX, .int v1, .int v2, .int v3]) (fun _ _ _ _ => False) (dz_XC Z G ad (fun E => E = "java/lang/IllegalArgumentException")) 1 6 (dz_A Z)) : dzWr l yL_from wsL_from (fr + 1) (8 + (5 + 11) + lo) 1 6 Z G ad [.ref aX, .int v1, .int v2, .int v3, .ref aO] rv_i (fun (x : Int32) G1 ad1 => x = 1 ∧ G1 = G ∧ ad1 = ad) := by
  refine dz_ofWH (cc := cL_from) (maxL := 6) (ret := (some .int)) (by decide) rfl ?_
  intro p e s m args below meth c s₁ B hml hv
  obtain ⟨rfl, hG, hE⟩ := hv
  have hx := B.exec
  have hb := B.bytes
  have hrt := B.returns
  have hts := atoms_spec (ws := wsL_from) B.pre
  have hown : s.vm.findClass RL = some m.cls := findClass_of_methodNamed B.named
  have hS : va_S (dz_A Z) s.heap s.heap [] := va_S.rf
  have hl := lv_entry ([.ref aX, .int v1, .int v2, .int v3, .ref aO]) (n := 6) (Nat.le_of_ble_eq_true rfl)
  rw [lg_entry_eq]
  generalize (lg_sl ([.ref aX, .int v1, .int v2, .int v3, .ref aO]) ++ List.replicate (6 - (lg_sl ([.ref aX, .int v1, .int v2, .int v3, .ref aO])).length) Slot.unset).toArray = ls at hl ⊢
  have hl : lv_has ls 6 [(0, .ref aX), (1, .int v1), (2, .int v2), (3, .int v3), (4, .ref aO)] := hl
  refine lv_aload hx hb dL_from_0 (lv_at hl 4 rfl) ?_
  refine lv_iconst (v := 0) hx hb dL_from_2 (by decide) ?_
  refine lv_aload_n hx hb dL_from_3 rfl (lv_at hl 0 rfl) ?_
  refine lv_iload_n hx hb dL_from_4 rfl (lv_at hl 1 rfl) ?_
  refine lv_iload_n hx hb dL_from_5 rfl (lv_at hl 2 rfl) ?_
  refine lv_iload_n hx hb dL_from_6 rfl (lv_at hl 3 rfl) ?_
  refine dz_kX (av := #[]) (vx_runV (As := [_, _, _]) ⟨hx, hb, hml, hown, hts⟩ hM (cwV 3 hts gL_from_X8_from rfl rfl rfl (by decide +kernel) ⟨Nat.le_refl _, Nat.le_refl _⟩) (dz_P.preV hE hS hG ho rfl ha) rfl rfl hl.1 rfl (lv_room (Nat.le_of_ble_eq_true rfl)) dL_from_7 ⟨Nat.le_refl _, Nat.le_refl _⟩) hS (fun E q ce H locs hEx hG hS hce hcv hcl => ?_)
  subst hEx
  refine vx_catch (name := "java/lang/IllegalArgumentException") hown [] ⟨0, 12, 15, 13⟩ [] ((vx_table (x := yL_from) B (hts _ List.mem_cons_self)).trans rfl) (fun z h => absurd h List.not_mem_nil) (by decide) (by decide) (hts _ (List.mem_of_getElem? (i := 1) rfl)) (va_Nw.use rfl (hE.2.2.2.2.2.2.1 ("java/lang/IllegalArgumentException", "java/lang/IllegalArgumentException") (by decide +kernel))) hce hcv hcl ?_
  refine lv_astore (lv' := [(5, .ref q), (0, .ref aX), (1, .int v1), (2, .int v2), (3, .int v3), (4, .ref aO)]) (pc := 15) hx hb dL_from_15 hl (by decide) rfl (fun ls hl => ?_)
  refine lv_iconst (v := 1) hx hb dL_from_17 (by decide) ?_
  refine W.widen (k := 1) (n := 6) (by omega) (by omega) ?_
  refine W.iret hx hb hrt (fun t ht hW => dz_endM (f := rv_i) 1 hE hS hG ?_ ht hW) (fun q h => hS.2.2 q h) dL_from_18
  exact ⟨rfl, rfl, rfl⟩

set_option maxHeartbeats 4000000 in
set_option maxRecDepth 100000 in
theorem c_L_images_W (l : Launch) (Z : dzG) (G : dzW) (ad : dzA) (aX aO : Nat) (v1 : Int32) (fs : List Value) (fo : Nat → Int64) (fr lo mc ms : Nat) (Po : Int32 → dzW → dzA → Prop) (ha : ad (1, 0) = aX) (ho : G (1, 0) = some (.inr (9, fs))) (hM : dzWr l yX8_images wsX8_images fr lo mc ms Z G ad [.ref aX, .int v1] rv_i Po) (hP : ∀ y G1 ad1, Po y G1 ad1 → G1 (50, 0) = some (eJ Z 1 fo) ∧ ad1 (50, 0) = aO) : dzWr l yL_images wsL_images (fr + 1) (8 + (3 + 11) + lo) mc ms Z G ad [.ref aX, .int v1, .ref aO] rv_i (fun (x : Int32) G1 ad1 => x = 0 ∧ ∃ (y : Int32) (G2 : dzW), Po y G2 ad1 ∧ (∀ r9 : dzR, r9 ≠ (50, 0) → G1 r9 = G2 r9) ∧ G1 (50, 0) = some (eJ Z 1 (vp_updL fo 0 y.toInt64))) := by
  refine dz_ofWH (cc := cL_images) (maxL := 4) (ret := (some .int)) (by decide) rfl ?_
  intro p e s m args below meth c s₁ B hml hv
  obtain ⟨rfl, hG, hE⟩ := hv
  have hx := B.exec
  have hb := B.bytes
  have hrt := B.returns
  have hts := atoms_spec (ws := wsL_images) B.pre
  have hown : s.vm.findClass RL = some m.cls := findClass_of_methodNamed B.named
  have hS : va_S (dz_A Z) s.heap s.heap [] := va_S.rf
  have hl := lv_entry ([.ref aX, .int v1, .ref aO]) (n := 4) (Nat.le_of_ble_eq_true rfl)
  rw [lg_entry_eq]
  generalize (lg_sl ([.ref aX, .int v1, .ref aO]) ++ List.replicate (4 - (lg_sl ([.ref aX, .int v1, .ref aO])).length) Slot.unset).toArray = ls at hl ⊢
  have hl : lv_has ls 4 [(0, .ref aX), (1, .int v1), (2, .ref aO)] := hl
  refine lv_aload_n hx hb dL_images_0 rfl (lv_at hl 2 rfl) ?_
  refine lv_iconst (v := 0) hx hb dL_images_1 (by decide) ?_
  refine lv_aload_n hx hb dL_images_2 rfl (lv_at hl 0 rfl) ?_
  refine lv_iload_n hx hb dL_images_3 rfl (lv_at hl 1 rfl) ?_
  refine dz_kMi (va_runV (As := [_]) ⟨hx, hb, hml, hown, hts⟩ hM (cwV 1 hts gL_images_X8_images rfl rfl rfl (by decide +kernel) ⟨Nat.le_refl _, Nat.le_refl _⟩) (dz_P.preV hE hS hG ho rfl ha) rfl rfl hl.1 rfl (lv_room (Nat.le_of_ble_eq_true rfl)) dL_images_4 ⟨Nat.le_of_eq (Nat.zero_add mc), Nat.le_of_eq (Nat.zero_add ms)⟩) hS (fun y G2 ad2 H locs hp hG hS => ?_)
  obtain ⟨h50, ha50⟩ := hP y G2 ad2 hp
  refine lv_i2l hx hb dL_images_7 rfl ?_
  refine dz_last hx hb hE hG ha50 hS h50 (by unfold vp_in; decide) dL_images_8 (fun H locs hG hS => ?_)
  refine lv_goto (tgt := 15) hx hb dL_images_9 (by decide) ?_
  refine lv_iconst (v := 0) hx hb dL_images_15 (by decide) ?_
  refine W.widen (k := mc) (n := ms) (by omega) (by omega) ?_
  refine W.iret hx hb hrt (fun t ht hW => dz_endM (f := rv_i) 0 hE hS hG ?_ ht hW) (fun q h => hS.2.2 q h) dL_images_16
  exact ⟨rfl, y, G2, hp, fun r9 n9 => dz_o n9 rfl, dz_s⟩
set_option maxHeartbeats 4000000 in
set_option maxRecDepth 100000 in
theorem c_L_images_X1 (l : Launch) (Z : dzG) (G : dzW) (ad : dzA) (aX aO : Nat) (v1 : Int32) (fs : List Value) (fr lo : Nat) (ha : ad (1, 0) = aX) (ho : G (1, 0) = some (.inr (9, fs))) (hM : vx_Met l yX8_images wsX8_images (dz_rm fr lo 1 6) (dz_P Z G ad [.ref aX, .int v1]) (fun _ _ _ _ => False) (dz_XC Z G ad (fun E => E = "java/lang/IndexOutOfBoundsException")) 1 6 (dz_A Z)) : dzWr l yL_images wsL_images (fr + 1) (8 + (3 + 11) + lo) 1 6 Z G ad [.ref aX, .int v1, .ref aO] rv_i (fun (x : Int32) G1 ad1 => x = 1 ∧ G1 = G ∧ ad1 = ad) := by
  refine dz_ofWH (cc := cL_images) (maxL := 4) (ret := (some .int)) (by decide) rfl ?_
  intro p e s m args below meth c s₁ B hml hv
  obtain ⟨rfl, hG, hE⟩ := hv
  have hx := B.exec
  have hb := B.bytes
  have hrt := B.returns
  have hts := atoms_spec (ws := wsL_images) B.pre
  have hown : s.vm.findClass RL = some m.cls := findClass_of_methodNamed B.named
  have hS : va_S (dz_A Z) s.heap s.heap [] := va_S.rf
  have hl := lv_entry ([.ref aX, .int v1, .ref aO]) (n := 4) (Nat.le_of_ble_eq_true rfl)
  rw [lg_entry_eq]
  generalize (lg_sl ([.ref aX, .int v1, .ref aO]) ++ List.replicate (4 - (lg_sl ([.ref aX, .int v1, .ref aO])).length) Slot.unset).toArray = ls at hl ⊢
  have hl : lv_has ls 4 [(0, .ref aX), (1, .int v1), (2, .ref aO)] := hl
  refine lv_aload_n hx hb dL_images_0 rfl (lv_at hl 2 rfl) ?_
  refine lv_iconst (v := 0) hx hb dL_images_1 (by decide) ?_
  refine lv_aload_n hx hb dL_images_2 rfl (lv_at hl 0 rfl) ?_
  refine lv_iload_n hx hb dL_images_3 rfl (lv_at hl 1 rfl) ?_
  refine dz_kX (av := #[]) (vx_runV (As := [_]) ⟨hx, hb, hml, hown, hts⟩ hM (cwV 1 hts gL_images_X8_images rfl rfl rfl (by decide +kernel) ⟨Nat.le_refl _, Nat.le_refl _⟩) (dz_P.preV hE hS hG ho rfl ha) rfl rfl hl.1 rfl (lv_room (Nat.le_of_ble_eq_true rfl)) dL_images_4 ⟨Nat.le_refl _, Nat.le_refl _⟩) hS (fun E q ce H locs hEx hG hS hce hcv hcl => ?_)
  subst hEx
  refine vx_catch (name := "java/lang/IndexOutOfBoundsException") hown [] ⟨0, 9, 12, 21⟩ [] ((vx_table (x := yL_images) B (hts _ List.mem_cons_self)).trans rfl) (fun z h => absurd h List.not_mem_nil) (by decide) (by decide) (hts _ (List.mem_of_getElem? (i := 1) rfl)) (va_Nw.use rfl (hE.2.2.2.2.2.2.1 ("java/lang/IndexOutOfBoundsException", "java/lang/IndexOutOfBoundsException") (by decide +kernel))) hce hcv hcl ?_
  refine lv_astore_n (lv' := [(3, .ref q), (0, .ref aX), (1, .int v1), (2, .ref aO)]) (pc := 12) hx hb dL_images_12 rfl hl (by decide) rfl (fun ls hl => ?_)
  refine lv_iconst (v := 1) hx hb dL_images_13 (by decide) ?_
  refine W.widen (k := 1) (n := 6) (by omega) (by omega) ?_
  refine W.iret hx hb hrt (fun t ht hW => dz_endM (f := rv_i) 1 hE hS hG ?_ ht hW) (fun q h => hS.2.2 q h) dL_images_14
  exact ⟨rfl, rfl, rfl⟩

set_option maxHeartbeats 4000000 in
set_option maxRecDepth 100000 in
theorem c_L_imagesAnew_W (l : Launch) (Z : dzG) (G : dzW) (ad : dzA) (aX aO : Nat) (v1 : Int32) (fs : List Value) (fo : Nat → Int64) (fr lo mc ms : Nat) (Po : Int32 → dzW → dzA → Prop) (ha : ad (1, 0) = aX) (ho : G (1, 0) = some (.inr (9, fs))) (hM : dzWr l yX8_imagesAnew wsX8_imagesAnew fr lo mc ms Z G ad [.ref aX, .int v1] rv_i Po) (hP : ∀ y G1 ad1, Po y G1 ad1 → G1 (50, 0) = some (eJ Z 1 fo) ∧ ad1 (50, 0) = aO) : dzWr l yL_imagesAnew wsL_imagesAnew (fr + 1) (8 + (3 + 11) + lo) mc ms Z G ad [.ref aX, .int v1, .ref aO] rv_i (fun (x : Int32) G1 ad1 => x = 0 ∧ ∃ (y : Int32) (G2 : dzW), Po y G2 ad1 ∧ (∀ r9 : dzR, r9 ≠ (50, 0) → G1 r9 = G2 r9) ∧ G1 (50, 0) = some (eJ Z 1 (vp_updL fo 0 y.toInt64))) := by
  refine dz_ofWH (cc := cL_imagesAnew) (maxL := 4) (ret := (some .int)) (by decide) rfl ?_
  intro p e s m args below meth c s₁ B hml hv
  obtain ⟨rfl, hG, hE⟩ := hv
  have hx := B.exec
  have hb := B.bytes
  have hrt := B.returns
  have hts := atoms_spec (ws := wsL_imagesAnew) B.pre
  have hown : s.vm.findClass RL = some m.cls := findClass_of_methodNamed B.named
  have hS : va_S (dz_A Z) s.heap s.heap [] := va_S.rf
  have hl := lv_entry ([.ref aX, .int v1, .ref aO]) (n := 4) (Nat.le_of_ble_eq_true rfl)
  rw [lg_entry_eq]
  generalize (lg_sl ([.ref aX, .int v1, .ref aO]) ++ List.replicate (4 - (lg_sl ([.ref aX, .int v1, .ref aO])).length) Slot.unset).toArray = ls at hl ⊢
  have hl : lv_has ls 4 [(0, .ref aX), (1, .int v1), (2, .ref aO)] := hl
  refine lv_aload_n hx hb dL_imagesAnew_0 rfl (lv_at hl 2 rfl) ?_
  refine lv_iconst (v := 0) hx hb dL_imagesAnew_1 (by decide) ?_
  refine lv_aload_n hx hb dL_imagesAnew_2 rfl (lv_at hl 0 rfl) ?_
  refine lv_iload_n hx hb dL_imagesAnew_3 rfl (lv_at hl 1 rfl) ?_
  refine dz_kMi (va_runV (As := [_]) ⟨hx, hb, hml, hown, hts⟩ hM (cwV 1 hts gL_imagesAnew_X8_imagesAnew rfl rfl rfl (by decide +kernel) ⟨Nat.le_refl _, Nat.le_refl _⟩) (dz_P.preV hE hS hG ho rfl ha) rfl rfl hl.1 rfl (lv_room (Nat.le_of_ble_eq_true rfl)) dL_imagesAnew_4 ⟨Nat.le_of_eq (Nat.zero_add mc), Nat.le_of_eq (Nat.zero_add ms)⟩) hS (fun y G2 ad2 H locs hp hG hS => ?_)
  obtain ⟨h50, ha50⟩ := hP y G2 ad2 hp
  refine lv_i2l hx hb dL_imagesAnew_7 rfl ?_
  refine dz_last hx hb hE hG ha50 hS h50 (by unfold vp_in; decide) dL_imagesAnew_8 (fun H locs hG hS => ?_)
  refine lv_goto (tgt := 15) hx hb dL_imagesAnew_9 (by decide) ?_
  refine lv_iconst (v := 0) hx hb dL_imagesAnew_15 (by decide) ?_
  refine W.widen (k := mc) (n := ms) (by omega) (by omega) ?_
  refine W.iret hx hb hrt (fun t ht hW => dz_endM (f := rv_i) 0 hE hS hG ?_ ht hW) (fun q h => hS.2.2 q h) dL_imagesAnew_16
  exact ⟨rfl, y, G2, hp, fun r9 n9 => dz_o n9 rfl, dz_s⟩
set_option maxHeartbeats 4000000 in
set_option maxRecDepth 100000 in
theorem c_L_imagesAnew_X1 (l : Launch) (Z : dzG) (G : dzW) (ad : dzA) (aX aO : Nat) (v1 : Int32) (fs : List Value) (fr lo : Nat) (ha : ad (1, 0) = aX) (ho : G (1, 0) = some (.inr (9, fs))) (hM : vx_Met l yX8_imagesAnew wsX8_imagesAnew (dz_rm fr lo 1 6) (dz_P Z G ad [.ref aX, .int v1]) (fun _ _ _ _ => False) (dz_XC Z G ad (fun E => E = "java/lang/IndexOutOfBoundsException")) 1 6 (dz_A Z)) : dzWr l yL_imagesAnew wsL_imagesAnew (fr + 1) (8 + (3 + 11) + lo) 1 6 Z G ad [.ref aX, .int v1, .ref aO] rv_i (fun (x : Int32) G1 ad1 => x = 1 ∧ G1 = G ∧ ad1 = ad) := by
  refine dz_ofWH (cc := cL_imagesAnew) (maxL := 4) (ret := (some .int)) (by decide) rfl ?_
  intro p e s m args below meth c s₁ B hml hv
  obtain ⟨rfl, hG, hE⟩ := hv
  have hx := B.exec
  have hb := B.bytes
  have hrt := B.returns
  have hts := atoms_spec (ws := wsL_imagesAnew) B.pre
  have hown : s.vm.findClass RL = some m.cls := findClass_of_methodNamed B.named
  have hS : va_S (dz_A Z) s.heap s.heap [] := va_S.rf
  have hl := lv_entry ([.ref aX, .int v1, .ref aO]) (n := 4) (Nat.le_of_ble_eq_true rfl)
  rw [lg_entry_eq]
  generalize (lg_sl ([.ref aX, .int v1, .ref aO]) ++ List.replicate (4 - (lg_sl ([.ref aX, .int v1, .ref aO])).length) Slot.unset).toArray = ls at hl ⊢
  have hl : lv_has ls 4 [(0, .ref aX), (1, .int v1), (2, .ref aO)] := hl
  refine lv_aload_n hx hb dL_imagesAnew_0 rfl (lv_at hl 2 rfl) ?_
  refine lv_iconst (v := 0) hx hb dL_imagesAnew_1 (by decide) ?_
  refine lv_aload_n hx hb dL_imagesAnew_2 rfl (lv_at hl 0 rfl) ?_
  refine lv_iload_n hx hb dL_imagesAnew_3 rfl (lv_at hl 1 rfl) ?_
  refine dz_kX (av := #[]) (vx_runV (As := [_]) ⟨hx, hb, hml, hown, hts⟩ hM (cwV 1 hts gL_imagesAnew_X8_imagesAnew rfl rfl rfl (by decide +kernel) ⟨Nat.le_refl _, Nat.le_refl _⟩) (dz_P.preV hE hS hG ho rfl ha) rfl rfl hl.1 rfl (lv_room (Nat.le_of_ble_eq_true rfl)) dL_imagesAnew_4 ⟨Nat.le_refl _, Nat.le_refl _⟩) hS (fun E q ce H locs hEx hG hS hce hcv hcl => ?_)
  subst hEx
  refine vx_catch (name := "java/lang/IndexOutOfBoundsException") hown [] ⟨0, 9, 12, 21⟩ [] ((vx_table (x := yL_imagesAnew) B (hts _ List.mem_cons_self)).trans rfl) (fun z h => absurd h List.not_mem_nil) (by decide) (by decide) (hts _ (List.mem_of_getElem? (i := 1) rfl)) (va_Nw.use rfl (hE.2.2.2.2.2.2.1 ("java/lang/IndexOutOfBoundsException", "java/lang/IndexOutOfBoundsException") (by decide +kernel))) hce hcv hcl ?_
  refine lv_astore_n (lv' := [(3, .ref q), (0, .ref aX), (1, .int v1), (2, .ref aO)]) (pc := 12) hx hb dL_imagesAnew_12 rfl hl (by decide) rfl (fun ls hl => ?_)
  refine lv_iconst (v := 1) hx hb dL_imagesAnew_13 (by decide) ?_
  refine W.widen (k := 1) (n := 6) (by omega) (by omega) ?_
  refine W.iret hx hb hrt (fun t ht hW => dz_endM (f := rv_i) 1 hE hS hG ?_ ht hW) (fun q h => hS.2.2 q h) dL_imagesAnew_14
  exact ⟨rfl, rfl, rfl⟩

set_option maxHeartbeats 4000000 in
set_option maxRecDepth 100000 in
theorem c_L_imageOf_W (l : Launch) (Z : dzG) (G : dzW) (ad : dzA) (aX aO : Nat) (v1 v2 v3 : Int32) (fs : List Value) (fo : Nat → Int64) (fr lo mc ms : Nat) (Po : Int32 → dzW → dzA → Prop) (ha : ad (1, 0) = aX) (ho : G (1, 0) = some (.inr (9, fs))) (hM : dzWr l yX8_imageOf wsX8_imageOf fr lo mc ms Z G ad [.ref aX, .int v1, .int v2, .int v3] rv_i Po) (hP : ∀ y G1 ad1, Po y G1 ad1 → G1 (50, 0) = some (eJ Z 1 fo) ∧ ad1 (50, 0) = aO) : dzWr l yL_imageOf wsL_imageOf (fr + 1) (8 + (5 + 11) + lo) mc ms Z G ad [.ref aX, .int v1, .int v2, .int v3, .ref aO] rv_i (fun (x : Int32) G1 ad1 => x = 0 ∧ ∃ (y : Int32) (G2 : dzW), Po y G2 ad1 ∧ (∀ r9 : dzR, r9 ≠ (50, 0) → G1 r9 = G2 r9) ∧ G1 (50, 0) = some (eJ Z 1 (vp_updL fo 0 y.toInt64))) := by
  refine dz_ofWH (cc := cL_imageOf) (maxL := 6) (ret := (some .int)) (by decide) rfl ?_
  intro p e s m args below meth c s₁ B hml hv
  obtain ⟨rfl, hG, hE⟩ := hv
  have hx := B.exec
  have hb := B.bytes
  have hrt := B.returns
  have hts := atoms_spec (ws := wsL_imageOf) B.pre
  have hown : s.vm.findClass RL = some m.cls := findClass_of_methodNamed B.named
  have hS : va_S (dz_A Z) s.heap s.heap [] := va_S.rf
  have hl := lv_entry ([.ref aX, .int v1, .int v2, .int v3, .ref aO]) (n := 6) (Nat.le_of_ble_eq_true rfl)
  rw [lg_entry_eq]
  generalize (lg_sl ([.ref aX, .int v1, .int v2, .int v3, .ref aO]) ++ List.replicate (6 - (lg_sl ([.ref aX, .int v1, .int v2, .int v3, .ref aO])).length) Slot.unset).toArray = ls at hl ⊢
  have hl : lv_has ls 6 [(0, .ref aX), (1, .int v1), (2, .int v2), (3, .int v3), (4, .ref aO)] := hl
  refine lv_aload hx hb dL_imageOf_0 (lv_at hl 4 rfl) ?_
  refine lv_iconst (v := 0) hx hb dL_imageOf_2 (by decide) ?_
  refine lv_aload_n hx hb dL_imageOf_3 rfl (lv_at hl 0 rfl) ?_
  refine lv_iload_n hx hb dL_imageOf_4 rfl (lv_at hl 1 rfl) ?_
  refine lv_iload_n hx hb dL_imageOf_5 rfl (lv_at hl 2 rfl) ?_
  refine lv_iload_n hx hb dL_imageOf_6 rfl (lv_at hl 3 rfl) ?_
  refine dz_kMi (va_runV (As := [_, _, _]) ⟨hx, hb, hml, hown, hts⟩ hM (cwV 3 hts gL_imageOf_X8_imageOf rfl rfl rfl (by decide +kernel) ⟨Nat.le_refl _, Nat.le_refl _⟩) (dz_P.preV hE hS hG ho rfl ha) rfl rfl hl.1 rfl (lv_room (Nat.le_of_ble_eq_true rfl)) dL_imageOf_7 ⟨Nat.le_of_eq (Nat.zero_add mc), Nat.le_of_eq (Nat.zero_add ms)⟩) hS (fun y G2 ad2 H locs hp hG hS => ?_)
  obtain ⟨h50, ha50⟩ := hP y G2 ad2 hp
  refine lv_i2l hx hb dL_imageOf_10 rfl ?_
  refine dz_last hx hb hE hG ha50 hS h50 (by unfold vp_in; decide) dL_imageOf_11 (fun H locs hG hS => ?_)
  refine lv_goto (tgt := 23) hx hb dL_imageOf_12 (by decide) ?_
  refine lv_iconst (v := 0) hx hb dL_imageOf_23 (by decide) ?_
  refine W.widen (k := mc) (n := ms) (by omega) (by omega) ?_
  refine W.iret hx hb hrt (fun t ht hW => dz_endM (f := rv_i) 0 hE hS hG ?_ ht hW) (fun q h => hS.2.2 q h) dL_imageOf_24
  exact ⟨rfl, y, G2, hp, fun r9 n9 => dz_o n9 rfl, dz_s⟩
set_option maxHeartbeats 4000000 in
set_option maxRecDepth 100000 in
theorem c_L_imageOf_X1 (l : Launch) (Z : dzG) (G : dzW) (ad : dzA) (aX aO : Nat) (v1 v2 v3 : Int32) (fs : List Value) (fr lo : Nat) (ha : ad (1, 0) = aX) (ho : G (1, 0) = some (.inr (9, fs))) (hM : vx_Met l yX8_imageOf wsX8_imageOf (dz_rm fr lo 1 6) (dz_P Z G ad [.ref aX, .int v1, .int v2, .int v3]) (fun _ _ _ _ => False) (dz_XC Z G ad (fun E => E = "java/lang/IndexOutOfBoundsException")) 1 6 (dz_A Z)) : dzWr l yL_imageOf wsL_imageOf (fr + 1) (8 + (5 + 11) + lo) 1 6 Z G ad [.ref aX, .int v1, .int v2, .int v3, .ref aO] rv_i (fun (x : Int32) G1 ad1 => x = 1 ∧ G1 = G ∧ ad1 = ad) := by
  refine dz_ofWH (cc := cL_imageOf) (maxL := 6) (ret := (some .int)) (by decide) rfl ?_
  intro p e s m args below meth c s₁ B hml hv
  obtain ⟨rfl, hG, hE⟩ := hv
  have hx := B.exec
  have hb := B.bytes
  have hrt := B.returns
  have hts := atoms_spec (ws := wsL_imageOf) B.pre
  have hown : s.vm.findClass RL = some m.cls := findClass_of_methodNamed B.named
  have hS : va_S (dz_A Z) s.heap s.heap [] := va_S.rf
  have hl := lv_entry ([.ref aX, .int v1, .int v2, .int v3, .ref aO]) (n := 6) (Nat.le_of_ble_eq_true rfl)
  rw [lg_entry_eq]
  generalize (lg_sl ([.ref aX, .int v1, .int v2, .int v3, .ref aO]) ++ List.replicate (6 - (lg_sl ([.ref aX, .int v1, .int v2, .int v3, .ref aO])).length) Slot.unset).toArray = ls at hl ⊢
  have hl : lv_has ls 6 [(0, .ref aX), (1, .int v1), (2, .int v2), (3, .int v3), (4, .ref aO)] := hl
  refine lv_aload hx hb dL_imageOf_0 (lv_at hl 4 rfl) ?_
  refine lv_iconst (v := 0) hx hb dL_imageOf_2 (by decide) ?_
  refine lv_aload_n hx hb dL_imageOf_3 rfl (lv_at hl 0 rfl) ?_
  refine lv_iload_n hx hb dL_imageOf_4 rfl (lv_at hl 1 rfl) ?_
  refine lv_iload_n hx hb dL_imageOf_5 rfl (lv_at hl 2 rfl) ?_
  refine lv_iload_n hx hb dL_imageOf_6 rfl (lv_at hl 3 rfl) ?_
  refine dz_kX (av := #[]) (vx_runV (As := [_, _, _]) ⟨hx, hb, hml, hown, hts⟩ hM (cwV 3 hts gL_imageOf_X8_imageOf rfl rfl rfl (by decide +kernel) ⟨Nat.le_refl _, Nat.le_refl _⟩) (dz_P.preV hE hS hG ho rfl ha) rfl rfl hl.1 rfl (lv_room (Nat.le_of_ble_eq_true rfl)) dL_imageOf_7 ⟨Nat.le_refl _, Nat.le_refl _⟩) hS (fun E q ce H locs hEx hG hS hce hcv hcl => ?_)
  subst hEx
  refine vx_catch (name := "java/lang/IndexOutOfBoundsException") hown [] ⟨0, 12, 15, 21⟩ [⟨0, 12, 19, 13⟩] ((vx_table (x := yL_imageOf) B (hts _ List.mem_cons_self)).trans rfl) (fun z h => absurd h List.not_mem_nil) (by decide) (by decide) (hts _ (List.mem_of_getElem? (i := 1) rfl)) (va_Nw.use rfl (hE.2.2.2.2.2.2.1 ("java/lang/IndexOutOfBoundsException", "java/lang/IndexOutOfBoundsException") (by decide +kernel))) hce hcv hcl ?_
  refine lv_astore (lv' := [(5, .ref q), (0, .ref aX), (1, .int v1), (2, .int v2), (3, .int v3), (4, .ref aO)]) (pc := 15) hx hb dL_imageOf_15 hl (by decide) rfl (fun ls hl => ?_)
  refine lv_iconst (v := 1) hx hb dL_imageOf_17 (by decide) ?_
  refine W.widen (k := 1) (n := 6) (by omega) (by omega) ?_
  refine W.iret hx hb hrt (fun t ht hW => dz_endM (f := rv_i) 1 hE hS hG ?_ ht hW) (fun q h => hS.2.2 q h) dL_imageOf_18
  exact ⟨rfl, rfl, rfl⟩
set_option maxHeartbeats 4000000 in
set_option maxRecDepth 100000 in
theorem c_L_imageOf_X2 (l : Launch) (Z : dzG) (G : dzW) (ad : dzA) (aX aO : Nat) (v1 v2 v3 : Int32) (fs : List Value) (fr lo : Nat) (ha : ad (1, 0) = aX) (ho : G (1, 0) = some (.inr (9, fs))) (hM : vx_Met l yX8_imageOf wsX8_imageOf (dz_rm fr lo 1 6) (dz_P Z G ad [.ref aX, .int v1, .int v2, .int v3]) (fun _ _ _ _ => False) (dz_XC Z G ad (fun E => E = "java/lang/IllegalArgumentException")) 1 6 (dz_A Z)) : dzWr l yL_imageOf wsL_imageOf (fr + 1) (8 + (5 + 11) + lo) 1 6 Z G ad [.ref aX, .int v1, .int v2, .int v3, .ref aO] rv_i (fun (x : Int32) G1 ad1 => x = 2 ∧ G1 = G ∧ ad1 = ad) := by
  refine dz_ofWH (cc := cL_imageOf) (maxL := 6) (ret := (some .int)) (by decide) rfl ?_
  intro p e s m args below meth c s₁ B hml hv
  obtain ⟨rfl, hG, hE⟩ := hv
  have hx := B.exec
  have hb := B.bytes
  have hrt := B.returns
  have hts := atoms_spec (ws := wsL_imageOf) B.pre
  have hown : s.vm.findClass RL = some m.cls := findClass_of_methodNamed B.named
  have hS : va_S (dz_A Z) s.heap s.heap [] := va_S.rf
  have hl := lv_entry ([.ref aX, .int v1, .int v2, .int v3, .ref aO]) (n := 6) (Nat.le_of_ble_eq_true rfl)
  rw [lg_entry_eq]
  generalize (lg_sl ([.ref aX, .int v1, .int v2, .int v3, .ref aO]) ++ List.replicate (6 - (lg_sl ([.ref aX, .int v1, .int v2, .int v3, .ref aO])).length) Slot.unset).toArray = ls at hl ⊢
  have hl : lv_has ls 6 [(0, .ref aX), (1, .int v1), (2, .int v2), (3, .int v3), (4, .ref aO)] := hl
  refine lv_aload hx hb dL_imageOf_0 (lv_at hl 4 rfl) ?_
  refine lv_iconst (v := 0) hx hb dL_imageOf_2 (by decide) ?_
  refine lv_aload_n hx hb dL_imageOf_3 rfl (lv_at hl 0 rfl) ?_
  refine lv_iload_n hx hb dL_imageOf_4 rfl (lv_at hl 1 rfl) ?_
  refine lv_iload_n hx hb dL_imageOf_5 rfl (lv_at hl 2 rfl) ?_
  refine lv_iload_n hx hb dL_imageOf_6 rfl (lv_at hl 3 rfl) ?_
  refine dz_kX (av := #[]) (vx_runV (As := [_, _, _]) ⟨hx, hb, hml, hown, hts⟩ hM (cwV 3 hts gL_imageOf_X8_imageOf rfl rfl rfl (by decide +kernel) ⟨Nat.le_refl _, Nat.le_refl _⟩) (dz_P.preV hE hS hG ho rfl ha) rfl rfl hl.1 rfl (lv_room (Nat.le_of_ble_eq_true rfl)) dL_imageOf_7 ⟨Nat.le_refl _, Nat.le_refl _⟩) hS (fun E q ce H locs hEx hG hS hce hcv hcl => ?_)
  subst hEx
  refine vx_catch (name := "java/lang/IllegalArgumentException") hown [⟨0, 12, 15, 21⟩] ⟨0, 12, 19, 13⟩ [] ((vx_table (x := yL_imageOf) B (hts _ List.mem_cons_self)).trans rfl) (List.forall_mem_cons.mpr ⟨Or.inr ⟨by decide, "java/lang/IndexOutOfBoundsException", (hts _ (List.mem_of_getElem? (i := 1) rfl)), hE.2.2.2.2.2.2.2.2.2.2.2.1 ("java/lang/IllegalArgumentException", "java/lang/IndexOutOfBoundsException") (by decide +kernel)⟩, (fun z h => absurd h List.not_mem_nil)⟩) (by decide) (by decide) (hts _ (List.mem_of_getElem? (i := 2) rfl)) (va_Nw.use rfl (hE.2.2.2.2.2.2.1 ("java/lang/IllegalArgumentException", "java/lang/IllegalArgumentException") (by decide +kernel))) hce hcv hcl ?_
  refine lv_astore (lv' := [(5, .ref q), (0, .ref aX), (1, .int v1), (2, .int v2), (3, .int v3), (4, .ref aO)]) (pc := 19) hx hb dL_imageOf_19 hl (by decide) rfl (fun ls hl => ?_)
  refine lv_iconst (v := 2) hx hb dL_imageOf_21 (by decide) ?_
  refine W.widen (k := 1) (n := 6) (by omega) (by omega) ?_
  refine W.iret hx hb hrt (fun t ht hW => dz_endM (f := rv_i) 2 hE hS hG ?_ ht hW) (fun q h => hS.2.2 q h) dL_imageOf_22
  exact ⟨rfl, rfl, rfl⟩
