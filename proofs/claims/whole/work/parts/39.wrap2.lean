set_option maxHeartbeats 4000000 in
set_option maxRecDepth 100000 in
theorem c_L_hits_W (l : Launch) (Z : dzG) (G : dzW) (ad : dzA) (aX aO : Nat) (v1 v2 : Int32) (fs : List Value) (fo : Nat → Int64) (fr lo mc ms : Nat) (Po : Int32 → dzW → dzA → Prop) (ha : ad (1, 0) = aX) (ho : G (1, 0) = some (.inr (9, fs))) (hM : dzWr l yX8_hits wsX8_hits fr lo mc ms Z G ad [.ref aX, .int v1, .int v2] rv_i Po) (hP : ∀ y G1 ad1, Po y G1 ad1 → G1 (50, 0) = some (eJ Z 1 fo) ∧ ad1 (50, 0) = aO) : dzWr l yL_hits wsL_hits (fr + 1) (8 + (3 + 11) + lo) mc ms Z G ad [.ref aX, .int v1, .int v2, .ref aO] rv_i (fun (x : Int32) G1 ad1 => x = 0 ∧ ∃ (y : Int32) (G2 : dzW), Po y G2 ad1 ∧ (∀ r9 : dzR, r9 ≠ (50, 0) → G1 r9 = G2 r9) ∧ G1 (50, 0) = some (eJ Z 1 (vp_updL fo 0 y.toInt64))) := by
  refine dz_ofWH (cc := cL_hits) (maxL := 5) (ret := (some .int)) (by decide) rfl ?_
  intro p e s m args below meth c s₁ B hml hv
  obtain ⟨rfl, hG, hE⟩ := hv
  have hx := B.exec
  have hb := B.bytes
  have hrt := B.returns
  have hts := atoms_spec (ws := wsL_hits) B.pre
  have hown : s.vm.findClass RL = some m.cls := findClass_of_methodNamed B.named
  have hS : va_S (dz_A Z) s.heap s.heap [] := va_S.rf
  have hl := lv_entry ([.ref aX, .int v1, .int v2, .ref aO]) (n := 5) (Nat.le_of_ble_eq_true rfl)
  rw [lg_entry_eq]
  generalize (lg_sl ([.ref aX, .int v1, .int v2, .ref aO]) ++ List.replicate (5 - (lg_sl ([.ref aX, .int v1, .int v2, .ref aO])).length) Slot.unset).toArray = ls at hl ⊢
  have hl : lv_has ls 5 [(0, .ref aX), (1, .int v1), (2, .int v2), (3, .ref aO)] := hl
  refine lv_aload_n hx hb dL_hits_0 rfl (lv_at hl 3 rfl) ?_
  refine lv_iconst (v := 0) hx hb dL_hits_1 (by decide) ?_
  refine lv_aload_n hx hb dL_hits_2 rfl (lv_at hl 0 rfl) ?_
  refine lv_iload_n hx hb dL_hits_3 rfl (lv_at hl 1 rfl) ?_
  refine lv_iload_n hx hb dL_hits_4 rfl (lv_at hl 2 rfl) ?_
  refine dz_kMi (va_runV (As := [_, _]) ⟨hx, hb, hml, hown, hts⟩ hM (cwV 2 hts gL_hits_X8_hits rfl rfl rfl (by decide +kernel) ⟨Nat.le_refl _, Nat.le_refl _⟩) (dz_P.preV hE hS hG ho rfl ha) rfl rfl hl.1 rfl (lv_room (Nat.le_of_ble_eq_true rfl)) dL_hits_5 ⟨Nat.le_of_eq (Nat.zero_add mc), Nat.le_of_eq (Nat.zero_add ms)⟩) hS (fun y G2 ad2 H locs hp hG hS => ?_)
  obtain ⟨h50, ha50⟩ := hP y G2 ad2 hp
  refine lv_i2l hx hb dL_hits_8 rfl ?_
  refine dz_last hx hb hE hG ha50 hS h50 (by unfold vp_in; decide) dL_hits_9 (fun H locs hG hS => ?_)
  refine lv_goto (tgt := 17) hx hb dL_hits_10 (by decide) ?_
  refine lv_iconst (v := 0) hx hb dL_hits_17 (by decide) ?_
  refine W.widen (k := mc) (n := ms) (by omega) (by omega) ?_
  refine W.iret hx hb hrt (fun t ht hW => dz_endM (f := rv_i) 0 hE hS hG ?_ ht hW) (fun q h => hS.2.2 q h) dL_hits_18
  exact ⟨rfl, y, G2, hp, fun r9 n9 => dz_o n9 rfl, dz_s⟩
set_option maxHeartbeats 4000000 in
set_option maxRecDepth 100000 in
theorem c_L_hits_X1 (l : Launch) (Z : dzG) (G : dzW) (ad : dzA) (aX aO : Nat) (v1 v2 : Int32) (fs : List Value) (fr lo : Nat) (ha : ad (1, 0) = aX) (ho : G (1, 0) = some (.inr (9, fs))) (hM : vx_Met l yX8_hits wsX8_hits (dz_rm fr lo 1 6) (dz_P Z G ad [.ref aX, .int v1, .int v2]) (fun _ _ _ _ => False) (dz_XC Z G ad (fun E => E = "java/lang/IllegalArgumentException")) 1 6 (dz_A Z)) : dzWr l yL_hits wsL_hits (fr + 1) (8 + (3 + 11) + lo) 1 6 Z G ad [.ref aX, .int v1, .int v2, .ref aO] rv_i (fun (x : Int32) G1 ad1 => x = 1 ∧ G1 = G ∧ ad1 = ad) := by
  refine dz_ofWH (cc := cL_hits) (maxL := 5) (ret := (some .int)) (by decide) rfl ?_
  intro p e s m args below meth c s₁ B hml hv
  obtain ⟨rfl, hG, hE⟩ := hv
  have hx := B.exec
  have hb := B.bytes
  have hrt := B.returns
  have hts := atoms_spec (ws := wsL_hits) B.pre
  have hown : s.vm.findClass RL = some m.cls := findClass_of_methodNamed B.named
  have hS : va_S (dz_A Z) s.heap s.heap [] := va_S.rf
  have hl := lv_entry ([.ref aX, .int v1, .int v2, .ref aO]) (n := 5) (Nat.le_of_ble_eq_true rfl)
  rw [lg_entry_eq]
  generalize (lg_sl ([.ref aX, .int v1, .int v2, .ref aO]) ++ List.replicate (5 - (lg_sl ([.ref aX, .int v1, .int v2, .ref aO])).length) Slot.unset).toArray = ls at hl ⊢
  have hl : lv_has ls 5 [(0, .ref aX), (1, .int v1), (2, .int v2), (3, .ref aO)] := hl
  refine lv_aload_n hx hb dL_hits_0 rfl (lv_at hl 3 rfl) ?_
  refine lv_iconst (v := 0) hx hb dL_hits_1 (by decide) ?_
  refine lv_aload_n hx hb dL_hits_2 rfl (lv_at hl 0 rfl) ?_
  refine lv_iload_n hx hb dL_hits_3 rfl (lv_at hl 1 rfl) ?_
  refine lv_iload_n hx hb dL_hits_4 rfl (lv_at hl 2 rfl) ?_
  refine dz_kX (av := #[]) (vx_runV (As := [_, _]) ⟨hx, hb, hml, hown, hts⟩ hM (cwV 2 hts gL_hits_X8_hits rfl rfl rfl (by decide +kernel) ⟨Nat.le_refl _, Nat.le_refl _⟩) (dz_P.preV hE hS hG ho rfl ha) rfl rfl hl.1 rfl (lv_room (Nat.le_of_ble_eq_true rfl)) dL_hits_5 ⟨Nat.le_refl _, Nat.le_refl _⟩) hS (fun E q ce H locs hEx hG hS hce hcv hcl => ?_)
  subst hEx
  refine vx_catch (name := "java/lang/IllegalArgumentException") hown [] ⟨0, 10, 13, 13⟩ [] ((vx_table (x := yL_hits) B (hts _ List.mem_cons_self)).trans rfl) (fun z h => absurd h List.not_mem_nil) (by decide) (by decide) (hts _ (List.mem_of_getElem? (i := 1) rfl)) (va_Nw.use rfl (hE.2.2.2.2.2.2.1 ("java/lang/IllegalArgumentException", "java/lang/IllegalArgumentException") (by decide +kernel))) hce hcv hcl ?_
  refine lv_astore (lv' := [(4, .ref q), (0, .ref aX), (1, .int v1), (2, .int v2), (3, .ref aO)]) (pc := 13) hx hb dL_hits_13 hl (by decide) rfl (fun ls hl => ?_)
  refine lv_iconst (v := 1) hx hb dL_hits_15 (by decide) ?_
  refine W.widen (k := 1) (n := 6) (by omega) (by omega) ?_
  refine W.iret hx hb hrt (fun t ht hW => dz_endM (f := rv_i) 1 hE hS hG ?_ ht hW) (fun q h => hS.2.2 q h) dL_hits_16
  exact ⟨rfl, rfl, rfl⟩

set_option maxHeartbeats 4000000 in
set_option maxRecDepth 100000 in
theorem c_L_delay_W (l : Launch) (Z : dzG) (G : dzW) (ad : dzA) (aX aO : Nat) (v1 v2 v3 : Int32) (fs : List Value) (fo : Nat → Int64) (fr lo mc ms : Nat) (Po : Int32 → dzW → dzA → Prop) (ha : ad (1, 0) = aX) (ho : G (1, 0) = some (.inr (9, fs))) (hM : dzWr l yX8_delay wsX8_delay fr lo mc ms Z G ad [.ref aX, .int v1, .int v2, .int v3] rv_i Po) (hP : ∀ y G1 ad1, Po y G1 ad1 → G1 (50, 0) = some (eJ Z 1 fo) ∧ ad1 (50, 0) = aO) : dzWr l yL_delay wsL_delay (fr + 1) (8 + (5 + 11) + lo) mc ms Z G ad [.ref aX, .int v1, .int v2, .int v3, .ref aO] rv_i (fun (x : Int32) G1 ad1 => x = 0 ∧ ∃ (y : Int32) (G2 : dzW), Po y G2 ad1 ∧ (∀ r9 : dzR, r9 ≠ (50, 0) → G1 r9 = G2 r9) ∧ G1 (50, 0) = some (eJ Z 1 (vp_updL fo 0 y.toInt64))) := by
  refine dz_ofWH (cc := cL_delay) (maxL := 6) (ret := (some .int)) (by decide) rfl ?_
  intro p e s m args below meth c s₁ B hml hv
  obtain ⟨rfl, hG, hE⟩ := hv
  have hx := B.exec
  have hb := B.bytes
  have hrt := B.returns
  have hts := atoms_spec (ws := wsL_delay) B.pre
  have hown : s.vm.findClass RL = some m.cls := findClass_of_methodNamed B.named
  have hS : va_S (dz_A Z) s.heap s.heap [] := va_S.rf
  have hl := lv_entry ([.ref aX, .int v1, .int v2, .int v3, .ref aO]) (n := 6) (Nat.le_of_ble_eq_true rfl)
  rw [lg_entry_eq]
  generalize (lg_sl ([.ref aX, .int v1, .int v2, .int v3, .ref aO]) ++ List.replicate (6 - (lg_sl ([.ref aX, .int v1, .int v2, .int v3, .ref aO])).length) Slot.unset).toArray = ls at hl ⊢
  have hl : lv_has ls 6 [(0, .ref aX), (1, .int v1), (2, .int v2), (3, .int v3), (4, .ref aO)] := hl
  refine lv_aload hx hb dL_delay_0 (lv_at hl 4 rfl) ?_
  refine lv_iconst (v := 0) hx hb dL_delay_2 (by decide) ?_
  refine lv_aload_n hx hb dL_delay_3 rfl (lv_at hl 0 rfl) ?_
  refine lv_iload_n hx hb dL_delay_4 rfl (lv_at hl 1 rfl) ?_
  refine lv_iload_n hx hb dL_delay_5 rfl (lv_at hl 2 rfl) ?_
  refine lv_iload_n hx hb dL_delay_6 rfl (lv_at hl 3 rfl) ?_
  refine dz_kMi (va_runV (As := [_, _, _]) ⟨hx, hb, hml, hown, hts⟩ hM (cwV 3 hts gL_delay_X8_delay rfl rfl rfl (by decide +kernel) ⟨Nat.le_refl _, Nat.le_refl _⟩) (dz_P.preV hE hS hG ho rfl ha) rfl rfl hl.1 rfl (lv_room (Nat.le_of_ble_eq_true rfl)) dL_delay_7 ⟨Nat.le_of_eq (Nat.zero_add mc), Nat.le_of_eq (Nat.zero_add ms)⟩) hS (fun y G2 ad2 H locs hp hG hS => ?_)
  obtain ⟨h50, ha50⟩ := hP y G2 ad2 hp
  refine lv_i2l hx hb dL_delay_10 rfl ?_
  refine dz_last hx hb hE hG ha50 hS h50 (by unfold vp_in; decide) dL_delay_11 (fun H locs hG hS => ?_)
  refine lv_goto (tgt := 19) hx hb dL_delay_12 (by decide) ?_
  refine lv_iconst (v := 0) hx hb dL_delay_19 (by decide) ?_
  refine W.widen (k := mc) (n := ms) (by omega) (by omega) ?_
  refine W.iret hx hb hrt (fun t ht hW => dz_endM (f := rv_i) 0 hE hS hG ?_ ht hW) (fun q h => hS.2.2 q h) dL_delay_20
  exact ⟨rfl, y, G2, hp, fun r9 n9 => dz_o n9 rfl, dz_s⟩
set_option maxHeartbeats 4000000 in
set_option maxRecDepth 100000 in
theorem c_L_delay_X1 (l : Launch) (Z : dzG) (G : dzW) (ad : dzA) (aX aO : Nat) (v1 v2 v3 : Int32) (fs : List Value) (fr lo : Nat) (ha : ad (1, 0) = aX) (ho : G (1, 0) = some (.inr (9, fs))) (hM : vx_Met l yX8_delay wsX8_delay (dz_rm fr lo 1 6) (dz_P Z G ad [.ref aX, .int v1, .int v2, .int v3]) (fun _ _ _ _ => False) (dz_XC Z G ad (fun E => E = "java/lang/IndexOutOfBoundsException")) 1 6 (dz_A Z)) : dzWr l yL_delay wsL_delay (fr + 1) (8 + (5 + 11) + lo) 1 6 Z G ad [.ref aX, .int v1, .int v2, .int v3, .ref aO] rv_i (fun (x : Int32) G1 ad1 => x = 1 ∧ G1 = G ∧ ad1 = ad) := by
  refine dz_ofWH (cc := cL_delay) (maxL := 6) (ret := (some .int)) (by decide) rfl ?_
  intro p e s m args below meth c s₁ B hml hv
  obtain ⟨rfl, hG, hE⟩ := hv
  have hx := B.exec
  have hb := B.bytes
  have hrt := B.returns
  have hts := atoms_spec (ws := wsL_delay) B.pre
  have hown : s.vm.findClass RL = some m.cls := findClass_of_methodNamed B.named
  have hS : va_S (dz_A Z) s.heap s.heap [] := va_S.rf
  have hl := lv_entry ([.ref aX, .int v1, .int v2, .int v3, .ref aO]) (n := 6) (Nat.le_of_ble_eq_true rfl)
  rw [lg_entry_eq]
  generalize (lg_sl ([.ref aX, .int v1, .int v2, .int v3, .ref aO]) ++ List.replicate (6 - (lg_sl ([.ref aX, .int v1, .int v2, .int v3, .ref aO])).length) Slot.unset).toArray = ls at hl ⊢
  have hl : lv_has ls 6 [(0, .ref aX), (1, .int v1), (2, .int v2), (3, .int v3), (4, .ref aO)] := hl
  refine lv_aload hx hb dL_delay_0 (lv_at hl 4 rfl) ?_
  refine lv_iconst (v := 0) hx hb dL_delay_2 (by decide) ?_
  refine lv_aload_n hx hb dL_delay_3 rfl (lv_at hl 0 rfl) ?_
  refine lv_iload_n hx hb dL_delay_4 rfl (lv_at hl 1 rfl) ?_
  refine lv_iload_n hx hb dL_delay_5 rfl (lv_at hl 2 rfl) ?_
  refine lv_iload_n hx hb dL_delay_6 rfl (lv_at hl 3 rfl) ?_
  refine dz_kX (av := #[]) (vx_runV (As := [_, _, _]) ⟨hx, hb, hml, hown, hts⟩ hM (cwV 3 hts gL_delay_X8_delay rfl rfl rfl (by decide +kernel) ⟨Nat.le_refl _, Nat.le_refl _⟩) (dz_P.preV hE hS hG ho rfl ha) rfl rfl hl.1 rfl (lv_room (Nat.le_of_ble_eq_true rfl)) dL_delay_7 ⟨Nat.le_refl _, Nat.le_refl _⟩) hS (fun E q ce H locs hEx hG hS hce hcv hcl => ?_)
  subst hEx
  refine vx_catch (name := "java/lang/IndexOutOfBoundsException") hown [] ⟨0, 12, 15, 21⟩ [] ((vx_table (x := yL_delay) B (hts _ List.mem_cons_self)).trans rfl) (fun z h => absurd h List.not_mem_nil) (by decide) (by decide) (hts _ (List.mem_of_getElem? (i := 1) rfl)) (va_Nw.use rfl (hE.2.2.2.2.2.2.1 ("java/lang/IndexOutOfBoundsException", "java/lang/IndexOutOfBoundsException") (by decide +kernel))) hce hcv hcl ?_
  refine lv_astore (lv' := [(5, .ref q), (0, .ref aX), (1, .int v1), (2, .int v2), (3, .int v3), (4, .ref aO)]) (pc := 15) hx hb dL_delay_15 hl (by decide) rfl (fun ls hl => ?_)
  refine lv_iconst (v := 1) hx hb dL_delay_17 (by decide) ?_
  refine W.widen (k := 1) (n := 6) (by omega) (by omega) ?_
  refine W.iret hx hb hrt (fun t ht hW => dz_endM (f := rv_i) 1 hE hS hG ?_ ht hW) (fun q h => hS.2.2 q h) dL_delay_18
  exact ⟨rfl, rfl, rfl⟩

set_option maxHeartbeats 4000000 in
set_option maxRecDepth 100000 in
theorem c_L_light_W (l : Launch) (Z : dzG) (G : dzW) (ad : dzA) (aX aO : Nat) (v1 v2 : Int32) (fs : List Value) (fo : Nat → Int64) (fr lo mc ms : Nat) (Po : Int32 → dzW → dzA → Prop) (ha : ad (1, 0) = aX) (ho : G (1, 0) = some (.inr (9, fs))) (hM : dzWr l yX8_light wsX8_light fr lo mc ms Z G ad [.ref aX, .int v1, .int v2] rv_i Po) (hP : ∀ y G1 ad1, Po y G1 ad1 → G1 (50, 0) = some (eJ Z 1 fo) ∧ ad1 (50, 0) = aO) : dzWr l yL_light wsL_light (fr + 1) (8 + (4 + 11) + lo) mc ms Z G ad [.ref aX, .int v1, .int v2, .ref aO] rv_i (fun (x : Int32) G1 ad1 => x = 0 ∧ ∃ (y : Int32) (G2 : dzW), Po y G2 ad1 ∧ (∀ r9 : dzR, r9 ≠ (50, 0) → G1 r9 = G2 r9) ∧ G1 (50, 0) = some (eJ Z 1 (vp_updL fo 0 y.toInt64))) := by
  refine dz_ofWH (cc := cL_light) (maxL := 5) (ret := (some .int)) (by decide) rfl ?_
  intro p e s m args below meth c s₁ B hml hv
  obtain ⟨rfl, hG, hE⟩ := hv
  have hx := B.exec
  have hb := B.bytes
  have hrt := B.returns
  have hts := atoms_spec (ws := wsL_light) B.pre
  have hown : s.vm.findClass RL = some m.cls := findClass_of_methodNamed B.named
  have hS : va_S (dz_A Z) s.heap s.heap [] := va_S.rf
  have hl := lv_entry ([.ref aX, .int v1, .int v2, .ref aO]) (n := 5) (Nat.le_of_ble_eq_true rfl)
  rw [lg_entry_eq]
  generalize (lg_sl ([.ref aX, .int v1, .int v2, .ref aO]) ++ List.replicate (5 - (lg_sl ([.ref aX, .int v1, .int v2, .ref aO])).length) Slot.unset).toArray = ls at hl ⊢
  have hl : lv_has ls 5 [(0, .ref aX), (1, .int v1), (2, .int v2), (3, .ref aO)] := hl
  refine lv_aload_n hx hb dL_light_0 rfl (lv_at hl 3 rfl) ?_
  refine lv_iconst (v := 0) hx hb dL_light_1 (by decide) ?_
  refine lv_aload_n hx hb dL_light_2 rfl (lv_at hl 0 rfl) ?_
  refine lv_iload_n hx hb dL_light_3 rfl (lv_at hl 1 rfl) ?_
  refine lv_iload_n hx hb dL_light_4 rfl (lv_at hl 2 rfl) ?_
  refine dz_kMi (va_runV (As := [_, _]) ⟨hx, hb, hml, hown, hts⟩ hM (cwV 2 hts gL_light_X8_light rfl rfl rfl (by decide +kernel) ⟨Nat.le_refl _, Nat.le_refl _⟩) (dz_P.preV hE hS hG ho rfl ha) rfl rfl hl.1 rfl (lv_room (Nat.le_of_ble_eq_true rfl)) dL_light_5 ⟨Nat.le_of_eq (Nat.zero_add mc), Nat.le_of_eq (Nat.zero_add ms)⟩) hS (fun y G2 ad2 H locs hp hG hS => ?_)
  obtain ⟨h50, ha50⟩ := hP y G2 ad2 hp
  refine lv_i2l hx hb dL_light_8 rfl ?_
  refine dz_last hx hb hE hG ha50 hS h50 (by unfold vp_in; decide) dL_light_9 (fun H locs hG hS => ?_)
  refine lv_goto (tgt := 17) hx hb dL_light_10 (by decide) ?_
  refine lv_iconst (v := 0) hx hb dL_light_17 (by decide) ?_
  refine W.widen (k := mc) (n := ms) (by omega) (by omega) ?_
  refine W.iret hx hb hrt (fun t ht hW => dz_endM (f := rv_i) 0 hE hS hG ?_ ht hW) (fun q h => hS.2.2 q h) dL_light_18
  exact ⟨rfl, y, G2, hp, fun r9 n9 => dz_o n9 rfl, dz_s⟩
set_option maxHeartbeats 4000000 in
set_option maxRecDepth 100000 in
theorem c_L_light_X1 (l : Launch) (Z : dzG) (G : dzW) (ad : dzA) (aX aO : Nat) (v1 v2 : Int32) (fs : List Value) (fr lo : Nat) (ha : ad (1, 0) = aX) (ho : G (1, 0) = some (.inr (9, fs))) (hM : vx_Met l yX8_light wsX8_light (dz_rm fr lo 1 6) (dz_P Z G ad [.ref aX, .int v1, .int v2]) (fun _ _ _ _ => False) (dz_XC Z G ad (fun E => E = "java/lang/IndexOutOfBoundsException")) 1 6 (dz_A Z)) : dzWr l yL_light wsL_light (fr + 1) (8 + (4 + 11) + lo) 1 6 Z G ad [.ref aX, .int v1, .int v2, .ref aO] rv_i (fun (x : Int32) G1 ad1 => x = 1 ∧ G1 = G ∧ ad1 = ad) := by
  refine dz_ofWH (cc := cL_light) (maxL := 5) (ret := (some .int)) (by decide) rfl ?_
  intro p e s m args below meth c s₁ B hml hv
  obtain ⟨rfl, hG, hE⟩ := hv
  have hx := B.exec
  have hb := B.bytes
  have hrt := B.returns
  have hts := atoms_spec (ws := wsL_light) B.pre
  have hown : s.vm.findClass RL = some m.cls := findClass_of_methodNamed B.named
  have hS : va_S (dz_A Z) s.heap s.heap [] := va_S.rf
  have hl := lv_entry ([.ref aX, .int v1, .int v2, .ref aO]) (n := 5) (Nat.le_of_ble_eq_true rfl)
  rw [lg_entry_eq]
  generalize (lg_sl ([.ref aX, .int v1, .int v2, .ref aO]) ++ List.replicate (5 - (lg_sl ([.ref aX, .int v1, .int v2, .ref aO])).length) Slot.unset).toArray = ls at hl ⊢
  have hl : lv_has ls 5 [(0, .ref aX), (1, .int v1), (2, .int v2), (3, .ref aO)] := hl
  refine lv_aload_n hx hb dL_light_0 rfl (lv_at hl 3 rfl) ?_
  refine lv_iconst (v := 0) hx hb dL_light_1 (by decide) ?_
  refine lv_aload_n hx hb dL_light_2 rfl (lv_at hl 0 rfl) ?_
  refine lv_iload_n hx hb dL_light_3 rfl (lv_at hl 1 rfl) ?_
  refine lv_iload_n hx hb dL_light_4 rfl (lv_at hl 2 rfl) ?_
  refine dz_kX (av := #[]) (vx_runV (As := [_, _]) ⟨hx, hb, hml, hown, hts⟩ hM (cwV 2 hts gL_light_X8_light rfl rfl rfl (by decide +kernel) ⟨Nat.le_refl _, Nat.le_refl _⟩) (dz_P.preV hE hS hG ho rfl ha) rfl rfl hl.1 rfl (lv_room (Nat.le_of_ble_eq_true rfl)) dL_light_5 ⟨Nat.le_refl _, Nat.le_refl _⟩) hS (fun E q ce H locs hEx hG hS hce hcv hcl => ?_)
  subst hEx
  refine vx_catch (name := "java/lang/IndexOutOfBoundsException") hown [] ⟨0, 10, 13, 21⟩ [] ((vx_table (x := yL_light) B (hts _ List.mem_cons_self)).trans rfl) (fun z h => absurd h List.not_mem_nil) (by decide) (by decide) (hts _ (List.mem_of_getElem? (i := 1) rfl)) (va_Nw.use rfl (hE.2.2.2.2.2.2.1 ("java/lang/IndexOutOfBoundsException", "java/lang/IndexOutOfBoundsException") (by decide +kernel))) hce hcv hcl ?_
  refine lv_astore (lv' := [(4, .ref q), (0, .ref aX), (1, .int v1), (2, .int v2), (3, .ref aO)]) (pc := 13) hx hb dL_light_13 hl (by decide) rfl (fun ls hl => ?_)
  refine lv_iconst (v := 1) hx hb dL_light_15 (by decide) ?_
  refine W.widen (k := 1) (n := 6) (by omega) (by omega) ?_
  refine W.iret hx hb hrt (fun t ht hW => dz_endM (f := rv_i) 1 hE hS hG ?_ ht hW) (fun q h => hS.2.2 q h) dL_light_16
  exact ⟨rfl, rfl, rfl⟩

set_option maxHeartbeats 4000000 in
set_option maxRecDepth 100000 in
theorem c_L_seen_W (l : Launch) (Z : dzG) (G : dzW) (ad : dzA) (aX aO : Nat) (v1 v2 v3 : Int32) (fs : List Value) (fo : Nat → Int64) (fr lo mc ms : Nat) (Po : Int32 → dzW → dzA → Prop) (ha : ad (1, 0) = aX) (ho : G (1, 0) = some (.inr (9, fs))) (hM : dzWr l yX8_seen wsX8_seen fr lo mc ms Z G ad [.ref aX, .int v1, .int v2, .int v3] rv_i Po) (hP : ∀ y G1 ad1, Po y G1 ad1 → G1 (50, 0) = some (eJ Z 1 fo) ∧ ad1 (50, 0) = aO) : dzWr l yL_seen wsL_seen (fr + 1) (8 + (5 + 11) + lo) mc ms Z G ad [.ref aX, .int v1, .int v2, .int v3, .ref aO] rv_i (fun (x : Int32) G1 ad1 => x = 0 ∧ ∃ (y : Int32) (G2 : dzW), Po y G2 ad1 ∧ (∀ r9 : dzR, r9 ≠ (50, 0) → G1 r9 = G2 r9) ∧ G1 (50, 0) = some (eJ Z 1 (vp_updL fo 0 y.toInt64))) := by
  refine dz_ofWH (cc := cL_seen) (maxL := 6) (ret := (some .int)) (by decide) rfl ?_
  intro p e s m args below meth c s₁ B hml hv
  obtain ⟨rfl, hG, hE⟩ := hv
  have hx := B.exec
  have hb := B.bytes
  have hrt := B.returns
  have hts := atoms_spec (ws := wsL_seen) B.pre
  have hown : s.vm.findClass RL = some m.cls := findClass_of_methodNamed B.named
  have hS : va_S (dz_A Z) s.heap s.heap [] := va_S.rf
  have hl := lv_entry ([.ref aX, .int v1, .int v2, .int v3, .ref aO]) (n := 6) (Nat.le_of_ble_eq_true rfl)
  rw [lg_entry_eq]
  generalize (lg_sl ([.ref aX, .int v1, .int v2, .int v3, .ref aO]) ++ List.replicate (6 - (lg_sl ([.ref aX, .int v1, .int v2, .int v3, .ref aO])).length) Slot.unset).toArray = ls at hl ⊢
  have hl : lv_has ls 6 [(0, .ref aX), (1, .int v1), (2, .int v2), (3, .int v3), (4, .ref aO)] := hl
  refine lv_aload hx hb dL_seen_0 (lv_at hl 4 rfl) ?_
  refine lv_iconst (v := 0) hx hb dL_seen_2 (by decide) ?_
  refine lv_aload_n hx hb dL_seen_3 rfl (lv_at hl 0 rfl) ?_
  refine lv_iload_n hx hb dL_seen_4 rfl (lv_at hl 1 rfl) ?_
  refine lv_iload_n hx hb dL_seen_5 rfl (lv_at hl 2 rfl) ?_
  refine lv_iload_n hx hb dL_seen_6 rfl (lv_at hl 3 rfl) ?_
  refine dz_kMi (va_runV (As := [_, _, _]) ⟨hx, hb, hml, hown, hts⟩ hM (cwV 3 hts gL_seen_X8_seen rfl rfl rfl (by decide +kernel) ⟨Nat.le_refl _, Nat.le_refl _⟩) (dz_P.preV hE hS hG ho rfl ha) rfl rfl hl.1 rfl (lv_room (Nat.le_of_ble_eq_true rfl)) dL_seen_7 ⟨Nat.le_of_eq (Nat.zero_add mc), Nat.le_of_eq (Nat.zero_add ms)⟩) hS (fun y G2 ad2 H locs hp hG hS => ?_)
  obtain ⟨h50, ha50⟩ := hP y G2 ad2 hp
  refine lv_i2l hx hb dL_seen_10 rfl ?_
  refine dz_last hx hb hE hG ha50 hS h50 (by unfold vp_in; decide) dL_seen_11 (fun H locs hG hS => ?_)
  refine lv_goto (tgt := 23) hx hb dL_seen_12 (by decide) ?_
  refine lv_iconst (v := 0) hx hb dL_seen_23 (by decide) ?_
  refine W.widen (k := mc) (n := ms) (by omega) (by omega) ?_
  refine W.iret hx hb hrt (fun t ht hW => dz_endM (f := rv_i) 0 hE hS hG ?_ ht hW) (fun q h => hS.2.2 q h) dL_seen_24
  exact ⟨rfl, y, G2, hp, fun r9 n9 => dz_o n9 rfl, dz_s⟩
set_option maxHeartbeats 4000000 in
set_option maxRecDepth 100000 in
theorem c_L_seen_X1 (l : Launch) (Z : dzG) (G : dzW) (ad : dzA) (aX aO : Nat) (v1 v2 v3 : Int32) (fs : List Value) (fr lo : Nat) (ha : ad (1, 0) = aX) (ho : G (1, 0) = some (.inr (9, fs))) (hM : vx_Met l yX8_seen wsX8_seen (dz_rm fr lo 1 6) (dz_P Z G ad [.ref aX, .int v1, .int v2, .int v3]) (fun _ _ _ _ => False) (dz_XC Z G ad (fun E => E = "java/lang/IndexOutOfBoundsException")) 1 6 (dz_A Z)) : dzWr l yL_seen wsL_seen (fr + 1) (8 + (5 + 11) + lo) 1 6 Z G ad [.ref aX, .int v1, .int v2, .int v3, .ref aO] rv_i (fun (x : Int32) G1 ad1 => x = 1 ∧ G1 = G ∧ ad1 = ad) := by
  refine dz_ofWH (cc := cL_seen) (maxL := 6) (ret := (some .int)) (by decide) rfl ?_
  intro p e s m args below meth c s₁ B hml hv
  obtain ⟨rfl, hG, hE⟩ := hv
  have hx := B.exec
  have hb := B.bytes
  have hrt := B.returns
  have hts := atoms_spec (ws := wsL_seen) B.pre
  have hown : s.vm.findClass RL = some m.cls := findClass_of_methodNamed B.named
  have hS : va_S (dz_A Z) s.heap s.heap [] := va_S.rf
  have hl := lv_entry ([.ref aX, .int v1, .int v2, .int v3, .ref aO]) (n := 6) (Nat.le_of_ble_eq_true rfl)
  rw [lg_entry_eq]
  generalize (lg_sl ([.ref aX, .int v1, .int v2, .int v3, .ref aO]) ++ List.replicate (6 - (lg_sl ([.ref aX, .int v1, .int v2, .int v3, .ref aO])).length) Slot.unset).toArray = ls at hl ⊢
  have hl : lv_has ls 6 [(0, .ref aX), (1, .int v1), (2, .int v2), (3, .int v3), (4, .ref aO)] := hl
  refine lv_aload hx hb dL_seen_0 (lv_at hl 4 rfl) ?_
  refine lv_iconst (v := 0) hx hb dL_seen_2 (by decide) ?_
  refine lv_aload_n hx hb dL_seen_3 rfl (lv_at hl 0 rfl) ?_
  refine lv_iload_n hx hb dL_seen_4 rfl (lv_at hl 1 rfl) ?_
  refine lv_iload_n hx hb dL_seen_5 rfl (lv_at hl 2 rfl) ?_
  refine lv_iload_n hx hb dL_seen_6 rfl (lv_at hl 3 rfl) ?_
  refine dz_kX (av := #[]) (vx_runV (As := [_, _, _]) ⟨hx, hb, hml, hown, hts⟩ hM (cwV 3 hts gL_seen_X8_seen rfl rfl rfl (by decide +kernel) ⟨Nat.le_refl _, Nat.le_refl _⟩) (dz_P.preV hE hS hG ho rfl ha) rfl rfl hl.1 rfl (lv_room (Nat.le_of_ble_eq_true rfl)) dL_seen_7 ⟨Nat.le_refl _, Nat.le_refl _⟩) hS (fun E q ce H locs hEx hG hS hce hcv hcl => ?_)
  subst hEx
  refine vx_catch (name := "java/lang/IndexOutOfBoundsException") hown [] ⟨0, 12, 15, 21⟩ [⟨0, 12, 19, 13⟩] ((vx_table (x := yL_seen) B (hts _ List.mem_cons_self)).trans rfl) (fun z h => absurd h List.not_mem_nil) (by decide) (by decide) (hts _ (List.mem_of_getElem? (i := 1) rfl)) (va_Nw.use rfl (hE.2.2.2.2.2.2.1 ("java/lang/IndexOutOfBoundsException", "java/lang/IndexOutOfBoundsException") (by decide +kernel))) hce hcv hcl ?_
  refine lv_astore (lv' := [(5, .ref q), (0, .ref aX), (1, .int v1), (2, .int v2), (3, .int v3), (4, .ref aO)]) (pc := 15) hx hb dL_seen_15 hl (by decide) rfl (fun ls hl => ?_)
  refine lv_iconst (v := 1) hx hb dL_seen_17 (by decide) ?_
  refine W.widen (k := 1) (n := 6) (by omega) (by omega) ?_
  refine W.iret hx hb hrt (fun t ht hW => dz_endM (f := rv_i) 1 hE hS hG ?_ ht hW) (fun q h => hS.2.2 q h) dL_seen_18
  exact ⟨rfl, rfl, rfl⟩
set_option maxHeartbeats 4000000 in
set_option maxRecDepth 100000 in
theorem c_L_seen_X2 (l : Launch) (Z : dzG) (G : dzW) (ad : dzA) (aX aO : Nat) (v1 v2 v3 : Int32) (fs : List Value) (fr lo : Nat) (ha : ad (1, 0) = aX) (ho : G (1, 0) = some (.inr (9, fs))) (hM : vx_Met l yX8_seen wsX8_seen (dz_rm fr lo 1 6) (dz_P Z G ad [.ref aX, .int v1, .int v2, .int v3]) (fun _ _ _ _ => False) (dz_XC Z G ad (fun E => E = "java/lang/IllegalArgumentException")) 1 6 (dz_A Z)) : dzWr l yL_seen wsL_seen (fr + 1) (8 + (5 + 11) + lo) 1 6 Z G ad [.ref aX, .int v1, .int v2, .int v3, .ref aO] rv_i (fun (x : Int32) G1 ad1 => x = 2 ∧ G1 = G ∧ ad1 = ad) := by
  refine dz_ofWH (cc := cL_seen) (maxL := 6) (ret := (some .int)) (by decide) rfl ?_
  intro p e s m args below meth c s₁ B hml hv
  obtain ⟨rfl, hG, hE⟩ := hv
  have hx := B.exec
  have hb := B.bytes
  have hrt := B.returns
  have hts := atoms_spec (ws := wsL_seen) B.pre
  have hown : s.vm.findClass RL = some m.cls := findClass_of_methodNamed B.named
  have hS : va_S (dz_A Z) s.heap s.heap [] := va_S.rf
  have hl := lv_entry ([.ref aX, .int v1, .int v2, .int v3, .ref aO]) (n := 6) (Nat.le_of_ble_eq_true rfl)
  rw [lg_entry_eq]
  generalize (lg_sl ([.ref aX, .int v1, .int v2, .int v3, .ref aO]) ++ List.replicate (6 - (lg_sl ([.ref aX, .int v1, .int v2, .int v3, .ref aO])).length) Slot.unset).toArray = ls at hl ⊢
  have hl : lv_has ls 6 [(0, .ref aX), (1, .int v1), (2, .int v2), (3, .int v3), (4, .ref aO)] := hl
  refine lv_aload hx hb dL_seen_0 (lv_at hl 4 rfl) ?_
  refine lv_iconst (v := 0) hx hb dL_seen_2 (by decide) ?_
  refine lv_aload_n hx hb dL_seen_3 rfl (lv_at hl 0 rfl) ?_
  refine lv_iload_n hx hb dL_seen_4 rfl (lv_at hl 1 rfl) ?_
  refine lv_iload_n hx hb dL_seen_5 rfl (lv_at hl 2 rfl) ?_
  refine lv_iload_n hx hb dL_seen_6 rfl (lv_at hl 3 rfl) ?_
  refine dz_kX (av := #[]) (vx_runV (As := [_, _, _]) ⟨hx, hb, hml, hown, hts⟩ hM (cwV 3 hts gL_seen_X8_seen rfl rfl rfl (by decide +kernel) ⟨Nat.le_refl _, Nat.le_refl _⟩) (dz_P.preV hE hS hG ho rfl ha) rfl rfl hl.1 rfl (lv_room (Nat.le_of_ble_eq_true rfl)) dL_seen_7 ⟨Nat.le_refl _, Nat.le_refl _⟩) hS (fun E q ce H locs hEx hG hS hce hcv hcl => ?_)
  subst hEx
  refine vx_catch (name := "java/lang/IllegalArgumentException") hown [⟨0, 12, 15, 21⟩] ⟨0, 12, 19, 13⟩ [] ((vx_table (x := yL_seen) B (hts _ List.mem_cons_self)).trans rfl) (List.forall_mem_cons.mpr ⟨Or.inr ⟨by decide, "java/lang/IndexOutOfBoundsException", (hts _ (List.mem_of_getElem? (i := 1) rfl)), hE.2.2.2.2.2.2.2.2.2.2.2.1 ("java/lang/IllegalArgumentException", "java/lang/IndexOutOfBoundsException") (by decide +kernel)⟩, (fun z h => absurd h List.not_mem_nil)⟩) (by decide) (by decide) (hts _ (List.mem_of_getElem? (i := 2) rfl)) (va_Nw.use rfl (hE.2.2.2.2.2.2.1 ("java/lang/IllegalArgumentException", "java/lang/IllegalArgumentException") (by decide +kernel))) hce hcv hcl ?_
  refine lv_astore (lv' := [(5, .ref q), (0, .ref aX), (1, .int v1), (2, .int v2), (3, .int v3), (4, .ref aO)]) (pc := 19) hx hb dL_seen_19 hl (by decide) rfl (fun ls hl => ?_)
  refine lv_iconst (v := 2) hx hb dL_seen_21 (by decide) ?_
  refine W.widen (k := 1) (n := 6) (by omega) (by omega) ?_
  refine W.iret hx hb hrt (fun t ht hW => dz_endM (f := rv_i) 2 hE hS hG ?_ ht hW) (fun q h => hS.2.2 q h) dL_seen_22
  exact ⟨rfl, rfl, rfl⟩

set_option maxHeartbeats 4000000 in
set_option maxRecDepth 100000 in
theorem c_L_measured_W (l : Launch) (Z : dzG) (G : dzW) (ad : dzA) (aX aO : Nat) (v1 v2 v3 : Int32) (fs : List Value) (fo : Nat → Int64) (fr lo mc ms : Nat) (Po : Int32 → dzW → dzA → Prop) (ha : ad (1, 0) = aX) (ho : G (1, 0) = some (.inr (9, fs))) (hM : dzWr l yX8_measured wsX8_measured fr lo mc ms Z G ad [.ref aX, .int v1, .int v2, .int v3] rv_i Po) (hP : ∀ y G1 ad1, Po y G1 ad1 → G1 (50, 0) = some (eJ Z 1 fo) ∧ ad1 (50, 0) = aO) : dzWr l yL_measured wsL_measured (fr + 1) (8 + (4 + 11) + lo) mc ms Z G ad [.ref aX, .int v1, .int v2, .int v3, .ref aO] rv_i (fun (x : Int32) G1 ad1 => x = 0 ∧ ∃ (y : Int32) (G2 : dzW), Po y G2 ad1 ∧ (∀ r9 : dzR, r9 ≠ (50, 0) → G1 r9 = G2 r9) ∧ G1 (50, 0) = some (eJ Z 1 (vp_updL fo 0 y.toInt64))) := by
  refine dz_ofWH (cc := cL_measured) (maxL := 6) (ret := (some .int)) (by decide) rfl ?_
  intro p e s m args below meth c s₁ B hml hv
  obtain ⟨rfl, hG, hE⟩ := hv
  have hx := B.exec
  have hb := B.bytes
  have hrt := B.returns
  have hts := atoms_spec (ws := wsL_measured) B.pre
  have hown : s.vm.findClass RL = some m.cls := findClass_of_methodNamed B.named
  have hS : va_S (dz_A Z) s.heap s.heap [] := va_S.rf
  have hl := lv_entry ([.ref aX, .int v1, .int v2, .int v3, .ref aO]) (n := 6) (Nat.le_of_ble_eq_true rfl)
  rw [lg_entry_eq]
  generalize (lg_sl ([.ref aX, .int v1, .int v2, .int v3, .ref aO]) ++ List.replicate (6 - (lg_sl ([.ref aX, .int v1, .int v2, .int v3, .ref aO])).length) Slot.unset).toArray = ls at hl ⊢
  have hl : lv_has ls 6 [(0, .ref aX), (1, .int v1), (2, .int v2), (3, .int v3), (4, .ref aO)] := hl
  refine lv_aload hx hb dL_measured_0 (lv_at hl 4 rfl) ?_
  refine lv_iconst (v := 0) hx hb dL_measured_2 (by decide) ?_
  refine lv_aload_n hx hb dL_measured_3 rfl (lv_at hl 0 rfl) ?_
  refine lv_iload_n hx hb dL_measured_4 rfl (lv_at hl 1 rfl) ?_
  refine lv_iload_n hx hb dL_measured_5 rfl (lv_at hl 2 rfl) ?_
  refine lv_iload_n hx hb dL_measured_6 rfl (lv_at hl 3 rfl) ?_
  refine dz_kMi (va_runV (As := [_, _, _]) ⟨hx, hb, hml, hown, hts⟩ hM (cwV 3 hts gL_measured_X8_measured rfl rfl rfl (by decide +kernel) ⟨Nat.le_refl _, Nat.le_refl _⟩) (dz_P.preV hE hS hG ho rfl ha) rfl rfl hl.1 rfl (lv_room (Nat.le_of_ble_eq_true rfl)) dL_measured_7 ⟨Nat.le_of_eq (Nat.zero_add mc), Nat.le_of_eq (Nat.zero_add ms)⟩) hS (fun y G2 ad2 H locs hp hG hS => ?_)
  obtain ⟨h50, ha50⟩ := hP y G2 ad2 hp
  refine lv_i2l hx hb dL_measured_10 rfl ?_
  refine dz_last hx hb hE hG ha50 hS h50 (by unfold vp_in; decide) dL_measured_11 (fun H locs hG hS => ?_)
  refine lv_goto (tgt := 23) hx hb dL_measured_12 (by decide) ?_
  refine lv_iconst (v := 0) hx hb dL_measured_23 (by decide) ?_
  refine W.widen (k := mc) (n := ms) (by omega) (by omega) ?_
  refine W.iret hx hb hrt (fun t ht hW => dz_endM (f := rv_i) 0 hE hS hG ?_ ht hW) (fun q h => hS.2.2 q h) dL_measured_24
  exact ⟨rfl, y, G2, hp, fun r9 n9 => dz_o n9 rfl, dz_s⟩
set_option maxHeartbeats 4000000 in
set_option maxRecDepth 100000 in
theorem c_L_measured_X1 (l : Launch) (Z : dzG) (G : dzW) (ad : dzA) (aX aO : Nat) (v1 v2 v3 : Int32) (fs : List Value) (fr lo : Nat) (ha : ad (1, 0) = aX) (ho : G (1, 0) = some (.inr (9, fs))) (hM : vx_Met l yX8_measured wsX8_measured (dz_rm fr lo 1 6) (dz_P Z G ad [.ref aX, .int v1, .int v2, .int v3]) (fun _ _ _ _ => False) (dz_XC Z G ad (fun E => E = "java/lang/IndexOutOfBoundsException")) 1 6 (dz_A Z)) : dzWr l yL_measured wsL_measured (fr + 1) (8 + (4 + 11) + lo) 1 6 Z G ad [.ref aX, .int v1, .int v2, .int v3, .ref aO] rv_i (fun (x : Int32) G1 ad1 => x = 1 ∧ G1 = G ∧ ad1 = ad) := by
  refine dz_ofWH (cc := cL_measured) (maxL := 6) (ret := (some .int)) (by decide) rfl ?_
  intro p e s m args below meth c s₁ B hml hv
  obtain ⟨rfl, hG, hE⟩ := hv
  have hx := B.exec
  have hb := B.bytes
  have hrt := B.returns
  have hts := atoms_spec (ws := wsL_measured) B.pre
  have hown : s.vm.findClass RL = some m.cls := findClass_of_methodNamed B.named
  have hS : va_S (dz_A Z) s.heap s.heap [] := va_S.rf
  have hl := lv_entry ([.ref aX, .int v1, .int v2, .int v3, .ref aO]) (n := 6) (Nat.le_of_ble_eq_true rfl)
  rw [lg_entry_eq]
  generalize (lg_sl ([.ref aX, .int v1, .int v2, .int v3, .ref aO]) ++ List.replicate (6 - (lg_sl ([.ref aX, .int v1, .int v2, .int v3, .ref aO])).length) Slot.unset).toArray = ls at hl ⊢
  have hl : lv_has ls 6 [(0, .ref aX), (1, .int v1), (2, .int v2), (3, .int v3), (4, .ref aO)] := hl
  refine lv_aload hx hb dL_measured_0 (lv_at hl 4 rfl) ?_
  refine lv_iconst (v := 0) hx hb dL_measured_2 (by decide) ?_
  refine lv_aload_n hx hb dL_measured_3 rfl (lv_at hl 0 rfl) ?_
  refine lv_iload_n hx hb dL_measured_4 rfl (lv_at hl 1 rfl) ?_
  refine lv_iload_n hx hb dL_measured_5 rfl (lv_at hl 2 rfl) ?_
  refine lv_iload_n hx hb dL_measured_6 rfl (lv_at hl 3 rfl) ?_
  refine dz_kX (av := #[]) (vx_runV (As := [_, _, _]) ⟨hx, hb, hml, hown, hts⟩ hM (cwV 3 hts gL_measured_X8_measured rfl rfl rfl (by decide +kernel) ⟨Nat.le_refl _, Nat.le_refl _⟩) (dz_P.preV hE hS hG ho rfl ha) rfl rfl hl.1 rfl (lv_room (Nat.le_of_ble_eq_true rfl)) dL_measured_7 ⟨Nat.le_refl _, Nat.le_refl _⟩) hS (fun E q ce H locs hEx hG hS hce hcv hcl => ?_)
  subst hEx
  refine vx_catch (name := "java/lang/IndexOutOfBoundsException") hown [] ⟨0, 12, 15, 21⟩ [⟨0, 12, 19, 13⟩] ((vx_table (x := yL_measured) B (hts _ List.mem_cons_self)).trans rfl) (fun z h => absurd h List.not_mem_nil) (by decide) (by decide) (hts _ (List.mem_of_getElem? (i := 1) rfl)) (va_Nw.use rfl (hE.2.2.2.2.2.2.1 ("java/lang/IndexOutOfBoundsException", "java/lang/IndexOutOfBoundsException") (by decide +kernel))) hce hcv hcl ?_
  refine lv_astore (lv' := [(5, .ref q), (0, .ref aX), (1, .int v1), (2, .int v2), (3, .int v3), (4, .ref aO)]) (pc := 15) hx hb dL_measured_15 hl (by decide) rfl (fun ls hl => ?_)
  refine lv_iconst (v := 1) hx hb dL_measured_17 (by decide) ?_
  refine W.widen (k := 1) (n := 6) (by omega) (by omega) ?_
  refine W.iret hx hb hrt (fun t ht hW => dz_endM (f := rv_i) 1 hE hS hG ?_ ht hW) (fun q h => hS.2.2 q h) dL_measured_18
  exact ⟨rfl, rfl, rfl⟩
set_option maxHeartbeats 4000000 in
set_option maxRecDepth 100000 in
theorem c_L_measured_X2 (l : Launch) (Z : dzG) (G : dzW) (ad : dzA) (aX aO : Nat) (v1 v2 v3 : Int32) (fs : List Value) (fr lo : Nat) (ha : ad (1, 0) = aX) (ho : G (1, 0) = some (.inr (9, fs))) (hM : vx_Met l yX8_measured wsX8_measured (dz_rm fr lo 1 6) (dz_P Z G ad [.ref aX, .int v1, .int v2, .int v3]) (fun _ _ _ _ => False) (dz_XC Z G ad (fun E => E = "java/lang/IllegalArgumentException")) 1 6 (dz_A Z)) : dzWr l yL_measured wsL_measured (fr + 1) (8 + (4 + 11) + lo) 1 6 Z G ad [.ref aX, .int v1, .int v2, .int v3, .ref aO] rv_i (fun (x : Int32) G1 ad1 => x = 2 ∧ G1 = G ∧ ad1 = ad) := by
  refine dz_ofWH (cc := cL_measured) (maxL := 6) (ret := (some .int)) (by decide) rfl ?_
  intro p e s m args below meth c s₁ B hml hv
  obtain ⟨rfl, hG, hE⟩ := hv
  have hx := B.exec
  have hb := B.bytes
  have hrt := B.returns
  have hts := atoms_spec (ws := wsL_measured) B.pre
  have hown : s.vm.findClass RL = some m.cls := findClass_of_methodNamed B.named
  have hS : va_S (dz_A Z) s.heap s.heap [] := va_S.rf
  have hl := lv_entry ([.ref aX, .int v1, .int v2, .int v3, .ref aO]) (n := 6) (Nat.le_of_ble_eq_true rfl)
  rw [lg_entry_eq]
  generalize (lg_sl ([.ref aX, .int v1, .int v2, .int v3, .ref aO]) ++ List.replicate (6 - (lg_sl ([.ref aX, .int v1, .int v2, .int v3, .ref aO])).length) Slot.unset).toArray = ls at hl ⊢
  have hl : lv_has ls 6 [(0, .ref aX), (1, .int v1), (2, .int v2), (3, .int v3), (4, .ref aO)] := hl
  refine lv_aload hx hb dL_measured_0 (lv_at hl 4 rfl) ?_
  refine lv_iconst (v := 0) hx hb dL_measured_2 (by decide) ?_
  refine lv_aload_n hx hb dL_measured_3 rfl (lv_at hl 0 rfl) ?_
  refine lv_iload_n hx hb dL_measured_4 rfl (lv_at hl 1 rfl) ?_
  refine lv_iload_n hx hb dL_measured_5 rfl (lv_at hl 2 rfl) ?_
  refine lv_iload_n hx hb dL_measured_6 rfl (lv_at hl 3 rfl) ?_
  refine dz_kX (av := #[]) (vx_runV (As := [_, _, _]) ⟨hx, hb, hml, hown, hts⟩ hM (cwV 3 hts gL_measured_X8_measured rfl rfl rfl (by decide +kernel) ⟨Nat.le_refl _, Nat.le_refl _⟩) (dz_P.preV hE hS hG ho rfl ha) rfl rfl hl.1 rfl (lv_room (Nat.le_of_ble_eq_true rfl)) dL_measured_7 ⟨Nat.le_refl _, Nat.le_refl _⟩) hS (fun E q ce H locs hEx hG hS hce hcv hcl => ?_)
  subst hEx
  refine vx_catch (name := "java/lang/IllegalArgumentException") hown [⟨0, 12, 15, 21⟩] ⟨0, 12, 19, 13⟩ [] ((vx_table (x := yL_measured) B (hts _ List.mem_cons_self)).trans rfl) (List.forall_mem_cons.mpr ⟨Or.inr ⟨by decide, "java/lang/IndexOutOfBoundsException", (hts _ (List.mem_of_getElem? (i := 1) rfl)), hE.2.2.2.2.2.2.2.2.2.2.2.1 ("java/lang/IllegalArgumentException", "java/lang/IndexOutOfBoundsException") (by decide +kernel)⟩, (fun z h => absurd h List.not_mem_nil)⟩) (by decide) (by decide) (hts _ (List.mem_of_getElem? (i := 2) rfl)) (va_Nw.use rfl (hE.2.2.2.2.2.2.1 ("java/lang/IllegalArgumentException", "java/lang/IllegalArgumentException") (by decide +kernel))) hce hcv hcl ?_
  refine lv_astore (lv' := [(5, .ref q), (0, .ref aX), (1, .int v1), (2, .int v2), (3, .int v3), (4, .ref aO)]) (pc := 19) hx hb dL_measured_19 hl (by decide) rfl (fun ls hl => ?_)
  refine lv_iconst (v := 2) hx hb dL_measured_21 (by decide) ?_
  refine W.widen (k := 1) (n := 6) (by omega) (by omega) ?_
  refine W.iret hx hb hrt (fun t ht hW => dz_endM (f := rv_i) 2 hE hS hG ?_ ht hW) (fun q h => hS.2.2 q h) dL_measured_22
  exact ⟨rfl, rfl, rfl⟩

set_option maxHeartbeats 4000000 in
set_option maxRecDepth 100000 in
theorem c_L_booked_W (l : Launch) (Z : dzG) (G : dzW) (ad : dzA) (aX aO : Nat) (v1 : Int32) (fs : List Value) (fo : Nat → Int64) (fr lo mc ms : Nat) (Po : Int32 → dzW → dzA → Prop) (ha : ad (1, 0) = aX) (ho : G (1, 0) = some (.inr (9, fs))) (hM : dzWr l yX8_booked wsX8_booked fr lo mc ms Z G ad [.ref aX, .int v1] rv_i Po) (hP : ∀ y G1 ad1, Po y G1 ad1 → G1 (50, 0) = some (eJ Z 1 fo) ∧ ad1 (50, 0) = aO) : dzWr l yL_booked wsL_booked (fr + 1) (8 + (2 + 11) + lo) mc ms Z G ad [.ref aX, .int v1, .ref aO] rv_i (fun (x : Int32) G1 ad1 => x = 0 ∧ ∃ (y : Int32) (G2 : dzW), Po y G2 ad1 ∧ (∀ r9 : dzR, r9 ≠ (50, 0) → G1 r9 = G2 r9) ∧ G1 (50, 0) = some (eJ Z 1 (vp_updL fo 0 y.toInt64))) := by
  refine dz_ofWH (cc := cL_booked) (maxL := 4) (ret := (some .int)) (by decide) rfl ?_
  intro p e s m args below meth c s₁ B hml hv
  obtain ⟨rfl, hG, hE⟩ := hv
  have hx := B.exec
  have hb := B.bytes
  have hrt := B.returns
  have hts := atoms_spec (ws := wsL_booked) B.pre
  have hown : s.vm.findClass RL = some m.cls := findClass_of_methodNamed B.named
  have hS : va_S (dz_A Z) s.heap s.heap [] := va_S.rf
  have hl := lv_entry ([.ref aX, .int v1, .ref aO]) (n := 4) (Nat.le_of_ble_eq_true rfl)
  rw [lg_entry_eq]
  generalize (lg_sl ([.ref aX, .int v1, .ref aO]) ++ List.replicate (4 - (lg_sl ([.ref aX, .int v1, .ref aO])).length) Slot.unset).toArray = ls at hl ⊢
  have hl : lv_has ls 4 [(0, .ref aX), (1, .int v1), (2, .ref aO)] := hl
  refine lv_aload_n hx hb dL_booked_0 rfl (lv_at hl 2 rfl) ?_
  refine lv_iconst (v := 0) hx hb dL_booked_1 (by decide) ?_
  refine lv_aload_n hx hb dL_booked_2 rfl (lv_at hl 0 rfl) ?_
  refine lv_iload_n hx hb dL_booked_3 rfl (lv_at hl 1 rfl) ?_
  refine dz_kMi (va_runV (As := [_]) ⟨hx, hb, hml, hown, hts⟩ hM (cwV 1 hts gL_booked_X8_booked rfl rfl rfl (by decide +kernel) ⟨Nat.le_refl _, Nat.le_refl _⟩) (dz_P.preV hE hS hG ho rfl ha) rfl rfl hl.1 rfl (lv_room (Nat.le_of_ble_eq_true rfl)) dL_booked_4 ⟨Nat.le_of_eq (Nat.zero_add mc), Nat.le_of_eq (Nat.zero_add ms)⟩) hS (fun y G2 ad2 H locs hp hG hS => ?_)
  obtain ⟨h50, ha50⟩ := hP y G2 ad2 hp
  refine lv_i2l hx hb dL_booked_7 rfl ?_
  refine dz_last hx hb hE hG ha50 hS h50 (by unfold vp_in; decide) dL_booked_8 (fun H locs hG hS => ?_)
  refine lv_goto (tgt := 18) hx hb dL_booked_9 (by decide) ?_
  refine lv_iconst (v := 0) hx hb dL_booked_18 (by decide) ?_
  refine W.widen (k := mc) (n := ms) (by omega) (by omega) ?_
  refine W.iret hx hb hrt (fun t ht hW => dz_endM (f := rv_i) 0 hE hS hG ?_ ht hW) (fun q h => hS.2.2 q h) dL_booked_19
  exact ⟨rfl, y, G2, hp, fun r9 n9 => dz_o n9 rfl, dz_s⟩
set_option maxHeartbeats 4000000 in
set_option maxRecDepth 100000 in
theorem c_L_booked_X1 (l : Launch) (Z : dzG) (G : dzW) (ad : dzA) (aX aO : Nat) (v1 : Int32) (fs : List Value) (fr lo : Nat) (ha : ad (1, 0) = aX) (ho : G (1, 0) = some (.inr (9, fs))) (hM : vx_Met l yX8_booked wsX8_booked (dz_rm fr lo 1 6) (dz_P Z G ad [.ref aX, .int v1]) (fun _ _ _ _ => False) (dz_XC Z G ad (fun E => E = "java/lang/IndexOutOfBoundsException")) 1 6 (dz_A Z)) : dzWr l yL_booked wsL_booked (fr + 1) (8 + (2 + 11) + lo) 1 6 Z G ad [.ref aX, .int v1, .ref aO] rv_i (fun (x : Int32) G1 ad1 => x = 1 ∧ G1 = G ∧ ad1 = ad) := by
  refine dz_ofWH (cc := cL_booked) (maxL := 4) (ret := (some .int)) (by decide) rfl ?_
  intro p e s m args below meth c s₁ B hml hv
  obtain ⟨rfl, hG, hE⟩ := hv
  have hx := B.exec
  have hb := B.bytes
  have hrt := B.returns
  have hts := atoms_spec (ws := wsL_booked) B.pre
  have hown : s.vm.findClass RL = some m.cls := findClass_of_methodNamed B.named
  have hS : va_S (dz_A Z) s.heap s.heap [] := va_S.rf
  have hl := lv_entry ([.ref aX, .int v1, .ref aO]) (n := 4) (Nat.le_of_ble_eq_true rfl)
  rw [lg_entry_eq]
  generalize (lg_sl ([.ref aX, .int v1, .ref aO]) ++ List.replicate (4 - (lg_sl ([.ref aX, .int v1, .ref aO])).length) Slot.unset).toArray = ls at hl ⊢
  have hl : lv_has ls 4 [(0, .ref aX), (1, .int v1), (2, .ref aO)] := hl
  refine lv_aload_n hx hb dL_booked_0 rfl (lv_at hl 2 rfl) ?_
  refine lv_iconst (v := 0) hx hb dL_booked_1 (by decide) ?_
  refine lv_aload_n hx hb dL_booked_2 rfl (lv_at hl 0 rfl) ?_
  refine lv_iload_n hx hb dL_booked_3 rfl (lv_at hl 1 rfl) ?_
  refine dz_kX (av := #[]) (vx_runV (As := [_]) ⟨hx, hb, hml, hown, hts⟩ hM (cwV 1 hts gL_booked_X8_booked rfl rfl rfl (by decide +kernel) ⟨Nat.le_refl _, Nat.le_refl _⟩) (dz_P.preV hE hS hG ho rfl ha) rfl rfl hl.1 rfl (lv_room (Nat.le_of_ble_eq_true rfl)) dL_booked_4 ⟨Nat.le_refl _, Nat.le_refl _⟩) hS (fun E q ce H locs hEx hG hS hce hcv hcl => ?_)
  subst hEx
  refine vx_catch (name := "java/lang/IndexOutOfBoundsException") hown [] ⟨0, 9, 12, 21⟩ [⟨0, 9, 15, 15⟩] ((vx_table (x := yL_booked) B (hts _ List.mem_cons_self)).trans rfl) (fun z h => absurd h List.not_mem_nil) (by decide) (by decide) (hts _ (List.mem_of_getElem? (i := 1) rfl)) (va_Nw.use rfl (hE.2.2.2.2.2.2.1 ("java/lang/IndexOutOfBoundsException", "java/lang/IndexOutOfBoundsException") (by decide +kernel))) hce hcv hcl ?_
  refine lv_astore_n (lv' := [(3, .ref q), (0, .ref aX), (1, .int v1), (2, .ref aO)]) (pc := 12) hx hb dL_booked_12 rfl hl (by decide) rfl (fun ls hl => ?_)
  refine lv_iconst (v := 1) hx hb dL_booked_13 (by decide) ?_
  refine W.widen (k := 1) (n := 6) (by omega) (by omega) ?_
  refine W.iret hx hb hrt (fun t ht hW => dz_endM (f := rv_i) 1 hE hS hG ?_ ht hW) (fun q h => hS.2.2 q h) dL_booked_14
  exact ⟨rfl, rfl, rfl⟩
set_option maxHeartbeats 4000000 in
set_option maxRecDepth 100000 in
theorem c_L_booked_X2 (l : Launch) (Z : dzG) (G : dzW) (ad : dzA) (aX aO : Nat) (v1 : Int32) (fs : List Value) (fr lo : Nat) (ha : ad (1, 0) = aX) (ho : G (1, 0) = some (.inr (9, fs))) (hM : vx_Met l yX8_booked wsX8_booked (dz_rm fr lo 1 6) (dz_P Z G ad [.ref aX, .int v1]) (fun _ _ _ _ => False) (dz_XC Z G ad (fun E => E = "java/lang/IllegalStateException")) 1 6 (dz_A Z)) : dzWr l yL_booked wsL_booked (fr + 1) (8 + (2 + 11) + lo) 1 6 Z G ad [.ref aX, .int v1, .ref aO] rv_i (fun (x : Int32) G1 ad1 => x = 2 ∧ G1 = G ∧ ad1 = ad) := by
  refine dz_ofWH (cc := cL_booked) (maxL := 4) (ret := (some .int)) (by decide) rfl ?_
  intro p e s m args below meth c s₁ B hml hv
  obtain ⟨rfl, hG, hE⟩ := hv
  have hx := B.exec
  have hb := B.bytes
  have hrt := B.returns
  have hts := atoms_spec (ws := wsL_booked) B.pre
  have hown : s.vm.findClass RL = some m.cls := findClass_of_methodNamed B.named
  have hS : va_S (dz_A Z) s.heap s.heap [] := va_S.rf
  have hl := lv_entry ([.ref aX, .int v1, .ref aO]) (n := 4) (Nat.le_of_ble_eq_true rfl)
  rw [lg_entry_eq]
  generalize (lg_sl ([.ref aX, .int v1, .ref aO]) ++ List.replicate (4 - (lg_sl ([.ref aX, .int v1, .ref aO])).length) Slot.unset).toArray = ls at hl ⊢
  have hl : lv_has ls 4 [(0, .ref aX), (1, .int v1), (2, .ref aO)] := hl
  refine lv_aload_n hx hb dL_booked_0 rfl (lv_at hl 2 rfl) ?_
  refine lv_iconst (v := 0) hx hb dL_booked_1 (by decide) ?_
  refine lv_aload_n hx hb dL_booked_2 rfl (lv_at hl 0 rfl) ?_
  refine lv_iload_n hx hb dL_booked_3 rfl (lv_at hl 1 rfl) ?_
  refine dz_kX (av := #[]) (vx_runV (As := [_]) ⟨hx, hb, hml, hown, hts⟩ hM (cwV 1 hts gL_booked_X8_booked rfl rfl rfl (by decide +kernel) ⟨Nat.le_refl _, Nat.le_refl _⟩) (dz_P.preV hE hS hG ho rfl ha) rfl rfl hl.1 rfl (lv_room (Nat.le_of_ble_eq_true rfl)) dL_booked_4 ⟨Nat.le_refl _, Nat.le_refl _⟩) hS (fun E q ce H locs hEx hG hS hce hcv hcl => ?_)
  subst hEx
  refine vx_catch (name := "java/lang/IllegalStateException") hown [⟨0, 9, 12, 21⟩] ⟨0, 9, 15, 15⟩ [] ((vx_table (x := yL_booked) B (hts _ List.mem_cons_self)).trans rfl) (List.forall_mem_cons.mpr ⟨Or.inr ⟨by decide, "java/lang/IndexOutOfBoundsException", (hts _ (List.mem_of_getElem? (i := 1) rfl)), hE.2.2.2.2.2.2.2.2.2.2.2.1 ("java/lang/IllegalStateException", "java/lang/IndexOutOfBoundsException") (by decide +kernel)⟩, (fun z h => absurd h List.not_mem_nil)⟩) (by decide) (by decide) (hts _ (List.mem_of_getElem? (i := 2) rfl)) (va_Nw.use rfl (hE.2.2.2.2.2.2.1 ("java/lang/IllegalStateException", "java/lang/IllegalStateException") (by decide +kernel))) hce hcv hcl ?_
  refine lv_astore_n (lv' := [(3, .ref q), (0, .ref aX), (1, .int v1), (2, .ref aO)]) (pc := 15) hx hb dL_booked_15 rfl hl (by decide) rfl (fun ls hl => ?_)
  refine lv_iconst (v := 2) hx hb dL_booked_16 (by decide) ?_
  refine W.widen (k := 1) (n := 6) (by omega) (by omega) ?_
  refine W.iret hx hb hrt (fun t ht hW => dz_endM (f := rv_i) 2 hE hS hG ?_ ht hW) (fun q h => hS.2.2 q h) dL_booked_17
  exact ⟨rfl, rfl, rfl⟩

set_option maxHeartbeats 4000000 in
set_option maxRecDepth 100000 in
theorem c_L_isFresh_W (l : Launch) (Z : dzG) (G : dzW) (ad : dzA) (aX aO : Nat) (v1 : Int32) (fs : List Value) (fo : Nat → Int64) (fr lo mc ms : Nat) (Po : Int32 → dzW → dzA → Prop) (ha : ad (1, 0) = aX) (ho : G (1, 0) = some (.inr (9, fs))) (hM : dzWr l yX8_isFresh wsX8_isFresh fr lo mc ms Z G ad [.ref aX, .int v1] rv_i Po) (hP : ∀ y G1 ad1, Po y G1 ad1 → G1 (50, 0) = some (eJ Z 1 fo) ∧ ad1 (50, 0) = aO) : dzWr l yL_isFresh wsL_isFresh (fr + 1) (8 + (2 + 11) + lo) mc ms Z G ad [.ref aX, .int v1, .ref aO] rv_i (fun (x : Int32) G1 ad1 => x = 0 ∧ ∃ (y : Int32) (G2 : dzW), Po y G2 ad1 ∧ (∀ r9 : dzR, r9 ≠ (50, 0) → G1 r9 = G2 r9) ∧ G1 (50, 0) = some (eJ Z 1 (vp_updL fo 0 (if y = 0 then 0 else 1)))) := by
  refine dz_ofWH (cc := cL_isFresh) (maxL := 4) (ret := (some .int)) (by decide) rfl ?_
  intro p e s m args below meth c s₁ B hml hv
  obtain ⟨rfl, hG, hE⟩ := hv
  have hx := B.exec
  have hb := B.bytes
  have hrt := B.returns
  have hts := atoms_spec (ws := wsL_isFresh) B.pre
  have hown : s.vm.findClass RL = some m.cls := findClass_of_methodNamed B.named
  have hS : va_S (dz_A Z) s.heap s.heap [] := va_S.rf
  have hl := lv_entry ([.ref aX, .int v1, .ref aO]) (n := 4) (Nat.le_of_ble_eq_true rfl)
  rw [lg_entry_eq]
  generalize (lg_sl ([.ref aX, .int v1, .ref aO]) ++ List.replicate (4 - (lg_sl ([.ref aX, .int v1, .ref aO])).length) Slot.unset).toArray = ls at hl ⊢
  have hl : lv_has ls 4 [(0, .ref aX), (1, .int v1), (2, .ref aO)] := hl
  refine lv_aload_n hx hb dL_isFresh_0 rfl (lv_at hl 2 rfl) ?_
  refine lv_iconst (v := 0) hx hb dL_isFresh_1 (by decide) ?_
  refine lv_aload_n hx hb dL_isFresh_2 rfl (lv_at hl 0 rfl) ?_
  refine lv_iload_n hx hb dL_isFresh_3 rfl (lv_at hl 1 rfl) ?_
  refine dz_kMi (va_runV (As := [_]) ⟨hx, hb, hml, hown, hts⟩ hM (cwV 1 hts gL_isFresh_X8_isFresh rfl rfl rfl (by decide +kernel) ⟨Nat.le_refl _, Nat.le_refl _⟩) (dz_P.preV hE hS hG ho rfl ha) rfl rfl hl.1 rfl (lv_room (Nat.le_of_ble_eq_true rfl)) dL_isFresh_4 ⟨Nat.le_of_eq (Nat.zero_add mc), Nat.le_of_eq (Nat.zero_add ms)⟩) hS (fun y G2 ad2 H locs hp hG hS => ?_)
  obtain ⟨h50, ha50⟩ := hP y G2 ad2 hp
  refine lv_if_eq (tgt := 14) hx hb dL_isFresh_7 (by decide) (fun c9 => ?_) (fun c9 => ?_)
  · refine lv_lconst (v := 0) hx hb dL_isFresh_14 (by decide) ?_
    refine dz_last hx hb hE hG ha50 hS h50 (by unfold vp_in; decide) dL_isFresh_15 (fun H locs hG hS => ?_)
    refine lv_goto (tgt := 25) hx hb dL_isFresh_16 (by decide) ?_
    refine lv_iconst (v := 0) hx hb dL_isFresh_25 (by decide) ?_
    refine W.widen (k := mc) (n := ms) (by omega) (by omega) ?_
    refine W.iret hx hb hrt (fun t ht hW => dz_endM (f := rv_i) 0 hE hS hG ?_ ht hW) (fun q h => hS.2.2 q h) dL_isFresh_26
    exact ⟨rfl, y, G2, hp, fun r9 n9 => dz_o n9 rfl, by rw [if_pos c9]; exact dz_s⟩
  · refine lv_lconst (v := 1) hx hb dL_isFresh_10 (by decide) ?_
    refine lv_goto (tgt := 15) hx hb dL_isFresh_11 (by decide) ?_
    refine dz_last hx hb hE hG ha50 hS h50 (by unfold vp_in; decide) dL_isFresh_15 (fun H locs hG hS => ?_)
    refine lv_goto (tgt := 25) hx hb dL_isFresh_16 (by decide) ?_
    refine lv_iconst (v := 0) hx hb dL_isFresh_25 (by decide) ?_
    refine W.widen (k := mc) (n := ms) (by omega) (by omega) ?_
    refine W.iret hx hb hrt (fun t ht hW => dz_endM (f := rv_i) 0 hE hS hG ?_ ht hW) (fun q h => hS.2.2 q h) dL_isFresh_26
    exact ⟨rfl, y, G2, hp, fun r9 n9 => dz_o n9 rfl, by rw [if_neg c9]; exact dz_s⟩
set_option maxHeartbeats 4000000 in
set_option maxRecDepth 100000 in
theorem c_L_isFresh_X1 (l : Launch) (Z : dzG) (G : dzW) (ad : dzA) (aX aO : Nat) (v1 : Int32) (fs : List Value) (fr lo : Nat) (ha : ad (1, 0) = aX) (ho : G (1, 0) = some (.inr (9, fs))) (hM : vx_Met l yX8_isFresh wsX8_isFresh (dz_rm fr lo 1 6) (dz_P Z G ad [.ref aX, .int v1]) (fun _ _ _ _ => False) (dz_XC Z G ad (fun E => E = "java/lang/IndexOutOfBoundsException")) 1 6 (dz_A Z)) : dzWr l yL_isFresh wsL_isFresh (fr + 1) (8 + (2 + 11) + lo) 1 6 Z G ad [.ref aX, .int v1, .ref aO] rv_i (fun (x : Int32) G1 ad1 => x = 1 ∧ G1 = G ∧ ad1 = ad) := by
  refine dz_ofWH (cc := cL_isFresh) (maxL := 4) (ret := (some .int)) (by decide) rfl ?_
  intro p e s m args below meth c s₁ B hml hv
  obtain ⟨rfl, hG, hE⟩ := hv
  have hx := B.exec
  have hb := B.bytes
  have hrt := B.returns
  have hts := atoms_spec (ws := wsL_isFresh) B.pre
  have hown : s.vm.findClass RL = some m.cls := findClass_of_methodNamed B.named
  have hS : va_S (dz_A Z) s.heap s.heap [] := va_S.rf
  have hl := lv_entry ([.ref aX, .int v1, .ref aO]) (n := 4) (Nat.le_of_ble_eq_true rfl)
  rw [lg_entry_eq]
  generalize (lg_sl ([.ref aX, .int v1, .ref aO]) ++ List.replicate (4 - (lg_sl ([.ref aX, .int v1, .ref aO])).length) Slot.unset).toArray = ls at hl ⊢
  have hl : lv_has ls 4 [(0, .ref aX), (1, .int v1), (2, .ref aO)] := hl
  refine lv_aload_n hx hb dL_isFresh_0 rfl (lv_at hl 2 rfl) ?_
  refine lv_iconst (v := 0) hx hb dL_isFresh_1 (by decide) ?_
  refine lv_aload_n hx hb dL_isFresh_2 rfl (lv_at hl 0 rfl) ?_
  refine lv_iload_n hx hb dL_isFresh_3 rfl (lv_at hl 1 rfl) ?_
  refine dz_kX (av := #[]) (vx_runV (As := [_]) ⟨hx, hb, hml, hown, hts⟩ hM (cwV 1 hts gL_isFresh_X8_isFresh rfl rfl rfl (by decide +kernel) ⟨Nat.le_refl _, Nat.le_refl _⟩) (dz_P.preV hE hS hG ho rfl ha) rfl rfl hl.1 rfl (lv_room (Nat.le_of_ble_eq_true rfl)) dL_isFresh_4 ⟨Nat.le_refl _, Nat.le_refl _⟩) hS (fun E q ce H locs hEx hG hS hce hcv hcl => ?_)
  subst hEx
  refine vx_catch (name := "java/lang/IndexOutOfBoundsException") hown [] ⟨0, 16, 19, 21⟩ [⟨0, 16, 22, 15⟩] ((vx_table (x := yL_isFresh) B (hts _ List.mem_cons_self)).trans rfl) (fun z h => absurd h List.not_mem_nil) (by decide) (by decide) (hts _ (List.mem_of_getElem? (i := 1) rfl)) (va_Nw.use rfl (hE.2.2.2.2.2.2.1 ("java/lang/IndexOutOfBoundsException", "java/lang/IndexOutOfBoundsException") (by decide +kernel))) hce hcv hcl ?_
  refine lv_astore_n (lv' := [(3, .ref q), (0, .ref aX), (1, .int v1), (2, .ref aO)]) (pc := 19) hx hb dL_isFresh_19 rfl hl (by decide) rfl (fun ls hl => ?_)
  refine lv_iconst (v := 1) hx hb dL_isFresh_20 (by decide) ?_
  refine W.widen (k := 1) (n := 6) (by omega) (by omega) ?_
  refine W.iret hx hb hrt (fun t ht hW => dz_endM (f := rv_i) 1 hE hS hG ?_ ht hW) (fun q h => hS.2.2 q h) dL_isFresh_21
  exact ⟨rfl, rfl, rfl⟩
set_option maxHeartbeats 4000000 in
set_option maxRecDepth 100000 in
theorem c_L_isFresh_X2 (l : Launch) (Z : dzG) (G : dzW) (ad : dzA) (aX aO : Nat) (v1 : Int32) (fs : List Value) (fr lo : Nat) (ha : ad (1, 0) = aX) (ho : G (1, 0) = some (.inr (9, fs))) (hM : vx_Met l yX8_isFresh wsX8_isFresh (dz_rm fr lo 1 6) (dz_P Z G ad [.ref aX, .int v1]) (fun _ _ _ _ => False) (dz_XC Z G ad (fun E => E = "java/lang/IllegalStateException")) 1 6 (dz_A Z)) : dzWr l yL_isFresh wsL_isFresh (fr + 1) (8 + (2 + 11) + lo) 1 6 Z G ad [.ref aX, .int v1, .ref aO] rv_i (fun (x : Int32) G1 ad1 => x = 2 ∧ G1 = G ∧ ad1 = ad) := by
  refine dz_ofWH (cc := cL_isFresh) (maxL := 4) (ret := (some .int)) (by decide) rfl ?_
  intro p e s m args below meth c s₁ B hml hv
  obtain ⟨rfl, hG, hE⟩ := hv
  have hx := B.exec
  have hb := B.bytes
  have hrt := B.returns
  have hts := atoms_spec (ws := wsL_isFresh) B.pre
  have hown : s.vm.findClass RL = some m.cls := findClass_of_methodNamed B.named
  have hS : va_S (dz_A Z) s.heap s.heap [] := va_S.rf
  have hl := lv_entry ([.ref aX, .int v1, .ref aO]) (n := 4) (Nat.le_of_ble_eq_true rfl)
  rw [lg_entry_eq]
  generalize (lg_sl ([.ref aX, .int v1, .ref aO]) ++ List.replicate (4 - (lg_sl ([.ref aX, .int v1, .ref aO])).length) Slot.unset).toArray = ls at hl ⊢
  have hl : lv_has ls 4 [(0, .ref aX), (1, .int v1), (2, .ref aO)] := hl
  refine lv_aload_n hx hb dL_isFresh_0 rfl (lv_at hl 2 rfl) ?_
  refine lv_iconst (v := 0) hx hb dL_isFresh_1 (by decide) ?_
  refine lv_aload_n hx hb dL_isFresh_2 rfl (lv_at hl 0 rfl) ?_
  refine lv_iload_n hx hb dL_isFresh_3 rfl (lv_at hl 1 rfl) ?_
  refine dz_kX (av := #[]) (vx_runV (As := [_]) ⟨hx, hb, hml, hown, hts⟩ hM (cwV 1 hts gL_isFresh_X8_isFresh rfl rfl rfl (by decide +kernel) ⟨Nat.le_refl _, Nat.le_refl _⟩) (dz_P.preV hE hS hG ho rfl ha) rfl rfl hl.1 rfl (lv_room (Nat.le_of_ble_eq_true rfl)) dL_isFresh_4 ⟨Nat.le_refl _, Nat.le_refl _⟩) hS (fun E q ce H locs hEx hG hS hce hcv hcl => ?_)
  subst hEx
  refine vx_catch (name := "java/lang/IllegalStateException") hown [⟨0, 16, 19, 21⟩] ⟨0, 16, 22, 15⟩ [] ((vx_table (x := yL_isFresh) B (hts _ List.mem_cons_self)).trans rfl) (List.forall_mem_cons.mpr ⟨Or.inr ⟨by decide, "java/lang/IndexOutOfBoundsException", (hts _ (List.mem_of_getElem? (i := 1) rfl)), hE.2.2.2.2.2.2.2.2.2.2.2.1 ("java/lang/IllegalStateException", "java/lang/IndexOutOfBoundsException") (by decide +kernel)⟩, (fun z h => absurd h List.not_mem_nil)⟩) (by decide) (by decide) (hts _ (List.mem_of_getElem? (i := 2) rfl)) (va_Nw.use rfl (hE.2.2.2.2.2.2.1 ("java/lang/IllegalStateException", "java/lang/IllegalStateException") (by decide +kernel))) hce hcv hcl ?_
  refine lv_astore_n (lv' := [(3, .ref q), (0, .ref aX), (1, .int v1), (2, .ref aO)]) (pc := 22) hx hb dL_isFresh_22 rfl hl (by decide) rfl (fun ls hl => ?_)
  refine lv_iconst (v := 2) hx hb dL_isFresh_23 (by decide) ?_
  refine W.widen (k := 1) (n := 6) (by omega) (by omega) ?_
  refine W.iret hx hb hrt (fun t ht hW => dz_endM (f := rv_i) 2 hE hS hG ?_ ht hW) (fun q h => hS.2.2 q h) dL_isFresh_24
  exact ⟨rfl, rfl, rfl⟩

set_option maxHeartbeats 4000000 in
set_option maxRecDepth 100000 in
theorem c_L_dispute_W (l : Launch) (Z : dzG) (G : dzW) (ad : dzA) (aX aO : Nat) (fs : List Value) (fo : Nat → Int64) (fr lo mc ms : Nat) (Po : Int32 → dzW → dzA → Prop) (ha : ad (1, 0) = aX) (ho : G (1, 0) = some (.inr (9, fs))) (hM : dzWr l yX8_dispute wsX8_dispute fr lo mc ms Z G ad [.ref aX] rv_i Po) (hP : ∀ y G1 ad1, Po y G1 ad1 → G1 (50, 0) = some (eJ Z 1 fo) ∧ ad1 (50, 0) = aO) : dzWr l yL_dispute wsL_dispute (fr + 1) (8 + (3 + 11) + lo) mc ms Z G ad [.ref aX, .ref aO] rv_i (fun (x : Int32) G1 ad1 => x = 0 ∧ ∃ (y : Int32) (G2 : dzW), Po y G2 ad1 ∧ (∀ r9 : dzR, r9 ≠ (50, 0) → G1 r9 = G2 r9) ∧ G1 (50, 0) = some (eJ Z 1 (vp_updL fo 0 y.toInt64))) := by
  refine dz_ofWH (cc := cL_dispute) (maxL := 3) (ret := (some .int)) (by decide) rfl ?_
  intro p e s m args below meth c s₁ B hml hv
  obtain ⟨rfl, hG, hE⟩ := hv
  have hx := B.exec
  have hb := B.bytes
  have hrt := B.returns
  have hts := atoms_spec (ws := wsL_dispute) B.pre
  have hown : s.vm.findClass RL = some m.cls := findClass_of_methodNamed B.named
  have hS : va_S (dz_A Z) s.heap s.heap [] := va_S.rf
  have hl := lv_entry ([.ref aX, .ref aO]) (n := 3) (Nat.le_of_ble_eq_true rfl)
  rw [lg_entry_eq]
  generalize (lg_sl ([.ref aX, .ref aO]) ++ List.replicate (3 - (lg_sl ([.ref aX, .ref aO])).length) Slot.unset).toArray = ls at hl ⊢
  have hl : lv_has ls 3 [(0, .ref aX), (1, .ref aO)] := hl
  refine lv_aload_n hx hb dL_dispute_0 rfl (lv_at hl 1 rfl) ?_
  refine lv_iconst (v := 0) hx hb dL_dispute_1 (by decide) ?_
  refine lv_aload_n hx hb dL_dispute_2 rfl (lv_at hl 0 rfl) ?_
  refine dz_kMi (va_runV (As := []) ⟨hx, hb, hml, hown, hts⟩ hM (cwV 0 hts gL_dispute_X8_dispute rfl rfl rfl (by decide +kernel) ⟨Nat.le_refl _, Nat.le_refl _⟩) (dz_P.preV hE hS hG ho rfl ha) rfl rfl hl.1 rfl (lv_room (Nat.le_of_ble_eq_true rfl)) dL_dispute_3 ⟨Nat.le_of_eq (Nat.zero_add mc), Nat.le_of_eq (Nat.zero_add ms)⟩) hS (fun y G2 ad2 H locs hp hG hS => ?_)
  obtain ⟨h50, ha50⟩ := hP y G2 ad2 hp
  refine lv_i2l hx hb dL_dispute_6 rfl ?_
  refine dz_last hx hb hE hG ha50 hS h50 (by unfold vp_in; decide) dL_dispute_7 (fun H locs hG hS => ?_)
  refine lv_goto (tgt := 14) hx hb dL_dispute_8 (by decide) ?_
  refine lv_iconst (v := 0) hx hb dL_dispute_14 (by decide) ?_
  refine W.widen (k := mc) (n := ms) (by omega) (by omega) ?_
  refine W.iret hx hb hrt (fun t ht hW => dz_endM (f := rv_i) 0 hE hS hG ?_ ht hW) (fun q h => hS.2.2 q h) dL_dispute_15
  exact ⟨rfl, y, G2, hp, fun r9 n9 => dz_o n9 rfl, dz_s⟩
set_option maxHeartbeats 4000000 in
set_option maxRecDepth 100000 in
theorem c_L_dispute_X1 (l : Launch) (Z : dzG) (G : dzW) (ad : dzA) (aX aO : Nat) (fs : List Value) (fr lo : Nat) (ha : ad (1, 0) = aX) (ho : G (1, 0) = some (.inr (9, fs))) (hM : vx_Met l yX8_dispute wsX8_dispute (dz_rm fr lo 1 6) (dz_P Z G ad [.ref aX]) (fun _ _ _ _ => False) (dz_XC Z G ad (fun E => E = "java/lang/IllegalStateException")) 1 6 (dz_A Z)) : dzWr l yL_dispute wsL_dispute (fr + 1) (8 + (3 + 11) + lo) 1 6 Z G ad [.ref aX, .ref aO] rv_i (fun (x : Int32) G1 ad1 => x = 1 ∧ G1 = G ∧ ad1 = ad) := by
  refine dz_ofWH (cc := cL_dispute) (maxL := 3) (ret := (some .int)) (by decide) rfl ?_
  intro p e s m args below meth c s₁ B hml hv
  obtain ⟨rfl, hG, hE⟩ := hv
  have hx := B.exec
  have hb := B.bytes
  have hrt := B.returns
  have hts := atoms_spec (ws := wsL_dispute) B.pre
  have hown : s.vm.findClass RL = some m.cls := findClass_of_methodNamed B.named
  have hS : va_S (dz_A Z) s.heap s.heap [] := va_S.rf
  have hl := lv_entry ([.ref aX, .ref aO]) (n := 3) (Nat.le_of_ble_eq_true rfl)
  rw [lg_entry_eq]
  generalize (lg_sl ([.ref aX, .ref aO]) ++ List.replicate (3 - (lg_sl ([.ref aX, .ref aO])).length) Slot.unset).toArray = ls at hl ⊢
  have hl : lv_has ls 3 [(0, .ref aX), (1, .ref aO)] := hl
  refine lv_aload_n hx hb dL_dispute_0 rfl (lv_at hl 1 rfl) ?_
  refine lv_iconst (v := 0) hx hb dL_dispute_1 (by decide) ?_
  refine lv_aload_n hx hb dL_dispute_2 rfl (lv_at hl 0 rfl) ?_
  refine dz_kX (av := #[]) (vx_runV (As := []) ⟨hx, hb, hml, hown, hts⟩ hM (cwV 0 hts gL_dispute_X8_dispute rfl rfl rfl (by decide +kernel) ⟨Nat.le_refl _, Nat.le_refl _⟩) (dz_P.preV hE hS hG ho rfl ha) rfl rfl hl.1 rfl (lv_room (Nat.le_of_ble_eq_true rfl)) dL_dispute_3 ⟨Nat.le_refl _, Nat.le_refl _⟩) hS (fun E q ce H locs hEx hG hS hce hcv hcl => ?_)
  subst hEx
  refine vx_catch (name := "java/lang/IllegalStateException") hown [] ⟨0, 8, 11, 15⟩ [] ((vx_table (x := yL_dispute) B (hts _ List.mem_cons_self)).trans rfl) (fun z h => absurd h List.not_mem_nil) (by decide) (by decide) (hts _ (List.mem_of_getElem? (i := 1) rfl)) (va_Nw.use rfl (hE.2.2.2.2.2.2.1 ("java/lang/IllegalStateException", "java/lang/IllegalStateException") (by decide +kernel))) hce hcv hcl ?_
  refine lv_astore_n (lv' := [(2, .ref q), (0, .ref aX), (1, .ref aO)]) (pc := 11) hx hb dL_dispute_11 rfl hl (by decide) rfl (fun ls hl => ?_)
  refine lv_iconst (v := 1) hx hb dL_dispute_12 (by decide) ?_
  refine W.widen (k := 1) (n := 6) (by omega) (by omega) ?_
  refine W.iret hx hb hrt (fun t ht hW => dz_endM (f := rv_i) 1 hE hS hG ?_ ht hW) (fun q h => hS.2.2 q h) dL_dispute_13
  exact ⟨rfl, rfl, rfl⟩
