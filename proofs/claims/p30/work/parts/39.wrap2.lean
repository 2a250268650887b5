set_option maxHeartbeats 4000000 in
set_option maxRecDepth 100000 in
theorem c_L_hits_W (l : Launch) (Z : dzG) (G : dzW) (ad : dzA) (aX : Nat) (v1 v2 : Int32) (fs : List Value) (fr lo mc ms : Nat) (Po : Int32 → dzW → dzA → Prop) (ha : ad (1, 0) = aX) (ho : G (1, 0) = some (.inr (9, fs))) (hM : dzWr l yX8_hits wsX8_hits fr lo mc ms Z G ad [.ref aX, .int v1, .int v2] rv_i Po) : dzWr l yL_hits wsL_hits (fr + 1) (8 + (3 + 11) + lo) mc ms Z G ad [.ref aX, .int v1, .int v2] rv_i (fun (x : Int32) G1 ad1 => Po x G1 ad1) := by
  refine dz_ofWH (cc := cL_hits) (maxL := 4) (ret := (some .int)) (by decide) rfl ?_
  intro p e s m args below meth c s₁ B hml hv
  obtain ⟨rfl, hG, hE⟩ := hv
  have hx := B.exec
  have hb := B.bytes
  have hrt := B.returns
  have hts := atoms_spec (ws := wsL_hits) B.pre
  have hown : s.vm.findClass RL = some m.cls := findClass_of_methodNamed B.named
  have hS : va_S (dz_A Z) s.heap s.heap [] := va_S.rf
  have hl := lv_entry ([.ref aX, .int v1, .int v2]) (n := 4) (Nat.le_of_ble_eq_true rfl)
  rw [lg_entry_eq]
  generalize (lg_sl ([.ref aX, .int v1, .int v2]) ++ List.replicate (4 - (lg_sl ([.ref aX, .int v1, .int v2])).length) Slot.unset).toArray = ls at hl ⊢
  have hl : lv_has ls 4 [(0, .ref aX), (1, .int v1), (2, .int v2)] := hl
  refine lv_aload_n hx hb dL_hits_0 rfl (lv_at hl 0 rfl) ?_
  refine lv_iload_n hx hb dL_hits_1 rfl (lv_at hl 1 rfl) ?_
  refine lv_iload_n hx hb dL_hits_2 rfl (lv_at hl 2 rfl) ?_
  refine dz_kMi (va_runV (As := [_, _]) ⟨hx, hb, hml, hown, hts⟩ hM (cwV 2 hts gL_hits_X8_hits rfl rfl rfl (by decide +kernel) ⟨Nat.le_refl _, Nat.le_refl _⟩) (dz_P.preV hE hS hG ho rfl ha) rfl rfl hl.1 rfl (lv_room (Nat.le_of_ble_eq_true rfl)) dL_hits_3 ⟨Nat.le_of_eq (Nat.zero_add mc), Nat.le_of_eq (Nat.zero_add ms)⟩) hS (fun y G2 ad2 H locs hp hG hS => ?_)
  refine W.widen (k := mc) (n := ms) (by omega) (by omega) ?_
  refine W.iret hx hb hrt (fun t ht hW => dz_endM (f := rv_i) y hE hS hG ?_ ht hW) (fun q h => hS.2.2 q h) dL_hits_6
  exact hp
set_option maxHeartbeats 4000000 in
set_option maxRecDepth 100000 in
theorem c_L_hits_R (l : Launch) (Z : dzG) (G : dzW) (ad : dzA) (aX : Nat) (v1 v2 : Int32) (fs : List Value) (fr lo : Nat) (v : Int32) (ha : ad (1, 0) = aX) (ho : G (1, 0) = some (.inr (9, fs))) (hM : dzRd l yX8_hits wsX8_hits fr lo Z G ad [.ref aX, .int v1, .int v2] (some (.int v))) : dzRd l yL_hits wsL_hits (fr + 1) (8 + (3 + 11) + lo) Z G ad [.ref aX, .int v1, .int v2] (some (.int v)) := by
  refine dz_ofWH (cc := cL_hits) (maxL := 4) (ret := (some .int)) (by decide) rfl ?_
  intro p e s m args below meth c s₁ B hml hv
  obtain ⟨rfl, hG, hE⟩ := hv
  have hx := B.exec
  have hb := B.bytes
  have hrt := B.returns
  have hts := atoms_spec (ws := wsL_hits) B.pre
  have hown : s.vm.findClass RL = some m.cls := findClass_of_methodNamed B.named
  have hS : va_S (dz_A Z) s.heap s.heap [] := va_S.rf
  have hl := lv_entry ([.ref aX, .int v1, .int v2]) (n := 4) (Nat.le_of_ble_eq_true rfl)
  rw [lg_entry_eq]
  generalize (lg_sl ([.ref aX, .int v1, .int v2]) ++ List.replicate (4 - (lg_sl ([.ref aX, .int v1, .int v2])).length) Slot.unset).toArray = ls at hl ⊢
  have hl : lv_has ls 4 [(0, .ref aX), (1, .int v1), (2, .int v2)] := hl
  refine lv_aload_n hx hb dL_hits_0 rfl (lv_at hl 0 rfl) ?_
  refine lv_iload_n hx hb dL_hits_1 rfl (lv_at hl 1 rfl) ?_
  refine lv_iload_n hx hb dL_hits_2 rfl (lv_at hl 2 rfl) ?_
  refine dz_kRi (va_runV (As := [_, _]) ⟨hx, hb, hml, hown, hts⟩ hM (cwV 2 hts gL_hits_X8_hits rfl rfl rfl (by decide +kernel) ⟨Nat.le_refl _, Nat.le_refl _⟩) (dz_P.preV hE hS hG ho rfl ha) rfl rfl hl.1 rfl (lv_room (Nat.le_of_ble_eq_true rfl)) dL_hits_3 ⟨Nat.le_refl _, Nat.le_refl _⟩) ?_
  refine W.iret hx hb hrt (fun t ht hW => ⟨congrArg (fun x => Outcome.returned (some (Value.int x))) ?_, ht⟩) (fun _ h => by cases h) dL_hits_6
  exact rfl
set_option maxHeartbeats 4000000 in
set_option maxRecDepth 100000 in
theorem c_L_hits_X1 (l : Launch) (Z : dzG) (G : dzW) (ad : dzA) (aX : Nat) (v1 v2 : Int32) (fs : List Value) (fr lo : Nat) (ha : ad (1, 0) = aX) (ho : G (1, 0) = some (.inr (9, fs))) (hM : vx_Met l yX8_hits wsX8_hits (dz_rm fr lo 1 6) (dz_P Z G ad [.ref aX, .int v1, .int v2]) (fun _ _ _ _ => False) (dz_XC Z G ad (fun E => E = "java/lang/IllegalArgumentException")) 1 6 (dz_A Z)) : dzWr l yL_hits wsL_hits (fr + 1) (8 + (3 + 11) + lo) 1 6 Z G ad [.ref aX, .int v1, .int v2] rv_i (fun (x : Int32) G1 ad1 => x = -2000000002 ∧ G1 = G ∧ ad1 = ad) := by
  refine dz_ofWH (cc := cL_hits) (maxL := 4) (ret := (some .int)) (by decide) rfl ?_
  intro p e s m args below meth c s₁ B hml hv
  obtain ⟨rfl, hG, hE⟩ := hv
  have hx := B.exec
  have hb := B.bytes
  have hrt := B.returns
  have hts := atoms_spec (ws := wsL_hits) B.pre
  have hown : s.vm.findClass RL = some m.cls := findClass_of_methodNamed B.named
  have hS : va_S (dz_A Z) s.heap s.heap [] := va_S.rf
  have hl := lv_entry ([.ref aX, .int v1, .int v2]) (n := 4) (Nat.le_of_ble_eq_true rfl)
  rw [lg_entry_eq]
  generalize (lg_sl ([.ref aX, .int v1, .int v2]) ++ List.replicate (4 - (lg_sl ([.ref aX, .int v1, .int v2])).length) Slot.unset).toArray = ls at hl ⊢
  have hl : lv_has ls 4 [(0, .ref aX), (1, .int v1), (2, .int v2)] := hl
  refine lv_aload_n hx hb dL_hits_0 rfl (lv_at hl 0 rfl) ?_
  refine lv_iload_n hx hb dL_hits_1 rfl (lv_at hl 1 rfl) ?_
  refine lv_iload_n hx hb dL_hits_2 rfl (lv_at hl 2 rfl) ?_
  refine dz_kX (av := #[]) (vx_runV (As := [_, _]) ⟨hx, hb, hml, hown, hts⟩ hM (cwV 2 hts gL_hits_X8_hits rfl rfl rfl (by decide +kernel) ⟨Nat.le_refl _, Nat.le_refl _⟩) (dz_P.preV hE hS hG ho rfl ha) rfl rfl hl.1 rfl (lv_room (Nat.le_of_ble_eq_true rfl)) dL_hits_3 ⟨Nat.le_refl _, Nat.le_refl _⟩) hS (fun E q ce H locs hEx hG hS hce hcv hcl => ?_)
  subst hEx
  refine vx_catch (name := "java/lang/IllegalArgumentException") hown [] ⟨0, 6, 7, 13⟩ [] ((vx_table (x := yL_hits) B (hts _ List.mem_cons_self)).trans rfl) (fun z h => absurd h List.not_mem_nil) (by decide) (by decide) (hts _ (List.mem_of_getElem? (i := 1) rfl)) (va_Nw.use rfl (hE.2.2.2.2.2.2.1 ("java/lang/IllegalArgumentException", "java/lang/IllegalArgumentException") (by decide +kernel))) hce hcv hcl ?_
  refine lv_astore_n (lv' := [(3, .ref q), (0, .ref aX), (1, .int v1), (2, .int v2)]) (pc := 7) hx hb dL_hits_7 rfl hl (by decide) rfl (fun ls hl => ?_)
  refine lv_ldc hx hb hown (hts _ (List.mem_of_getElem? (i := 2) rfl)) dL_hits_8 ?_
  refine W.widen (k := 1) (n := 6) (by omega) (by omega) ?_
  refine W.iret hx hb hrt (fun t ht hW => dz_endM (f := rv_i) (-2000000002) hE hS hG ?_ ht hW) (fun q h => hS.2.2 q h) dL_hits_10
  exact ⟨rfl, rfl, rfl⟩

set_option maxHeartbeats 4000000 in
set_option maxRecDepth 100000 in
theorem c_L_delay_W (l : Launch) (Z : dzG) (G : dzW) (ad : dzA) (aX : Nat) (v1 v2 v3 : Int32) (fs : List Value) (fr lo mc ms : Nat) (Po : Int32 → dzW → dzA → Prop) (ha : ad (1, 0) = aX) (ho : G (1, 0) = some (.inr (9, fs))) (hM : dzWr l yX8_delay wsX8_delay fr lo mc ms Z G ad [.ref aX, .int v1, .int v2, .int v3] rv_i Po) : dzWr l yL_delay wsL_delay (fr + 1) (8 + (5 + 11) + lo) mc ms Z G ad [.ref aX, .int v1, .int v2, .int v3] rv_i (fun (x : Int32) G1 ad1 => Po x G1 ad1) := by
  refine dz_ofWH (cc := cL_delay) (maxL := 5) (ret := (some .int)) (by decide) rfl ?_
  intro p e s m args below meth c s₁ B hml hv
  obtain ⟨rfl, hG, hE⟩ := hv
  have hx := B.exec
  have hb := B.bytes
  have hrt := B.returns
  have hts := atoms_spec (ws := wsL_delay) B.pre
  have hown : s.vm.findClass RL = some m.cls := findClass_of_methodNamed B.named
  have hS : va_S (dz_A Z) s.heap s.heap [] := va_S.rf
  have hl := lv_entry ([.ref aX, .int v1, .int v2, .int v3]) (n := 5) (Nat.le_of_ble_eq_true rfl)
  rw [lg_entry_eq]
  generalize (lg_sl ([.ref aX, .int v1, .int v2, .int v3]) ++ List.replicate (5 - (lg_sl ([.ref aX, .int v1, .int v2, .int v3])).length) Slot.unset).toArray = ls at hl ⊢
  have hl : lv_has ls 5 [(0, .ref aX), (1, .int v1), (2, .int v2), (3, .int v3)] := hl
  refine lv_aload_n hx hb dL_delay_0 rfl (lv_at hl 0 rfl) ?_
  refine lv_iload_n hx hb dL_delay_1 rfl (lv_at hl 1 rfl) ?_
  refine lv_iload_n hx hb dL_delay_2 rfl (lv_at hl 2 rfl) ?_
  refine lv_iload_n hx hb dL_delay_3 rfl (lv_at hl 3 rfl) ?_
  refine dz_kMi (va_runV (As := [_, _, _]) ⟨hx, hb, hml, hown, hts⟩ hM (cwV 3 hts gL_delay_X8_delay rfl rfl rfl (by decide +kernel) ⟨Nat.le_refl _, Nat.le_refl _⟩) (dz_P.preV hE hS hG ho rfl ha) rfl rfl hl.1 rfl (lv_room (Nat.le_of_ble_eq_true rfl)) dL_delay_4 ⟨Nat.le_of_eq (Nat.zero_add mc), Nat.le_of_eq (Nat.zero_add ms)⟩) hS (fun y G2 ad2 H locs hp hG hS => ?_)
  refine W.widen (k := mc) (n := ms) (by omega) (by omega) ?_
  refine W.iret hx hb hrt (fun t ht hW => dz_endM (f := rv_i) y hE hS hG ?_ ht hW) (fun q h => hS.2.2 q h) dL_delay_7
  exact hp
set_option maxHeartbeats 4000000 in
set_option maxRecDepth 100000 in
theorem c_L_delay_R (l : Launch) (Z : dzG) (G : dzW) (ad : dzA) (aX : Nat) (v1 v2 v3 : Int32) (fs : List Value) (fr lo : Nat) (v : Int32) (ha : ad (1, 0) = aX) (ho : G (1, 0) = some (.inr (9, fs))) (hM : dzRd l yX8_delay wsX8_delay fr lo Z G ad [.ref aX, .int v1, .int v2, .int v3] (some (.int v))) : dzRd l yL_delay wsL_delay (fr + 1) (8 + (5 + 11) + lo) Z G ad [.ref aX, .int v1, .int v2, .int v3] (some (.int v)) := by
  refine dz_ofWH (cc := cL_delay) (maxL := 5) (ret := (some .int)) (by decide) rfl ?_
  intro p e s m args below meth c s₁ B hml hv
  obtain ⟨rfl, hG, hE⟩ := hv
  have hx := B.exec
  have hb := B.bytes
  have hrt := B.returns
  have hts := atoms_spec (ws := wsL_delay) B.pre
  have hown : s.vm.findClass RL = some m.cls := findClass_of_methodNamed B.named
  have hS : va_S (dz_A Z) s.heap s.heap [] := va_S.rf
  have hl := lv_entry ([.ref aX, .int v1, .int v2, .int v3]) (n := 5) (Nat.le_of_ble_eq_true rfl)
  rw [lg_entry_eq]
  generalize (lg_sl ([.ref aX, .int v1, .int v2, .int v3]) ++ List.replicate (5 - (lg_sl ([.ref aX, .int v1, .int v2, .int v3])).length) Slot.unset).toArray = ls at hl ⊢
  have hl : lv_has ls 5 [(0, .ref aX), (1, .int v1), (2, .int v2), (3, .int v3)] := hl
  refine lv_aload_n hx hb dL_delay_0 rfl (lv_at hl 0 rfl) ?_
  refine lv_iload_n hx hb dL_delay_1 rfl (lv_at hl 1 rfl) ?_
  refine lv_iload_n hx hb dL_delay_2 rfl (lv_at hl 2 rfl) ?_
  refine lv_iload_n hx hb dL_delay_3 rfl (lv_at hl 3 rfl) ?_
  refine dz_kRi (va_runV (As := [_, _, _]) ⟨hx, hb, hml, hown, hts⟩ hM (cwV 3 hts gL_delay_X8_delay rfl rfl rfl (by decide +kernel) ⟨Nat.le_refl _, Nat.le_refl _⟩) (dz_P.preV hE hS hG ho rfl ha) rfl rfl hl.1 rfl (lv_room (Nat.le_of_ble_eq_true rfl)) dL_delay_4 ⟨Nat.le_refl _, Nat.le_refl _⟩) ?_
  refine W.iret hx hb hrt (fun t ht hW => ⟨congrArg (fun x => Outcome.returned (some (Value.int x))) ?_, ht⟩) (fun _ h => by cases h) dL_delay_7
  exact rfl
set_option maxHeartbeats 4000000 in
set_option maxRecDepth 100000 in
theorem c_L_delay_X1 (l : Launch) (Z : dzG) (G : dzW) (ad : dzA) (aX : Nat) (v1 v2 v3 : Int32) (fs : List Value) (fr lo : Nat) (ha : ad (1, 0) = aX) (ho : G (1, 0) = some (.inr (9, fs))) (hM : vx_Met l yX8_delay wsX8_delay (dz_rm fr lo 1 6) (dz_P Z G ad [.ref aX, .int v1, .int v2, .int v3]) (fun _ _ _ _ => False) (dz_XC Z G ad (fun E => E = "java/lang/IndexOutOfBoundsException")) 1 6 (dz_A Z)) : dzWr l yL_delay wsL_delay (fr + 1) (8 + (5 + 11) + lo) 1 6 Z G ad [.ref aX, .int v1, .int v2, .int v3] rv_i (fun (x : Int32) G1 ad1 => x = -2000000001 ∧ G1 = G ∧ ad1 = ad) := by
  refine dz_ofWH (cc := cL_delay) (maxL := 5) (ret := (some .int)) (by decide) rfl ?_
  intro p e s m args below meth c s₁ B hml hv
  obtain ⟨rfl, hG, hE⟩ := hv
  have hx := B.exec
  have hb := B.bytes
  have hrt := B.returns
  have hts := atoms_spec (ws := wsL_delay) B.pre
  have hown : s.vm.findClass RL = some m.cls := findClass_of_methodNamed B.named
  have hS : va_S (dz_A Z) s.heap s.heap [] := va_S.rf
  have hl := lv_entry ([.ref aX, .int v1, .int v2, .int v3]) (n := 5) (Nat.le_of_ble_eq_true rfl)
  rw [lg_entry_eq]
  generalize (lg_sl ([.ref aX, .int v1, .int v2, .int v3]) ++ List.replicate (5 - (lg_sl ([.ref aX, .int v1, .int v2, .int v3])).length) Slot.unset).toArray = ls at hl ⊢
  have hl : lv_has ls 5 [(0, .ref aX), (1, .int v1), (2, .int v2), (3, .int v3)] := hl
  refine lv_aload_n hx hb dL_delay_0 rfl (lv_at hl 0 rfl) ?_
  refine lv_iload_n hx hb dL_delay_1 rfl (lv_at hl 1 rfl) ?_
  refine lv_iload_n hx hb dL_delay_2 rfl (lv_at hl 2 rfl) ?_
  refine lv_iload_n hx hb dL_delay_3 rfl (lv_at hl 3 rfl) ?_
  refine dz_kX (av := #[]) (vx_runV (As := [_, _, _]) ⟨hx, hb, hml, hown, hts⟩ hM (cwV 3 hts gL_delay_X8_delay rfl rfl rfl (by decide +kernel) ⟨Nat.le_refl _, Nat.le_refl _⟩) (dz_P.preV hE hS hG ho rfl ha) rfl rfl hl.1 rfl (lv_room (Nat.le_of_ble_eq_true rfl)) dL_delay_4 ⟨Nat.le_refl _, Nat.le_refl _⟩) hS (fun E q ce H locs hEx hG hS hce hcv hcl => ?_)
  subst hEx
  refine vx_catch (name := "java/lang/IndexOutOfBoundsException") hown [] ⟨0, 7, 8, 23⟩ [] ((vx_table (x := yL_delay) B (hts _ List.mem_cons_self)).trans rfl) (fun z h => absurd h List.not_mem_nil) (by decide) (by decide) (hts _ (List.mem_of_getElem? (i := 1) rfl)) (va_Nw.use rfl (hE.2.2.2.2.2.2.1 ("java/lang/IndexOutOfBoundsException", "java/lang/IndexOutOfBoundsException") (by decide +kernel))) hce hcv hcl ?_
  refine lv_astore (lv' := [(4, .ref q), (0, .ref aX), (1, .int v1), (2, .int v2), (3, .int v3)]) (pc := 8) hx hb dL_delay_8 hl (by decide) rfl (fun ls hl => ?_)
  refine lv_ldc hx hb hown (hts _ (List.mem_of_getElem? (i := 2) rfl)) dL_delay_10 ?_
  refine W.widen (k := 1) (n := 6) (by omega) (by omega) ?_
  refine W.iret hx hb hrt (fun t ht hW => dz_endM (f := rv_i) (-2000000001) hE hS hG ?_ ht hW) (fun q h => hS.2.2 q h) dL_delay_12
  exact ⟨rfl, rfl, rfl⟩

set_option maxHeartbeats 4000000 in
set_option maxRecDepth 100000 in
theorem c_L_light_W (l : Launch) (Z : dzG) (G : dzW) (ad : dzA) (aX : Nat) (v1 v2 : Int32) (fs : List Value) (fr lo mc ms : Nat) (Po : Int32 → dzW → dzA → Prop) (ha : ad (1, 0) = aX) (ho : G (1, 0) = some (.inr (9, fs))) (hM : dzWr l yX8_light wsX8_light fr lo mc ms Z G ad [.ref aX, .int v1, .int v2] rv_i Po) : dzWr l yL_light wsL_light (fr + 1) (8 + (4 + 11) + lo) mc ms Z G ad [.ref aX, .int v1, .int v2] rv_i (fun (x : Int32) G1 ad1 => Po x G1 ad1) := by
  refine dz_ofWH (cc := cL_light) (maxL := 4) (ret := (some .int)) (by decide) rfl ?_
  intro p e s m args below meth c s₁ B hml hv
  obtain ⟨rfl, hG, hE⟩ := hv
  have hx := B.exec
  have hb := B.bytes
  have hrt := B.returns
  have hts := atoms_spec (ws := wsL_light) B.pre
  have hown : s.vm.findClass RL = some m.cls := findClass_of_methodNamed B.named
  have hS : va_S (dz_A Z) s.heap s.heap [] := va_S.rf
  have hl := lv_entry ([.ref aX, .int v1, .int v2]) (n := 4) (Nat.le_of_ble_eq_true rfl)
  rw [lg_entry_eq]
  generalize (lg_sl ([.ref aX, .int v1, .int v2]) ++ List.replicate (4 - (lg_sl ([.ref aX, .int v1, .int v2])).length) Slot.unset).toArray = ls at hl ⊢
  have hl : lv_has ls 4 [(0, .ref aX), (1, .int v1), (2, .int v2)] := hl
  refine lv_aload_n hx hb dL_light_0 rfl (lv_at hl 0 rfl) ?_
  refine lv_iload_n hx hb dL_light_1 rfl (lv_at hl 1 rfl) ?_
  refine lv_iload_n hx hb dL_light_2 rfl (lv_at hl 2 rfl) ?_
  refine dz_kMi (va_runV (As := [_, _]) ⟨hx, hb, hml, hown, hts⟩ hM (cwV 2 hts gL_light_X8_light rfl rfl rfl (by decide +kernel) ⟨Nat.le_refl _, Nat.le_refl _⟩) (dz_P.preV hE hS hG ho rfl ha) rfl rfl hl.1 rfl (lv_room (Nat.le_of_ble_eq_true rfl)) dL_light_3 ⟨Nat.le_of_eq (Nat.zero_add mc), Nat.le_of_eq (Nat.zero_add ms)⟩) hS (fun y G2 ad2 H locs hp hG hS => ?_)
  refine W.widen (k := mc) (n := ms) (by omega) (by omega) ?_
  refine W.iret hx hb hrt (fun t ht hW => dz_endM (f := rv_i) y hE hS hG ?_ ht hW) (fun q h => hS.2.2 q h) dL_light_6
  exact hp
set_option maxHeartbeats 4000000 in
set_option maxRecDepth 100000 in
theorem c_L_light_R (l : Launch) (Z : dzG) (G : dzW) (ad : dzA) (aX : Nat) (v1 v2 : Int32) (fs : List Value) (fr lo : Nat) (v : Int32) (ha : ad (1, 0) = aX) (ho : G (1, 0) = some (.inr (9, fs))) (hM : dzRd l yX8_light wsX8_light fr lo Z G ad [.ref aX, .int v1, .int v2] (some (.int v))) : dzRd l yL_light wsL_light (fr + 1) (8 + (4 + 11) + lo) Z G ad [.ref aX, .int v1, .int v2] (some (.int v)) := by
  refine dz_ofWH (cc := cL_light) (maxL := 4) (ret := (some .int)) (by decide) rfl ?_
  intro p e s m args below meth c s₁ B hml hv
  obtain ⟨rfl, hG, hE⟩ := hv
  have hx := B.exec
  have hb := B.bytes
  have hrt := B.returns
  have hts := atoms_spec (ws := wsL_light) B.pre
  have hown : s.vm.findClass RL = some m.cls := findClass_of_methodNamed B.named
  have hS : va_S (dz_A Z) s.heap s.heap [] := va_S.rf
  have hl := lv_entry ([.ref aX, .int v1, .int v2]) (n := 4) (Nat.le_of_ble_eq_true rfl)
  rw [lg_entry_eq]
  generalize (lg_sl ([.ref aX, .int v1, .int v2]) ++ List.replicate (4 - (lg_sl ([.ref aX, .int v1, .int v2])).length) Slot.unset).toArray = ls at hl ⊢
  have hl : lv_has ls 4 [(0, .ref aX), (1, .int v1), (2, .int v2)] := hl
  refine lv_aload_n hx hb dL_light_0 rfl (lv_at hl 0 rfl) ?_
  refine lv_iload_n hx hb dL_light_1 rfl (lv_at hl 1 rfl) ?_
  refine lv_iload_n hx hb dL_light_2 rfl (lv_at hl 2 rfl) ?_
  refine dz_kRi (va_runV (As := [_, _]) ⟨hx, hb, hml, hown, hts⟩ hM (cwV 2 hts gL_light_X8_light rfl rfl rfl (by decide +kernel) ⟨Nat.le_refl _, Nat.le_refl _⟩) (dz_P.preV hE hS hG ho rfl ha) rfl rfl hl.1 rfl (lv_room (Nat.le_of_ble_eq_true rfl)) dL_light_3 ⟨Nat.le_refl _, Nat.le_refl _⟩) ?_
  refine W.iret hx hb hrt (fun t ht hW => ⟨congrArg (fun x => Outcome.returned (some (Value.int x))) ?_, ht⟩) (fun _ h => by cases h) dL_light_6
  exact rfl
set_option maxHeartbeats 4000000 in
set_option maxRecDepth 100000 in
theorem c_L_light_X1 (l : Launch) (Z : dzG) (G : dzW) (ad : dzA) (aX : Nat) (v1 v2 : Int32) (fs : List Value) (fr lo : Nat) (ha : ad (1, 0) = aX) (ho : G (1, 0) = some (.inr (9, fs))) (hM : vx_Met l yX8_light wsX8_light (dz_rm fr lo 1 6) (dz_P Z G ad [.ref aX, .int v1, .int v2]) (fun _ _ _ _ => False) (dz_XC Z G ad (fun E => E = "java/lang/IndexOutOfBoundsException")) 1 6 (dz_A Z)) : dzWr l yL_light wsL_light (fr + 1) (8 + (4 + 11) + lo) 1 6 Z G ad [.ref aX, .int v1, .int v2] rv_i (fun (x : Int32) G1 ad1 => x = -2000000001 ∧ G1 = G ∧ ad1 = ad) := by
  refine dz_ofWH (cc := cL_light) (maxL := 4) (ret := (some .int)) (by decide) rfl ?_
  intro p e s m args below meth c s₁ B hml hv
  obtain ⟨rfl, hG, hE⟩ := hv
  have hx := B.exec
  have hb := B.bytes
  have hrt := B.returns
  have hts := atoms_spec (ws := wsL_light) B.pre
  have hown : s.vm.findClass RL = some m.cls := findClass_of_methodNamed B.named
  have hS : va_S (dz_A Z) s.heap s.heap [] := va_S.rf
  have hl := lv_entry ([.ref aX, .int v1, .int v2]) (n := 4) (Nat.le_of_ble_eq_true rfl)
  rw [lg_entry_eq]
  generalize (lg_sl ([.ref aX, .int v1, .int v2]) ++ List.replicate (4 - (lg_sl ([.ref aX, .int v1, .int v2])).length) Slot.unset).toArray = ls at hl ⊢
  have hl : lv_has ls 4 [(0, .ref aX), (1, .int v1), (2, .int v2)] := hl
  refine lv_aload_n hx hb dL_light_0 rfl (lv_at hl 0 rfl) ?_
  refine lv_iload_n hx hb dL_light_1 rfl (lv_at hl 1 rfl) ?_
  refine lv_iload_n hx hb dL_light_2 rfl (lv_at hl 2 rfl) ?_
  refine dz_kX (av := #[]) (vx_runV (As := [_, _]) ⟨hx, hb, hml, hown, hts⟩ hM (cwV 2 hts gL_light_X8_light rfl rfl rfl (by decide +kernel) ⟨Nat.le_refl _, Nat.le_refl _⟩) (dz_P.preV hE hS hG ho rfl ha) rfl rfl hl.1 rfl (lv_room (Nat.le_of_ble_eq_true rfl)) dL_light_3 ⟨Nat.le_refl _, Nat.le_refl _⟩) hS (fun E q ce H locs hEx hG hS hce hcv hcl => ?_)
  subst hEx
  refine vx_catch (name := "java/lang/IndexOutOfBoundsException") hown [] ⟨0, 6, 7, 23⟩ [] ((vx_table (x := yL_light) B (hts _ List.mem_cons_self)).trans rfl) (fun z h => absurd h List.not_mem_nil) (by decide) (by decide) (hts _ (List.mem_of_getElem? (i := 1) rfl)) (va_Nw.use rfl (hE.2.2.2.2.2.2.1 ("java/lang/IndexOutOfBoundsException", "java/lang/IndexOutOfBoundsException") (by decide +kernel))) hce hcv hcl ?_
  refine lv_astore_n (lv' := [(3, .ref q), (0, .ref aX), (1, .int v1), (2, .int v2)]) (pc := 7) hx hb dL_light_7 rfl hl (by decide) rfl (fun ls hl => ?_)
  refine lv_ldc hx hb hown (hts _ (List.mem_of_getElem? (i := 2) rfl)) dL_light_8 ?_
  refine W.widen (k := 1) (n := 6) (by omega) (by omega) ?_
  refine W.iret hx hb hrt (fun t ht hW => dz_endM (f := rv_i) (-2000000001) hE hS hG ?_ ht hW) (fun q h => hS.2.2 q h) dL_light_10
  exact ⟨rfl, rfl, rfl⟩

set_option maxHeartbeats 4000000 in
set_option maxRecDepth 100000 in
theorem c_L_seen_W (l : Launch) (Z : dzG) (G : dzW) (ad : dzA) (aX : Nat) (v1 v2 v3 : Int32) (fs : List Value) (fr lo mc ms : Nat) (Po : Int32 → dzW → dzA → Prop) (ha : ad (1, 0) = aX) (ho : G (1, 0) = some (.inr (9, fs))) (hM : dzWr l yX8_seen wsX8_seen fr lo mc ms Z G ad [.ref aX, .int v1, .int v2, .int v3] rv_i Po) : dzWr l yL_seen wsL_seen (fr + 1) (8 + (5 + 11) + lo) mc ms Z G ad [.ref aX, .int v1, .int v2, .int v3] rv_i (fun (x : Int32) G1 ad1 => Po x G1 ad1) := by
  refine dz_ofWH (cc := cL_seen) (maxL := 5) (ret := (some .int)) (by decide) rfl ?_
  intro p e s m args below meth c s₁ B hml hv
  obtain ⟨rfl, hG, hE⟩ := hv
  have hx := B.exec
  have hb := B.bytes
  have hrt := B.returns
  have hts := atoms_spec (ws := wsL_seen) B.pre
  have hown : s.vm.findClass RL = some m.cls := findClass_of_methodNamed B.named
  have hS : va_S (dz_A Z) s.heap s.heap [] := va_S.rf
  have hl := lv_entry ([.ref aX, .int v1, .int v2, .int v3]) (n := 5) (Nat.le_of_ble_eq_true rfl)
  rw [lg_entry_eq]
  generalize (lg_sl ([.ref aX, .int v1, .int v2, .int v3]) ++ List.replicate (5 - (lg_sl ([.ref aX, .int v1, .int v2, .int v3])).length) Slot.unset).toArray = ls at hl ⊢
  have hl : lv_has ls 5 [(0, .ref aX), (1, .int v1), (2, .int v2), (3, .int v3)] := hl
  refine lv_aload_n hx hb dL_seen_0 rfl (lv_at hl 0 rfl) ?_
  refine lv_iload_n hx hb dL_seen_1 rfl (lv_at hl 1 rfl) ?_
  refine lv_iload_n hx hb dL_seen_2 rfl (lv_at hl 2 rfl) ?_
  refine lv_iload_n hx hb dL_seen_3 rfl (lv_at hl 3 rfl) ?_
  refine dz_kMi (va_runV (As := [_, _, _]) ⟨hx, hb, hml, hown, hts⟩ hM (cwV 3 hts gL_seen_X8_seen rfl rfl rfl (by decide +kernel) ⟨Nat.le_refl _, Nat.le_refl _⟩) (dz_P.preV hE hS hG ho rfl ha) rfl rfl hl.1 rfl (lv_room (Nat.le_of_ble_eq_true rfl)) dL_seen_4 ⟨Nat.le_of_eq (Nat.zero_add mc), Nat.le_of_eq (Nat.zero_add ms)⟩) hS (fun y G2 ad2 H locs hp hG hS => ?_)
  refine W.widen (k := mc) (n := ms) (by omega) (by omega) ?_
  refine W.iret hx hb hrt (fun t ht hW => dz_endM (f := rv_i) y hE hS hG ?_ ht hW) (fun q h => hS.2.2 q h) dL_seen_7
  exact hp
set_option maxHeartbeats 4000000 in
set_option maxRecDepth 100000 in
theorem c_L_seen_R (l : Launch) (Z : dzG) (G : dzW) (ad : dzA) (aX : Nat) (v1 v2 v3 : Int32) (fs : List Value) (fr lo : Nat) (v : Int32) (ha : ad (1, 0) = aX) (ho : G (1, 0) = some (.inr (9, fs))) (hM : dzRd l yX8_seen wsX8_seen fr lo Z G ad [.ref aX, .int v1, .int v2, .int v3] (some (.int v))) : dzRd l yL_seen wsL_seen (fr + 1) (8 + (5 + 11) + lo) Z G ad [.ref aX, .int v1, .int v2, .int v3] (some (.int v)) := by
  refine dz_ofWH (cc := cL_seen) (maxL := 5) (ret := (some .int)) (by decide) rfl ?_
  intro p e s m args below meth c s₁ B hml hv
  obtain ⟨rfl, hG, hE⟩ := hv
  have hx := B.exec
  have hb := B.bytes
  have hrt := B.returns
  have hts := atoms_spec (ws := wsL_seen) B.pre
  have hown : s.vm.findClass RL = some m.cls := findClass_of_methodNamed B.named
  have hS : va_S (dz_A Z) s.heap s.heap [] := va_S.rf
  have hl := lv_entry ([.ref aX, .int v1, .int v2, .int v3]) (n := 5) (Nat.le_of_ble_eq_true rfl)
  rw [lg_entry_eq]
  generalize (lg_sl ([.ref aX, .int v1, .int v2, .int v3]) ++ List.replicate (5 - (lg_sl ([.ref aX, .int v1, .int v2, .int v3])).length) Slot.unset).toArray = ls at hl ⊢
  have hl : lv_has ls 5 [(0, .ref aX), (1, .int v1), (2, .int v2), (3, .int v3)] := hl
  refine lv_aload_n hx hb dL_seen_0 rfl (lv_at hl 0 rfl) ?_
  refine lv_iload_n hx hb dL_seen_1 rfl (lv_at hl 1 rfl) ?_
  refine lv_iload_n hx hb dL_seen_2 rfl (lv_at hl 2 rfl) ?_
  refine lv_iload_n hx hb dL_seen_3 rfl (lv_at hl 3 rfl) ?_
  refine dz_kRi (va_runV (As := [_, _, _]) ⟨hx, hb, hml, hown, hts⟩ hM (cwV 3 hts gL_seen_X8_seen rfl rfl rfl (by decide +kernel) ⟨Nat.le_refl _, Nat.le_refl _⟩) (dz_P.preV hE hS hG ho rfl ha) rfl rfl hl.1 rfl (lv_room (Nat.le_of_ble_eq_true rfl)) dL_seen_4 ⟨Nat.le_refl _, Nat.le_refl _⟩) ?_
  refine W.iret hx hb hrt (fun t ht hW => ⟨congrArg (fun x => Outcome.returned (some (Value.int x))) ?_, ht⟩) (fun _ h => by cases h) dL_seen_7
  exact rfl
set_option maxHeartbeats 4000000 in
set_option maxRecDepth 100000 in
theorem c_L_seen_X1 (l : Launch) (Z : dzG) (G : dzW) (ad : dzA) (aX : Nat) (v1 v2 v3 : Int32) (fs : List Value) (fr lo : Nat) (ha : ad (1, 0) = aX) (ho : G (1, 0) = some (.inr (9, fs))) (hM : vx_Met l yX8_seen wsX8_seen (dz_rm fr lo 1 6) (dz_P Z G ad [.ref aX, .int v1, .int v2, .int v3]) (fun _ _ _ _ => False) (dz_XC Z G ad (fun E => E = "java/lang/IndexOutOfBoundsException")) 1 6 (dz_A Z)) : dzWr l yL_seen wsL_seen (fr + 1) (8 + (5 + 11) + lo) 1 6 Z G ad [.ref aX, .int v1, .int v2, .int v3] rv_i (fun (x : Int32) G1 ad1 => x = -2000000001 ∧ G1 = G ∧ ad1 = ad) := by
  refine dz_ofWH (cc := cL_seen) (maxL := 5) (ret := (some .int)) (by decide) rfl ?_
  intro p e s m args below meth c s₁ B hml hv
  obtain ⟨rfl, hG, hE⟩ := hv
  have hx := B.exec
  have hb := B.bytes
  have hrt := B.returns
  have hts := atoms_spec (ws := wsL_seen) B.pre
  have hown : s.vm.findClass RL = some m.cls := findClass_of_methodNamed B.named
  have hS : va_S (dz_A Z) s.heap s.heap [] := va_S.rf
  have hl := lv_entry ([.ref aX, .int v1, .int v2, .int v3]) (n := 5) (Nat.le_of_ble_eq_true rfl)
  rw [lg_entry_eq]
  generalize (lg_sl ([.ref aX, .int v1, .int v2, .int v3]) ++ List.replicate (5 - (lg_sl ([.ref aX, .int v1, .int v2, .int v3])).length) Slot.unset).toArray = ls at hl ⊢
  have hl : lv_has ls 5 [(0, .ref aX), (1, .int v1), (2, .int v2), (3, .int v3)] := hl
  refine lv_aload_n hx hb dL_seen_0 rfl (lv_at hl 0 rfl) ?_
  refine lv_iload_n hx hb dL_seen_1 rfl (lv_at hl 1 rfl) ?_
  refine lv_iload_n hx hb dL_seen_2 rfl (lv_at hl 2 rfl) ?_
  refine lv_iload_n hx hb dL_seen_3 rfl (lv_at hl 3 rfl) ?_
  refine dz_kX (av := #[]) (vx_runV (As := [_, _, _]) ⟨hx, hb, hml, hown, hts⟩ hM (cwV 3 hts gL_seen_X8_seen rfl rfl rfl (by decide +kernel) ⟨Nat.le_refl _, Nat.le_refl _⟩) (dz_P.preV hE hS hG ho rfl ha) rfl rfl hl.1 rfl (lv_room (Nat.le_of_ble_eq_true rfl)) dL_seen_4 ⟨Nat.le_refl _, Nat.le_refl _⟩) hS (fun E q ce H locs hEx hG hS hce hcv hcl => ?_)
  subst hEx
  refine vx_catch (name := "java/lang/IndexOutOfBoundsException") hown [] ⟨0, 7, 8, 23⟩ [⟨0, 7, 13, 13⟩] ((vx_table (x := yL_seen) B (hts _ List.mem_cons_self)).trans rfl) (fun z h => absurd h List.not_mem_nil) (by decide) (by decide) (hts _ (List.mem_of_getElem? (i := 1) rfl)) (va_Nw.use rfl (hE.2.2.2.2.2.2.1 ("java/lang/IndexOutOfBoundsException", "java/lang/IndexOutOfBoundsException") (by decide +kernel))) hce hcv hcl ?_
  refine lv_astore (lv' := [(4, .ref q), (0, .ref aX), (1, .int v1), (2, .int v2), (3, .int v3)]) (pc := 8) hx hb dL_seen_8 hl (by decide) rfl (fun ls hl => ?_)
  refine lv_ldc hx hb hown (hts _ (List.mem_of_getElem? (i := 3) rfl)) dL_seen_10 ?_
  refine W.widen (k := 1) (n := 6) (by omega) (by omega) ?_
  refine W.iret hx hb hrt (fun t ht hW => dz_endM (f := rv_i) (-2000000001) hE hS hG ?_ ht hW) (fun q h => hS.2.2 q h) dL_seen_12
  exact ⟨rfl, rfl, rfl⟩
set_option maxHeartbeats 4000000 in
set_option maxRecDepth 100000 in
theorem c_L_seen_X2 (l : Launch) (Z : dzG) (G : dzW) (ad : dzA) (aX : Nat) (v1 v2 v3 : Int32) (fs : List Value) (fr lo : Nat) (ha : ad (1, 0) = aX) (ho : G (1, 0) = some (.inr (9, fs))) (hM : vx_Met l yX8_seen wsX8_seen (dz_rm fr lo 1 6) (dz_P Z G ad [.ref aX, .int v1, .int v2, .int v3]) (fun _ _ _ _ => False) (dz_XC Z G ad (fun E => E = "java/lang/IllegalArgumentException")) 1 6 (dz_A Z)) : dzWr l yL_seen wsL_seen (fr + 1) (8 + (5 + 11) + lo) 1 6 Z G ad [.ref aX, .int v1, .int v2, .int v3] rv_i (fun (x : Int32) G1 ad1 => x = -2000000002 ∧ G1 = G ∧ ad1 = ad) := by
  refine dz_ofWH (cc := cL_seen) (maxL := 5) (ret := (some .int)) (by decide) rfl ?_
  intro p e s m args below meth c s₁ B hml hv
  obtain ⟨rfl, hG, hE⟩ := hv
  have hx := B.exec
  have hb := B.bytes
  have hrt := B.returns
  have hts := atoms_spec (ws := wsL_seen) B.pre
  have hown : s.vm.findClass RL = some m.cls := findClass_of_methodNamed B.named
  have hS : va_S (dz_A Z) s.heap s.heap [] := va_S.rf
  have hl := lv_entry ([.ref aX, .int v1, .int v2, .int v3]) (n := 5) (Nat.le_of_ble_eq_true rfl)
  rw [lg_entry_eq]
  generalize (lg_sl ([.ref aX, .int v1, .int v2, .int v3]) ++ List.replicate (5 - (lg_sl ([.ref aX, .int v1, .int v2, .int v3])).length) Slot.unset).toArray = ls at hl ⊢
  have hl : lv_has ls 5 [(0, .ref aX), (1, .int v1), (2, .int v2), (3, .int v3)] := hl
  refine lv_aload_n hx hb dL_seen_0 rfl (lv_at hl 0 rfl) ?_
  refine lv_iload_n hx hb dL_seen_1 rfl (lv_at hl 1 rfl) ?_
  refine lv_iload_n hx hb dL_seen_2 rfl (lv_at hl 2 rfl) ?_
  refine lv_iload_n hx hb dL_seen_3 rfl (lv_at hl 3 rfl) ?_
  refine dz_kX (av := #[]) (vx_runV (As := [_, _, _]) ⟨hx, hb, hml, hown, hts⟩ hM (cwV 3 hts gL_seen_X8_seen rfl rfl rfl (by decide +kernel) ⟨Nat.le_refl _, Nat.le_refl _⟩) (dz_P.preV hE hS hG ho rfl ha) rfl rfl hl.1 rfl (lv_room (Nat.le_of_ble_eq_true rfl)) dL_seen_4 ⟨Nat.le_refl _, Nat.le_refl _⟩) hS (fun E q ce H locs hEx hG hS hce hcv hcl => ?_)
  subst hEx
  refine vx_catch (name := "java/lang/IllegalArgumentException") hown [⟨0, 7, 8, 23⟩] ⟨0, 7, 13, 13⟩ [] ((vx_table (x := yL_seen) B (hts _ List.mem_cons_self)).trans rfl) (List.forall_mem_cons.mpr ⟨Or.inr ⟨by decide, "java/lang/IndexOutOfBoundsException", (hts _ (List.mem_of_getElem? (i := 1) rfl)), hE.2.2.2.2.2.2.2.2.2.2.2.1 ("java/lang/IllegalArgumentException", "java/lang/IndexOutOfBoundsException") (by decide +kernel)⟩, (fun z h => absurd h List.not_mem_nil)⟩) (by decide) (by decide) (hts _ (List.mem_of_getElem? (i := 2) rfl)) (va_Nw.use rfl (hE.2.2.2.2.2.2.1 ("java/lang/IllegalArgumentException", "java/lang/IllegalArgumentException") (by decide +kernel))) hce hcv hcl ?_
  refine lv_astore (lv' := [(4, .ref q), (0, .ref aX), (1, .int v1), (2, .int v2), (3, .int v3)]) (pc := 13) hx hb dL_seen_13 hl (by decide) rfl (fun ls hl => ?_)
  refine lv_ldc hx hb hown (hts _ (List.mem_of_getElem? (i := 4) rfl)) dL_seen_15 ?_
  refine W.widen (k := 1) (n := 6) (by omega) (by omega) ?_
  refine W.iret hx hb hrt (fun t ht hW => dz_endM (f := rv_i) (-2000000002) hE hS hG ?_ ht hW) (fun q h => hS.2.2 q h) dL_seen_17
  exact ⟨rfl, rfl, rfl⟩

set_option maxHeartbeats 4000000 in
set_option maxRecDepth 100000 in
theorem c_L_measured_W (l : Launch) (Z : dzG) (G : dzW) (ad : dzA) (aX : Nat) (v1 v2 v3 : Int32) (fs : List Value) (fr lo mc ms : Nat) (Po : Int32 → dzW → dzA → Prop) (ha : ad (1, 0) = aX) (ho : G (1, 0) = some (.inr (9, fs))) (hM : dzWr l yX8_measured wsX8_measured fr lo mc ms Z G ad [.ref aX, .int v1, .int v2, .int v3] rv_i Po) : dzWr l yL_measured wsL_measured (fr + 1) (8 + (4 + 11) + lo) mc ms Z G ad [.ref aX, .int v1, .int v2, .int v3] rv_i (fun (x : Int32) G1 ad1 => Po x G1 ad1) := by
  refine dz_ofWH (cc := cL_measured) (maxL := 5) (ret := (some .int)) (by decide) rfl ?_
  intro p e s m args below meth c s₁ B hml hv
  obtain ⟨rfl, hG, hE⟩ := hv
  have hx := B.exec
  have hb := B.bytes
  have hrt := B.returns
  have hts := atoms_spec (ws := wsL_measured) B.pre
  have hown : s.vm.findClass RL = some m.cls := findClass_of_methodNamed B.named
  have hS : va_S (dz_A Z) s.heap s.heap [] := va_S.rf
  have hl := lv_entry ([.ref aX, .int v1, .int v2, .int v3]) (n := 5) (Nat.le_of_ble_eq_true rfl)
  rw [lg_entry_eq]
  generalize (lg_sl ([.ref aX, .int v1, .int v2, .int v3]) ++ List.replicate (5 - (lg_sl ([.ref aX, .int v1, .int v2, .int v3])).length) Slot.unset).toArray = ls at hl ⊢
  have hl : lv_has ls 5 [(0, .ref aX), (1, .int v1), (2, .int v2), (3, .int v3)] := hl
  refine lv_aload_n hx hb dL_measured_0 rfl (lv_at hl 0 rfl) ?_
  refine lv_iload_n hx hb dL_measured_1 rfl (lv_at hl 1 rfl) ?_
  refine lv_iload_n hx hb dL_measured_2 rfl (lv_at hl 2 rfl) ?_
  refine lv_iload_n hx hb dL_measured_3 rfl (lv_at hl 3 rfl) ?_
  refine dz_kMi (va_runV (As := [_, _, _]) ⟨hx, hb, hml, hown, hts⟩ hM (cwV 3 hts gL_measured_X8_measured rfl rfl rfl (by decide +kernel) ⟨Nat.le_refl _, Nat.le_refl _⟩) (dz_P.preV hE hS hG ho rfl ha) rfl rfl hl.1 rfl (lv_room (Nat.le_of_ble_eq_true rfl)) dL_measured_4 ⟨Nat.le_of_eq (Nat.zero_add mc), Nat.le_of_eq (Nat.zero_add ms)⟩) hS (fun y G2 ad2 H locs hp hG hS => ?_)
  refine W.widen (k := mc) (n := ms) (by omega) (by omega) ?_
  refine W.iret hx hb hrt (fun t ht hW => dz_endM (f := rv_i) y hE hS hG ?_ ht hW) (fun q h => hS.2.2 q h) dL_measured_7
  exact hp
set_option maxHeartbeats 4000000 in
set_option maxRecDepth 100000 in
theorem c_L_measured_R (l : Launch) (Z : dzG) (G : dzW) (ad : dzA) (aX : Nat) (v1 v2 v3 : Int32) (fs : List Value) (fr lo : Nat) (v : Int32) (ha : ad (1, 0) = aX) (ho : G (1, 0) = some (.inr (9, fs))) (hM : dzRd l yX8_measured wsX8_measured fr lo Z G ad [.ref aX, .int v1, .int v2, .int v3] (some (.int v))) : dzRd l yL_measured wsL_measured (fr + 1) (8 + (4 + 11) + lo) Z G ad [.ref aX, .int v1, .int v2, .int v3] (some (.int v)) := by
  refine dz_ofWH (cc := cL_measured) (maxL := 5) (ret := (some .int)) (by decide) rfl ?_
  intro p e s m args below meth c s₁ B hml hv
  obtain ⟨rfl, hG, hE⟩ := hv
  have hx := B.exec
  have hb := B.bytes
  have hrt := B.returns
  have hts := atoms_spec (ws := wsL_measured) B.pre
  have hown : s.vm.findClass RL = some m.cls := findClass_of_methodNamed B.named
  have hS : va_S (dz_A Z) s.heap s.heap [] := va_S.rf
  have hl := lv_entry ([.ref aX, .int v1, .int v2, .int v3]) (n := 5) (Nat.le_of_ble_eq_true rfl)
  rw [lg_entry_eq]
  generalize (lg_sl ([.ref aX, .int v1, .int v2, .int v3]) ++ List.replicate (5 - (lg_sl ([.ref aX, .int v1, .int v2, .int v3])).length) Slot.unset).toArray = ls at hl ⊢
  have hl : lv_has ls 5 [(0, .ref aX), (1, .int v1), (2, .int v2), (3, .int v3)] := hl
  refine lv_aload_n hx hb dL_measured_0 rfl (lv_at hl 0 rfl) ?_
  refine lv_iload_n hx hb dL_measured_1 rfl (lv_at hl 1 rfl) ?_
  refine lv_iload_n hx hb dL_measured_2 rfl (lv_at hl 2 rfl) ?_
  refine lv_iload_n hx hb dL_measured_3 rfl (lv_at hl 3 rfl) ?_
  refine dz_kRi (va_runV (As := [_, _, _]) ⟨hx, hb, hml, hown, hts⟩ hM (cwV 3 hts gL_measured_X8_measured rfl rfl rfl (by decide +kernel) ⟨Nat.le_refl _, Nat.le_refl _⟩) (dz_P.preV hE hS hG ho rfl ha) rfl rfl hl.1 rfl (lv_room (Nat.le_of_ble_eq_true rfl)) dL_measured_4 ⟨Nat.le_refl _, Nat.le_refl _⟩) ?_
  refine W.iret hx hb hrt (fun t ht hW => ⟨congrArg (fun x => Outcome.returned (some (Value.int x))) ?_, ht⟩) (fun _ h => by cases h) dL_measured_7
  exact rfl
set_option maxHeartbeats 4000000 in
set_option maxRecDepth 100000 in
theorem c_L_measured_X1 (l : Launch) (Z : dzG) (G : dzW) (ad : dzA) (aX : Nat) (v1 v2 v3 : Int32) (fs : List Value) (fr lo : Nat) (ha : ad (1, 0) = aX) (ho : G (1, 0) = some (.inr (9, fs))) (hM : vx_Met l yX8_measured wsX8_measured (dz_rm fr lo 1 6) (dz_P Z G ad [.ref aX, .int v1, .int v2, .int v3]) (fun _ _ _ _ => False) (dz_XC Z G ad (fun E => E = "java/lang/IndexOutOfBoundsException")) 1 6 (dz_A Z)) : dzWr l yL_measured wsL_measured (fr + 1) (8 + (4 + 11) + lo) 1 6 Z G ad [.ref aX, .int v1, .int v2, .int v3] rv_i (fun (x : Int32) G1 ad1 => x = -2000000001 ∧ G1 = G ∧ ad1 = ad) := by
  refine dz_ofWH (cc := cL_measured) (maxL := 5) (ret := (some .int)) (by decide) rfl ?_
  intro p e s m args below meth c s₁ B hml hv
  obtain ⟨rfl, hG, hE⟩ := hv
  have hx := B.exec
  have hb := B.bytes
  have hrt := B.returns
  have hts := atoms_spec (ws := wsL_measured) B.pre
  have hown : s.vm.findClass RL = some m.cls := findClass_of_methodNamed B.named
  have hS : va_S (dz_A Z) s.heap s.heap [] := va_S.rf
  have hl := lv_entry ([.ref aX, .int v1, .int v2, .int v3]) (n := 5) (Nat.le_of_ble_eq_true rfl)
  rw [lg_entry_eq]
  generalize (lg_sl ([.ref aX, .int v1, .int v2, .int v3]) ++ List.replicate (5 - (lg_sl ([.ref aX, .int v1, .int v2, .int v3])).length) Slot.unset).toArray = ls at hl ⊢
  have hl : lv_has ls 5 [(0, .ref aX), (1, .int v1), (2, .int v2), (3, .int v3)] := hl
  refine lv_aload_n hx hb dL_measured_0 rfl (lv_at hl 0 rfl) ?_
  refine lv_iload_n hx hb dL_measured_1 rfl (lv_at hl 1 rfl) ?_
  refine lv_iload_n hx hb dL_measured_2 rfl (lv_at hl 2 rfl) ?_
  refine lv_iload_n hx hb dL_measured_3 rfl (lv_at hl 3 rfl) ?_
  refine dz_kX (av := #[]) (vx_runV (As := [_, _, _]) ⟨hx, hb, hml, hown, hts⟩ hM (cwV 3 hts gL_measured_X8_measured rfl rfl rfl (by decide +kernel) ⟨Nat.le_refl _, Nat.le_refl _⟩) (dz_P.preV hE hS hG ho rfl ha) rfl rfl hl.1 rfl (lv_room (Nat.le_of_ble_eq_true rfl)) dL_measured_4 ⟨Nat.le_refl _, Nat.le_refl _⟩) hS (fun E q ce H locs hEx hG hS hce hcv hcl => ?_)
  subst hEx
  refine vx_catch (name := "java/lang/IndexOutOfBoundsException") hown [] ⟨0, 7, 8, 23⟩ [⟨0, 7, 13, 13⟩] ((vx_table (x := yL_measured) B (hts _ List.mem_cons_self)).trans rfl) (fun z h => absurd h List.not_mem_nil) (by decide) (by decide) (hts _ (List.mem_of_getElem? (i := 1) rfl)) (va_Nw.use rfl (hE.2.2.2.2.2.2.1 ("java/lang/IndexOutOfBoundsException", "java/lang/IndexOutOfBoundsException") (by decide +kernel))) hce hcv hcl ?_
  refine lv_astore (lv' := [(4, .ref q), (0, .ref aX), (1, .int v1), (2, .int v2), (3, .int v3)]) (pc := 8) hx hb dL_measured_8 hl (by decide) rfl (fun ls hl => ?_)
  refine lv_ldc hx hb hown (hts _ (List.mem_of_getElem? (i := 3) rfl)) dL_measured_10 ?_
  refine W.widen (k := 1) (n := 6) (by omega) (by omega) ?_
  refine W.iret hx hb hrt (fun t ht hW => dz_endM (f := rv_i) (-2000000001) hE hS hG ?_ ht hW) (fun q h => hS.2.2 q h) dL_measured_12
  exact ⟨rfl, rfl, rfl⟩
set_option maxHeartbeats 4000000 in
set_option maxRecDepth 100000 in
theorem c_L_measured_X2 (l : Launch) (Z : dzG) (G : dzW) (ad : dzA) (aX : Nat) (v1 v2 v3 : Int32) (fs : List Value) (fr lo : Nat) (ha : ad (1, 0) = aX) (ho : G (1, 0) = some (.inr (9, fs))) (hM : vx_Met l yX8_measured wsX8_measured (dz_rm fr lo 1 6) (dz_P Z G ad [.ref aX, .int v1, .int v2, .int v3]) (fun _ _ _ _ => False) (dz_XC Z G ad (fun E => E = "java/lang/IllegalArgumentException")) 1 6 (dz_A Z)) : dzWr l yL_measured wsL_measured (fr + 1) (8 + (4 + 11) + lo) 1 6 Z G ad [.ref aX, .int v1, .int v2, .int v3] rv_i (fun (x : Int32) G1 ad1 => x = -2000000002 ∧ G1 = G ∧ ad1 = ad) := by
  refine dz_ofWH (cc := cL_measured) (maxL := 5) (ret := (some .int)) (by decide) rfl ?_
  intro p e s m args below meth c s₁ B hml hv
  obtain ⟨rfl, hG, hE⟩ := hv
  have hx := B.exec
  have hb := B.bytes
  have hrt := B.returns
  have hts := atoms_spec (ws := wsL_measured) B.pre
  have hown : s.vm.findClass RL = some m.cls := findClass_of_methodNamed B.named
  have hS : va_S (dz_A Z) s.heap s.heap [] := va_S.rf
  have hl := lv_entry ([.ref aX, .int v1, .int v2, .int v3]) (n := 5) (Nat.le_of_ble_eq_true rfl)
  rw [lg_entry_eq]
  generalize (lg_sl ([.ref aX, .int v1, .int v2, .int v3]) ++ List.replicate (5 - (lg_sl ([.ref aX, .int v1, .int v2, .int v3])).length) Slot.unset).toArray = ls at hl ⊢
  have hl : lv_has ls 5 [(0, .ref aX), (1, .int v1), (2, .int v2), (3, .int v3)] := hl
  refine lv_aload_n hx hb dL_measured_0 rfl (lv_at hl 0 rfl) ?_
  refine lv_iload_n hx hb dL_measured_1 rfl (lv_at hl 1 rfl) ?_
  refine lv_iload_n hx hb dL_measured_2 rfl (lv_at hl 2 rfl) ?_
  refine lv_iload_n hx hb dL_measured_3 rfl (lv_at hl 3 rfl) ?_
  refine dz_kX (av := #[]) (vx_runV (As := [_, _, _]) ⟨hx, hb, hml, hown, hts⟩ hM (cwV 3 hts gL_measured_X8_measured rfl rfl rfl (by decide +kernel) ⟨Nat.le_refl _, Nat.le_refl _⟩) (dz_P.preV hE hS hG ho rfl ha) rfl rfl hl.1 rfl (lv_room (Nat.le_of_ble_eq_true rfl)) dL_measured_4 ⟨Nat.le_refl _, Nat.le_refl _⟩) hS (fun E q ce H locs hEx hG hS hce hcv hcl => ?_)
  subst hEx
  refine vx_catch (name := "java/lang/IllegalArgumentException") hown [⟨0, 7, 8, 23⟩] ⟨0, 7, 13, 13⟩ [] ((vx_table (x := yL_measured) B (hts _ List.mem_cons_self)).trans rfl) (List.forall_mem_cons.mpr ⟨Or.inr ⟨by decide, "java/lang/IndexOutOfBoundsException", (hts _ (List.mem_of_getElem? (i := 1) rfl)), hE.2.2.2.2.2.2.2.2.2.2.2.1 ("java/lang/IllegalArgumentException", "java/lang/IndexOutOfBoundsException") (by decide +kernel)⟩, (fun z h => absurd h List.not_mem_nil)⟩) (by decide) (by decide) (hts _ (List.mem_of_getElem? (i := 2) rfl)) (va_Nw.use rfl (hE.2.2.2.2.2.2.1 ("java/lang/IllegalArgumentException", "java/lang/IllegalArgumentException") (by decide +kernel))) hce hcv hcl ?_
  refine lv_astore (lv' := [(4, .ref q), (0, .ref aX), (1, .int v1), (2, .int v2), (3, .int v3)]) (pc := 13) hx hb dL_measured_13 hl (by decide) rfl (fun ls hl => ?_)
  refine lv_ldc hx hb hown (hts _ (List.mem_of_getElem? (i := 4) rfl)) dL_measured_15 ?_
  refine W.widen (k := 1) (n := 6) (by omega) (by omega) ?_
  refine W.iret hx hb hrt (fun t ht hW => dz_endM (f := rv_i) (-2000000002) hE hS hG ?_ ht hW) (fun q h => hS.2.2 q h) dL_measured_17
  exact ⟨rfl, rfl, rfl⟩

set_option maxHeartbeats 4000000 in
set_option maxRecDepth 100000 in
theorem c_L_booked_W (l : Launch) (Z : dzG) (G : dzW) (ad : dzA) (aX : Nat) (v1 : Int32) (fs : List Value) (fr lo mc ms : Nat) (Po : Int32 → dzW → dzA → Prop) (ha : ad (1, 0) = aX) (ho : G (1, 0) = some (.inr (9, fs))) (hM : dzWr l yX8_booked wsX8_booked fr lo mc ms Z G ad [.ref aX, .int v1] rv_i Po) : dzWr l yL_booked wsL_booked (fr + 1) (8 + (2 + 11) + lo) mc ms Z G ad [.ref aX, .int v1] rv_i (fun (x : Int32) G1 ad1 => Po x G1 ad1) := by
  refine dz_ofWH (cc := cL_booked) (maxL := 3) (ret := (some .int)) (by decide) rfl ?_
  intro p e s m args below meth c s₁ B hml hv
  obtain ⟨rfl, hG, hE⟩ := hv
  have hx := B.exec
  have hb := B.bytes
  have hrt := B.returns
  have hts := atoms_spec (ws := wsL_booked) B.pre
  have hown : s.vm.findClass RL = some m.cls := findClass_of_methodNamed B.named
  have hS : va_S (dz_A Z) s.heap s.heap [] := va_S.rf
  have hl := lv_entry ([.ref aX, .int v1]) (n := 3) (Nat.le_of_ble_eq_true rfl)
  rw [lg_entry_eq]
  generalize (lg_sl ([.ref aX, .int v1]) ++ List.replicate (3 - (lg_sl ([.ref aX, .int v1])).length) Slot.unset).toArray = ls at hl ⊢
  have hl : lv_has ls 3 [(0, .ref aX), (1, .int v1)] := hl
  refine lv_aload_n hx hb dL_booked_0 rfl (lv_at hl 0 rfl) ?_
  refine lv_iload_n hx hb dL_booked_1 rfl (lv_at hl 1 rfl) ?_
  refine dz_kMi (va_runV (As := [_]) ⟨hx, hb, hml, hown, hts⟩ hM (cwV 1 hts gL_booked_X8_booked rfl rfl rfl (by decide +kernel) ⟨Nat.le_refl _, Nat.le_refl _⟩) (dz_P.preV hE hS hG ho rfl ha) rfl rfl hl.1 rfl (lv_room (Nat.le_of_ble_eq_true rfl)) dL_booked_2 ⟨Nat.le_of_eq (Nat.zero_add mc), Nat.le_of_eq (Nat.zero_add ms)⟩) hS (fun y G2 ad2 H locs hp hG hS => ?_)
  refine W.widen (k := mc) (n := ms) (by omega) (by omega) ?_
  refine W.iret hx hb hrt (fun t ht hW => dz_endM (f := rv_i) y hE hS hG ?_ ht hW) (fun q h => hS.2.2 q h) dL_booked_5
  exact hp
set_option maxHeartbeats 4000000 in
set_option maxRecDepth 100000 in
theorem c_L_booked_R (l : Launch) (Z : dzG) (G : dzW) (ad : dzA) (aX : Nat) (v1 : Int32) (fs : List Value) (fr lo : Nat) (v : Int32) (ha : ad (1, 0) = aX) (ho : G (1, 0) = some (.inr (9, fs))) (hM : dzRd l yX8_booked wsX8_booked fr lo Z G ad [.ref aX, .int v1] (some (.int v))) : dzRd l yL_booked wsL_booked (fr + 1) (8 + (2 + 11) + lo) Z G ad [.ref aX, .int v1] (some (.int v)) := by
  refine dz_ofWH (cc := cL_booked) (maxL := 3) (ret := (some .int)) (by decide) rfl ?_
  intro p e s m args below meth c s₁ B hml hv
  obtain ⟨rfl, hG, hE⟩ := hv
  have hx := B.exec
  have hb := B.bytes
  have hrt := B.returns
  have hts := atoms_spec (ws := wsL_booked) B.pre
  have hown : s.vm.findClass RL = some m.cls := findClass_of_methodNamed B.named
  have hS : va_S (dz_A Z) s.heap s.heap [] := va_S.rf
  have hl := lv_entry ([.ref aX, .int v1]) (n := 3) (Nat.le_of_ble_eq_true rfl)
  rw [lg_entry_eq]
  generalize (lg_sl ([.ref aX, .int v1]) ++ List.replicate (3 - (lg_sl ([.ref aX, .int v1])).length) Slot.unset).toArray = ls at hl ⊢
  have hl : lv_has ls 3 [(0, .ref aX), (1, .int v1)] := hl
  refine lv_aload_n hx hb dL_booked_0 rfl (lv_at hl 0 rfl) ?_
  refine lv_iload_n hx hb dL_booked_1 rfl (lv_at hl 1 rfl) ?_
  refine dz_kRi (va_runV (As := [_]) ⟨hx, hb, hml, hown, hts⟩ hM (cwV 1 hts gL_booked_X8_booked rfl rfl rfl (by decide +kernel) ⟨Nat.le_refl _, Nat.le_refl _⟩) (dz_P.preV hE hS hG ho rfl ha) rfl rfl hl.1 rfl (lv_room (Nat.le_of_ble_eq_true rfl)) dL_booked_2 ⟨Nat.le_refl _, Nat.le_refl _⟩) ?_
  refine W.iret hx hb hrt (fun t ht hW => ⟨congrArg (fun x => Outcome.returned (some (Value.int x))) ?_, ht⟩) (fun _ h => by cases h) dL_booked_5
  exact rfl
set_option maxHeartbeats 4000000 in
set_option maxRecDepth 100000 in
theorem c_L_booked_X1 (l : Launch) (Z : dzG) (G : dzW) (ad : dzA) (aX : Nat) (v1 : Int32) (fs : List Value) (fr lo : Nat) (ha : ad (1, 0) = aX) (ho : G (1, 0) = some (.inr (9, fs))) (hM : vx_Met l yX8_booked wsX8_booked (dz_rm fr lo 1 6) (dz_P Z G ad [.ref aX, .int v1]) (fun _ _ _ _ => False) (dz_XC Z G ad (fun E => E = "java/lang/IndexOutOfBoundsException")) 1 6 (dz_A Z)) : dzWr l yL_booked wsL_booked (fr + 1) (8 + (2 + 11) + lo) 1 6 Z G ad [.ref aX, .int v1] rv_i (fun (x : Int32) G1 ad1 => x = -2000000001 ∧ G1 = G ∧ ad1 = ad) := by
  refine dz_ofWH (cc := cL_booked) (maxL := 3) (ret := (some .int)) (by decide) rfl ?_
  intro p e s m args below meth c s₁ B hml hv
  obtain ⟨rfl, hG, hE⟩ := hv
  have hx := B.exec
  have hb := B.bytes
  have hrt := B.returns
  have hts := atoms_spec (ws := wsL_booked) B.pre
  have hown : s.vm.findClass RL = some m.cls := findClass_of_methodNamed B.named
  have hS : va_S (dz_A Z) s.heap s.heap [] := va_S.rf
  have hl := lv_entry ([.ref aX, .int v1]) (n := 3) (Nat.le_of_ble_eq_true rfl)
  rw [lg_entry_eq]
  generalize (lg_sl ([.ref aX, .int v1]) ++ List.replicate (3 - (lg_sl ([.ref aX, .int v1])).length) Slot.unset).toArray = ls at hl ⊢
  have hl : lv_has ls 3 [(0, .ref aX), (1, .int v1)] := hl
  refine lv_aload_n hx hb dL_booked_0 rfl (lv_at hl 0 rfl) ?_
  refine lv_iload_n hx hb dL_booked_1 rfl (lv_at hl 1 rfl) ?_
  refine dz_kX (av := #[]) (vx_runV (As := [_]) ⟨hx, hb, hml, hown, hts⟩ hM (cwV 1 hts gL_booked_X8_booked rfl rfl rfl (by decide +kernel) ⟨Nat.le_refl _, Nat.le_refl _⟩) (dz_P.preV hE hS hG ho rfl ha) rfl rfl hl.1 rfl (lv_room (Nat.le_of_ble_eq_true rfl)) dL_booked_2 ⟨Nat.le_refl _, Nat.le_refl _⟩) hS (fun E q ce H locs hEx hG hS hce hcv hcl => ?_)
  subst hEx
  refine vx_catch (name := "java/lang/IndexOutOfBoundsException") hown [] ⟨0, 5, 6, 23⟩ [⟨0, 5, 10, 16⟩] ((vx_table (x := yL_booked) B (hts _ List.mem_cons_self)).trans rfl) (fun z h => absurd h List.not_mem_nil) (by decide) (by decide) (hts _ (List.mem_of_getElem? (i := 1) rfl)) (va_Nw.use rfl (hE.2.2.2.2.2.2.1 ("java/lang/IndexOutOfBoundsException", "java/lang/IndexOutOfBoundsException") (by decide +kernel))) hce hcv hcl ?_
  refine lv_astore_n (lv' := [(2, .ref q), (0, .ref aX), (1, .int v1)]) (pc := 6) hx hb dL_booked_6 rfl hl (by decide) rfl (fun ls hl => ?_)
  refine lv_ldc hx hb hown (hts _ (List.mem_of_getElem? (i := 3) rfl)) dL_booked_7 ?_
  refine W.widen (k := 1) (n := 6) (by omega) (by omega) ?_
  refine W.iret hx hb hrt (fun t ht hW => dz_endM (f := rv_i) (-2000000001) hE hS hG ?_ ht hW) (fun q h => hS.2.2 q h) dL_booked_9
  exact ⟨rfl, rfl, rfl⟩
set_option maxHeartbeats 4000000 in
set_option maxRecDepth 100000 in
theorem c_L_booked_X2 (l : Launch) (Z : dzG) (G : dzW) (ad : dzA) (aX : Nat) (v1 : Int32) (fs : List Value) (fr lo : Nat) (ha : ad (1, 0) = aX) (ho : G (1, 0) = some (.inr (9, fs))) (hM : vx_Met l yX8_booked wsX8_booked (dz_rm fr lo 1 6) (dz_P Z G ad [.ref aX, .int v1]) (fun _ _ _ _ => False) (dz_XC Z G ad (fun E => E = "java/lang/IllegalStateException")) 1 6 (dz_A Z)) : dzWr l yL_booked wsL_booked (fr + 1) (8 + (2 + 11) + lo) 1 6 Z G ad [.ref aX, .int v1] rv_i (fun (x : Int32) G1 ad1 => x = -2000000003 ∧ G1 = G ∧ ad1 = ad) := by
  refine dz_ofWH (cc := cL_booked) (maxL := 3) (ret := (some .int)) (by decide) rfl ?_
  intro p e s m args below meth c s₁ B hml hv
  obtain ⟨rfl, hG, hE⟩ := hv
  have hx := B.exec
  have hb := B.bytes
  have hrt := B.returns
  have hts := atoms_spec (ws := wsL_booked) B.pre
  have hown : s.vm.findClass RL = some m.cls := findClass_of_methodNamed B.named
  have hS : va_S (dz_A Z) s.heap s.heap [] := va_S.rf
  have hl := lv_entry ([.ref aX, .int v1]) (n := 3) (Nat.le_of_ble_eq_true rfl)
  rw [lg_entry_eq]
  generalize (lg_sl ([.ref aX, .int v1]) ++ List.replicate (3 - (lg_sl ([.ref aX, .int v1])).length) Slot.unset).toArray = ls at hl ⊢
  have hl : lv_has ls 3 [(0, .ref aX), (1, .int v1)] := hl
  refine lv_aload_n hx hb dL_booked_0 rfl (lv_at hl 0 rfl) ?_
  refine lv_iload_n hx hb dL_booked_1 rfl (lv_at hl 1 rfl) ?_
  refine dz_kX (av := #[]) (vx_runV (As := [_]) ⟨hx, hb, hml, hown, hts⟩ hM (cwV 1 hts gL_booked_X8_booked rfl rfl rfl (by decide +kernel) ⟨Nat.le_refl _, Nat.le_refl _⟩) (dz_P.preV hE hS hG ho rfl ha) rfl rfl hl.1 rfl (lv_room (Nat.le_of_ble_eq_true rfl)) dL_booked_2 ⟨Nat.le_refl _, Nat.le_refl _⟩) hS (fun E q ce H locs hEx hG hS hce hcv hcl => ?_)
  subst hEx
  refine vx_catch (name := "java/lang/IllegalStateException") hown [⟨0, 5, 6, 23⟩] ⟨0, 5, 10, 16⟩ [] ((vx_table (x := yL_booked) B (hts _ List.mem_cons_self)).trans rfl) (List.forall_mem_cons.mpr ⟨Or.inr ⟨by decide, "java/lang/IndexOutOfBoundsException", (hts _ (List.mem_of_getElem? (i := 1) rfl)), hE.2.2.2.2.2.2.2.2.2.2.2.1 ("java/lang/IllegalStateException", "java/lang/IndexOutOfBoundsException") (by decide +kernel)⟩, (fun z h => absurd h List.not_mem_nil)⟩) (by decide) (by decide) (hts _ (List.mem_of_getElem? (i := 2) rfl)) (va_Nw.use rfl (hE.2.2.2.2.2.2.1 ("java/lang/IllegalStateException", "java/lang/IllegalStateException") (by decide +kernel))) hce hcv hcl ?_
  refine lv_astore_n (lv' := [(2, .ref q), (0, .ref aX), (1, .int v1)]) (pc := 10) hx hb dL_booked_10 rfl hl (by decide) rfl (fun ls hl => ?_)
  refine lv_ldc hx hb hown (hts _ (List.mem_of_getElem? (i := 4) rfl)) dL_booked_11 ?_
  refine W.widen (k := 1) (n := 6) (by omega) (by omega) ?_
  refine W.iret hx hb hrt (fun t ht hW => dz_endM (f := rv_i) (-2000000003) hE hS hG ?_ ht hW) (fun q h => hS.2.2 q h) dL_booked_13
  exact ⟨rfl, rfl, rfl⟩

set_option maxHeartbeats 4000000 in
set_option maxRecDepth 100000 in
theorem c_L_isFresh_W (l : Launch) (Z : dzG) (G : dzW) (ad : dzA) (aX : Nat) (v1 : Int32) (fs : List Value) (fr lo mc ms : Nat) (Po : Int32 → dzW → dzA → Prop) (ha : ad (1, 0) = aX) (ho : G (1, 0) = some (.inr (9, fs))) (hM : dzWr l yX8_isFresh wsX8_isFresh fr lo mc ms Z G ad [.ref aX, .int v1] rv_i Po) : dzWr l yL_isFresh wsL_isFresh (fr + 1) (8 + (2 + 11) + lo) mc ms Z G ad [.ref aX, .int v1] rv_i (fun (x : Int32) G1 ad1 => ∃ y : Int32, Po y G1 ad1 ∧ x = if y = 0 then 0 else 1) := by
  refine dz_ofWH (cc := cL_isFresh) (maxL := 3) (ret := (some .int)) (by decide) rfl ?_
  intro p e s m args below meth c s₁ B hml hv
  obtain ⟨rfl, hG, hE⟩ := hv
  have hx := B.exec
  have hb := B.bytes
  have hrt := B.returns
  have hts := atoms_spec (ws := wsL_isFresh) B.pre
  have hown : s.vm.findClass RL = some m.cls := findClass_of_methodNamed B.named
  have hS : va_S (dz_A Z) s.heap s.heap [] := va_S.rf
  have hl := lv_entry ([.ref aX, .int v1]) (n := 3) (Nat.le_of_ble_eq_true rfl)
  rw [lg_entry_eq]
  generalize (lg_sl ([.ref aX, .int v1]) ++ List.replicate (3 - (lg_sl ([.ref aX, .int v1])).length) Slot.unset).toArray = ls at hl ⊢
  have hl : lv_has ls 3 [(0, .ref aX), (1, .int v1)] := hl
  refine lv_aload_n hx hb dL_isFresh_0 rfl (lv_at hl 0 rfl) ?_
  refine lv_iload_n hx hb dL_isFresh_1 rfl (lv_at hl 1 rfl) ?_
  refine dz_kMi (va_runV (As := [_]) ⟨hx, hb, hml, hown, hts⟩ hM (cwV 1 hts gL_isFresh_X8_isFresh rfl rfl rfl (by decide +kernel) ⟨Nat.le_refl _, Nat.le_refl _⟩) (dz_P.preV hE hS hG ho rfl ha) rfl rfl hl.1 rfl (lv_room (Nat.le_of_ble_eq_true rfl)) dL_isFresh_2 ⟨Nat.le_of_eq (Nat.zero_add mc), Nat.le_of_eq (Nat.zero_add ms)⟩) hS (fun y G2 ad2 H locs hp hG hS => ?_)
  refine lv_if_eq (tgt := 12) hx hb dL_isFresh_5 (by decide) (fun c9 => ?_) (fun c9 => ?_)
  · refine lv_iconst (v := 0) hx hb dL_isFresh_12 (by decide) ?_
    refine W.widen (k := mc) (n := ms) (by omega) (by omega) ?_
    refine W.iret hx hb hrt (fun t ht hW => dz_endM (f := rv_i) 0 hE hS hG ?_ ht hW) (fun q h => hS.2.2 q h) dL_isFresh_13
    exact ⟨y, hp, (if_pos c9).symm⟩
  · refine lv_iconst (v := 1) hx hb dL_isFresh_8 (by decide) ?_
    refine lv_goto (tgt := 13) hx hb dL_isFresh_9 (by decide) ?_
    refine W.widen (k := mc) (n := ms) (by omega) (by omega) ?_
    refine W.iret hx hb hrt (fun t ht hW => dz_endM (f := rv_i) 1 hE hS hG ?_ ht hW) (fun q h => hS.2.2 q h) dL_isFresh_13
    exact ⟨y, hp, (if_neg c9).symm⟩
set_option maxHeartbeats 4000000 in
set_option maxRecDepth 100000 in
theorem c_L_isFresh_R (l : Launch) (Z : dzG) (G : dzW) (ad : dzA) (aX : Nat) (v1 : Int32) (fs : List Value) (fr lo : Nat) (v : Int32) (ha : ad (1, 0) = aX) (ho : G (1, 0) = some (.inr (9, fs))) (hM : dzRd l yX8_isFresh wsX8_isFresh fr lo Z G ad [.ref aX, .int v1] (some (.int v))) : dzRd l yL_isFresh wsL_isFresh (fr + 1) (8 + (2 + 11) + lo) Z G ad [.ref aX, .int v1] (some (.int (if v = 0 then 0 else 1))) := by
  refine dz_ofWH (cc := cL_isFresh) (maxL := 3) (ret := (some .int)) (by decide) rfl ?_
  intro p e s m args below meth c s₁ B hml hv
  obtain ⟨rfl, hG, hE⟩ := hv
  have hx := B.exec
  have hb := B.bytes
  have hrt := B.returns
  have hts := atoms_spec (ws := wsL_isFresh) B.pre
  have hown : s.vm.findClass RL = some m.cls := findClass_of_methodNamed B.named
  have hS : va_S (dz_A Z) s.heap s.heap [] := va_S.rf
  have hl := lv_entry ([.ref aX, .int v1]) (n := 3) (Nat.le_of_ble_eq_true rfl)
  rw [lg_entry_eq]
  generalize (lg_sl ([.ref aX, .int v1]) ++ List.replicate (3 - (lg_sl ([.ref aX, .int v1])).length) Slot.unset).toArray = ls at hl ⊢
  have hl : lv_has ls 3 [(0, .ref aX), (1, .int v1)] := hl
  refine lv_aload_n hx hb dL_isFresh_0 rfl (lv_at hl 0 rfl) ?_
  refine lv_iload_n hx hb dL_isFresh_1 rfl (lv_at hl 1 rfl) ?_
  refine dz_kRi (va_runV (As := [_]) ⟨hx, hb, hml, hown, hts⟩ hM (cwV 1 hts gL_isFresh_X8_isFresh rfl rfl rfl (by decide +kernel) ⟨Nat.le_refl _, Nat.le_refl _⟩) (dz_P.preV hE hS hG ho rfl ha) rfl rfl hl.1 rfl (lv_room (Nat.le_of_ble_eq_true rfl)) dL_isFresh_2 ⟨Nat.le_refl _, Nat.le_refl _⟩) ?_
  refine lv_if_eq (tgt := 12) hx hb dL_isFresh_5 (by decide) (fun c9 => ?_) (fun c9 => ?_)
  · refine lv_iconst (v := 0) hx hb dL_isFresh_12 (by decide) ?_
    refine W.iret hx hb hrt (fun t ht hW => ⟨congrArg (fun x => Outcome.returned (some (Value.int x))) ?_, ht⟩) (fun _ h => by cases h) dL_isFresh_13
    exact (if_pos c9).symm
  · refine lv_iconst (v := 1) hx hb dL_isFresh_8 (by decide) ?_
    refine lv_goto (tgt := 13) hx hb dL_isFresh_9 (by decide) ?_
    refine W.iret hx hb hrt (fun t ht hW => ⟨congrArg (fun x => Outcome.returned (some (Value.int x))) ?_, ht⟩) (fun _ h => by cases h) dL_isFresh_13
    exact (if_neg c9).symm
set_option maxHeartbeats 4000000 in
set_option maxRecDepth 100000 in
theorem c_L_isFresh_X1 (l : Launch) (Z : dzG) (G : dzW) (ad : dzA) (aX : Nat) (v1 : Int32) (fs : List Value) (fr lo : Nat) (ha : ad (1, 0) = aX) (ho : G (1, 0) = some (.inr (9, fs))) (hM : vx_Met l yX8_isFresh wsX8_isFresh (dz_rm fr lo 1 6) (dz_P Z G ad [.ref aX, .int v1]) (fun _ _ _ _ => False) (dz_XC Z G ad (fun E => E = "java/lang/IndexOutOfBoundsException")) 1 6 (dz_A Z)) : dzWr l yL_isFresh wsL_isFresh (fr + 1) (8 + (2 + 11) + lo) 1 6 Z G ad [.ref aX, .int v1] rv_i (fun (x : Int32) G1 ad1 => x = -2000000001 ∧ G1 = G ∧ ad1 = ad) := by
  refine dz_ofWH (cc := cL_isFresh) (maxL := 3) (ret := (some .int)) (by decide) rfl ?_
  intro p e s m args below meth c s₁ B hml hv
  obtain ⟨rfl, hG, hE⟩ := hv
  have hx := B.exec
  have hb := B.bytes
  have hrt := B.returns
  have hts := atoms_spec (ws := wsL_isFresh) B.pre
  have hown : s.vm.findClass RL = some m.cls := findClass_of_methodNamed B.named
  have hS : va_S (dz_A Z) s.heap s.heap [] := va_S.rf
  have hl := lv_entry ([.ref aX, .int v1]) (n := 3) (Nat.le_of_ble_eq_true rfl)
  rw [lg_entry_eq]
  generalize (lg_sl ([.ref aX, .int v1]) ++ List.replicate (3 - (lg_sl ([.ref aX, .int v1])).length) Slot.unset).toArray = ls at hl ⊢
  have hl : lv_has ls 3 [(0, .ref aX), (1, .int v1)] := hl
  refine lv_aload_n hx hb dL_isFresh_0 rfl (lv_at hl 0 rfl) ?_
  refine lv_iload_n hx hb dL_isFresh_1 rfl (lv_at hl 1 rfl) ?_
  refine dz_kX (av := #[]) (vx_runV (As := [_]) ⟨hx, hb, hml, hown, hts⟩ hM (cwV 1 hts gL_isFresh_X8_isFresh rfl rfl rfl (by decide +kernel) ⟨Nat.le_refl _, Nat.le_refl _⟩) (dz_P.preV hE hS hG ho rfl ha) rfl rfl hl.1 rfl (lv_room (Nat.le_of_ble_eq_true rfl)) dL_isFresh_2 ⟨Nat.le_refl _, Nat.le_refl _⟩) hS (fun E q ce H locs hEx hG hS hce hcv hcl => ?_)
  subst hEx
  refine vx_catch (name := "java/lang/IndexOutOfBoundsException") hown [] ⟨0, 13, 14, 23⟩ [⟨0, 13, 18, 16⟩] ((vx_table (x := yL_isFresh) B (hts _ List.mem_cons_self)).trans rfl) (fun z h => absurd h List.not_mem_nil) (by decide) (by decide) (hts _ (List.mem_of_getElem? (i := 1) rfl)) (va_Nw.use rfl (hE.2.2.2.2.2.2.1 ("java/lang/IndexOutOfBoundsException", "java/lang/IndexOutOfBoundsException") (by decide +kernel))) hce hcv hcl ?_
  refine lv_astore_n (lv' := [(2, .ref q), (0, .ref aX), (1, .int v1)]) (pc := 14) hx hb dL_isFresh_14 rfl hl (by decide) rfl (fun ls hl => ?_)
  refine lv_ldc hx hb hown (hts _ (List.mem_of_getElem? (i := 3) rfl)) dL_isFresh_15 ?_
  refine W.widen (k := 1) (n := 6) (by omega) (by omega) ?_
  refine W.iret hx hb hrt (fun t ht hW => dz_endM (f := rv_i) (-2000000001) hE hS hG ?_ ht hW) (fun q h => hS.2.2 q h) dL_isFresh_17
  exact ⟨rfl, rfl, rfl⟩
set_option maxHeartbeats 4000000 in
set_option maxRecDepth 100000 in
theorem c_L_isFresh_X2 (l : Launch) (Z : dzG) (G : dzW) (ad : dzA) (aX : Nat) (v1 : Int32) (fs : List Value) (fr lo : Nat) (ha : ad (1, 0) = aX) (ho : G (1, 0) = some (.inr (9, fs))) (hM : vx_Met l yX8_isFresh wsX8_isFresh (dz_rm fr lo 1 6) (dz_P Z G ad [.ref aX, .int v1]) (fun _ _ _ _ => False) (dz_XC Z G ad (fun E => E = "java/lang/IllegalStateException")) 1 6 (dz_A Z)) : dzWr l yL_isFresh wsL_isFresh (fr + 1) (8 + (2 + 11) + lo) 1 6 Z G ad [.ref aX, .int v1] rv_i (fun (x : Int32) G1 ad1 => x = -2000000003 ∧ G1 = G ∧ ad1 = ad) := by
  refine dz_ofWH (cc := cL_isFresh) (maxL := 3) (ret := (some .int)) (by decide) rfl ?_
  intro p e s m args below meth c s₁ B hml hv
  obtain ⟨rfl, hG, hE⟩ := hv
  have hx := B.exec
  have hb := B.bytes
  have hrt := B.returns
  have hts := atoms_spec (ws := wsL_isFresh) B.pre
  have hown : s.vm.findClass RL = some m.cls := findClass_of_methodNamed B.named
  have hS : va_S (dz_A Z) s.heap s.heap [] := va_S.rf
  have hl := lv_entry ([.ref aX, .int v1]) (n := 3) (Nat.le_of_ble_eq_true rfl)
  rw [lg_entry_eq]
  generalize (lg_sl ([.ref aX, .int v1]) ++ List.replicate (3 - (lg_sl ([.ref aX, .int v1])).length) Slot.unset).toArray = ls at hl ⊢
  have hl : lv_has ls 3 [(0, .ref aX), (1, .int v1)] := hl
  refine lv_aload_n hx hb dL_isFresh_0 rfl (lv_at hl 0 rfl) ?_
  refine lv_iload_n hx hb dL_isFresh_1 rfl (lv_at hl 1 rfl) ?_
  refine dz_kX (av := #[]) (vx_runV (As := [_]) ⟨hx, hb, hml, hown, hts⟩ hM (cwV 1 hts gL_isFresh_X8_isFresh rfl rfl rfl (by decide +kernel) ⟨Nat.le_refl _, Nat.le_refl _⟩) (dz_P.preV hE hS hG ho rfl ha) rfl rfl hl.1 rfl (lv_room (Nat.le_of_ble_eq_true rfl)) dL_isFresh_2 ⟨Nat.le_refl _, Nat.le_refl _⟩) hS (fun E q ce H locs hEx hG hS hce hcv hcl => ?_)
  subst hEx
  refine vx_catch (name := "java/lang/IllegalStateException") hown [⟨0, 13, 14, 23⟩] ⟨0, 13, 18, 16⟩ [] ((vx_table (x := yL_isFresh) B (hts _ List.mem_cons_self)).trans rfl) (List.forall_mem_cons.mpr ⟨Or.inr ⟨by decide, "java/lang/IndexOutOfBoundsException", (hts _ (List.mem_of_getElem? (i := 1) rfl)), hE.2.2.2.2.2.2.2.2.2.2.2.1 ("java/lang/IllegalStateException", "java/lang/IndexOutOfBoundsException") (by decide +kernel)⟩, (fun z h => absurd h List.not_mem_nil)⟩) (by decide) (by decide) (hts _ (List.mem_of_getElem? (i := 2) rfl)) (va_Nw.use rfl (hE.2.2.2.2.2.2.1 ("java/lang/IllegalStateException", "java/lang/IllegalStateException") (by decide +kernel))) hce hcv hcl ?_
  refine lv_astore_n (lv' := [(2, .ref q), (0, .ref aX), (1, .int v1)]) (pc := 18) hx hb dL_isFresh_18 rfl hl (by decide) rfl (fun ls hl => ?_)
  refine lv_ldc hx hb hown (hts _ (List.mem_of_getElem? (i := 4) rfl)) dL_isFresh_19 ?_
  refine W.widen (k := 1) (n := 6) (by omega) (by omega) ?_
  refine W.iret hx hb hrt (fun t ht hW => dz_endM (f := rv_i) (-2000000003) hE hS hG ?_ ht hW) (fun q h => hS.2.2 q h) dL_isFresh_21
  exact ⟨rfl, rfl, rfl⟩

set_option maxHeartbeats 4000000 in
set_option maxRecDepth 100000 in
theorem c_L_dispute_W (l : Launch) (Z : dzG) (G : dzW) (ad : dzA) (aX : Nat) (fs : List Value) (fr lo mc ms : Nat) (Po : Int32 → dzW → dzA → Prop) (ha : ad (1, 0) = aX) (ho : G (1, 0) = some (.inr (9, fs))) (hM : dzWr l yX8_dispute wsX8_dispute fr lo mc ms Z G ad [.ref aX] rv_i Po) : dzWr l yL_dispute wsL_dispute (fr + 1) (8 + (3 + 11) + lo) mc ms Z G ad [.ref aX] rv_i (fun (x : Int32) G1 ad1 => Po x G1 ad1) := by
  refine dz_ofWH (cc := cL_dispute) (maxL := 2) (ret := (some .int)) (by decide) rfl ?_
  intro p e s m args below meth c s₁ B hml hv
  obtain ⟨rfl, hG, hE⟩ := hv
  have hx := B.exec
  have hb := B.bytes
  have hrt := B.returns
  have hts := atoms_spec (ws := wsL_dispute) B.pre
  have hown : s.vm.findClass RL = some m.cls := findClass_of_methodNamed B.named
  have hS : va_S (dz_A Z) s.heap s.heap [] := va_S.rf
  have hl := lv_entry ([.ref aX]) (n := 2) (Nat.le_of_ble_eq_true rfl)
  rw [lg_entry_eq]
  generalize (lg_sl ([.ref aX]) ++ List.replicate (2 - (lg_sl ([.ref aX])).length) Slot.unset).toArray = ls at hl ⊢
  have hl : lv_has ls 2 [(0, .ref aX)] := hl
  refine lv_aload_n hx hb dL_dispute_0 rfl (lv_at hl 0 rfl) ?_
  refine dz_kMi (va_runV (As := []) ⟨hx, hb, hml, hown, hts⟩ hM (cwV 0 hts gL_dispute_X8_dispute rfl rfl rfl (by decide +kernel) ⟨Nat.le_refl _, Nat.le_refl _⟩) (dz_P.preV hE hS hG ho rfl ha) rfl rfl hl.1 rfl (lv_room (Nat.le_of_ble_eq_true rfl)) dL_dispute_1 ⟨Nat.le_of_eq (Nat.zero_add mc), Nat.le_of_eq (Nat.zero_add ms)⟩) hS (fun y G2 ad2 H locs hp hG hS => ?_)
  refine W.widen (k := mc) (n := ms) (by omega) (by omega) ?_
  refine W.iret hx hb hrt (fun t ht hW => dz_endM (f := rv_i) y hE hS hG ?_ ht hW) (fun q h => hS.2.2 q h) dL_dispute_4
  exact hp
set_option maxHeartbeats 4000000 in
set_option maxRecDepth 100000 in
theorem c_L_dispute_R (l : Launch) (Z : dzG) (G : dzW) (ad : dzA) (aX : Nat) (fs : List Value) (fr lo : Nat) (v : Int32) (ha : ad (1, 0) = aX) (ho : G (1, 0) = some (.inr (9, fs))) (hM : dzRd l yX8_dispute wsX8_dispute fr lo Z G ad [.ref aX] (some (.int v))) : dzRd l yL_dispute wsL_dispute (fr + 1) (8 + (3 + 11) + lo) Z G ad [.ref aX] (some (.int v)) := by
  refine dz_ofWH (cc := cL_dispute) (maxL := 2) (ret := (some .int)) (by decide) rfl ?_
  intro p e s m args below meth c s₁ B hml hv
  obtain ⟨rfl, hG, hE⟩ := hv
  have hx := B.exec
  have hb := B.bytes
  have hrt := B.returns
  have hts := atoms_spec (ws := wsL_dispute) B.pre
  have hown : s.vm.findClass RL = some m.cls := findClass_of_methodNamed B.named
  have hS : va_S (dz_A Z) s.heap s.heap [] := va_S.rf
  have hl := lv_entry ([.ref aX]) (n := 2) (Nat.le_of_ble_eq_true rfl)
  rw [lg_entry_eq]
  generalize (lg_sl ([.ref aX]) ++ List.replicate (2 - (lg_sl ([.ref aX])).length) Slot.unset).toArray = ls at hl ⊢
  have hl : lv_has ls 2 [(0, .ref aX)] := hl
  refine lv_aload_n hx hb dL_dispute_0 rfl (lv_at hl 0 rfl) ?_
  refine dz_kRi (va_runV (As := []) ⟨hx, hb, hml, hown, hts⟩ hM (cwV 0 hts gL_dispute_X8_dispute rfl rfl rfl (by decide +kernel) ⟨Nat.le_refl _, Nat.le_refl _⟩) (dz_P.preV hE hS hG ho rfl ha) rfl rfl hl.1 rfl (lv_room (Nat.le_of_ble_eq_true rfl)) dL_dispute_1 ⟨Nat.le_refl _, Nat.le_refl _⟩) ?_
  refine W.iret hx hb hrt (fun t ht hW => ⟨congrArg (fun x => Outcome.returned (some (Value.int x))) ?_, ht⟩) (fun _ h => by cases h) dL_dispute_4
  exact rfl
set_option maxHeartbeats 4000000 in
set_option maxRecDepth 100000 in
theorem c_L_dispute_X1 (l : Launch) (Z : dzG) (G : dzW) (ad : dzA) (aX : Nat) (fs : List Value) (fr lo : Nat) (ha : ad (1, 0) = aX) (ho : G (1, 0) = some (.inr (9, fs))) (hM : vx_Met l yX8_dispute wsX8_dispute (dz_rm fr lo 1 6) (dz_P Z G ad [.ref aX]) (fun _ _ _ _ => False) (dz_XC Z G ad (fun E => E = "java/lang/IllegalStateException")) 1 6 (dz_A Z)) : dzWr l yL_dispute wsL_dispute (fr + 1) (8 + (3 + 11) + lo) 1 6 Z G ad [.ref aX] rv_i (fun (x : Int32) G1 ad1 => x = -2000000003 ∧ G1 = G ∧ ad1 = ad) := by
  refine dz_ofWH (cc := cL_dispute) (maxL := 2) (ret := (some .int)) (by decide) rfl ?_
  intro p e s m args below meth c s₁ B hml hv
  obtain ⟨rfl, hG, hE⟩ := hv
  have hx := B.exec
  have hb := B.bytes
  have hrt := B.returns
  have hts := atoms_spec (ws := wsL_dispute) B.pre
  have hown : s.vm.findClass RL = some m.cls := findClass_of_methodNamed B.named
  have hS : va_S (dz_A Z) s.heap s.heap [] := va_S.rf
  have hl := lv_entry ([.ref aX]) (n := 2) (Nat.le_of_ble_eq_true rfl)
  rw [lg_entry_eq]
  generalize (lg_sl ([.ref aX]) ++ List.replicate (2 - (lg_sl ([.ref aX])).length) Slot.unset).toArray = ls at hl ⊢
  have hl : lv_has ls 2 [(0, .ref aX)] := hl
  refine lv_aload_n hx hb dL_dispute_0 rfl (lv_at hl 0 rfl) ?_
  refine dz_kX (av := #[]) (vx_runV (As := []) ⟨hx, hb, hml, hown, hts⟩ hM (cwV 0 hts gL_dispute_X8_dispute rfl rfl rfl (by decide +kernel) ⟨Nat.le_refl _, Nat.le_refl _⟩) (dz_P.preV hE hS hG ho rfl ha) rfl rfl hl.1 rfl (lv_room (Nat.le_of_ble_eq_true rfl)) dL_dispute_1 ⟨Nat.le_refl _, Nat.le_refl _⟩) hS (fun E q ce H locs hEx hG hS hce hcv hcl => ?_)
  subst hEx
  refine vx_catch (name := "java/lang/IllegalStateException") hown [] ⟨0, 4, 5, 16⟩ [] ((vx_table (x := yL_dispute) B (hts _ List.mem_cons_self)).trans rfl) (fun z h => absurd h List.not_mem_nil) (by decide) (by decide) (hts _ (List.mem_of_getElem? (i := 1) rfl)) (va_Nw.use rfl (hE.2.2.2.2.2.2.1 ("java/lang/IllegalStateException", "java/lang/IllegalStateException") (by decide +kernel))) hce hcv hcl ?_
  refine lv_astore_n (lv' := [(1, .ref q), (0, .ref aX)]) (pc := 5) hx hb dL_dispute_5 rfl hl (by decide) rfl (fun ls hl => ?_)
  refine lv_ldc hx hb hown (hts _ (List.mem_of_getElem? (i := 2) rfl)) dL_dispute_6 ?_
  refine W.widen (k := 1) (n := 6) (by omega) (by omega) ?_
  refine W.iret hx hb hrt (fun t ht hW => dz_endM (f := rv_i) (-2000000003) hE hS hG ?_ ht hW) (fun q h => hS.2.2 q h) dL_dispute_8
  exact ⟨rfl, rfl, rfl⟩
