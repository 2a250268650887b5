set_option maxHeartbeats 4000000 in
set_option maxRecDepth 100000 in
theorem c_L_mass_W (l : Launch) (Z : dzG) (G : dzW) (ad : dzA) (aX : Nat) (v1 v2 v3 v4 : Int32) (fs : List Value) (fr lo mc ms : Nat) (Po : Int32 → dzW → dzA → Prop) (ha : ad (1, 0) = aX) (ho : G (1, 0) = some (.inr (9, fs))) (hM : dzWr l yX8_mass wsX8_mass fr lo mc ms Z G ad [.ref aX, .int v1, .int v2, .int v3, .int v4] rv_i Po) : dzWr l yL_mass wsL_mass (fr + 1) (8 + (6 + 11) + lo) mc ms Z G ad [.ref aX, .int v1, .int v2, .int v3, .int v4] rv_i (fun (x : Int32) G1 ad1 => Po x G1 ad1) := by
  refine dz_ofWH (cc := cL_mass) (maxL := 6) (ret := (some .int)) (by decide) rfl ?_
  intro p e s m args below meth c s₁ B hml hv
  obtain ⟨rfl, hG, hE⟩ := hv
  have hx := B.exec
  have hb := B.bytes
  have hrt := B.returns
  have hts := atoms_spec (ws := wsL_mass) B.pre
  have hown : s.vm.findClass RL = some m.cls := findClass_of_methodNamed B.named
  have hS : va_S (dz_A Z) s.heap s.heap [] := va_S.rf
  have hl := lv_entry ([.ref aX, .int v1, .int v2, .int v3, .int v4]) (n := 6) (Nat.le_of_ble_eq_true rfl)
  rw [lg_entry_eq]
  generalize (lg_sl ([.ref aX, .int v1, .int v2, .int v3, .int v4]) ++ List.replicate (6 - (lg_sl ([.ref aX, .int v1, .int v2, .int v3, .int v4])).length) Slot.unset).toArray = ls at hl ⊢
  have hl : lv_has ls 6 [(0, .ref aX), (1, .int v1), (2, .int v2), (3, .int v3), (4, .int v4)] := hl
  refine lv_aload_n hx hb dL_mass_0 rfl (lv_at hl 0 rfl) ?_
  refine lv_iload_n hx hb dL_mass_1 rfl (lv_at hl 1 rfl) ?_
  refine lv_iload_n hx hb dL_mass_2 rfl (lv_at hl 2 rfl) ?_
  refine lv_iload_n hx hb dL_mass_3 rfl (lv_at hl 3 rfl) ?_
  refine lv_iload hx hb dL_mass_4 (lv_at hl 4 rfl) ?_
  refine dz_kMi (va_runV (As := [_, _, _, _]) ⟨hx, hb, hml, hown, hts⟩ hM (cwV 4 hts gL_mass_X8_mass rfl rfl rfl (by decide +kernel) ⟨Nat.le_refl _, Nat.le_refl _⟩) (dz_P.preV hE hS hG ho rfl ha) rfl rfl hl.1 rfl (lv_room (Nat.le_of_ble_eq_true rfl)) dL_mass_6 ⟨Nat.le_of_eq (Nat.zero_add mc), Nat.le_of_eq (Nat.zero_add ms)⟩) hS (fun y G2 ad2 H locs hp hG hS => ?_)
  refine W.widen (k := mc) (n := ms) (by omega) (by omega) ?_
  refine W.iret hx hb hrt (fun t ht hW => dz_endM (f := rv_i) y hE hS hG ?_ ht hW) (fun q h => hS.2.2 q h) dL_mass_9
  exact hp
set_option maxHeartbeats 4000000 in
set_option maxRecDepth 100000 in
theorem c_L_mass_R (l : Launch) (Z : dzG) (G : dzW) (ad : dzA) (aX : Nat) (v1 v2 v3 v4 : Int32) (fs : List Value) (fr lo : Nat) (v : Int32) (ha : ad (1, 0) = aX) (ho : G (1, 0) = some (.inr (9, fs))) (hM : dzRd l yX8_mass wsX8_mass fr lo Z G ad [.ref aX, .int v1, .int v2, .int v3, .int v4] (some (.int v))) : dzRd l yL_mass wsL_mass (fr + 1) (8 + (6 + 11) + lo) Z G ad [.ref aX, .int v1, .int v2, .int v3, .int v4] (some (.int v)) := by
  refine dz_ofWH (cc := cL_mass) (maxL := 6) (ret := (some .int)) (by decide) rfl ?_
  intro p e s m args below meth c s₁ B hml hv
  obtain ⟨rfl, hG, hE⟩ := hv
  have hx := B.exec
  have hb := B.bytes
  have hrt := B.returns
  have hts := atoms_spec (ws := wsL_mass) B.pre
  have hown : s.vm.findClass RL = some m.cls := findClass_of_methodNamed B.named
  have hS : va_S (dz_A Z) s.heap s.heap [] := va_S.rf
  have hl := lv_entry ([.ref aX, .int v1, .int v2, .int v3, .int v4]) (n := 6) (Nat.le_of_ble_eq_true rfl)
  rw [lg_entry_eq]
  generalize (lg_sl ([.ref aX, .int v1, .int v2, .int v3, .int v4]) ++ List.replicate (6 - (lg_sl ([.ref aX, .int v1, .int v2, .int v3, .int v4])).length) Slot.unset).toArray = ls at hl ⊢
  have hl : lv_has ls 6 [(0, .ref aX), (1, .int v1), (2, .int v2), (3, .int v3), (4, .int v4)] := hl
  refine lv_aload_n hx hb dL_mass_0 rfl (lv_at hl 0 rfl) ?_
  refine lv_iload_n hx hb dL_mass_1 rfl (lv_at hl 1 rfl) ?_
  refine lv_iload_n hx hb dL_mass_2 rfl (lv_at hl 2 rfl) ?_
  refine lv_iload_n hx hb dL_mass_3 rfl (lv_at hl 3 rfl) ?_
  refine lv_iload hx hb dL_mass_4 (lv_at hl 4 rfl) ?_
  refine dz_kRi (va_runV (As := [_, _, _, _]) ⟨hx, hb, hml, hown, hts⟩ hM (cwV 4 hts gL_mass_X8_mass rfl rfl rfl (by decide +kernel) ⟨Nat.le_refl _, Nat.le_refl _⟩) (dz_P.preV hE hS hG ho rfl ha) rfl rfl hl.1 rfl (lv_room (Nat.le_of_ble_eq_true rfl)) dL_mass_6 ⟨Nat.le_refl _, Nat.le_refl _⟩) ?_
  refine W.iret hx hb hrt (fun t ht hW => ⟨congrArg (fun x => Outcome.returned (some (Value.int x))) ?_, ht⟩) (fun _ h => by cases h) dL_mass_9
  exact rfl
set_option maxHeartbeats 4000000 in
set_option maxRecDepth 100000 in
theorem c_L_mass_X1 (l : Launch) (Z : dzG) (G : dzW) (ad : dzA) (aX : Nat) (v1 v2 v3 v4 : Int32) (fs : List Value) (fr lo : Nat) (ha : ad (1, 0) = aX) (ho : G (1, 0) = some (.inr (9, fs))) (hM : vx_Met l yX8_mass wsX8_mass (dz_rm fr lo 1 6) (dz_P Z G ad [.ref aX, .int v1, .int v2, .int v3, .int v4]) (fun _ _ _ _ => False) (dz_XC Z G ad (fun E => E = "java/lang/IllegalArgumentException")) 1 6 (dz_A Z)) : dzWr l yL_mass wsL_mass (fr + 1) (8 + (6 + 11) + lo) 1 6 Z G ad [.ref aX, .int v1, .int v2, .int v3, .int v4] rv_i (fun (x : Int32) G1 ad1 => x = -2000000002 ∧ G1 = G ∧ ad1 = ad) := by
  refine dz_ofWH (cc := cL_mass) (maxL := 6) (ret := (some .int)) (by decide) rfl ?_
  intro p e s m args below meth c s₁ B hml hv
  obtain ⟨rfl, hG, hE⟩ := hv
  have hx := B.exec
  have hb := B.bytes
  have hrt := B.returns
  have hts := atoms_spec (ws := wsL_mass) B.pre
  have hown : s.vm.findClass RL = some m.cls := findClass_of_methodNamed B.named
  have hS : va_S (dz_A Z) s.heap s.heap [] := va_S.rf
  have hl := lv_entry ([.ref aX, .int v1, .int v2, .int v3, .int v4]) (n := 6) (Nat.le_of_ble_eq_true rfl)
  rw [lg_entry_eq]
  generalize (lg_sl ([.ref aX, .int v1, .int v2, .int v3, .int v4]) ++ List.replicate (6 - (lg_sl ([.ref aX, .int v1, .int v2, .int v3, .int v4])).length) Slot.unset).toArray = ls at hl ⊢
  have hl : lv_has ls 6 [(0, .ref aX), (1, .int v1), (2, .int v2), (3, .int v3), (4, .int v4)] := hl
  refine lv_aload_n hx hb dL_mass_0 rfl (lv_at hl 0 rfl) ?_
  refine lv_iload_n hx hb dL_mass_1 rfl (lv_at hl 1 rfl) ?_
  refine lv_iload_n hx hb dL_mass_2 rfl (lv_at hl 2 rfl) ?_
  refine lv_iload_n hx hb dL_mass_3 rfl (lv_at hl 3 rfl) ?_
  refine lv_iload hx hb dL_mass_4 (lv_at hl 4 rfl) ?_
  refine dz_kX (av := #[]) (vx_runV (As := [_, _, _, _]) ⟨hx, hb, hml, hown, hts⟩ hM (cwV 4 hts gL_mass_X8_mass rfl rfl rfl (by decide +kernel) ⟨Nat.le_refl _, Nat.le_refl _⟩) (dz_P.preV hE hS hG ho rfl ha) rfl rfl hl.1 rfl (lv_room (Nat.le_of_ble_eq_true rfl)) dL_mass_6 ⟨Nat.le_refl _, Nat.le_refl _⟩) hS (fun E q ce H locs hEx hG hS hce hcv hcl => ?_)
  subst hEx
  refine vx_catch (name := "java/lang/IllegalArgumentException") hown [] ⟨0, 9, 10, 13⟩ [⟨0, 9, 15, 16⟩] ((vx_table (x := yL_mass) B (hts _ List.mem_cons_self)).trans rfl) (fun z h => absurd h List.not_mem_nil) (by decide) (by decide) (hts _ (List.mem_of_getElem? (i := 1) rfl)) (va_Nw.use rfl (hE.2.2.2.2.2.2.1 ("java/lang/IllegalArgumentException", "java/lang/IllegalArgumentException") (by decide +kernel))) hce hcv hcl ?_
  refine lv_astore (lv' := [(5, .ref q), (0, .ref aX), (1, .int v1), (2, .int v2), (3, .int v3), (4, .int v4)]) (pc := 10) hx hb dL_mass_10 hl (by decide) rfl (fun ls hl => ?_)
  refine lv_ldc hx hb hown (hts _ (List.mem_of_getElem? (i := 3) rfl)) dL_mass_12 ?_
  refine W.widen (k := 1) (n := 6) (by omega) (by omega) ?_
  refine W.iret hx hb hrt (fun t ht hW => dz_endM (f := rv_i) (-2000000002) hE hS hG ?_ ht hW) (fun q h => hS.2.2 q h) dL_mass_14
  exact ⟨rfl, rfl, rfl⟩
set_option maxHeartbeats 4000000 in
set_option maxRecDepth 100000 in
theorem c_L_mass_X2 (l : Launch) (Z : dzG) (G : dzW) (ad : dzA) (aX : Nat) (v1 v2 v3 v4 : Int32) (fs : List Value) (fr lo : Nat) (ha : ad (1, 0) = aX) (ho : G (1, 0) = some (.inr (9, fs))) (hM : vx_Met l yX8_mass wsX8_mass (dz_rm fr lo 1 6) (dz_P Z G ad [.ref aX, .int v1, .int v2, .int v3, .int v4]) (fun _ _ _ _ => False) (dz_XC Z G ad (fun E => E = "java/lang/IllegalStateException")) 1 6 (dz_A Z)) : dzWr l yL_mass wsL_mass (fr + 1) (8 + (6 + 11) + lo) 1 6 Z G ad [.ref aX, .int v1, .int v2, .int v3, .int v4] rv_i (fun (x : Int32) G1 ad1 => x = -2000000003 ∧ G1 = G ∧ ad1 = ad) := by
  refine dz_ofWH (cc := cL_mass) (maxL := 6) (ret := (some .int)) (by decide) rfl ?_
  intro p e s m args below meth c s₁ B hml hv
  obtain ⟨rfl, hG, hE⟩ := hv
  have hx := B.exec
  have hb := B.bytes
  have hrt := B.returns
  have hts := atoms_spec (ws := wsL_mass) B.pre
  have hown : s.vm.findClass RL = some m.cls := findClass_of_methodNamed B.named
  have hS : va_S (dz_A Z) s.heap s.heap [] := va_S.rf
  have hl := lv_entry ([.ref aX, .int v1, .int v2, .int v3, .int v4]) (n := 6) (Nat.le_of_ble_eq_true rfl)
  rw [lg_entry_eq]
  generalize (lg_sl ([.ref aX, .int v1, .int v2, .int v3, .int v4]) ++ List.replicate (6 - (lg_sl ([.ref aX, .int v1, .int v2, .int v3, .int v4])).length) Slot.unset).toArray = ls at hl ⊢
  have hl : lv_has ls 6 [(0, .ref aX), (1, .int v1), (2, .int v2), (3, .int v3), (4, .int v4)] := hl
  refine lv_aload_n hx hb dL_mass_0 rfl (lv_at hl 0 rfl) ?_
  refine lv_iload_n hx hb dL_mass_1 rfl (lv_at hl 1 rfl) ?_
  refine lv_iload_n hx hb dL_mass_2 rfl (lv_at hl 2 rfl) ?_
  refine lv_iload_n hx hb dL_mass_3 rfl (lv_at hl 3 rfl) ?_
  refine lv_iload hx hb dL_mass_4 (lv_at hl 4 rfl) ?_
  refine dz_kX (av := #[]) (vx_runV (As := [_, _, _, _]) ⟨hx, hb, hml, hown, hts⟩ hM (cwV 4 hts gL_mass_X8_mass rfl rfl rfl (by decide +kernel) ⟨Nat.le_refl _, Nat.le_refl _⟩) (dz_P.preV hE hS hG ho rfl ha) rfl rfl hl.1 rfl (lv_room (Nat.le_of_ble_eq_true rfl)) dL_mass_6 ⟨Nat.le_refl _, Nat.le_refl _⟩) hS (fun E q ce H locs hEx hG hS hce hcv hcl => ?_)
  subst hEx
  refine vx_catch (name := "java/lang/IllegalStateException") hown [⟨0, 9, 10, 13⟩] ⟨0, 9, 15, 16⟩ [] ((vx_table (x := yL_mass) B (hts _ List.mem_cons_self)).trans rfl) (List.forall_mem_cons.mpr ⟨Or.inr ⟨by decide, "java/lang/IllegalArgumentException", (hts _ (List.mem_of_getElem? (i := 1) rfl)), hE.2.2.2.2.2.2.2.2.2.2.2.1 ("java/lang/IllegalStateException", "java/lang/IllegalArgumentException") (by decide +kernel)⟩, (fun z h => absurd h List.not_mem_nil)⟩) (by decide) (by decide) (hts _ (List.mem_of_getElem? (i := 2) rfl)) (va_Nw.use rfl (hE.2.2.2.2.2.2.1 ("java/lang/IllegalStateException", "java/lang/IllegalStateException") (by decide +kernel))) hce hcv hcl ?_
  refine lv_astore (lv' := [(5, .ref q), (0, .ref aX), (1, .int v1), (2, .int v2), (3, .int v3), (4, .int v4)]) (pc := 15) hx hb dL_mass_15 hl (by decide) rfl (fun ls hl => ?_)
  refine lv_ldc hx hb hown (hts _ (List.mem_of_getElem? (i := 4) rfl)) dL_mass_17 ?_
  refine W.widen (k := 1) (n := 6) (by omega) (by omega) ?_
  refine W.iret hx hb hrt (fun t ht hW => dz_endM (f := rv_i) (-2000000003) hE hS hG ?_ ht hW) (fun q h => hS.2.2 q h) dL_mass_19
  exact ⟨rfl, rfl, rfl⟩

set_option maxHeartbeats 4000000 in
set_option maxRecDepth 100000 in
theorem c_L_two_W (l : Launch) (Z : dzG) (G : dzW) (ad : dzA) (aX : Nat) (v1 v2 v3 : Int32) (fs : List Value) (fr lo mc ms : Nat) (Po : Int32 → dzW → dzA → Prop) (ha : ad (1, 0) = aX) (ho : G (1, 0) = some (.inr (9, fs))) (hM : dzWr l yX8_two wsX8_two fr lo mc ms Z G ad [.ref aX, .int v1, .int v2, .int v3] rv_i Po) : dzWr l yL_two wsL_two (fr + 1) (8 + (6 + 11) + lo) mc ms Z G ad [.ref aX, .int v1, .int v2, .int v3] rv_i (fun (x : Int32) G1 ad1 => Po x G1 ad1) := by
  refine dz_ofWH (cc := cL_two) (maxL := 5) (ret := (some .int)) (by decide) rfl ?_
  intro p e s m args below meth c s₁ B hml hv
  obtain ⟨rfl, hG, hE⟩ := hv
  have hx := B.exec
  have hb := B.bytes
  have hrt := B.returns
  have hts := atoms_spec (ws := wsL_two) B.pre
  have hown : s.vm.findClass RL = some m.cls := findClass_of_methodNamed B.named
  have hS : va_S (dz_A Z) s.heap s.heap [] := va_S.rf
  have hl := lv_entry ([.ref aX, .int v1, .int v2, .int v3]) (n := 5) (Nat.le_of_ble_eq_true rfl)
  rw [lg_entry_eq]
  generalize (lg_sl ([.ref aX, .int v1, .int v2, .int v3]) ++ List.replicate (5 - (lg_sl ([.ref aX, .int v1, .int v2, .int v3])).length) Slot.unset).toArray = ls at hl ⊢
  have hl : lv_has ls 5 [(0, .ref aX), (1, .int v1), (2, .int v2), (3, .int v3)] := hl
  refine lv_aload_n hx hb dL_two_0 rfl (lv_at hl 0 rfl) ?_
  refine lv_iload_n hx hb dL_two_1 rfl (lv_at hl 1 rfl) ?_
  refine lv_iload_n hx hb dL_two_2 rfl (lv_at hl 2 rfl) ?_
  refine lv_iload_n hx hb dL_two_3 rfl (lv_at hl 3 rfl) ?_
  refine dz_kMi (va_runV (As := [_, _, _]) ⟨hx, hb, hml, hown, hts⟩ hM (cwV 3 hts gL_two_X8_two rfl rfl rfl (by decide +kernel) ⟨Nat.le_refl _, Nat.le_refl _⟩) (dz_P.preV hE hS hG ho rfl ha) rfl rfl hl.1 rfl (lv_room (Nat.le_of_ble_eq_true rfl)) dL_two_4 ⟨Nat.le_of_eq (Nat.zero_add mc), Nat.le_of_eq (Nat.zero_add ms)⟩) hS (fun y G2 ad2 H locs hp hG hS => ?_)
  refine W.widen (k := mc) (n := ms) (by omega) (by omega) ?_
  refine W.iret hx hb hrt (fun t ht hW => dz_endM (f := rv_i) y hE hS hG ?_ ht hW) (fun q h => hS.2.2 q h) dL_two_7
  exact hp
set_option maxHeartbeats 4000000 in
set_option maxRecDepth 100000 in
theorem c_L_two_R (l : Launch) (Z : dzG) (G : dzW) (ad : dzA) (aX : Nat) (v1 v2 v3 : Int32) (fs : List Value) (fr lo : Nat) (v : Int32) (ha : ad (1, 0) = aX) (ho : G (1, 0) = some (.inr (9, fs))) (hM : dzRd l yX8_two wsX8_two fr lo Z G ad [.ref aX, .int v1, .int v2, .int v3] (some (.int v))) : dzRd l yL_two wsL_two (fr + 1) (8 + (6 + 11) + lo) Z G ad [.ref aX, .int v1, .int v2, .int v3] (some (.int v)) := by
  refine dz_ofWH (cc := cL_two) (maxL := 5) (ret := (some .int)) (by decide) rfl ?_
  intro p e s m args below meth c s₁ B hml hv
  obtain ⟨rfl, hG, hE⟩ := hv
  have hx := B.exec
  have hb := B.bytes
  have hrt := B.returns
  have hts := atoms_spec (ws := wsL_two) B.pre
  have hown : s.vm.findClass RL = some m.cls := findClass_of_methodNamed B.named
  have hS : va_S (dz_A Z) s.heap s.heap [] := va_S.rf
  have hl := lv_entry ([.ref aX, .int v1, .int v2, .int v3]) (n := 5) (Nat.le_of_ble_eq_true rfl)
  rw [lg_entry_eq]
  generalize (lg_sl ([.ref aX, .int v1, .int v2, .int v3]) ++ List.replicate (5 - (lg_sl ([.ref aX, .int v1, .int v2, .int v3])).length) Slot.unset).toArray = ls at hl ⊢
  have hl : lv_has ls 5 [(0, .ref aX), (1, .int v1), (2, .int v2), (3, .int v3)] := hl
  refine lv_aload_n hx hb dL_two_0 rfl (lv_at hl 0 rfl) ?_
  refine lv_iload_n hx hb dL_two_1 rfl (lv_at hl 1 rfl) ?_
  refine lv_iload_n hx hb dL_two_2 rfl (lv_at hl 2 rfl) ?_
  refine lv_iload_n hx hb dL_two_3 rfl (lv_at hl 3 rfl) ?_
  refine dz_kRi (va_runV (As := [_, _, _]) ⟨hx, hb, hml, hown, hts⟩ hM (cwV 3 hts gL_two_X8_two rfl rfl rfl (by decide +kernel) ⟨Nat.le_refl _, Nat.le_refl _⟩) (dz_P.preV hE hS hG ho rfl ha) rfl rfl hl.1 rfl (lv_room (Nat.le_of_ble_eq_true rfl)) dL_two_4 ⟨Nat.le_refl _, Nat.le_refl _⟩) ?_
  refine W.iret hx hb hrt (fun t ht hW => ⟨congrArg (fun x => Outcome.returned (some (Value.int x))) ?_, ht⟩) (fun _ h => by cases h) dL_two_7
  exact rfl
set_option maxHeartbeats 4000000 in
set_option maxRecDepth 100000 in
theorem c_L_two_X1 (l : Launch) (Z : dzG) (G : dzW) (ad : dzA) (aX : Nat) (v1 v2 v3 : Int32) (fs : List Value) (fr lo : Nat) (ha : ad (1, 0) = aX) (ho : G (1, 0) = some (.inr (9, fs))) (hM : vx_Met l yX8_two wsX8_two (dz_rm fr lo 1 6) (dz_P Z G ad [.ref aX, .int v1, .int v2, .int v3]) (fun _ _ _ _ => False) (dz_XC Z G ad (fun E => E = "java/lang/IndexOutOfBoundsException")) 1 6 (dz_A Z)) : dzWr l yL_two wsL_two (fr + 1) (8 + (6 + 11) + lo) 1 6 Z G ad [.ref aX, .int v1, .int v2, .int v3] rv_i (fun (x : Int32) G1 ad1 => x = -2000000001 ∧ G1 = G ∧ ad1 = ad) := by
  refine dz_ofWH (cc := cL_two) (maxL := 5) (ret := (some .int)) (by decide) rfl ?_
  intro p e s m args below meth c s₁ B hml hv
  obtain ⟨rfl, hG, hE⟩ := hv
  have hx := B.exec
  have hb := B.bytes
  have hrt := B.returns
  have hts := atoms_spec (ws := wsL_two) B.pre
  have hown : s.vm.findClass RL = some m.cls := findClass_of_methodNamed B.named
  have hS : va_S (dz_A Z) s.heap s.heap [] := va_S.rf
  have hl := lv_entry ([.ref aX, .int v1, .int v2, .int v3]) (n := 5) (Nat.le_of_ble_eq_true rfl)
  rw [lg_entry_eq]
  generalize (lg_sl ([.ref aX, .int v1, .int v2, .int v3]) ++ List.replicate (5 - (lg_sl ([.ref aX, .int v1, .int v2, .int v3])).length) Slot.unset).toArray = ls at hl ⊢
  have hl : lv_has ls 5 [(0, .ref aX), (1, .int v1), (2, .int v2), (3, .int v3)] := hl
  refine lv_aload_n hx hb dL_two_0 rfl (lv_at hl 0 rfl) ?_
  refine lv_iload_n hx hb dL_two_1 rfl (lv_at hl 1 rfl) ?_
  refine lv_iload_n hx hb dL_two_2 rfl (lv_at hl 2 rfl) ?_
  refine lv_iload_n hx hb dL_two_3 rfl (lv_at hl 3 rfl) ?_
  refine dz_kX (av := #[]) (vx_runV (As := [_, _, _]) ⟨hx, hb, hml, hown, hts⟩ hM (cwV 3 hts gL_two_X8_two rfl rfl rfl (by decide +kernel) ⟨Nat.le_refl _, Nat.le_refl _⟩) (dz_P.preV hE hS hG ho rfl ha) rfl rfl hl.1 rfl (lv_room (Nat.le_of_ble_eq_true rfl)) dL_two_4 ⟨Nat.le_refl _, Nat.le_refl _⟩) hS (fun E q ce H locs hEx hG hS hce hcv hcl => ?_)
  subst hEx
  refine vx_catch (name := "java/lang/IndexOutOfBoundsException") hown [] ⟨0, 7, 8, 23⟩ [⟨0, 7, 13, 13⟩, ⟨0, 7, 18, 16⟩] ((vx_table (x := yL_two) B (hts _ List.mem_cons_self)).trans rfl) (fun z h => absurd h List.not_mem_nil) (by decide) (by decide) (hts _ (List.mem_of_getElem? (i := 1) rfl)) (va_Nw.use rfl (hE.2.2.2.2.2.2.1 ("java/lang/IndexOutOfBoundsException", "java/lang/IndexOutOfBoundsException") (by decide +kernel))) hce hcv hcl ?_
  refine lv_astore (lv' := [(4, .ref q), (0, .ref aX), (1, .int v1), (2, .int v2), (3, .int v3)]) (pc := 8) hx hb dL_two_8 hl (by decide) rfl (fun ls hl => ?_)
  refine lv_ldc hx hb hown (hts _ (List.mem_of_getElem? (i := 4) rfl)) dL_two_10 ?_
  refine W.widen (k := 1) (n := 6) (by omega) (by omega) ?_
  refine W.iret hx hb hrt (fun t ht hW => dz_endM (f := rv_i) (-2000000001) hE hS hG ?_ ht hW) (fun q h => hS.2.2 q h) dL_two_12
  exact ⟨rfl, rfl, rfl⟩
set_option maxHeartbeats 4000000 in
set_option maxRecDepth 100000 in
theorem c_L_two_X2 (l : Launch) (Z : dzG) (G : dzW) (ad : dzA) (aX : Nat) (v1 v2 v3 : Int32) (fs : List Value) (fr lo : Nat) (ha : ad (1, 0) = aX) (ho : G (1, 0) = some (.inr (9, fs))) (hM : vx_Met l yX8_two wsX8_two (dz_rm fr lo 1 6) (dz_P Z G ad [.ref aX, .int v1, .int v2, .int v3]) (fun _ _ _ _ => False) (dz_XC Z G ad (fun E => E = "java/lang/IllegalArgumentException")) 1 6 (dz_A Z)) : dzWr l yL_two wsL_two (fr + 1) (8 + (6 + 11) + lo) 1 6 Z G ad [.ref aX, .int v1, .int v2, .int v3] rv_i (fun (x : Int32) G1 ad1 => x = -2000000002 ∧ G1 = G ∧ ad1 = ad) := by
  refine dz_ofWH (cc := cL_two) (maxL := 5) (ret := (some .int)) (by decide) rfl ?_
  intro p e s m args below meth c s₁ B hml hv
  obtain ⟨rfl, hG, hE⟩ := hv
  have hx := B.exec
  have hb := B.bytes
  have hrt := B.returns
  have hts := atoms_spec (ws := wsL_two) B.pre
  have hown : s.vm.findClass RL = some m.cls := findClass_of_methodNamed B.named
  have hS : va_S (dz_A Z) s.heap s.heap [] := va_S.rf
  have hl := lv_entry ([.ref aX, .int v1, .int v2, .int v3]) (n := 5) (Nat.le_of_ble_eq_true rfl)
  rw [lg_entry_eq]
  generalize (lg_sl ([.ref aX, .int v1, .int v2, .int v3]) ++ List.replicate (5 - (lg_sl ([.ref aX, .int v1, .int v2, .int v3])).length) Slot.unset).toArray = ls at hl ⊢
  have hl : lv_has ls 5 [(0, .ref aX), (1, .int v1), (2, .int v2), (3, .int v3)] := hl
  refine lv_aload_n hx hb dL_two_0 rfl (lv_at hl 0 rfl) ?_
  refine lv_iload_n hx hb dL_two_1 rfl (lv_at hl 1 rfl) ?_
  refine lv_iload_n hx hb dL_two_2 rfl (lv_at hl 2 rfl) ?_
  refine lv_iload_n hx hb dL_two_3 rfl (lv_at hl 3 rfl) ?_
  refine dz_kX (av := #[]) (vx_runV (As := [_, _, _]) ⟨hx, hb, hml, hown, hts⟩ hM (cwV 3 hts gL_two_X8_two rfl rfl rfl (by decide +kernel) ⟨Nat.le_refl _, Nat.le_refl _⟩) (dz_P.preV hE hS hG ho rfl ha) rfl rfl hl.1 rfl (lv_room (Nat.le_of_ble_eq_true rfl)) dL_two_4 ⟨Nat.le_refl _, Nat.le_refl _⟩) hS (fun E q ce H locs hEx hG hS hce hcv hcl => ?_)
  subst hEx
  refine vx_catch (name := "java/lang/IllegalArgumentException") hown [⟨0, 7, 8, 23⟩] ⟨0, 7, 13, 13⟩ [⟨0, 7, 18, 16⟩] ((vx_table (x := yL_two) B (hts _ List.mem_cons_self)).trans rfl) (List.forall_mem_cons.mpr ⟨Or.inr ⟨by decide, "java/lang/IndexOutOfBoundsException", (hts _ (List.mem_of_getElem? (i := 1) rfl)), hE.2.2.2.2.2.2.2.2.2.2.2.1 ("java/lang/IllegalArgumentException", "java/lang/IndexOutOfBoundsException") (by decide +kernel)⟩, (fun z h => absurd h List.not_mem_nil)⟩) (by decide) (by decide) (hts _ (List.mem_of_getElem? (i := 2) rfl)) (va_Nw.use rfl (hE.2.2.2.2.2.2.1 ("java/lang/IllegalArgumentException", "java/lang/IllegalArgumentException") (by decide +kernel))) hce hcv hcl ?_
  refine lv_astore (lv' := [(4, .ref q), (0, .ref aX), (1, .int v1), (2, .int v2), (3, .int v3)]) (pc := 13) hx hb dL_two_13 hl (by decide) rfl (fun ls hl => ?_)
  refine lv_ldc hx hb hown (hts _ (List.mem_of_getElem? (i := 5) rfl)) dL_two_15 ?_
  refine W.widen (k := 1) (n := 6) (by omega) (by omega) ?_
  refine W.iret hx hb hrt (fun t ht hW => dz_endM (f := rv_i) (-2000000002) hE hS hG ?_ ht hW) (fun q h => hS.2.2 q h) dL_two_17
  exact ⟨rfl, rfl, rfl⟩
set_option maxHeartbeats 4000000 in
set_option maxRecDepth 100000 in
theorem c_L_two_X3 (l : Launch) (Z : dzG) (G : dzW) (ad : dzA) (aX : Nat) (v1 v2 v3 : Int32) (fs : List Value) (fr lo : Nat) (ha : ad (1, 0) = aX) (ho : G (1, 0) = some (.inr (9, fs))) (hM : vx_Met l yX8_two wsX8_two (dz_rm fr lo 1 6) (dz_P Z G ad [.ref aX, .int v1, .int v2, .int v3]) (fun _ _ _ _ => False) (dz_XC Z G ad (fun E => E = "java/lang/IllegalStateException")) 1 6 (dz_A Z)) : dzWr l yL_two wsL_two (fr + 1) (8 + (6 + 11) + lo) 1 6 Z G ad [.ref aX, .int v1, .int v2, .int v3] rv_i (fun (x : Int32) G1 ad1 => x = -2000000003 ∧ G1 = G ∧ ad1 = ad) := by
  refine dz_ofWH (cc := cL_two) (maxL := 5) (ret := (some .int)) (by decide) rfl ?_
  intro p e s m args below meth c s₁ B hml hv
  obtain ⟨rfl, hG, hE⟩ := hv
  have hx := B.exec
  have hb := B.bytes
  have hrt := B.returns
  have hts := atoms_spec (ws := wsL_two) B.pre
  have hown : s.vm.findClass RL = some m.cls := findClass_of_methodNamed B.named
  have hS : va_S (dz_A Z) s.heap s.heap [] := va_S.rf
  have hl := lv_entry ([.ref aX, .int v1, .int v2, .int v3]) (n := 5) (Nat.le_of_ble_eq_true rfl)
  rw [lg_entry_eq]
  generalize (lg_sl ([.ref aX, .int v1, .int v2, .int v3]) ++ List.replicate (5 - (lg_sl ([.ref aX, .int v1, .int v2, .int v3])).length) Slot.unset).toArray = ls at hl ⊢
  have hl : lv_has ls 5 [(0, .ref aX), (1, .int v1), (2, .int v2), (3, .int v3)] := hl
  refine lv_aload_n hx hb dL_two_0 rfl (lv_at hl 0 rfl) ?_
  refine lv_iload_n hx hb dL_two_1 rfl (lv_at hl 1 rfl) ?_
  refine lv_iload_n hx hb dL_two_2 rfl (lv_at hl 2 rfl) ?_
  refine lv_iload_n hx hb dL_two_3 rfl (lv_at hl 3 rfl) ?_
  refine dz_kX (av := #[]) (vx_runV (As := [_, _, _]) ⟨hx, hb, hml, hown, hts⟩ hM (cwV 3 hts gL_two_X8_two rfl rfl rfl (by decide +kernel) ⟨Nat.le_refl _, Nat.le_refl _⟩) (dz_P.preV hE hS hG ho rfl ha) rfl rfl hl.1 rfl (lv_room (Nat.le_of_ble_eq_true rfl)) dL_two_4 ⟨Nat.le_refl _, Nat.le_refl _⟩) hS (fun E q ce H locs hEx hG hS hce hcv hcl => ?_)
  subst hEx
  refine vx_catch (name := "java/lang/IllegalStateException") hown [⟨0, 7, 8, 23⟩, ⟨0, 7, 13, 13⟩] ⟨0, 7, 18, 16⟩ [] ((vx_table (x := yL_two) B (hts _ List.mem_cons_self)).trans rfl) (List.forall_mem_cons.mpr ⟨Or.inr ⟨by decide, "java/lang/IndexOutOfBoundsException", (hts _ (List.mem_of_getElem? (i := 1) rfl)), hE.2.2.2.2.2.2.2.2.2.2.2.1 ("java/lang/IllegalStateException", "java/lang/IndexOutOfBoundsException") (by decide +kernel)⟩, (List.forall_mem_cons.mpr ⟨Or.inr ⟨by decide, "java/lang/IllegalArgumentException", (hts _ (List.mem_of_getElem? (i := 2) rfl)), hE.2.2.2.2.2.2.2.2.2.2.2.1 ("java/lang/IllegalStateException", "java/lang/IllegalArgumentException") (by decide +kernel)⟩, (fun z h => absurd h List.not_mem_nil)⟩)⟩) (by decide) (by decide) (hts _ (List.mem_of_getElem? (i := 3) rfl)) (va_Nw.use rfl (hE.2.2.2.2.2.2.1 ("java/lang/IllegalStateException", "java/lang/IllegalStateException") (by decide +kernel))) hce hcv hcl ?_
  refine lv_astore (lv' := [(4, .ref q), (0, .ref aX), (1, .int v1), (2, .int v2), (3, .int v3)]) (pc := 18) hx hb dL_two_18 hl (by decide) rfl (fun ls hl => ?_)
  refine lv_ldc hx hb hown (hts _ (List.mem_of_getElem? (i := 6) rfl)) dL_two_20 ?_
  refine W.widen (k := 1) (n := 6) (by omega) (by omega) ?_
  refine W.iret hx hb hrt (fun t ht hW => dz_endM (f := rv_i) (-2000000003) hE hS hG ?_ ht hW) (fun q h => hS.2.2 q h) dL_two_22
  exact ⟨rfl, rfl, rfl⟩

set_option maxHeartbeats 4000000 in
set_option maxRecDepth 100000 in
theorem c_L_source_W (l : Launch) (Z : dzG) (G : dzW) (ad : dzA) (aX : Nat) (v1 v2 v3 : Int32) (fs : List Value) (fr lo mc ms : Nat) (Po : Int32 → dzW → dzA → Prop) (ha : ad (1, 0) = aX) (ho : G (1, 0) = some (.inr (9, fs))) (hM : dzWr l yX8_source wsX8_source fr lo mc ms Z G ad [.ref aX, .int v1, .int v2, .int v3] rv_i Po) : dzWr l yL_source wsL_source (fr + 1) (8 + (5 + 11) + lo) mc ms Z G ad [.ref aX, .int v1, .int v2, .int v3] rv_i (fun (x : Int32) G1 ad1 => Po x G1 ad1) := by
  refine dz_ofWH (cc := cL_source) (maxL := 5) (ret := (some .int)) (by decide) rfl ?_
  intro p e s m args below meth c s₁ B hml hv
  obtain ⟨rfl, hG, hE⟩ := hv
  have hx := B.exec
  have hb := B.bytes
  have hrt := B.returns
  have hts := atoms_spec (ws := wsL_source) B.pre
  have hown : s.vm.findClass RL = some m.cls := findClass_of_methodNamed B.named
  have hS : va_S (dz_A Z) s.heap s.heap [] := va_S.rf
  have hl := lv_entry ([.ref aX, .int v1, .int v2, .int v3]) (n := 5) (Nat.le_of_ble_eq_true rfl)
  rw [lg_entry_eq]
  generalize (lg_sl ([.ref aX, .int v1, .int v2, .int v3]) ++ List.replicate (5 - (lg_sl ([.ref aX, .int v1, .int v2, .int v3])).length) Slot.unset).toArray = ls at hl ⊢
  have hl : lv_has ls 5 [(0, .ref aX), (1, .int v1), (2, .int v2), (3, .int v3)] := hl
  refine lv_aload_n hx hb dL_source_0 rfl (lv_at hl 0 rfl) ?_
  refine lv_iload_n hx hb dL_source_1 rfl (lv_at hl 1 rfl) ?_
  refine lv_iload_n hx hb dL_source_2 rfl (lv_at hl 2 rfl) ?_
  refine lv_iload_n hx hb dL_source_3 rfl (lv_at hl 3 rfl) ?_
  refine dz_kMi (va_runV (As := [_, _, _]) ⟨hx, hb, hml, hown, hts⟩ hM (cwV 3 hts gL_source_X8_source rfl rfl rfl (by decide +kernel) ⟨Nat.le_refl _, Nat.le_refl _⟩) (dz_P.preV hE hS hG ho rfl ha) rfl rfl hl.1 rfl (lv_room (Nat.le_of_ble_eq_true rfl)) dL_source_4 ⟨Nat.le_of_eq (Nat.zero_add mc), Nat.le_of_eq (Nat.zero_add ms)⟩) hS (fun y G2 ad2 H locs hp hG hS => ?_)
  refine W.widen (k := mc) (n := ms) (by omega) (by omega) ?_
  refine W.iret hx hb hrt (fun t ht hW => dz_endM (f := rv_i) y hE hS hG ?_ ht hW) (fun q h => hS.2.2 q h) dL_source_7
  exact hp
set_option maxHeartbeats 4000000 in
set_option maxRecDepth 100000 in
theorem c_L_source_R (l : Launch) (Z : dzG) (G : dzW) (ad : dzA) (aX : Nat) (v1 v2 v3 : Int32) (fs : List Value) (fr lo : Nat) (v : Int32) (ha : ad (1, 0) = aX) (ho : G (1, 0) = some (.inr (9, fs))) (hM : dzRd l yX8_source wsX8_source fr lo Z G ad [.ref aX, .int v1, .int v2, .int v3] (some (.int v))) : dzRd l yL_source wsL_source (fr + 1) (8 + (5 + 11) + lo) Z G ad [.ref aX, .int v1, .int v2, .int v3] (some (.int v)) := by
  refine dz_ofWH (cc := cL_source) (maxL := 5) (ret := (some .int)) (by decide) rfl ?_
  intro p e s m args below meth c s₁ B hml hv
  obtain ⟨rfl, hG, hE⟩ := hv
  have hx := B.exec
  have hb := B.bytes
  have hrt := B.returns
  have hts := atoms_spec (ws := wsL_source) B.pre
  have hown : s.vm.findClass RL = some m.cls := findClass_of_methodNamed B.named
  have hS : va_S (dz_A Z) s.heap s.heap [] := va_S.rf
  have hl := lv_entry ([.ref aX, .int v1, .int v2, .int v3]) (n := 5) (Nat.le_of_ble_eq_true rfl)
  rw [lg_entry_eq]
  generalize (lg_sl ([.ref aX, .int v1, .int v2, .int v3]) ++ List.replicate (5 - (lg_sl ([.ref aX, .int v1, .int v2, .int v3])).length) Slot.unset).toArray = ls at hl ⊢
  have hl : lv_has ls 5 [(0, .ref aX), (1, .int v1), (2, .int v2), (3, .int v3)] := hl
  refine lv_aload_n hx hb dL_source_0 rfl (lv_at hl 0 rfl) ?_
  refine lv_iload_n hx hb dL_source_1 rfl (lv_at hl 1 rfl) ?_
  refine lv_iload_n hx hb dL_source_2 rfl (lv_at hl 2 rfl) ?_
  refine lv_iload_n hx hb dL_source_3 rfl (lv_at hl 3 rfl) ?_
  refine dz_kRi (va_runV (As := [_, _, _]) ⟨hx, hb, hml, hown, hts⟩ hM (cwV 3 hts gL_source_X8_source rfl rfl rfl (by decide +kernel) ⟨Nat.le_refl _, Nat.le_refl _⟩) (dz_P.preV hE hS hG ho rfl ha) rfl rfl hl.1 rfl (lv_room (Nat.le_of_ble_eq_true rfl)) dL_source_4 ⟨Nat.le_refl _, Nat.le_refl _⟩) ?_
  refine W.iret hx hb hrt (fun t ht hW => ⟨congrArg (fun x => Outcome.returned (some (Value.int x))) ?_, ht⟩) (fun _ h => by cases h) dL_source_7
  exact rfl
set_option maxHeartbeats 4000000 in
set_option maxRecDepth 100000 in
theorem c_L_source_X1 (l : Launch) (Z : dzG) (G : dzW) (ad : dzA) (aX : Nat) (v1 v2 v3 : Int32) (fs : List Value) (fr lo : Nat) (ha : ad (1, 0) = aX) (ho : G (1, 0) = some (.inr (9, fs))) (hM : vx_Met l yX8_source wsX8_source (dz_rm fr lo 1 6) (dz_P Z G ad [.ref aX, .int v1, .int v2, .int v3]) (fun _ _ _ _ => False) (dz_XC Z G ad (fun E => E = "java/lang/IllegalArgumentException")) 1 6 (dz_A Z)) : dzWr l yL_source wsL_source (fr + 1) (8 + (5 + 11) + lo) 1 6 Z G ad [.ref aX, .int v1, .int v2, .int v3] rv_i (fun (x : Int32) G1 ad1 => x = -2000000002 ∧ G1 = G ∧ ad1 = ad) := by
  refine dz_ofWH (cc := cL_source) (maxL := 5) (ret := (some .int)) (by decide) rfl ?_
  intro p e s m args below meth c s₁ B hml hv
  obtain ⟨rfl, hG, hE⟩ := hv
  have hx := B.exec
  have hb := B.bytes
  have hrt := B.returns
  have hts := atoms_spec (ws := wsL_source) B.pre
  have hown : s.vm.findClass RL = some m.cls := findClass_of_methodNamed B.named
  have hS : va_S (dz_A Z) s.heap s.heap [] := va_S.rf
  have hl := lv_entry ([.ref aX, .int v1, .int v2, .int v3]) (n := 5) (Nat.le_of_ble_eq_true rfl)
  rw [lg_entry_eq]
  generalize (lg_sl ([.ref aX, .int v1, .int v2, .int v3]) ++ List.replicate (5 - (lg_sl ([.ref aX, .int v1, .int v2, .int v3])).length) Slot.unset).toArray = ls at hl ⊢
  have hl : lv_has ls 5 [(0, .ref aX), (1, .int v1), (2, .int v2), (3, .int v3)] := hl
  refine lv_aload_n hx hb dL_source_0 rfl (lv_at hl 0 rfl) ?_
  refine lv_iload_n hx hb dL_source_1 rfl (lv_at hl 1 rfl) ?_
  refine lv_iload_n hx hb dL_source_2 rfl (lv_at hl 2 rfl) ?_
  refine lv_iload_n hx hb dL_source_3 rfl (lv_at hl 3 rfl) ?_
  refine dz_kX (av := #[]) (vx_runV (As := [_, _, _]) ⟨hx, hb, hml, hown, hts⟩ hM (cwV 3 hts gL_source_X8_source rfl rfl rfl (by decide +kernel) ⟨Nat.le_refl _, Nat.le_refl _⟩) (dz_P.preV hE hS hG ho rfl ha) rfl rfl hl.1 rfl (lv_room (Nat.le_of_ble_eq_true rfl)) dL_source_4 ⟨Nat.le_refl _, Nat.le_refl _⟩) hS (fun E q ce H locs hEx hG hS hce hcv hcl => ?_)
  subst hEx
  refine vx_catch (name := "java/lang/IllegalArgumentException") hown [] ⟨0, 7, 8, 13⟩ [⟨0, 7, 13, 16⟩] ((vx_table (x := yL_source) B (hts _ List.mem_cons_self)).trans rfl) (fun z h => absurd h List.not_mem_nil) (by decide) (by decide) (hts _ (List.mem_of_getElem? (i := 1) rfl)) (va_Nw.use rfl (hE.2.2.2.2.2.2.1 ("java/lang/IllegalArgumentException", "java/lang/IllegalArgumentException") (by decide +kernel))) hce hcv hcl ?_
  refine lv_astore (lv' := [(4, .ref q), (0, .ref aX), (1, .int v1), (2, .int v2), (3, .int v3)]) (pc := 8) hx hb dL_source_8 hl (by decide) rfl (fun ls hl => ?_)
  refine lv_ldc hx hb hown (hts _ (List.mem_of_getElem? (i := 3) rfl)) dL_source_10 ?_
  refine W.widen (k := 1) (n := 6) (by omega) (by omega) ?_
  refine W.iret hx hb hrt (fun t ht hW => dz_endM (f := rv_i) (-2000000002) hE hS hG ?_ ht hW) (fun q h => hS.2.2 q h) dL_source_12
  exact ⟨rfl, rfl, rfl⟩
set_option maxHeartbeats 4000000 in
set_option maxRecDepth 100000 in
theorem c_L_source_X2 (l : Launch) (Z : dzG) (G : dzW) (ad : dzA) (aX : Nat) (v1 v2 v3 : Int32) (fs : List Value) (fr lo : Nat) (ha : ad (1, 0) = aX) (ho : G (1, 0) = some (.inr (9, fs))) (hM : vx_Met l yX8_source wsX8_source (dz_rm fr lo 1 6) (dz_P Z G ad [.ref aX, .int v1, .int v2, .int v3]) (fun _ _ _ _ => False) (dz_XC Z G ad (fun E => E = "java/lang/IllegalStateException")) 1 6 (dz_A Z)) : dzWr l yL_source wsL_source (fr + 1) (8 + (5 + 11) + lo) 1 6 Z G ad [.ref aX, .int v1, .int v2, .int v3] rv_i (fun (x : Int32) G1 ad1 => x = -2000000003 ∧ G1 = G ∧ ad1 = ad) := by
  refine dz_ofWH (cc := cL_source) (maxL := 5) (ret := (some .int)) (by decide) rfl ?_
  intro p e s m args below meth c s₁ B hml hv
  obtain ⟨rfl, hG, hE⟩ := hv
  have hx := B.exec
  have hb := B.bytes
  have hrt := B.returns
  have hts := atoms_spec (ws := wsL_source) B.pre
  have hown : s.vm.findClass RL = some m.cls := findClass_of_methodNamed B.named
  have hS : va_S (dz_A Z) s.heap s.heap [] := va_S.rf
  have hl := lv_entry ([.ref aX, .int v1, .int v2, .int v3]) (n := 5) (Nat.le_of_ble_eq_true rfl)
  rw [lg_entry_eq]
  generalize (lg_sl ([.ref aX, .int v1, .int v2, .int v3]) ++ List.replicate (5 - (lg_sl ([.ref aX, .int v1, .int v2, .int v3])).length) Slot.unset).toArray = ls at hl ⊢
  have hl : lv_has ls 5 [(0, .ref aX), (1, .int v1), (2, .int v2), (3, .int v3)] := hl
  refine lv_aload_n hx hb dL_source_0 rfl (lv_at hl 0 rfl) ?_
  refine lv_iload_n hx hb dL_source_1 rfl (lv_at hl 1 rfl) ?_
  refine lv_iload_n hx hb dL_source_2 rfl (lv_at hl 2 rfl) ?_
  refine lv_iload_n hx hb dL_source_3 rfl (lv_at hl 3 rfl) ?_
  refine dz_kX (av := #[]) (vx_runV (As := [_, _, _]) ⟨hx, hb, hml, hown, hts⟩ hM (cwV 3 hts gL_source_X8_source rfl rfl rfl (by decide +kernel) ⟨Nat.le_refl _, Nat.le_refl _⟩) (dz_P.preV hE hS hG ho rfl ha) rfl rfl hl.1 rfl (lv_room (Nat.le_of_ble_eq_true rfl)) dL_source_4 ⟨Nat.le_refl _, Nat.le_refl _⟩) hS (fun E q ce H locs hEx hG hS hce hcv hcl => ?_)
  subst hEx
  refine vx_catch (name := "java/lang/IllegalStateException") hown [⟨0, 7, 8, 13⟩] ⟨0, 7, 13, 16⟩ [] ((vx_table (x := yL_source) B (hts _ List.mem_cons_self)).trans rfl) (List.forall_mem_cons.mpr ⟨Or.inr ⟨by decide, "java/lang/IllegalArgumentException", (hts _ (List.mem_of_getElem? (i := 1) rfl)), hE.2.2.2.2.2.2.2.2.2.2.2.1 ("java/lang/IllegalStateException", "java/lang/IllegalArgumentException") (by decide +kernel)⟩, (fun z h => absurd h List.not_mem_nil)⟩) (by decide) (by decide) (hts _ (List.mem_of_getElem? (i := 2) rfl)) (va_Nw.use rfl (hE.2.2.2.2.2.2.1 ("java/lang/IllegalStateException", "java/lang/IllegalStateException") (by decide +kernel))) hce hcv hcl ?_
  refine lv_astore (lv' := [(4, .ref q), (0, .ref aX), (1, .int v1), (2, .int v2), (3, .int v3)]) (pc := 13) hx hb dL_source_13 hl (by decide) rfl (fun ls hl => ?_)
  refine lv_ldc hx hb hown (hts _ (List.mem_of_getElem? (i := 4) rfl)) dL_source_15 ?_
  refine W.widen (k := 1) (n := 6) (by omega) (by omega) ?_
  refine W.iret hx hb hrt (fun t ht hW => dz_endM (f := rv_i) (-2000000003) hE hS hG ?_ ht hW) (fun q h => hS.2.2 q h) dL_source_17
  exact ⟨rfl, rfl, rfl⟩

set_option maxHeartbeats 4000000 in
set_option maxRecDepth 100000 in
theorem c_L_flare_W (l : Launch) (Z : dzG) (G : dzW) (ad : dzA) (aX : Nat) (v1 v2 : Int32) (fs : List Value) (fr lo mc ms : Nat) (Po : Int32 → dzW → dzA → Prop) (ha : ad (1, 0) = aX) (ho : G (1, 0) = some (.inr (9, fs))) (hM : dzWr l yX8_flare wsX8_flare fr lo mc ms Z G ad [.ref aX, .int v1, .int v2] rv_i Po) : dzWr l yL_flare wsL_flare (fr + 1) (8 + (4 + 11) + lo) mc ms Z G ad [.ref aX, .int v1, .int v2] rv_i (fun (x : Int32) G1 ad1 => Po x G1 ad1) := by
  refine dz_ofWH (cc := cL_flare) (maxL := 4) (ret := (some .int)) (by decide) rfl ?_
  intro p e s m args below meth c s₁ B hml hv
  obtain ⟨rfl, hG, hE⟩ := hv
  have hx := B.exec
  have hb := B.bytes
  have hrt := B.returns
  have hts := atoms_spec (ws := wsL_flare) B.pre
  have hown : s.vm.findClass RL = some m.cls := findClass_of_methodNamed B.named
  have hS : va_S (dz_A Z) s.heap s.heap [] := va_S.rf
  have hl := lv_entry ([.ref aX, .int v1, .int v2]) (n := 4) (Nat.le_of_ble_eq_true rfl)
  rw [lg_entry_eq]
  generalize (lg_sl ([.ref aX, .int v1, .int v2]) ++ List.replicate (4 - (lg_sl ([.ref aX, .int v1, .int v2])).length) Slot.unset).toArray = ls at hl ⊢
  have hl : lv_has ls 4 [(0, .ref aX), (1, .int v1), (2, .int v2)] := hl
  refine lv_aload_n hx hb dL_flare_0 rfl (lv_at hl 0 rfl) ?_
  refine lv_iload_n hx hb dL_flare_1 rfl (lv_at hl 1 rfl) ?_
  refine lv_iload_n hx hb dL_flare_2 rfl (lv_at hl 2 rfl) ?_
  refine dz_kMi (va_runV (As := [_, _]) ⟨hx, hb, hml, hown, hts⟩ hM (cwV 2 hts gL_flare_X8_flare rfl rfl rfl (by decide +kernel) ⟨Nat.le_refl _, Nat.le_refl _⟩) (dz_P.preV hE hS hG ho rfl ha) rfl rfl hl.1 rfl (lv_room (Nat.le_of_ble_eq_true rfl)) dL_flare_3 ⟨Nat.le_of_eq (Nat.zero_add mc), Nat.le_of_eq (Nat.zero_add ms)⟩) hS (fun y G2 ad2 H locs hp hG hS => ?_)
  refine W.widen (k := mc) (n := ms) (by omega) (by omega) ?_
  refine W.iret hx hb hrt (fun t ht hW => dz_endM (f := rv_i) y hE hS hG ?_ ht hW) (fun q h => hS.2.2 q h) dL_flare_6
  exact hp
set_option maxHeartbeats 4000000 in
set_option maxRecDepth 100000 in
theorem c_L_flare_R (l : Launch) (Z : dzG) (G : dzW) (ad : dzA) (aX : Nat) (v1 v2 : Int32) (fs : List Value) (fr lo : Nat) (v : Int32) (ha : ad (1, 0) = aX) (ho : G (1, 0) = some (.inr (9, fs))) (hM : dzRd l yX8_flare wsX8_flare fr lo Z G ad [.ref aX, .int v1, .int v2] (some (.int v))) : dzRd l yL_flare wsL_flare (fr + 1) (8 + (4 + 11) + lo) Z G ad [.ref aX, .int v1, .int v2] (some (.int v)) := by
  refine dz_ofWH (cc := cL_flare) (maxL := 4) (ret := (some .int)) (by decide) rfl ?_
  intro p e s m args below meth c s₁ B hml hv
  obtain ⟨rfl, hG, hE⟩ := hv
  have hx := B.exec
  have hb := B.bytes
  have hrt := B.returns
  have hts := atoms_spec (ws := wsL_flare) B.pre
  have hown : s.vm.findClass RL = some m.cls := findClass_of_methodNamed B.named
  have hS : va_S (dz_A Z) s.heap s.heap [] := va_S.rf
  have hl := lv_entry ([.ref aX, .int v1, .int v2]) (n := 4) (Nat.le_of_ble_eq_true rfl)
  rw [lg_entry_eq]
  generalize (lg_sl ([.ref aX, .int v1, .int v2]) ++ List.replicate (4 - (lg_sl ([.ref aX, .int v1, .int v2])).length) Slot.unset).toArray = ls at hl ⊢
  have hl : lv_has ls 4 [(0, .ref aX), (1, .int v1), (2, .int v2)] := hl
  refine lv_aload_n hx hb dL_flare_0 rfl (lv_at hl 0 rfl) ?_
  refine lv_iload_n hx hb dL_flare_1 rfl (lv_at hl 1 rfl) ?_
  refine lv_iload_n hx hb dL_flare_2 rfl (lv_at hl 2 rfl) ?_
  refine dz_kRi (va_runV (As := [_, _]) ⟨hx, hb, hml, hown, hts⟩ hM (cwV 2 hts gL_flare_X8_flare rfl rfl rfl (by decide +kernel) ⟨Nat.le_refl _, Nat.le_refl _⟩) (dz_P.preV hE hS hG ho rfl ha) rfl rfl hl.1 rfl (lv_room (Nat.le_of_ble_eq_true rfl)) dL_flare_3 ⟨Nat.le_refl _, Nat.le_refl _⟩) ?_
  refine W.iret hx hb hrt (fun t ht hW => ⟨congrArg (fun x => Outcome.returned (some (Value.int x))) ?_, ht⟩) (fun _ h => by cases h) dL_flare_6
  exact rfl
set_option maxHeartbeats 4000000 in
set_option maxRecDepth 100000 in
theorem c_L_flare_X1 (l : Launch) (Z : dzG) (G : dzW) (ad : dzA) (aX : Nat) (v1 v2 : Int32) (fs : List Value) (fr lo : Nat) (ha : ad (1, 0) = aX) (ho : G (1, 0) = some (.inr (9, fs))) (hM : vx_Met l yX8_flare wsX8_flare (dz_rm fr lo 1 6) (dz_P Z G ad [.ref aX, .int v1, .int v2]) (fun _ _ _ _ => False) (dz_XC Z G ad (fun E => E = "java/lang/IndexOutOfBoundsException")) 1 6 (dz_A Z)) : dzWr l yL_flare wsL_flare (fr + 1) (8 + (4 + 11) + lo) 1 6 Z G ad [.ref aX, .int v1, .int v2] rv_i (fun (x : Int32) G1 ad1 => x = -2000000001 ∧ G1 = G ∧ ad1 = ad) := by
  refine dz_ofWH (cc := cL_flare) (maxL := 4) (ret := (some .int)) (by decide) rfl ?_
  intro p e s m args below meth c s₁ B hml hv
  obtain ⟨rfl, hG, hE⟩ := hv
  have hx := B.exec
  have hb := B.bytes
  have hrt := B.returns
  have hts := atoms_spec (ws := wsL_flare) B.pre
  have hown : s.vm.findClass RL = some m.cls := findClass_of_methodNamed B.named
  have hS : va_S (dz_A Z) s.heap s.heap [] := va_S.rf
  have hl := lv_entry ([.ref aX, .int v1, .int v2]) (n := 4) (Nat.le_of_ble_eq_true rfl)
  rw [lg_entry_eq]
  generalize (lg_sl ([.ref aX, .int v1, .int v2]) ++ List.replicate (4 - (lg_sl ([.ref aX, .int v1, .int v2])).length) Slot.unset).toArray = ls at hl ⊢
  have hl : lv_has ls 4 [(0, .ref aX), (1, .int v1), (2, .int v2)] := hl
  refine lv_aload_n hx hb dL_flare_0 rfl (lv_at hl 0 rfl) ?_
  refine lv_iload_n hx hb dL_flare_1 rfl (lv_at hl 1 rfl) ?_
  refine lv_iload_n hx hb dL_flare_2 rfl (lv_at hl 2 rfl) ?_
  refine dz_kX (av := #[]) (vx_runV (As := [_, _]) ⟨hx, hb, hml, hown, hts⟩ hM (cwV 2 hts gL_flare_X8_flare rfl rfl rfl (by decide +kernel) ⟨Nat.le_refl _, Nat.le_refl _⟩) (dz_P.preV hE hS hG ho rfl ha) rfl rfl hl.1 rfl (lv_room (Nat.le_of_ble_eq_true rfl)) dL_flare_3 ⟨Nat.le_refl _, Nat.le_refl _⟩) hS (fun E q ce H locs hEx hG hS hce hcv hcl => ?_)
  subst hEx
  refine vx_catch (name := "java/lang/IndexOutOfBoundsException") hown [] ⟨0, 6, 7, 23⟩ [⟨0, 6, 11, 13⟩, ⟨0, 6, 15, 16⟩] ((vx_table (x := yL_flare) B (hts _ List.mem_cons_self)).trans rfl) (fun z h => absurd h List.not_mem_nil) (by decide) (by decide) (hts _ (List.mem_of_getElem? (i := 1) rfl)) (va_Nw.use rfl (hE.2.2.2.2.2.2.1 ("java/lang/IndexOutOfBoundsException", "java/lang/IndexOutOfBoundsException") (by decide +kernel))) hce hcv hcl ?_
  refine lv_astore_n (lv' := [(3, .ref q), (0, .ref aX), (1, .int v1), (2, .int v2)]) (pc := 7) hx hb dL_flare_7 rfl hl (by decide) rfl (fun ls hl => ?_)
  refine lv_ldc hx hb hown (hts _ (List.mem_of_getElem? (i := 4) rfl)) dL_flare_8 ?_
  refine W.widen (k := 1) (n := 6) (by omega) (by omega) ?_
  refine W.iret hx hb hrt (fun t ht hW => dz_endM (f := rv_i) (-2000000001) hE hS hG ?_ ht hW) (fun q h => hS.2.2 q h) dL_flare_10
  exact ⟨rfl, rfl, rfl⟩
set_option maxHeartbeats 4000000 in
set_option maxRecDepth 100000 in
theorem c_L_flare_X2 (l : Launch) (Z : dzG) (G : dzW) (ad : dzA) (aX : Nat) (v1 v2 : Int32) (fs : List Value) (fr lo : Nat) (ha : ad (1, 0) = aX) (ho : G (1, 0) = some (.inr (9, fs))) (hM : vx_Met l yX8_flare wsX8_flare (dz_rm fr lo 1 6) (dz_P Z G ad [.ref aX, .int v1, .int v2]) (fun _ _ _ _ => False) (dz_XC Z G ad (fun E => E = "java/lang/IllegalArgumentException")) 1 6 (dz_A Z)) : dzWr l yL_flare wsL_flare (fr + 1) (8 + (4 + 11) + lo) 1 6 Z G ad [.ref aX, .int v1, .int v2] rv_i (fun (x : Int32) G1 ad1 => x = -2000000002 ∧ G1 = G ∧ ad1 = ad) := by
  refine dz_ofWH (cc := cL_flare) (maxL := 4) (ret := (some .int)) (by decide) rfl ?_
  intro p e s m args below meth c s₁ B hml hv
  obtain ⟨rfl, hG, hE⟩ := hv
  have hx := B.exec
  have hb := B.bytes
  have hrt := B.returns
  have hts := atoms_spec (ws := wsL_flare) B.pre
  have hown : s.vm.findClass RL = some m.cls := findClass_of_methodNamed B.named
  have hS : va_S (dz_A Z) s.heap s.heap [] := va_S.rf
  have hl := lv_entry ([.ref aX, .int v1, .int v2]) (n := 4) (Nat.le_of_ble_eq_true rfl)
  rw [lg_entry_eq]
  generalize (lg_sl ([.ref aX, .int v1, .int v2]) ++ List.replicate (4 - (lg_sl ([.ref aX, .int v1, .int v2])).length) Slot.unset).toArray = ls at hl ⊢
  have hl : lv_has ls 4 [(0, .ref aX), (1, .int v1), (2, .int v2)] := hl
  refine lv_aload_n hx hb dL_flare_0 rfl (lv_at hl 0 rfl) ?_
  refine lv_iload_n hx hb dL_flare_1 rfl (lv_at hl 1 rfl) ?_
  refine lv_iload_n hx hb dL_flare_2 rfl (lv_at hl 2 rfl) ?_
  refine dz_kX (av := #[]) (vx_runV (As := [_, _]) ⟨hx, hb, hml, hown, hts⟩ hM (cwV 2 hts gL_flare_X8_flare rfl rfl rfl (by decide +kernel) ⟨Nat.le_refl _, Nat.le_refl _⟩) (dz_P.preV hE hS hG ho rfl ha) rfl rfl hl.1 rfl (lv_room (Nat.le_of_ble_eq_true rfl)) dL_flare_3 ⟨Nat.le_refl _, Nat.le_refl _⟩) hS (fun E q ce H locs hEx hG hS hce hcv hcl => ?_)
  subst hEx
  refine vx_catch (name := "java/lang/IllegalArgumentException") hown [⟨0, 6, 7, 23⟩] ⟨0, 6, 11, 13⟩ [⟨0, 6, 15, 16⟩] ((vx_table (x := yL_flare) B (hts _ List.mem_cons_self)).trans rfl) (List.forall_mem_cons.mpr ⟨Or.inr ⟨by decide, "java/lang/IndexOutOfBoundsException", (hts _ (List.mem_of_getElem? (i := 1) rfl)), hE.2.2.2.2.2.2.2.2.2.2.2.1 ("java/lang/IllegalArgumentException", "java/lang/IndexOutOfBoundsException") (by decide +kernel)⟩, (fun z h => absurd h List.not_mem_nil)⟩) (by decide) (by decide) (hts _ (List.mem_of_getElem? (i := 2) rfl)) (va_Nw.use rfl (hE.2.2.2.2.2.2.1 ("java/lang/IllegalArgumentException", "java/lang/IllegalArgumentException") (by decide +kernel))) hce hcv hcl ?_
  refine lv_astore_n (lv' := [(3, .ref q), (0, .ref aX), (1, .int v1), (2, .int v2)]) (pc := 11) hx hb dL_flare_11 rfl hl (by decide) rfl (fun ls hl => ?_)
  refine lv_ldc hx hb hown (hts _ (List.mem_of_getElem? (i := 5) rfl)) dL_flare_12 ?_
  refine W.widen (k := 1) (n := 6) (by omega) (by omega) ?_
  refine W.iret hx hb hrt (fun t ht hW => dz_endM (f := rv_i) (-2000000002) hE hS hG ?_ ht hW) (fun q h => hS.2.2 q h) dL_flare_14
  exact ⟨rfl, rfl, rfl⟩
set_option maxHeartbeats 4000000 in
set_option maxRecDepth 100000 in
theorem c_L_flare_X3 (l : Launch) (Z : dzG) (G : dzW) (ad : dzA) (aX : Nat) (v1 v2 : Int32) (fs : List Value) (fr lo : Nat) (ha : ad (1, 0) = aX) (ho : G (1, 0) = some (.inr (9, fs))) (hM : vx_Met l yX8_flare wsX8_flare (dz_rm fr lo 1 6) (dz_P Z G ad [.ref aX, .int v1, .int v2]) (fun _ _ _ _ => False) (dz_XC Z G ad (fun E => E = "java/lang/IllegalStateException")) 1 6 (dz_A Z)) : dzWr l yL_flare wsL_flare (fr + 1) (8 + (4 + 11) + lo) 1 6 Z G ad [.ref aX, .int v1, .int v2] rv_i (fun (x : Int32) G1 ad1 => x = -2000000003 ∧ G1 = G ∧ ad1 = ad) := by
  refine dz_ofWH (cc := cL_flare) (maxL := 4) (ret := (some .int)) (by decide) rfl ?_
  intro p e s m args below meth c s₁ B hml hv
  obtain ⟨rfl, hG, hE⟩ := hv
  have hx := B.exec
  have hb := B.bytes
  have hrt := B.returns
  have hts := atoms_spec (ws := wsL_flare) B.pre
  have hown : s.vm.findClass RL = some m.cls := findClass_of_methodNamed B.named
  have hS : va_S (dz_A Z) s.heap s.heap [] := va_S.rf
  have hl := lv_entry ([.ref aX, .int v1, .int v2]) (n := 4) (Nat.le_of_ble_eq_true rfl)
  rw [lg_entry_eq]
  generalize (lg_sl ([.ref aX, .int v1, .int v2]) ++ List.replicate (4 - (lg_sl ([.ref aX, .int v1, .int v2])).length) Slot.unset).toArray = ls at hl ⊢
  have hl : lv_has ls 4 [(0, .ref aX), (1, .int v1), (2, .int v2)] := hl
  refine lv_aload_n hx hb dL_flare_0 rfl (lv_at hl 0 rfl) ?_
  refine lv_iload_n hx hb dL_flare_1 rfl (lv_at hl 1 rfl) ?_
  refine lv_iload_n hx hb dL_flare_2 rfl (lv_at hl 2 rfl) ?_
  refine dz_kX (av := #[]) (vx_runV (As := [_, _]) ⟨hx, hb, hml, hown, hts⟩ hM (cwV 2 hts gL_flare_X8_flare rfl rfl rfl (by decide +kernel) ⟨Nat.le_refl _, Nat.le_refl _⟩) (dz_P.preV hE hS hG ho rfl ha) rfl rfl hl.1 rfl (lv_room (Nat.le_of_ble_eq_true rfl)) dL_flare_3 ⟨Nat.le_refl _, Nat.le_refl _⟩) hS (fun E q ce H locs hEx hG hS hce hcv hcl => ?_)
  subst hEx
  refine vx_catch (name := "java/lang/IllegalStateException") hown [⟨0, 6, 7, 23⟩, ⟨0, 6, 11, 13⟩] ⟨0, 6, 15, 16⟩ [] ((vx_table (x := yL_flare) B (hts _ List.mem_cons_self)).trans rfl) (List.forall_mem_cons.mpr ⟨Or.inr ⟨by decide, "java/lang/IndexOutOfBoundsException", (hts _ (List.mem_of_getElem? (i := 1) rfl)), hE.2.2.2.2.2.2.2.2.2.2.2.1 ("java/lang/IllegalStateException", "java/lang/IndexOutOfBoundsException") (by decide +kernel)⟩, (List.forall_mem_cons.mpr ⟨Or.inr ⟨by decide, "java/lang/IllegalArgumentException", (hts _ (List.mem_of_getElem? (i := 2) rfl)), hE.2.2.2.2.2.2.2.2.2.2.2.1 ("java/lang/IllegalStateException", "java/lang/IllegalArgumentException") (by decide +kernel)⟩, (fun z h => absurd h List.not_mem_nil)⟩)⟩) (by decide) (by decide) (hts _ (List.mem_of_getElem? (i := 3) rfl)) (va_Nw.use rfl (hE.2.2.2.2.2.2.1 ("java/lang/IllegalStateException", "java/lang/IllegalStateException") (by decide +kernel))) hce hcv hcl ?_
  refine lv_astore_n (lv' := [(3, .ref q), (0, .ref aX), (1, .int v1), (2, .int v2)]) (pc := 15) hx hb dL_flare_15 rfl hl (by decide) rfl (fun ls hl => ?_)
  refine lv_ldc hx hb hown (hts _ (List.mem_of_getElem? (i := 6) rfl)) dL_flare_16 ?_
  refine W.widen (k := 1) (n := 6) (by omega) (by omega) ?_
  refine W.iret hx hb hrt (fun t ht hW => dz_endM (f := rv_i) (-2000000003) hE hS hG ?_ ht hW) (fun q h => hS.2.2 q h) dL_flare_18
  exact ⟨rfl, rfl, rfl⟩

set_option maxHeartbeats 4000000 in
set_option maxRecDepth 100000 in
theorem c_L_cross_W (l : Launch) (Z : dzG) (G : dzW) (ad : dzA) (aX : Nat) (v1 v2 v3 v4 : Int32) (fs : List Value) (fr lo mc ms : Nat) (Po : Unit → dzW → dzA → Prop) (ha : ad (1, 0) = aX) (ho : G (1, 0) = some (.inr (9, fs))) (hM : dzWr l yX8_cross wsX8_cross fr lo mc ms Z G ad [.ref aX, .int v1, .int v2, .int v3, .int v4] rv_v Po) : dzWr l yL_cross wsL_cross (fr + 1) (8 + (6 + 11) + lo) mc ms Z G ad [.ref aX, .int v1, .int v2, .int v3, .int v4] rv_i (fun (x : Int32) G1 ad1 => x = 0 ∧ Po () G1 ad1) := by
  refine dz_ofWH (cc := cL_cross) (maxL := 6) (ret := (some .int)) (by decide) rfl ?_
  intro p e s m args below meth c s₁ B hml hv
  obtain ⟨rfl, hG, hE⟩ := hv
  have hx := B.exec
  have hb := B.bytes
  have hrt := B.returns
  have hts := atoms_spec (ws := wsL_cross) B.pre
  have hown : s.vm.findClass RL = some m.cls := findClass_of_methodNamed B.named
  have hS : va_S (dz_A Z) s.heap s.heap [] := va_S.rf
  have hl := lv_entry ([.ref aX, .int v1, .int v2, .int v3, .int v4]) (n := 6) (Nat.le_of_ble_eq_true rfl)
  rw [lg_entry_eq]
  generalize (lg_sl ([.ref aX, .int v1, .int v2, .int v3, .int v4]) ++ List.replicate (6 - (lg_sl ([.ref aX, .int v1, .int v2, .int v3, .int v4])).length) Slot.unset).toArray = ls at hl ⊢
  have hl : lv_has ls 6 [(0, .ref aX), (1, .int v1), (2, .int v2), (3, .int v3), (4, .int v4)] := hl
  refine lv_aload_n hx hb dL_cross_0 rfl (lv_at hl 0 rfl) ?_
  refine lv_iload_n hx hb dL_cross_1 rfl (lv_at hl 1 rfl) ?_
  refine lv_iload_n hx hb dL_cross_2 rfl (lv_at hl 2 rfl) ?_
  refine lv_iload_n hx hb dL_cross_3 rfl (lv_at hl 3 rfl) ?_
  refine lv_iload hx hb dL_cross_4 (lv_at hl 4 rfl) ?_
  refine dz_kMv (va_runV (As := [_, _, _, _]) ⟨hx, hb, hml, hown, hts⟩ hM (cwV 4 hts gL_cross_X8_cross rfl rfl rfl (by decide +kernel) ⟨Nat.le_refl _, Nat.le_refl _⟩) (dz_P.preV hE hS hG ho rfl ha) rfl rfl hl.1 rfl (lv_room (Nat.le_of_ble_eq_true rfl)) dL_cross_6 ⟨Nat.le_of_eq (Nat.zero_add mc), Nat.le_of_eq (Nat.zero_add ms)⟩) hS (fun G2 ad2 H locs hp hG hS => ?_)
  refine lv_iconst (v := 0) hx hb dL_cross_9 (by decide) ?_
  refine W.widen (k := mc) (n := ms) (by omega) (by omega) ?_
  refine W.iret hx hb hrt (fun t ht hW => dz_endM (f := rv_i) 0 hE hS hG ?_ ht hW) (fun q h => hS.2.2 q h) dL_cross_10
  exact ⟨rfl, hp⟩
set_option maxHeartbeats 4000000 in
set_option maxRecDepth 100000 in
theorem c_L_cross_X1 (l : Launch) (Z : dzG) (G : dzW) (ad : dzA) (aX : Nat) (v1 v2 v3 v4 : Int32) (fs : List Value) (fr lo : Nat) (ha : ad (1, 0) = aX) (ho : G (1, 0) = some (.inr (9, fs))) (hM : vx_Met l yX8_cross wsX8_cross (dz_rm fr lo 1 6) (dz_P Z G ad [.ref aX, .int v1, .int v2, .int v3, .int v4]) (fun _ _ _ _ => False) (dz_XC Z G ad (fun E => E = "java/lang/IndexOutOfBoundsException")) 1 6 (dz_A Z)) : dzWr l yL_cross wsL_cross (fr + 1) (8 + (6 + 11) + lo) 1 6 Z G ad [.ref aX, .int v1, .int v2, .int v3, .int v4] rv_i (fun (x : Int32) G1 ad1 => x = -2000000001 ∧ G1 = G ∧ ad1 = ad) := by
  refine dz_ofWH (cc := cL_cross) (maxL := 6) (ret := (some .int)) (by decide) rfl ?_
  intro p e s m args below meth c s₁ B hml hv
  obtain ⟨rfl, hG, hE⟩ := hv
  have hx := B.exec
  have hb := B.bytes
  have hrt := B.returns
  have hts := atoms_spec (ws := wsL_cross) B.pre
  have hown : s.vm.findClass RL = some m.cls := findClass_of_methodNamed B.named
  have hS : va_S (dz_A Z) s.heap s.heap [] := va_S.rf
  have hl := lv_entry ([.ref aX, .int v1, .int v2, .int v3, .int v4]) (n := 6) (Nat.le_of_ble_eq_true rfl)
  rw [lg_entry_eq]
  generalize (lg_sl ([.ref aX, .int v1, .int v2, .int v3, .int v4]) ++ List.replicate (6 - (lg_sl ([.ref aX, .int v1, .int v2, .int v3, .int v4])).length) Slot.unset).toArray = ls at hl ⊢
  have hl : lv_has ls 6 [(0, .ref aX), (1, .int v1), (2, .int v2), (3, .int v3), (4, .int v4)] := hl
  refine lv_aload_n hx hb dL_cross_0 rfl (lv_at hl 0 rfl) ?_
  refine lv_iload_n hx hb dL_cross_1 rfl (lv_at hl 1 rfl) ?_
  refine lv_iload_n hx hb dL_cross_2 rfl (lv_at hl 2 rfl) ?_
  refine lv_iload_n hx hb dL_cross_3 rfl (lv_at hl 3 rfl) ?_
  refine lv_iload hx hb dL_cross_4 (lv_at hl 4 rfl) ?_
  refine dz_kX (av := #[]) (vx_runV (As := [_, _, _, _]) ⟨hx, hb, hml, hown, hts⟩ hM (cwV 4 hts gL_cross_X8_cross rfl rfl rfl (by decide +kernel) ⟨Nat.le_refl _, Nat.le_refl _⟩) (dz_P.preV hE hS hG ho rfl ha) rfl rfl hl.1 rfl (lv_room (Nat.le_of_ble_eq_true rfl)) dL_cross_6 ⟨Nat.le_refl _, Nat.le_refl _⟩) hS (fun E q ce H locs hEx hG hS hce hcv hcl => ?_)
  subst hEx
  refine vx_catch (name := "java/lang/IndexOutOfBoundsException") hown [] ⟨0, 10, 11, 23⟩ [⟨0, 10, 16, 13⟩, ⟨0, 10, 21, 16⟩] ((vx_table (x := yL_cross) B (hts _ List.mem_cons_self)).trans rfl) (fun z h => absurd h List.not_mem_nil) (by decide) (by decide) (hts _ (List.mem_of_getElem? (i := 1) rfl)) (va_Nw.use rfl (hE.2.2.2.2.2.2.1 ("java/lang/IndexOutOfBoundsException", "java/lang/IndexOutOfBoundsException") (by decide +kernel))) hce hcv hcl ?_
  refine lv_astore (lv' := [(5, .ref q), (0, .ref aX), (1, .int v1), (2, .int v2), (3, .int v3), (4, .int v4)]) (pc := 11) hx hb dL_cross_11 hl (by decide) rfl (fun ls hl => ?_)
  refine lv_ldc hx hb hown (hts _ (List.mem_of_getElem? (i := 4) rfl)) dL_cross_13 ?_
  refine W.widen (k := 1) (n := 6) (by omega) (by omega) ?_
  refine W.iret hx hb hrt (fun t ht hW => dz_endM (f := rv_i) (-2000000001) hE hS hG ?_ ht hW) (fun q h => hS.2.2 q h) dL_cross_15
  exact ⟨rfl, rfl, rfl⟩
set_option maxHeartbeats 4000000 in
set_option maxRecDepth 100000 in
theorem c_L_cross_X2 (l : Launch) (Z : dzG) (G : dzW) (ad : dzA) (aX : Nat) (v1 v2 v3 v4 : Int32) (fs : List Value) (fr lo : Nat) (ha : ad (1, 0) = aX) (ho : G (1, 0) = some (.inr (9, fs))) (hM : vx_Met l yX8_cross wsX8_cross (dz_rm fr lo 1 6) (dz_P Z G ad [.ref aX, .int v1, .int v2, .int v3, .int v4]) (fun _ _ _ _ => False) (dz_XC Z G ad (fun E => E = "java/lang/IllegalArgumentException")) 1 6 (dz_A Z)) : dzWr l yL_cross wsL_cross (fr + 1) (8 + (6 + 11) + lo) 1 6 Z G ad [.ref aX, .int v1, .int v2, .int v3, .int v4] rv_i (fun (x : Int32) G1 ad1 => x = -2000000002 ∧ G1 = G ∧ ad1 = ad) := by
  refine dz_ofWH (cc := cL_cross) (maxL := 6) (ret := (some .int)) (by decide) rfl ?_
  intro p e s m args below meth c s₁ B hml hv
  obtain ⟨rfl, hG, hE⟩ := hv
  have hx := B.exec
  have hb := B.bytes
  have hrt := B.returns
  have hts := atoms_spec (ws := wsL_cross) B.pre
  have hown : s.vm.findClass RL = some m.cls := findClass_of_methodNamed B.named
  have hS : va_S (dz_A Z) s.heap s.heap [] := va_S.rf
  have hl := lv_entry ([.ref aX, .int v1, .int v2, .int v3, .int v4]) (n := 6) (Nat.le_of_ble_eq_true rfl)
  rw [lg_entry_eq]
  generalize (lg_sl ([.ref aX, .int v1, .int v2, .int v3, .int v4]) ++ List.replicate (6 - (lg_sl ([.ref aX, .int v1, .int v2, .int v3, .int v4])).length) Slot.unset).toArray = ls at hl ⊢
  have hl : lv_has ls 6 [(0, .ref aX), (1, .int v1), (2, .int v2), (3, .int v3), (4, .int v4)] := hl
  refine lv_aload_n hx hb dL_cross_0 rfl (lv_at hl 0 rfl) ?_
  refine lv_iload_n hx hb dL_cross_1 rfl (lv_at hl 1 rfl) ?_
  refine lv_iload_n hx hb dL_cross_2 rfl (lv_at hl 2 rfl) ?_
  refine lv_iload_n hx hb dL_cross_3 rfl (lv_at hl 3 rfl) ?_
  refine lv_iload hx hb dL_cross_4 (lv_at hl 4 rfl) ?_
  refine dz_kX (av := #[]) (vx_runV (As := [_, _, _, _]) ⟨hx, hb, hml, hown, hts⟩ hM (cwV 4 hts gL_cross_X8_cross rfl rfl rfl (by decide +kernel) ⟨Nat.le_refl _, Nat.le_refl _⟩) (dz_P.preV hE hS hG ho rfl ha) rfl rfl hl.1 rfl (lv_room (Nat.le_of_ble_eq_true rfl)) dL_cross_6 ⟨Nat.le_refl _, Nat.le_refl _⟩) hS (fun E q ce H locs hEx hG hS hce hcv hcl => ?_)
  subst hEx
  refine vx_catch (name := "java/lang/IllegalArgumentException") hown [⟨0, 10, 11, 23⟩] ⟨0, 10, 16, 13⟩ [⟨0, 10, 21, 16⟩] ((vx_table (x := yL_cross) B (hts _ List.mem_cons_self)).trans rfl) (List.forall_mem_cons.mpr ⟨Or.inr ⟨by decide, "java/lang/IndexOutOfBoundsException", (hts _ (List.mem_of_getElem? (i := 1) rfl)), hE.2.2.2.2.2.2.2.2.2.2.2.1 ("java/lang/IllegalArgumentException", "java/lang/IndexOutOfBoundsException") (by decide +kernel)⟩, (fun z h => absurd h List.not_mem_nil)⟩) (by decide) (by decide) (hts _ (List.mem_of_getElem? (i := 2) rfl)) (va_Nw.use rfl (hE.2.2.2.2.2.2.1 ("java/lang/IllegalArgumentException", "java/lang/IllegalArgumentException") (by decide +kernel))) hce hcv hcl ?_
  refine lv_astore (lv' := [(5, .ref q), (0, .ref aX), (1, .int v1), (2, .int v2), (3, .int v3), (4, .int v4)]) (pc := 16) hx hb dL_cross_16 hl (by decide) rfl (fun ls hl => ?_)
  refine lv_ldc hx hb hown (hts _ (List.mem_of_getElem? (i := 5) rfl)) dL_cross_18 ?_
  refine W.widen (k := 1) (n := 6) (by omega) (by omega) ?_
  refine W.iret hx hb hrt (fun t ht hW => dz_endM (f := rv_i) (-2000000002) hE hS hG ?_ ht hW) (fun q h => hS.2.2 q h) dL_cross_20
  exact ⟨rfl, rfl, rfl⟩
set_option maxHeartbeats 4000000 in
set_option maxRecDepth 100000 in
theorem c_L_cross_X3 (l : Launch) (Z : dzG) (G : dzW) (ad : dzA) (aX : Nat) (v1 v2 v3 v4 : Int32) (fs : List Value) (fr lo : Nat) (ha : ad (1, 0) = aX) (ho : G (1, 0) = some (.inr (9, fs))) (hM : vx_Met l yX8_cross wsX8_cross (dz_rm fr lo 1 6) (dz_P Z G ad [.ref aX, .int v1, .int v2, .int v3, .int v4]) (fun _ _ _ _ => False) (dz_XC Z G ad (fun E => E = "java/lang/IllegalStateException")) 1 6 (dz_A Z)) : dzWr l yL_cross wsL_cross (fr + 1) (8 + (6 + 11) + lo) 1 6 Z G ad [.ref aX, .int v1, .int v2, .int v3, .int v4] rv_i (fun (x : Int32) G1 ad1 => x = -2000000003 ∧ G1 = G ∧ ad1 = ad) := by
  refine dz_ofWH (cc := cL_cross) (maxL := 6) (ret := (some .int)) (by decide) rfl ?_
  intro p e s m args below meth c s₁ B hml hv
  obtain ⟨rfl, hG, hE⟩ := hv
  have hx := B.exec
  have hb := B.bytes
  have hrt := B.returns
  have hts := atoms_spec (ws := wsL_cross) B.pre
  have hown : s.vm.findClass RL = some m.cls := findClass_of_methodNamed B.named
  have hS : va_S (dz_A Z) s.heap s.heap [] := va_S.rf
  have hl := lv_entry ([.ref aX, .int v1, .int v2, .int v3, .int v4]) (n := 6) (Nat.le_of_ble_eq_true rfl)
  rw [lg_entry_eq]
  generalize (lg_sl ([.ref aX, .int v1, .int v2, .int v3, .int v4]) ++ List.replicate (6 - (lg_sl ([.ref aX, .int v1, .int v2, .int v3, .int v4])).length) Slot.unset).toArray = ls at hl ⊢
  have hl : lv_has ls 6 [(0, .ref aX), (1, .int v1), (2, .int v2), (3, .int v3), (4, .int v4)] := hl
  refine lv_aload_n hx hb dL_cross_0 rfl (lv_at hl 0 rfl) ?_
  refine lv_iload_n hx hb dL_cross_1 rfl (lv_at hl 1 rfl) ?_
  refine lv_iload_n hx hb dL_cross_2 rfl (lv_at hl 2 rfl) ?_
  refine lv_iload_n hx hb dL_cross_3 rfl (lv_at hl 3 rfl) ?_
  refine lv_iload hx hb dL_cross_4 (lv_at hl 4 rfl) ?_
  refine dz_kX (av := #[]) (vx_runV (As := [_, _, _, _]) ⟨hx, hb, hml, hown, hts⟩ hM (cwV 4 hts gL_cross_X8_cross rfl rfl rfl (by decide +kernel) ⟨Nat.le_refl _, Nat.le_refl _⟩) (dz_P.preV hE hS hG ho rfl ha) rfl rfl hl.1 rfl (lv_room (Nat.le_of_ble_eq_true rfl)) dL_cross_6 ⟨Nat.le_refl _, Nat.le_refl _⟩) hS (fun E q ce H locs hEx hG hS hce hcv hcl => ?_)
  subst hEx
  refine vx_catch (name := "java/lang/IllegalStateException") hown [⟨0, 10, 11, 23⟩, ⟨0, 10, 16, 13⟩] ⟨0, 10, 21, 16⟩ [] ((vx_table (x := yL_cross) B (hts _ List.mem_cons_self)).trans rfl) (List.forall_mem_cons.mpr ⟨Or.inr ⟨by decide, "java/lang/IndexOutOfBoundsException", (hts _ (List.mem_of_getElem? (i := 1) rfl)), hE.2.2.2.2.2.2.2.2.2.2.2.1 ("java/lang/IllegalStateException", "java/lang/IndexOutOfBoundsException") (by decide +kernel)⟩, (List.forall_mem_cons.mpr ⟨Or.inr ⟨by decide, "java/lang/IllegalArgumentException", (hts _ (List.mem_of_getElem? (i := 2) rfl)), hE.2.2.2.2.2.2.2.2.2.2.2.1 ("java/lang/IllegalStateException", "java/lang/IllegalArgumentException") (by decide +kernel)⟩, (fun z h => absurd h List.not_mem_nil)⟩)⟩) (by decide) (by decide) (hts _ (List.mem_of_getElem? (i := 3) rfl)) (va_Nw.use rfl (hE.2.2.2.2.2.2.1 ("java/lang/IllegalStateException", "java/lang/IllegalStateException") (by decide +kernel))) hce hcv hcl ?_
  refine lv_astore (lv' := [(5, .ref q), (0, .ref aX), (1, .int v1), (2, .int v2), (3, .int v3), (4, .int v4)]) (pc := 21) hx hb dL_cross_21 hl (by decide) rfl (fun ls hl => ?_)
  refine lv_ldc hx hb hown (hts _ (List.mem_of_getElem? (i := 6) rfl)) dL_cross_23 ?_
  refine W.widen (k := 1) (n := 6) (by omega) (by omega) ?_
  refine W.iret hx hb hrt (fun t ht hW => dz_endM (f := rv_i) (-2000000003) hE hS hG ?_ ht hW) (fun q h => hS.2.2 q h) dL_cross_25
  exact ⟨rfl, rfl, rfl⟩

set_option maxHeartbeats 4000000 in
set_option maxRecDepth 100000 in
theorem c_L_season_W (l : Launch) (Z : dzG) (G : dzW) (ad : dzA) (aX : Nat) (v1 v2 : Int32) (fs : List Value) (fr lo mc ms : Nat) (Po : Unit → dzW → dzA → Prop) (ha : ad (1, 0) = aX) (ho : G (1, 0) = some (.inr (9, fs))) (hM : dzWr l yX8_season wsX8_season fr lo mc ms Z G ad [.ref aX, .int v1, .int v2] rv_v Po) : dzWr l yL_season wsL_season (fr + 1) (8 + (3 + 11) + lo) mc ms Z G ad [.ref aX, .int v1, .int v2] rv_i (fun (x : Int32) G1 ad1 => x = 0 ∧ Po () G1 ad1) := by
  refine dz_ofWH (cc := cL_season) (maxL := 4) (ret := (some .int)) (by decide) rfl ?_
  intro p e s m args below meth c s₁ B hml hv
  obtain ⟨rfl, hG, hE⟩ := hv
  have hx := B.exec
  have hb := B.bytes
  have hrt := B.returns
  have hts := atoms_spec (ws := wsL_season) B.pre
  have hown : s.vm.findClass RL = some m.cls := findClass_of_methodNamed B.named
  have hS : va_S (dz_A Z) s.heap s.heap [] := va_S.rf
  have hl := lv_entry ([.ref aX, .int v1, .int v2]) (n := 4) (Nat.le_of_ble_eq_true rfl)
  rw [lg_entry_eq]
  generalize (lg_sl ([.ref aX, .int v1, .int v2]) ++ List.replicate (4 - (lg_sl ([.ref aX, .int v1, .int v2])).length) Slot.unset).toArray = ls at hl ⊢
  have hl : lv_has ls 4 [(0, .ref aX), (1, .int v1), (2, .int v2)] := hl
  refine lv_aload_n hx hb dL_season_0 rfl (lv_at hl 0 rfl) ?_
  refine lv_iload_n hx hb dL_season_1 rfl (lv_at hl 1 rfl) ?_
  refine lv_iload_n hx hb dL_season_2 rfl (lv_at hl 2 rfl) ?_
  refine dz_kMv (va_runV (As := [_, _]) ⟨hx, hb, hml, hown, hts⟩ hM (cwV 2 hts gL_season_X8_season rfl rfl rfl (by decide +kernel) ⟨Nat.le_refl _, Nat.le_refl _⟩) (dz_P.preV hE hS hG ho rfl ha) rfl rfl hl.1 rfl (lv_room (Nat.le_of_ble_eq_true rfl)) dL_season_3 ⟨Nat.le_of_eq (Nat.zero_add mc), Nat.le_of_eq (Nat.zero_add ms)⟩) hS (fun G2 ad2 H locs hp hG hS => ?_)
  refine lv_iconst (v := 0) hx hb dL_season_6 (by decide) ?_
  refine W.widen (k := mc) (n := ms) (by omega) (by omega) ?_
  refine W.iret hx hb hrt (fun t ht hW => dz_endM (f := rv_i) 0 hE hS hG ?_ ht hW) (fun q h => hS.2.2 q h) dL_season_7
  exact ⟨rfl, hp⟩
set_option maxHeartbeats 4000000 in
set_option maxRecDepth 100000 in
theorem c_L_season_X1 (l : Launch) (Z : dzG) (G : dzW) (ad : dzA) (aX : Nat) (v1 v2 : Int32) (fs : List Value) (fr lo : Nat) (ha : ad (1, 0) = aX) (ho : G (1, 0) = some (.inr (9, fs))) (hM : vx_Met l yX8_season wsX8_season (dz_rm fr lo 1 6) (dz_P Z G ad [.ref aX, .int v1, .int v2]) (fun _ _ _ _ => False) (dz_XC Z G ad (fun E => E = "java/lang/IllegalArgumentException")) 1 6 (dz_A Z)) : dzWr l yL_season wsL_season (fr + 1) (8 + (3 + 11) + lo) 1 6 Z G ad [.ref aX, .int v1, .int v2] rv_i (fun (x : Int32) G1 ad1 => x = -2000000002 ∧ G1 = G ∧ ad1 = ad) := by
  refine dz_ofWH (cc := cL_season) (maxL := 4) (ret := (some .int)) (by decide) rfl ?_
  intro p e s m args below meth c s₁ B hml hv
  obtain ⟨rfl, hG, hE⟩ := hv
  have hx := B.exec
  have hb := B.bytes
  have hrt := B.returns
  have hts := atoms_spec (ws := wsL_season) B.pre
  have hown : s.vm.findClass RL = some m.cls := findClass_of_methodNamed B.named
  have hS : va_S (dz_A Z) s.heap s.heap [] := va_S.rf
  have hl := lv_entry ([.ref aX, .int v1, .int v2]) (n := 4) (Nat.le_of_ble_eq_true rfl)
  rw [lg_entry_eq]
  generalize (lg_sl ([.ref aX, .int v1, .int v2]) ++ List.replicate (4 - (lg_sl ([.ref aX, .int v1, .int v2])).length) Slot.unset).toArray = ls at hl ⊢
  have hl : lv_has ls 4 [(0, .ref aX), (1, .int v1), (2, .int v2)] := hl
  refine lv_aload_n hx hb dL_season_0 rfl (lv_at hl 0 rfl) ?_
  refine lv_iload_n hx hb dL_season_1 rfl (lv_at hl 1 rfl) ?_
  refine lv_iload_n hx hb dL_season_2 rfl (lv_at hl 2 rfl) ?_
  refine dz_kX (av := #[]) (vx_runV (As := [_, _]) ⟨hx, hb, hml, hown, hts⟩ hM (cwV 2 hts gL_season_X8_season rfl rfl rfl (by decide +kernel) ⟨Nat.le_refl _, Nat.le_refl _⟩) (dz_P.preV hE hS hG ho rfl ha) rfl rfl hl.1 rfl (lv_room (Nat.le_of_ble_eq_true rfl)) dL_season_3 ⟨Nat.le_refl _, Nat.le_refl _⟩) hS (fun E q ce H locs hEx hG hS hce hcv hcl => ?_)
  subst hEx
  refine vx_catch (name := "java/lang/IllegalArgumentException") hown [] ⟨0, 7, 8, 13⟩ [] ((vx_table (x := yL_season) B (hts _ List.mem_cons_self)).trans rfl) (fun z h => absurd h List.not_mem_nil) (by decide) (by decide) (hts _ (List.mem_of_getElem? (i := 1) rfl)) (va_Nw.use rfl (hE.2.2.2.2.2.2.1 ("java/lang/IllegalArgumentException", "java/lang/IllegalArgumentException") (by decide +kernel))) hce hcv hcl ?_
  refine lv_astore_n (lv' := [(3, .ref q), (0, .ref aX), (1, .int v1), (2, .int v2)]) (pc := 8) hx hb dL_season_8 rfl hl (by decide) rfl (fun ls hl => ?_)
  refine lv_ldc hx hb hown (hts _ (List.mem_of_getElem? (i := 2) rfl)) dL_season_9 ?_
  refine W.widen (k := 1) (n := 6) (by omega) (by omega) ?_
  refine W.iret hx hb hrt (fun t ht hW => dz_endM (f := rv_i) (-2000000002) hE hS hG ?_ ht hW) (fun q h => hS.2.2 q h) dL_season_11
  exact ⟨rfl, rfl, rfl⟩

set_option maxHeartbeats 4000000 in
set_option maxRecDepth 100000 in
theorem c_L_cloud_W (l : Launch) (Z : dzG) (G : dzW) (ad : dzA) (aX : Nat) (v1 : Int32) (fs : List Value) (fr lo mc ms : Nat) (Po : Int32 → dzW → dzA → Prop) (ha : ad (1, 0) = aX) (ho : G (1, 0) = some (.inr (9, fs))) (hM : dzWr l yX8_cloud wsX8_cloud fr lo mc ms Z G ad [.ref aX, .int v1] rv_i Po) : dzWr l yL_cloud wsL_cloud (fr + 1) (8 + (2 + 11) + lo) mc ms Z G ad [.ref aX, .int v1] rv_i (fun (x : Int32) G1 ad1 => Po x G1 ad1) := by
  refine dz_ofWH (cc := cL_cloud) (maxL := 3) (ret := (some .int)) (by decide) rfl ?_
  intro p e s m args below meth c s₁ B hml hv
  obtain ⟨rfl, hG, hE⟩ := hv
  have hx := B.exec
  have hb := B.bytes
  have hrt := B.returns
  have hts := atoms_spec (ws := wsL_cloud) B.pre
  have hown : s.vm.findClass RL = some m.cls := findClass_of_methodNamed B.named
  have hS : va_S (dz_A Z) s.heap s.heap [] := va_S.rf
  have hl := lv_entry ([.ref aX, .int v1]) (n := 3) (Nat.le_of_ble_eq_true rfl)
  rw [lg_entry_eq]
  generalize (lg_sl ([.ref aX, .int v1]) ++ List.replicate (3 - (lg_sl ([.ref aX, .int v1])).length) Slot.unset).toArray = ls at hl ⊢
  have hl : lv_has ls 3 [(0, .ref aX), (1, .int v1)] := hl
  refine lv_aload_n hx hb dL_cloud_0 rfl (lv_at hl 0 rfl) ?_
  refine lv_iload_n hx hb dL_cloud_1 rfl (lv_at hl 1 rfl) ?_
  refine dz_kMi (va_runV (As := [_]) ⟨hx, hb, hml, hown, hts⟩ hM (cwV 1 hts gL_cloud_X8_cloud rfl rfl rfl (by decide +kernel) ⟨Nat.le_refl _, Nat.le_refl _⟩) (dz_P.preV hE hS hG ho rfl ha) rfl rfl hl.1 rfl (lv_room (Nat.le_of_ble_eq_true rfl)) dL_cloud_2 ⟨Nat.le_of_eq (Nat.zero_add mc), Nat.le_of_eq (Nat.zero_add ms)⟩) hS (fun y G2 ad2 H locs hp hG hS => ?_)
  refine W.widen (k := mc) (n := ms) (by omega) (by omega) ?_
  refine W.iret hx hb hrt (fun t ht hW => dz_endM (f := rv_i) y hE hS hG ?_ ht hW) (fun q h => hS.2.2 q h) dL_cloud_5
  exact hp
set_option maxHeartbeats 4000000 in
set_option maxRecDepth 100000 in
theorem c_L_cloud_R (l : Launch) (Z : dzG) (G : dzW) (ad : dzA) (aX : Nat) (v1 : Int32) (fs : List Value) (fr lo : Nat) (v : Int32) (ha : ad (1, 0) = aX) (ho : G (1, 0) = some (.inr (9, fs))) (hM : dzRd l yX8_cloud wsX8_cloud fr lo Z G ad [.ref aX, .int v1] (some (.int v))) : dzRd l yL_cloud wsL_cloud (fr + 1) (8 + (2 + 11) + lo) Z G ad [.ref aX, .int v1] (some (.int v)) := by
  refine dz_ofWH (cc := cL_cloud) (maxL := 3) (ret := (some .int)) (by decide) rfl ?_
  intro p e s m args below meth c s₁ B hml hv
  obtain ⟨rfl, hG, hE⟩ := hv
  have hx := B.exec
  have hb := B.bytes
  have hrt := B.returns
  have hts := atoms_spec (ws := wsL_cloud) B.pre
  have hown : s.vm.findClass RL = some m.cls := findClass_of_methodNamed B.named
  have hS : va_S (dz_A Z) s.heap s.heap [] := va_S.rf
  have hl := lv_entry ([.ref aX, .int v1]) (n := 3) (Nat.le_of_ble_eq_true rfl)
  rw [lg_entry_eq]
  generalize (lg_sl ([.ref aX, .int v1]) ++ List.replicate (3 - (lg_sl ([.ref aX, .int v1])).length) Slot.unset).toArray = ls at hl ⊢
  have hl : lv_has ls 3 [(0, .ref aX), (1, .int v1)] := hl
  refine lv_aload_n hx hb dL_cloud_0 rfl (lv_at hl 0 rfl) ?_
  refine lv_iload_n hx hb dL_cloud_1 rfl (lv_at hl 1 rfl) ?_
  refine dz_kRi (va_runV (As := [_]) ⟨hx, hb, hml, hown, hts⟩ hM (cwV 1 hts gL_cloud_X8_cloud rfl rfl rfl (by decide +kernel) ⟨Nat.le_refl _, Nat.le_refl _⟩) (dz_P.preV hE hS hG ho rfl ha) rfl rfl hl.1 rfl (lv_room (Nat.le_of_ble_eq_true rfl)) dL_cloud_2 ⟨Nat.le_refl _, Nat.le_refl _⟩) ?_
  refine W.iret hx hb hrt (fun t ht hW => ⟨congrArg (fun x => Outcome.returned (some (Value.int x))) ?_, ht⟩) (fun _ h => by cases h) dL_cloud_5
  exact rfl
set_option maxHeartbeats 4000000 in
set_option maxRecDepth 100000 in
theorem c_L_cloud_X1 (l : Launch) (Z : dzG) (G : dzW) (ad : dzA) (aX : Nat) (v1 : Int32) (fs : List Value) (fr lo : Nat) (ha : ad (1, 0) = aX) (ho : G (1, 0) = some (.inr (9, fs))) (hM : vx_Met l yX8_cloud wsX8_cloud (dz_rm fr lo 1 6) (dz_P Z G ad [.ref aX, .int v1]) (fun _ _ _ _ => False) (dz_XC Z G ad (fun E => E = "java/lang/IllegalArgumentException")) 1 6 (dz_A Z)) : dzWr l yL_cloud wsL_cloud (fr + 1) (8 + (2 + 11) + lo) 1 6 Z G ad [.ref aX, .int v1] rv_i (fun (x : Int32) G1 ad1 => x = -2000000002 ∧ G1 = G ∧ ad1 = ad) := by
  refine dz_ofWH (cc := cL_cloud) (maxL := 3) (ret := (some .int)) (by decide) rfl ?_
  intro p e s m args below meth c s₁ B hml hv
  obtain ⟨rfl, hG, hE⟩ := hv
  have hx := B.exec
  have hb := B.bytes
  have hrt := B.returns
  have hts := atoms_spec (ws := wsL_cloud) B.pre
  have hown : s.vm.findClass RL = some m.cls := findClass_of_methodNamed B.named
  have hS : va_S (dz_A Z) s.heap s.heap [] := va_S.rf
  have hl := lv_entry ([.ref aX, .int v1]) (n := 3) (Nat.le_of_ble_eq_true rfl)
  rw [lg_entry_eq]
  generalize (lg_sl ([.ref aX, .int v1]) ++ List.replicate (3 - (lg_sl ([.ref aX, .int v1])).length) Slot.unset).toArray = ls at hl ⊢
  have hl : lv_has ls 3 [(0, .ref aX), (1, .int v1)] := hl
  refine lv_aload_n hx hb dL_cloud_0 rfl (lv_at hl 0 rfl) ?_
  refine lv_iload_n hx hb dL_cloud_1 rfl (lv_at hl 1 rfl) ?_
  refine dz_kX (av := #[]) (vx_runV (As := [_]) ⟨hx, hb, hml, hown, hts⟩ hM (cwV 1 hts gL_cloud_X8_cloud rfl rfl rfl (by decide +kernel) ⟨Nat.le_refl _, Nat.le_refl _⟩) (dz_P.preV hE hS hG ho rfl ha) rfl rfl hl.1 rfl (lv_room (Nat.le_of_ble_eq_true rfl)) dL_cloud_2 ⟨Nat.le_refl _, Nat.le_refl _⟩) hS (fun E q ce H locs hEx hG hS hce hcv hcl => ?_)
  subst hEx
  refine vx_catch (name := "java/lang/IllegalArgumentException") hown [] ⟨0, 5, 6, 13⟩ [] ((vx_table (x := yL_cloud) B (hts _ List.mem_cons_self)).trans rfl) (fun z h => absurd h List.not_mem_nil) (by decide) (by decide) (hts _ (List.mem_of_getElem? (i := 1) rfl)) (va_Nw.use rfl (hE.2.2.2.2.2.2.1 ("java/lang/IllegalArgumentException", "java/lang/IllegalArgumentException") (by decide +kernel))) hce hcv hcl ?_
  refine lv_astore_n (lv' := [(2, .ref q), (0, .ref aX), (1, .int v1)]) (pc := 6) hx hb dL_cloud_6 rfl hl (by decide) rfl (fun ls hl => ?_)
  refine lv_ldc hx hb hown (hts _ (List.mem_of_getElem? (i := 2) rfl)) dL_cloud_7 ?_
  refine W.widen (k := 1) (n := 6) (by omega) (by omega) ?_
  refine W.iret hx hb hrt (fun t ht hW => dz_endM (f := rv_i) (-2000000002) hE hS hG ?_ ht hW) (fun q h => hS.2.2 q h) dL_cloud_9
  exact ⟨rfl, rfl, rfl⟩

set_option maxHeartbeats 4000000 in
set_option maxRecDepth 100000 in
theorem c_L_world_W (l : Launch) (Z : dzG) (G : dzW) (ad : dzA) (aX : Nat) (v1 : Int32) (fs : List Value) (fr lo mc ms : Nat) (Po : Int32 → dzW → dzA → Prop) (ha : ad (1, 0) = aX) (ho : G (1, 0) = some (.inr (9, fs))) (hM : dzWr l yX8_world wsX8_world fr lo mc ms Z G ad [.ref aX, .int v1] rv_i Po) : dzWr l yL_world wsL_world (fr + 1) (8 + (3 + 11) + lo) mc ms Z G ad [.ref aX, .int v1] rv_i (fun (x : Int32) G1 ad1 => Po x G1 ad1) := by
  refine dz_ofWH (cc := cL_world) (maxL := 3) (ret := (some .int)) (by decide) rfl ?_
  intro p e s m args below meth c s₁ B hml hv
  obtain ⟨rfl, hG, hE⟩ := hv
  have hx := B.exec
  have hb := B.bytes
  have hrt := B.returns
  have hts := atoms_spec (ws := wsL_world) B.pre
  have hown : s.vm.findClass RL = some m.cls := findClass_of_methodNamed B.named
  have hS : va_S (dz_A Z) s.heap s.heap [] := va_S.rf
  have hl := lv_entry ([.ref aX, .int v1]) (n := 3) (Nat.le_of_ble_eq_true rfl)
  rw [lg_entry_eq]
  generalize (lg_sl ([.ref aX, .int v1]) ++ List.replicate (3 - (lg_sl ([.ref aX, .int v1])).length) Slot.unset).toArray = ls at hl ⊢
  have hl : lv_has ls 3 [(0, .ref aX), (1, .int v1)] := hl
  refine lv_aload_n hx hb dL_world_0 rfl (lv_at hl 0 rfl) ?_
  refine lv_iload_n hx hb dL_world_1 rfl (lv_at hl 1 rfl) ?_
  refine dz_kMi (va_runV (As := [_]) ⟨hx, hb, hml, hown, hts⟩ hM (cwV 1 hts gL_world_X8_world rfl rfl rfl (by decide +kernel) ⟨Nat.le_refl _, Nat.le_refl _⟩) (dz_P.preV hE hS hG ho rfl ha) rfl rfl hl.1 rfl (lv_room (Nat.le_of_ble_eq_true rfl)) dL_world_2 ⟨Nat.le_of_eq (Nat.zero_add mc), Nat.le_of_eq (Nat.zero_add ms)⟩) hS (fun y G2 ad2 H locs hp hG hS => ?_)
  refine W.widen (k := mc) (n := ms) (by omega) (by omega) ?_
  refine W.iret hx hb hrt (fun t ht hW => dz_endM (f := rv_i) y hE hS hG ?_ ht hW) (fun q h => hS.2.2 q h) dL_world_5
  exact hp
set_option maxHeartbeats 4000000 in
set_option maxRecDepth 100000 in
theorem c_L_world_R (l : Launch) (Z : dzG) (G : dzW) (ad : dzA) (aX : Nat) (v1 : Int32) (fs : List Value) (fr lo : Nat) (v : Int32) (ha : ad (1, 0) = aX) (ho : G (1, 0) = some (.inr (9, fs))) (hM : dzRd l yX8_world wsX8_world fr lo Z G ad [.ref aX, .int v1] (some (.int v))) : dzRd l yL_world wsL_world (fr + 1) (8 + (3 + 11) + lo) Z G ad [.ref aX, .int v1] (some (.int v)) := by
  refine dz_ofWH (cc := cL_world) (maxL := 3) (ret := (some .int)) (by decide) rfl ?_
  intro p e s m args below meth c s₁ B hml hv
  obtain ⟨rfl, hG, hE⟩ := hv
  have hx := B.exec
  have hb := B.bytes
  have hrt := B.returns
  have hts := atoms_spec (ws := wsL_world) B.pre
  have hown : s.vm.findClass RL = some m.cls := findClass_of_methodNamed B.named
  have hS : va_S (dz_A Z) s.heap s.heap [] := va_S.rf
  have hl := lv_entry ([.ref aX, .int v1]) (n := 3) (Nat.le_of_ble_eq_true rfl)
  rw [lg_entry_eq]
  generalize (lg_sl ([.ref aX, .int v1]) ++ List.replicate (3 - (lg_sl ([.ref aX, .int v1])).length) Slot.unset).toArray = ls at hl ⊢
  have hl : lv_has ls 3 [(0, .ref aX), (1, .int v1)] := hl
  refine lv_aload_n hx hb dL_world_0 rfl (lv_at hl 0 rfl) ?_
  refine lv_iload_n hx hb dL_world_1 rfl (lv_at hl 1 rfl) ?_
  refine dz_kRi (va_runV (As := [_]) ⟨hx, hb, hml, hown, hts⟩ hM (cwV 1 hts gL_world_X8_world rfl rfl rfl (by decide +kernel) ⟨Nat.le_refl _, Nat.le_refl _⟩) (dz_P.preV hE hS hG ho rfl ha) rfl rfl hl.1 rfl (lv_room (Nat.le_of_ble_eq_true rfl)) dL_world_2 ⟨Nat.le_refl _, Nat.le_refl _⟩) ?_
  refine W.iret hx hb hrt (fun t ht hW => ⟨congrArg (fun x => Outcome.returned (some (Value.int x))) ?_, ht⟩) (fun _ h => by cases h) dL_world_5
  exact rfl
set_option maxHeartbeats 4000000 in
set_option maxRecDepth 100000 in
theorem c_L_world_X1 (l : Launch) (Z : dzG) (G : dzW) (ad : dzA) (aX : Nat) (v1 : Int32) (fs : List Value) (fr lo : Nat) (ha : ad (1, 0) = aX) (ho : G (1, 0) = some (.inr (9, fs))) (hM : vx_Met l yX8_world wsX8_world (dz_rm fr lo 1 6) (dz_P Z G ad [.ref aX, .int v1]) (fun _ _ _ _ => False) (dz_XC Z G ad (fun E => E = "java/lang/IllegalArgumentException")) 1 6 (dz_A Z)) : dzWr l yL_world wsL_world (fr + 1) (8 + (3 + 11) + lo) 1 6 Z G ad [.ref aX, .int v1] rv_i (fun (x : Int32) G1 ad1 => x = -2000000002 ∧ G1 = G ∧ ad1 = ad) := by
  refine dz_ofWH (cc := cL_world) (maxL := 3) (ret := (some .int)) (by decide) rfl ?_
  intro p e s m args below meth c s₁ B hml hv
  obtain ⟨rfl, hG, hE⟩ := hv
  have hx := B.exec
  have hb := B.bytes
  have hrt := B.returns
  have hts := atoms_spec (ws := wsL_world) B.pre
  have hown : s.vm.findClass RL = some m.cls := findClass_of_methodNamed B.named
  have hS : va_S (dz_A Z) s.heap s.heap [] := va_S.rf
  have hl := lv_entry ([.ref aX, .int v1]) (n := 3) (Nat.le_of_ble_eq_true rfl)
  rw [lg_entry_eq]
  generalize (lg_sl ([.ref aX, .int v1]) ++ List.replicate (3 - (lg_sl ([.ref aX, .int v1])).length) Slot.unset).toArray = ls at hl ⊢
  have hl : lv_has ls 3 [(0, .ref aX), (1, .int v1)] := hl
  refine lv_aload_n hx hb dL_world_0 rfl (lv_at hl 0 rfl) ?_
  refine lv_iload_n hx hb dL_world_1 rfl (lv_at hl 1 rfl) ?_
  refine dz_kX (av := #[]) (vx_runV (As := [_]) ⟨hx, hb, hml, hown, hts⟩ hM (cwV 1 hts gL_world_X8_world rfl rfl rfl (by decide +kernel) ⟨Nat.le_refl _, Nat.le_refl _⟩) (dz_P.preV hE hS hG ho rfl ha) rfl rfl hl.1 rfl (lv_room (Nat.le_of_ble_eq_true rfl)) dL_world_2 ⟨Nat.le_refl _, Nat.le_refl _⟩) hS (fun E q ce H locs hEx hG hS hce hcv hcl => ?_)
  subst hEx
  refine vx_catch (name := "java/lang/IllegalArgumentException") hown [] ⟨0, 5, 6, 13⟩ [⟨0, 5, 10, 16⟩] ((vx_table (x := yL_world) B (hts _ List.mem_cons_self)).trans rfl) (fun z h => absurd h List.not_mem_nil) (by decide) (by decide) (hts _ (List.mem_of_getElem? (i := 1) rfl)) (va_Nw.use rfl (hE.2.2.2.2.2.2.1 ("java/lang/IllegalArgumentException", "java/lang/IllegalArgumentException") (by decide +kernel))) hce hcv hcl ?_
  refine lv_astore_n (lv' := [(2, .ref q), (0, .ref aX), (1, .int v1)]) (pc := 6) hx hb dL_world_6 rfl hl (by decide) rfl (fun ls hl => ?_)
  refine lv_ldc hx hb hown (hts _ (List.mem_of_getElem? (i := 3) rfl)) dL_world_7 ?_
  refine W.widen (k := 1) (n := 6) (by omega) (by omega) ?_
  refine W.iret hx hb hrt (fun t ht hW => dz_endM (f := rv_i) (-2000000002) hE hS hG ?_ ht hW) (fun q h => hS.2.2 q h) dL_world_9
  exact ⟨rfl, rfl, rfl⟩
set_option maxHeartbeats 4000000 in
set_option maxRecDepth 100000 in
theorem c_L_world_X2 (l : Launch) (Z : dzG) (G : dzW) (ad : dzA) (aX : Nat) (v1 : Int32) (fs : List Value) (fr lo : Nat) (ha : ad (1, 0) = aX) (ho : G (1, 0) = some (.inr (9, fs))) (hM : vx_Met l yX8_world wsX8_world (dz_rm fr lo 1 6) (dz_P Z G ad [.ref aX, .int v1]) (fun _ _ _ _ => False) (dz_XC Z G ad (fun E => E = "java/lang/IllegalStateException")) 1 6 (dz_A Z)) : dzWr l yL_world wsL_world (fr + 1) (8 + (3 + 11) + lo) 1 6 Z G ad [.ref aX, .int v1] rv_i (fun (x : Int32) G1 ad1 => x = -2000000003 ∧ G1 = G ∧ ad1 = ad) := by
  refine dz_ofWH (cc := cL_world) (maxL := 3) (ret := (some .int)) (by decide) rfl ?_
  intro p e s m args below meth c s₁ B hml hv
  obtain ⟨rfl, hG, hE⟩ := hv
  have hx := B.exec
  have hb := B.bytes
  have hrt := B.returns
  have hts := atoms_spec (ws := wsL_world) B.pre
  have hown : s.vm.findClass RL = some m.cls := findClass_of_methodNamed B.named
  have hS : va_S (dz_A Z) s.heap s.heap [] := va_S.rf
  have hl := lv_entry ([.ref aX, .int v1]) (n := 3) (Nat.le_of_ble_eq_true rfl)
  rw [lg_entry_eq]
  generalize (lg_sl ([.ref aX, .int v1]) ++ List.replicate (3 - (lg_sl ([.ref aX, .int v1])).length) Slot.unset).toArray = ls at hl ⊢
  have hl : lv_has ls 3 [(0, .ref aX), (1, .int v1)] := hl
  refine lv_aload_n hx hb dL_world_0 rfl (lv_at hl 0 rfl) ?_
  refine lv_iload_n hx hb dL_world_1 rfl (lv_at hl 1 rfl) ?_
  refine dz_kX (av := #[]) (vx_runV (As := [_]) ⟨hx, hb, hml, hown, hts⟩ hM (cwV 1 hts gL_world_X8_world rfl rfl rfl (by decide +kernel) ⟨Nat.le_refl _, Nat.le_refl _⟩) (dz_P.preV hE hS hG ho rfl ha) rfl rfl hl.1 rfl (lv_room (Nat.le_of_ble_eq_true rfl)) dL_world_2 ⟨Nat.le_refl _, Nat.le_refl _⟩) hS (fun E q ce H locs hEx hG hS hce hcv hcl => ?_)
  subst hEx
  refine vx_catch (name := "java/lang/IllegalStateException") hown [⟨0, 5, 6, 13⟩] ⟨0, 5, 10, 16⟩ [] ((vx_table (x := yL_world) B (hts _ List.mem_cons_self)).trans rfl) (List.forall_mem_cons.mpr ⟨Or.inr ⟨by decide, "java/lang/IllegalArgumentException", (hts _ (List.mem_of_getElem? (i := 1) rfl)), hE.2.2.2.2.2.2.2.2.2.2.2.1 ("java/lang/IllegalStateException", "java/lang/IllegalArgumentException") (by decide +kernel)⟩, (fun z h => absurd h List.not_mem_nil)⟩) (by decide) (by decide) (hts _ (List.mem_of_getElem? (i := 2) rfl)) (va_Nw.use rfl (hE.2.2.2.2.2.2.1 ("java/lang/IllegalStateException", "java/lang/IllegalStateException") (by decide +kernel))) hce hcv hcl ?_
  refine lv_astore_n (lv' := [(2, .ref q), (0, .ref aX), (1, .int v1)]) (pc := 10) hx hb dL_world_10 rfl hl (by decide) rfl (fun ls hl => ?_)
  refine lv_ldc hx hb hown (hts _ (List.mem_of_getElem? (i := 4) rfl)) dL_world_11 ?_
  refine W.widen (k := 1) (n := 6) (by omega) (by omega) ?_
  refine W.iret hx hb hrt (fun t ht hW => dz_endM (f := rv_i) (-2000000003) hE hS hG ?_ ht hW) (fun q h => hS.2.2 q h) dL_world_13
  exact ⟨rfl, rfl, rfl⟩
