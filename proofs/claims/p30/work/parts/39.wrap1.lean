set_option maxHeartbeats 4000000 in
set_option maxRecDepth 100000 in
theorem c_L_frame_W (l : Launch) (Z : dzG) (G : dzW) (ad : dzA) (aX : Nat) (fs : List Value) (fr lo mc ms : Nat) (Po : Int32 → dzW → dzA → Prop) (ha : ad (1, 0) = aX) (ho : G (1, 0) = some (.inr (9, fs))) (hM : dzWr l yX8_frame wsX8_frame fr lo mc ms Z G ad [.ref aX] rv_i Po) : dzWr l yL_frame wsL_frame (fr + 1) (8 + (1 + 11) + lo) mc ms Z G ad [.ref aX] rv_i (fun (x : Int32) G1 ad1 => Po x G1 ad1) := by
  refine dz_ofWH (cc := cL_frame) (maxL := 2) (ret := (some .int)) (by decide) rfl ?_
  intro p e s m args below meth c s₁ B hml hv
  obtain ⟨rfl, hG, hE⟩ := hv
  have hx := B.exec
  have hb := B.bytes
  have hrt := B.returns
  have hts := atoms_spec (ws := wsL_frame) B.pre
  have hown : s.vm.findClass RL = some m.cls := findClass_of_methodNamed B.named
  have hS : va_S (dz_A Z) s.heap s.heap [] := va_S.rf
  have hl := lv_entry ([.ref aX]) (n := 2) (Nat.le_of_ble_eq_true rfl)
  rw [lg_entry_eq]
  generalize (lg_sl ([.ref aX]) ++ List.replicate (2 - (lg_sl ([.ref aX])).length) Slot.unset).toArray = ls at hl ⊢
  have hl : lv_has ls 2 [(0, .ref aX)] := hl
  refine lv_aload_n hx hb dL_frame_0 rfl (lv_at hl 0 rfl) ?_
  refine dz_kMi (va_runV (As := []) ⟨hx, hb, hml, hown, hts⟩ hM (cwV 0 hts gL_frame_X8_frame rfl rfl rfl (by decide +kernel) ⟨Nat.le_refl _, Nat.le_refl _⟩) (dz_P.preV hE hS hG ho rfl ha) rfl rfl hl.1 rfl (lv_room (Nat.le_of_ble_eq_true rfl)) dL_frame_1 ⟨Nat.le_of_eq (Nat.zero_add mc), Nat.le_of_eq (Nat.zero_add ms)⟩) hS (fun y G2 ad2 H locs hp hG hS => ?_)
  refine W.widen (k := mc) (n := ms) (by omega) (by omega) ?_
  refine W.iret hx hb hrt (fun t ht hW => dz_endM (f := rv_i) y hE hS hG ?_ ht hW) (fun q h => hS.2.2 q h) dL_frame_4
  exact hp
set_option maxHeartbeats 4000000 in
set_option maxRecDepth 100000 in
theorem c_L_frame_R (l : Launch) (Z : dzG) (G : dzW) (ad : dzA) (aX : Nat) (fs : List Value) (fr lo : Nat) (v : Int32) (ha : ad (1, 0) = aX) (ho : G (1, 0) = some (.inr (9, fs))) (hM : dzRd l yX8_frame wsX8_frame fr lo Z G ad [.ref aX] (some (.int v))) : dzRd l yL_frame wsL_frame (fr + 1) (8 + (1 + 11) + lo) Z G ad [.ref aX] (some (.int v)) := by
  refine dz_ofWH (cc := cL_frame) (maxL := 2) (ret := (some .int)) (by decide) rfl ?_
  intro p e s m args below meth c s₁ B hml hv
  obtain ⟨rfl, hG, hE⟩ := hv
  have hx := B.exec
  have hb := B.bytes
  have hrt := B.returns
  have hts := atoms_spec (ws := wsL_frame) B.pre
  have hown : s.vm.findClass RL = some m.cls := findClass_of_methodNamed B.named
  have hS : va_S (dz_A Z) s.heap s.heap [] := va_S.rf
  have hl := lv_entry ([.ref aX]) (n := 2) (Nat.le_of_ble_eq_true rfl)
  rw [lg_entry_eq]
  generalize (lg_sl ([.ref aX]) ++ List.replicate (2 - (lg_sl ([.ref aX])).length) Slot.unset).toArray = ls at hl ⊢
  have hl : lv_has ls 2 [(0, .ref aX)] := hl
  refine lv_aload_n hx hb dL_frame_0 rfl (lv_at hl 0 rfl) ?_
  refine dz_kRi (va_runV (As := []) ⟨hx, hb, hml, hown, hts⟩ hM (cwV 0 hts gL_frame_X8_frame rfl rfl rfl (by decide +kernel) ⟨Nat.le_refl _, Nat.le_refl _⟩) (dz_P.preV hE hS hG ho rfl ha) rfl rfl hl.1 rfl (lv_room (Nat.le_of_ble_eq_true rfl)) dL_frame_1 ⟨Nat.le_refl _, Nat.le_refl _⟩) ?_
  refine W.iret hx hb hrt (fun t ht hW => ⟨congrArg (fun x => Outcome.returned (some (Value.int x))) ?_, ht⟩) (fun _ h => by cases h) dL_frame_4
  exact rfl
set_option maxHeartbeats 4000000 in
set_option maxRecDepth 100000 in
theorem c_L_frame_X1 (l : Launch) (Z : dzG) (G : dzW) (ad : dzA) (aX : Nat) (fs : List Value) (fr lo : Nat) (ha : ad (1, 0) = aX) (ho : G (1, 0) = some (.inr (9, fs))) (hM : vx_Met l yX8_frame wsX8_frame (dz_rm fr lo 1 6) (dz_P Z G ad [.ref aX]) (fun _ _ _ _ => False) (dz_XC Z G ad (fun E => E = "java/lang/IllegalStateException")) 1 6 (dz_A Z)) : dzWr l yL_frame wsL_frame (fr + 1) (8 + (1 + 11) + lo) 1 6 Z G ad [.ref aX] rv_i (fun (x : Int32) G1 ad1 => x = -2000000003 ∧ G1 = G ∧ ad1 = ad) := by
  refine dz_ofWH (cc := cL_frame) (maxL := 2) (ret := (some .int)) (by decide) rfl ?_
  intro p e s m args below meth c s₁ B hml hv
  obtain ⟨rfl, hG, hE⟩ := hv
  have hx := B.exec
  have hb := B.bytes
  have hrt := B.returns
  have hts := atoms_spec (ws := wsL_frame) B.pre
  have hown : s.vm.findClass RL = some m.cls := findClass_of_methodNamed B.named
  have hS : va_S (dz_A Z) s.heap s.heap [] := va_S.rf
  have hl := lv_entry ([.ref aX]) (n := 2) (Nat.le_of_ble_eq_true rfl)
  rw [lg_entry_eq]
  generalize (lg_sl ([.ref aX]) ++ List.replicate (2 - (lg_sl ([.ref aX])).length) Slot.unset).toArray = ls at hl ⊢
  have hl : lv_has ls 2 [(0, .ref aX)] := hl
  refine lv_aload_n hx hb dL_frame_0 rfl (lv_at hl 0 rfl) ?_
  refine dz_kX (av := #[]) (vx_runV (As := []) ⟨hx, hb, hml, hown, hts⟩ hM (cwV 0 hts gL_frame_X8_frame rfl rfl rfl (by decide +kernel) ⟨Nat.le_refl _, Nat.le_refl _⟩) (dz_P.preV hE hS hG ho rfl ha) rfl rfl hl.1 rfl (lv_room (Nat.le_of_ble_eq_true rfl)) dL_frame_1 ⟨Nat.le_refl _, Nat.le_refl _⟩) hS (fun E q ce H locs hEx hG hS hce hcv hcl => ?_)
  subst hEx
  refine vx_catch (name := "java/lang/IllegalStateException") hown [] ⟨0, 4, 5, 16⟩ [] ((vx_table (x := yL_frame) B (hts _ List.mem_cons_self)).trans rfl) (fun z h => absurd h List.not_mem_nil) (by decide) (by decide) (hts _ (List.mem_of_getElem? (i := 1) rfl)) (va_Nw.use rfl (hE.2.2.2.2.2.2.1 ("java/lang/IllegalStateException", "java/lang/IllegalStateException") (by decide +kernel))) hce hcv hcl ?_
  refine lv_astore_n (lv' := [(1, .ref q), (0, .ref aX)]) (pc := 5) hx hb dL_frame_5 rfl hl (by decide) rfl (fun ls hl => ?_)
  refine lv_ldc hx hb hown (hts _ (List.mem_of_getElem? (i := 2) rfl)) dL_frame_6 ?_
  refine W.widen (k := 1) (n := 6) (by omega) (by omega) ?_
  refine W.iret hx hb hrt (fun t ht hW => dz_endM (f := rv_i) (-2000000003) hE hS hG ?_ ht hW) (fun q h => hS.2.2 q h) dL_frame_8
  exact ⟨rfl, rfl, rfl⟩

set_option maxHeartbeats 4000000 in
set_option maxRecDepth 100000 in
theorem c_L_pass_W (l : Launch) (Z : dzG) (G : dzW) (ad : dzA) (aX : Nat) (v1 : Int32) (fs : List Value) (fr lo mc ms : Nat) (Po : Int32 → dzW → dzA → Prop) (ha : ad (1, 0) = aX) (ho : G (1, 0) = some (.inr (9, fs))) (hM : dzWr l yX8_pass wsX8_pass fr lo mc ms Z G ad [.ref aX, .int v1] rv_i Po) : dzWr l yL_pass wsL_pass (fr + 1) (8 + (2 + 11) + lo) mc ms Z G ad [.ref aX, .int v1] rv_i (fun (x : Int32) G1 ad1 => Po x G1 ad1) := by
  refine dz_ofWH (cc := cL_pass) (maxL := 3) (ret := (some .int)) (by decide) rfl ?_
  intro p e s m args below meth c s₁ B hml hv
  obtain ⟨rfl, hG, hE⟩ := hv
  have hx := B.exec
  have hb := B.bytes
  have hrt := B.returns
  have hts := atoms_spec (ws := wsL_pass) B.pre
  have hown : s.vm.findClass RL = some m.cls := findClass_of_methodNamed B.named
  have hS : va_S (dz_A Z) s.heap s.heap [] := va_S.rf
  have hl := lv_entry ([.ref aX, .int v1]) (n := 3) (Nat.le_of_ble_eq_true rfl)
  rw [lg_entry_eq]
  generalize (lg_sl ([.ref aX, .int v1]) ++ List.replicate (3 - (lg_sl ([.ref aX, .int v1])).length) Slot.unset).toArray = ls at hl ⊢
  have hl : lv_has ls 3 [(0, .ref aX), (1, .int v1)] := hl
  refine lv_aload_n hx hb dL_pass_0 rfl (lv_at hl 0 rfl) ?_
  refine lv_iload_n hx hb dL_pass_1 rfl (lv_at hl 1 rfl) ?_
  refine dz_kMi (va_runV (As := [_]) ⟨hx, hb, hml, hown, hts⟩ hM (cwV 1 hts gL_pass_X8_pass rfl rfl rfl (by decide +kernel) ⟨Nat.le_refl _, Nat.le_refl _⟩) (dz_P.preV hE hS hG ho rfl ha) rfl rfl hl.1 rfl (lv_room (Nat.le_of_ble_eq_true rfl)) dL_pass_2 ⟨Nat.le_of_eq (Nat.zero_add mc), Nat.le_of_eq (Nat.zero_add ms)⟩) hS (fun y G2 ad2 H locs hp hG hS => ?_)
  refine W.widen (k := mc) (n := ms) (by omega) (by omega) ?_
  refine W.iret hx hb hrt (fun t ht hW => dz_endM (f := rv_i) y hE hS hG ?_ ht hW) (fun q h => hS.2.2 q h) dL_pass_5
  exact hp
set_option maxHeartbeats 4000000 in
set_option maxRecDepth 100000 in
theorem c_L_pass_R (l : Launch) (Z : dzG) (G : dzW) (ad : dzA) (aX : Nat) (v1 : Int32) (fs : List Value) (fr lo : Nat) (v : Int32) (ha : ad (1, 0) = aX) (ho : G (1, 0) = some (.inr (9, fs))) (hM : dzRd l yX8_pass wsX8_pass fr lo Z G ad [.ref aX, .int v1] (some (.int v))) : dzRd l yL_pass wsL_pass (fr + 1) (8 + (2 + 11) + lo) Z G ad [.ref aX, .int v1] (some (.int v)) := by
  refine dz_ofWH (cc := cL_pass) (maxL := 3) (ret := (some .int)) (by decide) rfl ?_
  intro p e s m args below meth c s₁ B hml hv
  obtain ⟨rfl, hG, hE⟩ := hv
  have hx := B.exec
  have hb := B.bytes
  have hrt := B.returns
  have hts := atoms_spec (ws := wsL_pass) B.pre
  have hown : s.vm.findClass RL = some m.cls := findClass_of_methodNamed B.named
  have hS : va_S (dz_A Z) s.heap s.heap [] := va_S.rf
  have hl := lv_entry ([.ref aX, .int v1]) (n := 3) (Nat.le_of_ble_eq_true rfl)
  rw [lg_entry_eq]
  generalize (lg_sl ([.ref aX, .int v1]) ++ List.replicate (3 - (lg_sl ([.ref aX, .int v1])).length) Slot.unset).toArray = ls at hl ⊢
  have hl : lv_has ls 3 [(0, .ref aX), (1, .int v1)] := hl
  refine lv_aload_n hx hb dL_pass_0 rfl (lv_at hl 0 rfl) ?_
  refine lv_iload_n hx hb dL_pass_1 rfl (lv_at hl 1 rfl) ?_
  refine dz_kRi (va_runV (As := [_]) ⟨hx, hb, hml, hown, hts⟩ hM (cwV 1 hts gL_pass_X8_pass rfl rfl rfl (by decide +kernel) ⟨Nat.le_refl _, Nat.le_refl _⟩) (dz_P.preV hE hS hG ho rfl ha) rfl rfl hl.1 rfl (lv_room (Nat.le_of_ble_eq_true rfl)) dL_pass_2 ⟨Nat.le_refl _, Nat.le_refl _⟩) ?_
  refine W.iret hx hb hrt (fun t ht hW => ⟨congrArg (fun x => Outcome.returned (some (Value.int x))) ?_, ht⟩) (fun _ h => by cases h) dL_pass_5
  exact rfl
set_option maxHeartbeats 4000000 in
set_option maxRecDepth 100000 in
theorem c_L_pass_X1 (l : Launch) (Z : dzG) (G : dzW) (ad : dzA) (aX : Nat) (v1 : Int32) (fs : List Value) (fr lo : Nat) (ha : ad (1, 0) = aX) (ho : G (1, 0) = some (.inr (9, fs))) (hM : vx_Met l yX8_pass wsX8_pass (dz_rm fr lo 1 6) (dz_P Z G ad [.ref aX, .int v1]) (fun _ _ _ _ => False) (dz_XC Z G ad (fun E => E = "java/lang/IllegalArgumentException")) 1 6 (dz_A Z)) : dzWr l yL_pass wsL_pass (fr + 1) (8 + (2 + 11) + lo) 1 6 Z G ad [.ref aX, .int v1] rv_i (fun (x : Int32) G1 ad1 => x = -2000000002 ∧ G1 = G ∧ ad1 = ad) := by
  refine dz_ofWH (cc := cL_pass) (maxL := 3) (ret := (some .int)) (by decide) rfl ?_
  intro p e s m args below meth c s₁ B hml hv
  obtain ⟨rfl, hG, hE⟩ := hv
  have hx := B.exec
  have hb := B.bytes
  have hrt := B.returns
  have hts := atoms_spec (ws := wsL_pass) B.pre
  have hown : s.vm.findClass RL = some m.cls := findClass_of_methodNamed B.named
  have hS : va_S (dz_A Z) s.heap s.heap [] := va_S.rf
  have hl := lv_entry ([.ref aX, .int v1]) (n := 3) (Nat.le_of_ble_eq_true rfl)
  rw [lg_entry_eq]
  generalize (lg_sl ([.ref aX, .int v1]) ++ List.replicate (3 - (lg_sl ([.ref aX, .int v1])).length) Slot.unset).toArray = ls at hl ⊢
  have hl : lv_has ls 3 [(0, .ref aX), (1, .int v1)] := hl
  refine lv_aload_n hx hb dL_pass_0 rfl (lv_at hl 0 rfl) ?_
  refine lv_iload_n hx hb dL_pass_1 rfl (lv_at hl 1 rfl) ?_
  refine dz_kX (av := #[]) (vx_runV (As := [_]) ⟨hx, hb, hml, hown, hts⟩ hM (cwV 1 hts gL_pass_X8_pass rfl rfl rfl (by decide +kernel) ⟨Nat.le_refl _, Nat.le_refl _⟩) (dz_P.preV hE hS hG ho rfl ha) rfl rfl hl.1 rfl (lv_room (Nat.le_of_ble_eq_true rfl)) dL_pass_2 ⟨Nat.le_refl _, Nat.le_refl _⟩) hS (fun E q ce H locs hEx hG hS hce hcv hcl => ?_)
  subst hEx
  refine vx_catch (name := "java/lang/IllegalArgumentException") hown [] ⟨0, 5, 6, 13⟩ [⟨0, 5, 10, 16⟩] ((vx_table (x := yL_pass) B (hts _ List.mem_cons_self)).trans rfl) (fun z h => absurd h List.not_mem_nil) (by decide) (by decide) (hts _ (List.mem_of_getElem? (i := 1) rfl)) (va_Nw.use rfl (hE.2.2.2.2.2.2.1 ("java/lang/IllegalArgumentException", "java/lang/IllegalArgumentException") (by decide +kernel))) hce hcv hcl ?_
  refine lv_astore_n (lv' := [(2, .ref q), (0, .ref aX), (1, .int v1)]) (pc := 6) hx hb dL_pass_6 rfl hl (by decide) rfl (fun ls hl => ?_)
  refine lv_ldc hx hb hown (hts _ (List.mem_of_getElem? (i := 3) rfl)) dL_pass_7 ?_
  refine W.widen (k := 1) (n := 6) (by omega) (by omega) ?_
  refine W.iret hx hb hrt (fun t ht hW => dz_endM (f := rv_i) (-2000000002) hE hS hG ?_ ht hW) (fun q h => hS.2.2 q h) dL_pass_9
  exact ⟨rfl, rfl, rfl⟩
set_option maxHeartbeats 4000000 in
set_option maxRecDepth 100000 in
theorem c_L_pass_X2 (l : Launch) (Z : dzG) (G : dzW) (ad : dzA) (aX : Nat) (v1 : Int32) (fs : List Value) (fr lo : Nat) (ha : ad (1, 0) = aX) (ho : G (1, 0) = some (.inr (9, fs))) (hM : vx_Met l yX8_pass wsX8_pass (dz_rm fr lo 1 6) (dz_P Z G ad [.ref aX, .int v1]) (fun _ _ _ _ => False) (dz_XC Z G ad (fun E => E = "java/lang/IllegalStateException")) 1 6 (dz_A Z)) : dzWr l yL_pass wsL_pass (fr + 1) (8 + (2 + 11) + lo) 1 6 Z G ad [.ref aX, .int v1] rv_i (fun (x : Int32) G1 ad1 => x = -2000000003 ∧ G1 = G ∧ ad1 = ad) := by
  refine dz_ofWH (cc := cL_pass) (maxL := 3) (ret := (some .int)) (by decide) rfl ?_
  intro p e s m args below meth c s₁ B hml hv
  obtain ⟨rfl, hG, hE⟩ := hv
  have hx := B.exec
  have hb := B.bytes
  have hrt := B.returns
  have hts := atoms_spec (ws := wsL_pass) B.pre
  have hown : s.vm.findClass RL = some m.cls := findClass_of_methodNamed B.named
  have hS : va_S (dz_A Z) s.heap s.heap [] := va_S.rf
  have hl := lv_entry ([.ref aX, .int v1]) (n := 3) (Nat.le_of_ble_eq_true rfl)
  rw [lg_entry_eq]
  generalize (lg_sl ([.ref aX, .int v1]) ++ List.replicate (3 - (lg_sl ([.ref aX, .int v1])).length) Slot.unset).toArray = ls at hl ⊢
  have hl : lv_has ls 3 [(0, .ref aX), (1, .int v1)] := hl
  refine lv_aload_n hx hb dL_pass_0 rfl (lv_at hl 0 rfl) ?_
  refine lv_iload_n hx hb dL_pass_1 rfl (lv_at hl 1 rfl) ?_
  refine dz_kX (av := #[]) (vx_runV (As := [_]) ⟨hx, hb, hml, hown, hts⟩ hM (cwV 1 hts gL_pass_X8_pass rfl rfl rfl (by decide +kernel) ⟨Nat.le_refl _, Nat.le_refl _⟩) (dz_P.preV hE hS hG ho rfl ha) rfl rfl hl.1 rfl (lv_room (Nat.le_of_ble_eq_true rfl)) dL_pass_2 ⟨Nat.le_refl _, Nat.le_refl _⟩) hS (fun E q ce H locs hEx hG hS hce hcv hcl => ?_)
  subst hEx
  refine vx_catch (name := "java/lang/IllegalStateException") hown [⟨0, 5, 6, 13⟩] ⟨0, 5, 10, 16⟩ [] ((vx_table (x := yL_pass) B (hts _ List.mem_cons_self)).trans rfl) (List.forall_mem_cons.mpr ⟨Or.inr ⟨by decide, "java/lang/IllegalArgumentException", (hts _ (List.mem_of_getElem? (i := 1) rfl)), hE.2.2.2.2.2.2.2.2.2.2.2.1 ("java/lang/IllegalStateException", "java/lang/IllegalArgumentException") (by decide +kernel)⟩, (fun z h => absurd h List.not_mem_nil)⟩) (by decide) (by decide) (hts _ (List.mem_of_getElem? (i := 2) rfl)) (va_Nw.use rfl (hE.2.2.2.2.2.2.1 ("java/lang/IllegalStateException", "java/lang/IllegalStateException") (by decide +kernel))) hce hcv hcl ?_
  refine lv_astore_n (lv' := [(2, .ref q), (0, .ref aX), (1, .int v1)]) (pc := 10) hx hb dL_pass_10 rfl hl (by decide) rfl (fun ls hl => ?_)
  refine lv_ldc hx hb hown (hts _ (List.mem_of_getElem? (i := 4) rfl)) dL_pass_11 ?_
  refine W.widen (k := 1) (n := 6) (by omega) (by omega) ?_
  refine W.iret hx hb hrt (fun t ht hW => dz_endM (f := rv_i) (-2000000003) hE hS hG ?_ ht hW) (fun q h => hS.2.2 q h) dL_pass_13
  exact ⟨rfl, rfl, rfl⟩

set_option maxHeartbeats 4000000 in
set_option maxRecDepth 100000 in
theorem c_L_book_W (l : Launch) (Z : dzG) (G : dzW) (ad : dzA) (aX : Nat) (v1 v2 v3 v4 : Int32) (fs : List Value) (fr lo mc ms : Nat) (Po : Int32 → dzW → dzA → Prop) (ha : ad (1, 0) = aX) (ho : G (1, 0) = some (.inr (9, fs))) (hM : dzWr l yX8_book wsX8_book fr lo mc ms Z G ad [.ref aX, .int v1, .int v2, .int v3, .int v4] rv_i Po) : dzWr l yL_book wsL_book (fr + 1) (8 + (9 + 11) + lo) mc ms Z G ad [.ref aX, .int v1, .int v2, .int v3, .int v4] rv_i (fun (x : Int32) G1 ad1 => Po x G1 ad1) := by
  refine dz_ofWH (cc := cL_book) (maxL := 6) (ret := (some .int)) (by decide) rfl ?_
  intro p e s m args below meth c s₁ B hml hv
  obtain ⟨rfl, hG, hE⟩ := hv
  have hx := B.exec
  have hb := B.bytes
  have hrt := B.returns
  have hts := atoms_spec (ws := wsL_book) B.pre
  have hown : s.vm.findClass RL = some m.cls := findClass_of_methodNamed B.named
  have hS : va_S (dz_A Z) s.heap s.heap [] := va_S.rf
  have hl := lv_entry ([.ref aX, .int v1, .int v2, .int v3, .int v4]) (n := 6) (Nat.le_of_ble_eq_true rfl)
  rw [lg_entry_eq]
  generalize (lg_sl ([.ref aX, .int v1, .int v2, .int v3, .int v4]) ++ List.replicate (6 - (lg_sl ([.ref aX, .int v1, .int v2, .int v3, .int v4])).length) Slot.unset).toArray = ls at hl ⊢
  have hl : lv_has ls 6 [(0, .ref aX), (1, .int v1), (2, .int v2), (3, .int v3), (4, .int v4)] := hl
  refine lv_aload_n hx hb dL_book_0 rfl (lv_at hl 0 rfl) ?_
  refine lv_iload_n hx hb dL_book_1 rfl (lv_at hl 1 rfl) ?_
  refine lv_iload_n hx hb dL_book_2 rfl (lv_at hl 2 rfl) ?_
  refine lv_iload_n hx hb dL_book_3 rfl (lv_at hl 3 rfl) ?_
  refine lv_iload hx hb dL_book_4 (lv_at hl 4 rfl) ?_
  refine dz_kMi (va_runV (As := [_, _, _, _]) ⟨hx, hb, hml, hown, hts⟩ hM (cwV 4 hts gL_book_X8_book rfl rfl rfl (by decide +kernel) ⟨Nat.le_refl _, Nat.le_refl _⟩) (dz_P.preV hE hS hG ho rfl ha) rfl rfl hl.1 rfl (lv_room (Nat.le_of_ble_eq_true rfl)) dL_book_6 ⟨Nat.le_of_eq (Nat.zero_add mc), Nat.le_of_eq (Nat.zero_add ms)⟩) hS (fun y G2 ad2 H locs hp hG hS => ?_)
  refine W.widen (k := mc) (n := ms) (by omega) (by omega) ?_
  refine W.iret hx hb hrt (fun t ht hW => dz_endM (f := rv_i) y hE hS hG ?_ ht hW) (fun q h => hS.2.2 q h) dL_book_9
  exact hp
set_option maxHeartbeats 4000000 in
set_option maxRecDepth 100000 in
theorem c_L_book_R (l : Launch) (Z : dzG) (G : dzW) (ad : dzA) (aX : Nat) (v1 v2 v3 v4 : Int32) (fs : List Value) (fr lo : Nat) (v : Int32) (ha : ad (1, 0) = aX) (ho : G (1, 0) = some (.inr (9, fs))) (hM : dzRd l yX8_book wsX8_book fr lo Z G ad [.ref aX, .int v1, .int v2, .int v3, .int v4] (some (.int v))) : dzRd l yL_book wsL_book (fr + 1) (8 + (9 + 11) + lo) Z G ad [.ref aX, .int v1, .int v2, .int v3, .int v4] (some (.int v)) := by
  refine dz_ofWH (cc := cL_book) (maxL := 6) (ret := (some .int)) (by decide) rfl ?_
  intro p e s m args below meth c s₁ B hml hv
  obtain ⟨rfl, hG, hE⟩ := hv
  have hx := B.exec
  have hb := B.bytes
  have hrt := B.returns
  have hts := atoms_spec (ws := wsL_book) B.pre
  have hown : s.vm.findClass RL = some m.cls := findClass_of_methodNamed B.named
  have hS : va_S (dz_A Z) s.heap s.heap [] := va_S.rf
  have hl := lv_entry ([.ref aX, .int v1, .int v2, .int v3, .int v4]) (n := 6) (Nat.le_of_ble_eq_true rfl)
  rw [lg_entry_eq]
  generalize (lg_sl ([.ref aX, .int v1, .int v2, .int v3, .int v4]) ++ List.replicate (6 - (lg_sl ([.ref aX, .int v1, .int v2, .int v3, .int v4])).length) Slot.unset).toArray = ls at hl ⊢
  have hl : lv_has ls 6 [(0, .ref aX), (1, .int v1), (2, .int v2), (3, .int v3), (4, .int v4)] := hl
  refine lv_aload_n hx hb dL_book_0 rfl (lv_at hl 0 rfl) ?_
  refine lv_iload_n hx hb dL_book_1 rfl (lv_at hl 1 rfl) ?_
  refine lv_iload_n hx hb dL_book_2 rfl (lv_at hl 2 rfl) ?_
  refine lv_iload_n hx hb dL_book_3 rfl (lv_at hl 3 rfl) ?_
  refine lv_iload hx hb dL_book_4 (lv_at hl 4 rfl) ?_
  refine dz_kRi (va_runV (As := [_, _, _, _]) ⟨hx, hb, hml, hown, hts⟩ hM (cwV 4 hts gL_book_X8_book rfl rfl rfl (by decide +kernel) ⟨Nat.le_refl _, Nat.le_refl _⟩) (dz_P.preV hE hS hG ho rfl ha) rfl rfl hl.1 rfl (lv_room (Nat.le_of_ble_eq_true rfl)) dL_book_6 ⟨Nat.le_refl _, Nat.le_refl _⟩) ?_
  refine W.iret hx hb hrt (fun t ht hW => ⟨congrArg (fun x => Outcome.returned (some (Value.int x))) ?_, ht⟩) (fun _ h => by cases h) dL_book_9
  exact rfl
set_option maxHeartbeats 4000000 in
set_option maxRecDepth 100000 in
theorem c_L_book_X1 (l : Launch) (Z : dzG) (G : dzW) (ad : dzA) (aX : Nat) (v1 v2 v3 v4 : Int32) (fs : List Value) (fr lo : Nat) (ha : ad (1, 0) = aX) (ho : G (1, 0) = some (.inr (9, fs))) (hM : vx_Met l yX8_book wsX8_book (dz_rm fr lo 1 6) (dz_P Z G ad [.ref aX, .int v1, .int v2, .int v3, .int v4]) (fun _ _ _ _ => False) (dz_XC Z G ad (fun E => E = "java/lang/IndexOutOfBoundsException")) 1 6 (dz_A Z)) : dzWr l yL_book wsL_book (fr + 1) (8 + (9 + 11) + lo) 1 6 Z G ad [.ref aX, .int v1, .int v2, .int v3, .int v4] rv_i (fun (x : Int32) G1 ad1 => x = -2000000001 ∧ G1 = G ∧ ad1 = ad) := by
  refine dz_ofWH (cc := cL_book) (maxL := 6) (ret := (some .int)) (by decide) rfl ?_
  intro p e s m args below meth c s₁ B hml hv
  obtain ⟨rfl, hG, hE⟩ := hv
  have hx := B.exec
  have hb := B.bytes
  have hrt := B.returns
  have hts := atoms_spec (ws := wsL_book) B.pre
  have hown : s.vm.findClass RL = some m.cls := findClass_of_methodNamed B.named
  have hS : va_S (dz_A Z) s.heap s.heap [] := va_S.rf
  have hl := lv_entry ([.ref aX, .int v1, .int v2, .int v3, .int v4]) (n := 6) (Nat.le_of_ble_eq_true rfl)
  rw [lg_entry_eq]
  generalize (lg_sl ([.ref aX, .int v1, .int v2, .int v3, .int v4]) ++ List.replicate (6 - (lg_sl ([.ref aX, .int v1, .int v2, .int v3, .int v4])).length) Slot.unset).toArray = ls at hl ⊢
  have hl : lv_has ls 6 [(0, .ref aX), (1, .int v1), (2, .int v2), (3, .int v3), (4, .int v4)] := hl
  refine lv_aload_n hx hb dL_book_0 rfl (lv_at hl 0 rfl) ?_
  refine lv_iload_n hx hb dL_book_1 rfl (lv_at hl 1 rfl) ?_
  refine lv_iload_n hx hb dL_book_2 rfl (lv_at hl 2 rfl) ?_
  refine lv_iload_n hx hb dL_book_3 rfl (lv_at hl 3 rfl) ?_
  refine lv_iload hx hb dL_book_4 (lv_at hl 4 rfl) ?_
  refine dz_kX (av := #[]) (vx_runV (As := [_, _, _, _]) ⟨hx, hb, hml, hown, hts⟩ hM (cwV 4 hts gL_book_X8_book rfl rfl rfl (by decide +kernel) ⟨Nat.le_refl _, Nat.le_refl _⟩) (dz_P.preV hE hS hG ho rfl ha) rfl rfl hl.1 rfl (lv_room (Nat.le_of_ble_eq_true rfl)) dL_book_6 ⟨Nat.le_refl _, Nat.le_refl _⟩) hS (fun E q ce H locs hEx hG hS hce hcv hcl => ?_)
  subst hEx
  refine vx_catch (name := "java/lang/IndexOutOfBoundsException") hown [] ⟨0, 9, 10, 23⟩ [⟨0, 9, 15, 13⟩] ((vx_table (x := yL_book) B (hts _ List.mem_cons_self)).trans rfl) (fun z h => absurd h List.not_mem_nil) (by decide) (by decide) (hts _ (List.mem_of_getElem? (i := 1) rfl)) (va_Nw.use rfl (hE.2.2.2.2.2.2.1 ("java/lang/IndexOutOfBoundsException", "java/lang/IndexOutOfBoundsException") (by decide +kernel))) hce hcv hcl ?_
  refine lv_astore (lv' := [(5, .ref q), (0, .ref aX), (1, .int v1), (2, .int v2), (3, .int v3), (4, .int v4)]) (pc := 10) hx hb dL_book_10 hl (by decide) rfl (fun ls hl => ?_)
  refine lv_ldc hx hb hown (hts _ (List.mem_of_getElem? (i := 3) rfl)) dL_book_12 ?_
  refine W.widen (k := 1) (n := 6) (by omega) (by omega) ?_
  refine W.iret hx hb hrt (fun t ht hW => dz_endM (f := rv_i) (-2000000001) hE hS hG ?_ ht hW) (fun q h => hS.2.2 q h) dL_book_14
  exact ⟨rfl, rfl, rfl⟩
set_option maxHeartbeats 4000000 in
set_option maxRecDepth 100000 in
theorem c_L_book_X2 (l : Launch) (Z : dzG) (G : dzW) (ad : dzA) (aX : Nat) (v1 v2 v3 v4 : Int32) (fs : List Value) (fr lo : Nat) (ha : ad (1, 0) = aX) (ho : G (1, 0) = some (.inr (9, fs))) (hM : vx_Met l yX8_book wsX8_book (dz_rm fr lo 1 6) (dz_P Z G ad [.ref aX, .int v1, .int v2, .int v3, .int v4]) (fun _ _ _ _ => False) (dz_XC Z G ad (fun E => E = "java/lang/IllegalArgumentException")) 1 6 (dz_A Z)) : dzWr l yL_book wsL_book (fr + 1) (8 + (9 + 11) + lo) 1 6 Z G ad [.ref aX, .int v1, .int v2, .int v3, .int v4] rv_i (fun (x : Int32) G1 ad1 => x = -2000000002 ∧ G1 = G ∧ ad1 = ad) := by
  refine dz_ofWH (cc := cL_book) (maxL := 6) (ret := (some .int)) (by decide) rfl ?_
  intro p e s m args below meth c s₁ B hml hv
  obtain ⟨rfl, hG, hE⟩ := hv
  have hx := B.exec
  have hb := B.bytes
  have hrt := B.returns
  have hts := atoms_spec (ws := wsL_book) B.pre
  have hown : s.vm.findClass RL = some m.cls := findClass_of_methodNamed B.named
  have hS : va_S (dz_A Z) s.heap s.heap [] := va_S.rf
  have hl := lv_entry ([.ref aX, .int v1, .int v2, .int v3, .int v4]) (n := 6) (Nat.le_of_ble_eq_true rfl)
  rw [lg_entry_eq]
  generalize (lg_sl ([.ref aX, .int v1, .int v2, .int v3, .int v4]) ++ List.replicate (6 - (lg_sl ([.ref aX, .int v1, .int v2, .int v3, .int v4])).length) Slot.unset).toArray = ls at hl ⊢
  have hl : lv_has ls 6 [(0, .ref aX), (1, .int v1), (2, .int v2), (3, .int v3), (4, .int v4)] := hl
  refine lv_aload_n hx hb dL_book_0 rfl (lv_at hl 0 rfl) ?_
  refine lv_iload_n hx hb dL_book_1 rfl (lv_at hl 1 rfl) ?_
  refine lv_iload_n hx hb dL_book_2 rfl (lv_at hl 2 rfl) ?_
  refine lv_iload_n hx hb dL_book_3 rfl (lv_at hl 3 rfl) ?_
  refine lv_iload hx hb dL_book_4 (lv_at hl 4 rfl) ?_
  refine dz_kX (av := #[]) (vx_runV (As := [_, _, _, _]) ⟨hx, hb, hml, hown, hts⟩ hM (cwV 4 hts gL_book_X8_book rfl rfl rfl (by decide +kernel) ⟨Nat.le_refl _, Nat.le_refl _⟩) (dz_P.preV hE hS hG ho rfl ha) rfl rfl hl.1 rfl (lv_room (Nat.le_of_ble_eq_true rfl)) dL_book_6 ⟨Nat.le_refl _, Nat.le_refl _⟩) hS (fun E q ce H locs hEx hG hS hce hcv hcl => ?_)
  subst hEx
  refine vx_catch (name := "java/lang/IllegalArgumentException") hown [⟨0, 9, 10, 23⟩] ⟨0, 9, 15, 13⟩ [] ((vx_table (x := yL_book) B (hts _ List.mem_cons_self)).trans rfl) (List.forall_mem_cons.mpr ⟨Or.inr ⟨by decide, "java/lang/IndexOutOfBoundsException", (hts _ (List.mem_of_getElem? (i := 1) rfl)), hE.2.2.2.2.2.2.2.2.2.2.2.1 ("java/lang/IllegalArgumentException", "java/lang/IndexOutOfBoundsException") (by decide +kernel)⟩, (fun z h => absurd h List.not_mem_nil)⟩) (by decide) (by decide) (hts _ (List.mem_of_getElem? (i := 2) rfl)) (va_Nw.use rfl (hE.2.2.2.2.2.2.1 ("java/lang/IllegalArgumentException", "java/lang/IllegalArgumentException") (by decide +kernel))) hce hcv hcl ?_
  refine lv_astore (lv' := [(5, .ref q), (0, .ref aX), (1, .int v1), (2, .int v2), (3, .int v3), (4, .int v4)]) (pc := 15) hx hb dL_book_15 hl (by decide) rfl (fun ls hl => ?_)
  refine lv_ldc hx hb hown (hts _ (List.mem_of_getElem? (i := 4) rfl)) dL_book_17 ?_
  refine W.widen (k := 1) (n := 6) (by omega) (by omega) ?_
  refine W.iret hx hb hrt (fun t ht hW => dz_endM (f := rv_i) (-2000000002) hE hS hG ?_ ht hW) (fun q h => hS.2.2 q h) dL_book_19
  exact ⟨rfl, rfl, rfl⟩

set_option maxHeartbeats 4000000 in
set_option maxRecDepth 100000 in
theorem c_L_vote_W (l : Launch) (Z : dzG) (G : dzW) (ad : dzA) (aX : Nat) (v1 v2 : Int32) (fs : List Value) (fr lo mc ms : Nat) (Po : Int32 → dzW → dzA → Prop) (ha : ad (1, 0) = aX) (ho : G (1, 0) = some (.inr (9, fs))) (hM : dzWr l yX8_vote wsX8_vote fr lo mc ms Z G ad [.ref aX, .int v1, .int v2] rv_i Po) : dzWr l yL_vote wsL_vote (fr + 1) (8 + (3 + 11) + lo) mc ms Z G ad [.ref aX, .int v1, .int v2] rv_i (fun (x : Int32) G1 ad1 => ∃ y : Int32, Po y G1 ad1 ∧ x = if y = 0 then 0 else 1) := by
  refine dz_ofWH (cc := cL_vote) (maxL := 4) (ret := (some .int)) (by decide) rfl ?_
  intro p e s m args below meth c s₁ B hml hv
  obtain ⟨rfl, hG, hE⟩ := hv
  have hx := B.exec
  have hb := B.bytes
  have hrt := B.returns
  have hts := atoms_spec (ws := wsL_vote) B.pre
  have hown : s.vm.findClass RL = some m.cls := findClass_of_methodNamed B.named
  have hS : va_S (dz_A Z) s.heap s.heap [] := va_S.rf
  have hl := lv_entry ([.ref aX, .int v1, .int v2]) (n := 4) (Nat.le_of_ble_eq_true rfl)
  rw [lg_entry_eq]
  generalize (lg_sl ([.ref aX, .int v1, .int v2]) ++ List.replicate (4 - (lg_sl ([.ref aX, .int v1, .int v2])).length) Slot.unset).toArray = ls at hl ⊢
  have hl : lv_has ls 4 [(0, .ref aX), (1, .int v1), (2, .int v2)] := hl
  refine lv_aload_n hx hb dL_vote_0 rfl (lv_at hl 0 rfl) ?_
  refine lv_iload_n hx hb dL_vote_1 rfl (lv_at hl 1 rfl) ?_
  refine lv_iload_n hx hb dL_vote_2 rfl (lv_at hl 2 rfl) ?_
  refine dz_kMi (va_runV (As := [_, _]) ⟨hx, hb, hml, hown, hts⟩ hM (cwV 2 hts gL_vote_X8_vote rfl rfl rfl (by decide +kernel) ⟨Nat.le_refl _, Nat.le_refl _⟩) (dz_P.preV hE hS hG ho rfl ha) rfl rfl hl.1 rfl (lv_room (Nat.le_of_ble_eq_true rfl)) dL_vote_3 ⟨Nat.le_of_eq (Nat.zero_add mc), Nat.le_of_eq (Nat.zero_add ms)⟩) hS (fun y G2 ad2 H locs hp hG hS => ?_)
  refine lv_if_eq (tgt := 13) hx hb dL_vote_6 (by decide) (fun c9 => ?_) (fun c9 => ?_)
  · refine lv_iconst (v := 0) hx hb dL_vote_13 (by decide) ?_
    refine W.widen (k := mc) (n := ms) (by omega) (by omega) ?_
    refine W.iret hx hb hrt (fun t ht hW => dz_endM (f := rv_i) 0 hE hS hG ?_ ht hW) (fun q h => hS.2.2 q h) dL_vote_14
    exact ⟨y, hp, (if_pos c9).symm⟩
  · refine lv_iconst (v := 1) hx hb dL_vote_9 (by decide) ?_
    refine lv_goto (tgt := 14) hx hb dL_vote_10 (by decide) ?_
    refine W.widen (k := mc) (n := ms) (by omega) (by omega) ?_
    refine W.iret hx hb hrt (fun t ht hW => dz_endM (f := rv_i) 1 hE hS hG ?_ ht hW) (fun q h => hS.2.2 q h) dL_vote_14
    exact ⟨y, hp, (if_neg c9).symm⟩
set_option maxHeartbeats 4000000 in
set_option maxRecDepth 100000 in
theorem c_L_vote_R (l : Launch) (Z : dzG) (G : dzW) (ad : dzA) (aX : Nat) (v1 v2 : Int32) (fs : List Value) (fr lo : Nat) (v : Int32) (ha : ad (1, 0) = aX) (ho : G (1, 0) = some (.inr (9, fs))) (hM : dzRd l yX8_vote wsX8_vote fr lo Z G ad [.ref aX, .int v1, .int v2] (some (.int v))) : dzRd l yL_vote wsL_vote (fr + 1) (8 + (3 + 11) + lo) Z G ad [.ref aX, .int v1, .int v2] (some (.int (if v = 0 then 0 else 1))) := by
  refine dz_ofWH (cc := cL_vote) (maxL := 4) (ret := (some .int)) (by decide) rfl ?_
  intro p e s m args below meth c s₁ B hml hv
  obtain ⟨rfl, hG, hE⟩ := hv
  have hx := B.exec
  have hb := B.bytes
  have hrt := B.returns
  have hts := atoms_spec (ws := wsL_vote) B.pre
  have hown : s.vm.findClass RL = some m.cls := findClass_of_methodNamed B.named
  have hS : va_S (dz_A Z) s.heap s.heap [] := va_S.rf
  have hl := lv_entry ([.ref aX, .int v1, .int v2]) (n := 4) (Nat.le_of_ble_eq_true rfl)
  rw [lg_entry_eq]
  generalize (lg_sl ([.ref aX, .int v1, .int v2]) ++ List.replicate (4 - (lg_sl ([.ref aX, .int v1, .int v2])).length) Slot.unset).toArray = ls at hl ⊢
  have hl : lv_has ls 4 [(0, .ref aX), (1, .int v1), (2, .int v2)] := hl
  refine lv_aload_n hx hb dL_vote_0 rfl (lv_at hl 0 rfl) ?_
  refine lv_iload_n hx hb dL_vote_1 rfl (lv_at hl 1 rfl) ?_
  refine lv_iload_n hx hb dL_vote_2 rfl (lv_at hl 2 rfl) ?_
  refine dz_kRi (va_runV (As := [_, _]) ⟨hx, hb, hml, hown, hts⟩ hM (cwV 2 hts gL_vote_X8_vote rfl rfl rfl (by decide +kernel) ⟨Nat.le_refl _, Nat.le_refl _⟩) (dz_P.preV hE hS hG ho rfl ha) rfl rfl hl.1 rfl (lv_room (Nat.le_of_ble_eq_true rfl)) dL_vote_3 ⟨Nat.le_refl _, Nat.le_refl _⟩) ?_
  refine lv_if_eq (tgt := 13) hx hb dL_vote_6 (by decide) (fun c9 => ?_) (fun c9 => ?_)
  · refine lv_iconst (v := 0) hx hb dL_vote_13 (by decide) ?_
    refine W.iret hx hb hrt (fun t ht hW => ⟨congrArg (fun x => Outcome.returned (some (Value.int x))) ?_, ht⟩) (fun _ h => by cases h) dL_vote_14
    exact (if_pos c9).symm
  · refine lv_iconst (v := 1) hx hb dL_vote_9 (by decide) ?_
    refine lv_goto (tgt := 14) hx hb dL_vote_10 (by decide) ?_
    refine W.iret hx hb hrt (fun t ht hW => ⟨congrArg (fun x => Outcome.returned (some (Value.int x))) ?_, ht⟩) (fun _ h => by cases h) dL_vote_14
    exact (if_neg c9).symm
set_option maxHeartbeats 4000000 in
set_option maxRecDepth 100000 in
theorem c_L_vote_X1 (l : Launch) (Z : dzG) (G : dzW) (ad : dzA) (aX : Nat) (v1 v2 : Int32) (fs : List Value) (fr lo : Nat) (ha : ad (1, 0) = aX) (ho : G (1, 0) = some (.inr (9, fs))) (hM : vx_Met l yX8_vote wsX8_vote (dz_rm fr lo 1 6) (dz_P Z G ad [.ref aX, .int v1, .int v2]) (fun _ _ _ _ => False) (dz_XC Z G ad (fun E => E = "java/lang/IndexOutOfBoundsException")) 1 6 (dz_A Z)) : dzWr l yL_vote wsL_vote (fr + 1) (8 + (3 + 11) + lo) 1 6 Z G ad [.ref aX, .int v1, .int v2] rv_i (fun (x : Int32) G1 ad1 => x = -2000000001 ∧ G1 = G ∧ ad1 = ad) := by
  refine dz_ofWH (cc := cL_vote) (maxL := 4) (ret := (some .int)) (by decide) rfl ?_
  intro p e s m args below meth c s₁ B hml hv
  obtain ⟨rfl, hG, hE⟩ := hv
  have hx := B.exec
  have hb := B.bytes
  have hrt := B.returns
  have hts := atoms_spec (ws := wsL_vote) B.pre
  have hown : s.vm.findClass RL = some m.cls := findClass_of_methodNamed B.named
  have hS : va_S (dz_A Z) s.heap s.heap [] := va_S.rf
  have hl := lv_entry ([.ref aX, .int v1, .int v2]) (n := 4) (Nat.le_of_ble_eq_true rfl)
  rw [lg_entry_eq]
  generalize (lg_sl ([.ref aX, .int v1, .int v2]) ++ List.replicate (4 - (lg_sl ([.ref aX, .int v1, .int v2])).length) Slot.unset).toArray = ls at hl ⊢
  have hl : lv_has ls 4 [(0, .ref aX), (1, .int v1), (2, .int v2)] := hl
  refine lv_aload_n hx hb dL_vote_0 rfl (lv_at hl 0 rfl) ?_
  refine lv_iload_n hx hb dL_vote_1 rfl (lv_at hl 1 rfl) ?_
  refine lv_iload_n hx hb dL_vote_2 rfl (lv_at hl 2 rfl) ?_
  refine dz_kX (av := #[]) (vx_runV (As := [_, _]) ⟨hx, hb, hml, hown, hts⟩ hM (cwV 2 hts gL_vote_X8_vote rfl rfl rfl (by decide +kernel) ⟨Nat.le_refl _, Nat.le_refl _⟩) (dz_P.preV hE hS hG ho rfl ha) rfl rfl hl.1 rfl (lv_room (Nat.le_of_ble_eq_true rfl)) dL_vote_3 ⟨Nat.le_refl _, Nat.le_refl _⟩) hS (fun E q ce H locs hEx hG hS hce hcv hcl => ?_)
  subst hEx
  refine vx_catch (name := "java/lang/IndexOutOfBoundsException") hown [] ⟨0, 14, 15, 23⟩ [] ((vx_table (x := yL_vote) B (hts _ List.mem_cons_self)).trans rfl) (fun z h => absurd h List.not_mem_nil) (by decide) (by decide) (hts _ (List.mem_of_getElem? (i := 1) rfl)) (va_Nw.use rfl (hE.2.2.2.2.2.2.1 ("java/lang/IndexOutOfBoundsException", "java/lang/IndexOutOfBoundsException") (by decide +kernel))) hce hcv hcl ?_
  refine lv_astore_n (lv' := [(3, .ref q), (0, .ref aX), (1, .int v1), (2, .int v2)]) (pc := 15) hx hb dL_vote_15 rfl hl (by decide) rfl (fun ls hl => ?_)
  refine lv_ldc hx hb hown (hts _ (List.mem_of_getElem? (i := 2) rfl)) dL_vote_16 ?_
  refine W.widen (k := 1) (n := 6) (by omega) (by omega) ?_
  refine W.iret hx hb hrt (fun t ht hW => dz_endM (f := rv_i) (-2000000001) hE hS hG ?_ ht hW) (fun q h => hS.2.2 q h) dL_vote_18
  exact ⟨rfl, rfl, rfl⟩

set_option maxHeartbeats 4000000 in
set_option maxRecDepth 100000 in
theorem c_L_from_W (l : Launch) (Z : dzG) (G : dzW) (ad : dzA) (aX : Nat) (v1 v2 v3 : Int32) (fs : List Value) (fr lo mc ms : Nat) (Po : Int32 → dzW → dzA → Prop) (ha : ad (1, 0) = aX) (ho : G (1, 0) = some (.inr (9, fs))) (hM : dzWr l yX8_from wsX8_from fr lo mc ms Z G ad [.ref aX, .int v1, .int v2, .int v3] rv_i Po) : dzWr l yL_from wsL_from (fr + 1) (8 + (5 + 11) + lo) mc ms Z G ad [.ref aX, .int v1, .int v2, .int v3] rv_i (fun (x : Int32) G1 ad1 => Po x G1 ad1) := by
  refine dz_ofWH (cc := cL_from) (maxL := 5) (ret := (some .int)) (by decide) rfl ?_
  intro p e s m args below meth c s₁ B hml hv
  obtain ⟨rfl, hG, hE⟩ := hv
  have hx := B.exec
  have hb := B.bytes
  have hrt := B.returns
  have hts := atoms_spec (ws := wsL_from) B.pre
  have hown : s.vm.findClass RL = some m.cls := findClass_of_methodNamed B.named
  have hS : va_S (dz_A Z) s.heap s.heap [] := va_S.rf
  have hl := lv_entry ([.ref aX, .int v1, .int v2, .int v3]) (n := 5) (Nat.le_of_ble_eq_true rfl)
  rw [lg_entry_eq]
  generalize (lg_sl ([.ref aX, .int v1, .int v2, .int v3]) ++ List.replicate (5 - (lg_sl ([.ref aX, .int v1, .int v2, .int v3])).length) Slot.unset).toArray = ls at hl ⊢
  have hl : lv_has ls 5 [(0, .ref aX), (1, .int v1), (2, .int v2), (3, .int v3)] := hl
  refine lv_aload_n hx hb dL_from_0 rfl (lv_at hl 0 rfl) ?_
  refine lv_iload_n hx hb dL_from_1 rfl (lv_at hl 1 rfl) ?_
  refine lv_iload_n hx hb dL_from_2 rfl (lv_at hl 2 rfl) ?_
  refine lv_iload_n hx hb dL_from_3 rfl (lv_at hl 3 rfl) ?_
  refine dz_kMi (va_runV (As := [_, _, _]) ⟨hx, hb, hml, hown, hts⟩ hM (cwV 3 hts gL_from_X8_from rfl rfl rfl (by decide +kernel) ⟨Nat.le_refl _, Nat.le_refl _⟩) (dz_P.preV hE hS hG ho rfl ha) rfl rfl hl.1 rfl (lv_room (Nat.le_of_ble_eq_true rfl)) dL_from_4 ⟨Nat.le_of_eq (Nat.zero_add mc), Nat.le_of_eq (Nat.zero_add ms)⟩) hS (fun y G2 ad2 H locs hp hG hS => ?_)
  refine W.widen (k := mc) (n := ms) (by omega) (by omega) ?_
  refine W.iret hx hb hrt (fun t ht hW => dz_endM (f := rv_i) y hE hS hG ?_ ht hW) (fun q h => hS.2.2 q h) dL_from_7
  exact hp
set_option maxHeartbeats 4000000 in
set_option maxRecDepth 100000 in
theorem c_L_from_R (l : Launch) (Z : dzG) (G : dzW) (ad : dzA) (aX : Nat) (v1 v2 v3 : Int32) (fs : List Value) (fr lo : Nat) (v : Int32) (ha : ad (1, 0) = aX) (ho : G (1, 0) = some (.inr (9, fs))) (hM : dzRd l yX8_from wsX8_from fr lo Z G ad [.ref aX, .int v1, .int v2, .int v3] (some (.int v))) : dzRd l yL_from wsL_from (fr + 1) (8 + (5 + 11) + lo) Z G ad [.ref aX, .int v1, .int v2, .int v3] (some (.int v)) := by
  refine dz_ofWH (cc := cL_from) (maxL := 5) (ret := (some .int)) (by decide) rfl ?_
  intro p e s m args below meth c s₁ B hml hv
  obtain ⟨rfl, hG, hE⟩ := hv
  have hx := B.exec
  have hb := B.bytes
  have hrt := B.returns
  have hts := atoms_spec (ws := wsL_from) B.pre
  have hown : s.vm.findClass RL = some m.cls := findClass_of_methodNamed B.named
  have hS : va_S (dz_A Z) s.heap s.heap [] := va_S.rf
  have hl := lv_entry ([.ref aX, .int v1, .int v2, .int v3]) (n := 5) (Nat.le_of_ble_eq_true rfl)
  rw [lg_entry_eq]
  generalize (lg_sl ([.ref aX, .int v1, .int v2, .int v3]) ++ List.replicate (5 - (lg_sl ([.ref aX, .int v1, .int v2, .int v3])).length) Slot.unset).toArray = ls at hl ⊢
  have hl : lv_has ls 5 [(0, .ref aX), (1, .int v1), (2, .int v2), (3, .int v3)] := hl
  refine lv_aload_n hx hb dL_from_0 rfl (lv_at hl 0 rfl) ?_
  refine lv_iload_n hx hb dL_from_1 rfl (lv_at hl 1 rfl) ?_
  refine lv_iload_n hx hb dL_from_2 rfl (lv_at hl 2 rfl) ?_
  refine lv_iload_n hx hb dL_from_3 rfl (lv_at hl 3 rfl) ?_
  refine dz_kRi (va_runV (As := [_, _, _]) ⟨hx, hb, hml, hown, hts⟩ hM (cwV 3 hts gL_from_X8_from rfl rfl rfl (by decide +kernel) ⟨Nat.le_refl _, Nat.le_refl _⟩) (dz_P.preV hE hS hG ho rfl ha) rfl rfl hl.1 rfl (lv_room (Nat.le_of_ble_eq_true rfl)) dL_from_4 ⟨Nat.le_refl _, Nat.le_refl _⟩) ?_
  refine W.iret hx hb hrt (fun t ht hW => ⟨congrArg (fun x => Outcome.returned (some (Value.int x))) ?_, ht⟩) (fun _ h => by cases h) dL_from_7
  exact rfl
set_option maxHeartbeats 4000000 in
set_option maxRecDepth 100000 in
theorem c_L_from_X1 (l : Launch) (Z : dzG) (G : dzW) (ad : dzA) (aX : Nat) (v1 v2 v3 : Int32) (fs : List Value) (fr lo : Nat) (ha : ad (1, 0) = aX) (ho : G (1, 0) = some (.inr (9, fs))) (hM : vx_Met l yX8_from wsX8_from (dz_rm fr lo 1 6) (dz_P Z G ad [.ref aX, .int v1, .int v2, .int v3]) (fun _ _ _ _ => False) (dz_XC Z G ad (fun E => E = "java/lang/IllegalArgumentException")) 1 6 (dz_A Z)) : dzWr l yL_from wsL_from (fr + 1) (8 + (5 + 11) + lo) 1 6 Z G ad [.ref aX, .int v1, .int v2, .int v3] rv_i (fun (x : Int32) G1 ad1 => x = -2000000002 ∧ G1 = G ∧ ad1 = ad) := by
  refine dz_ofWH (cc := cL_from) (maxL := 5) (ret := (some .int)) (by decide) rfl ?_
  intro p e s m args below meth c s₁ B hml hv
  obtain ⟨rfl, hG, hE⟩ := hv
  have hx := B.exec
  have hb := B.bytes
  have hrt := B.returns
  have hts := atoms_spec (ws := wsL_from) B.pre
  have hown : s.vm.findClass RL = some m.cls := findClass_of_methodNamed B.named
  have hS : va_S (dz_A Z) s.heap s.heap [] := va_S.rf
  have hl := lv_entry ([.ref aX, .int v1, .int v2, .int v3]) (n := 5) (Nat.le_of_ble_eq_true rfl)
  rw [lg_entry_eq]
  generalize (lg_sl ([.ref aX, .int v1, .int v2, .int v3]) ++ List.replicate (5 - (lg_sl ([.ref aX, .int v1, .int v2, .int v3])).length) Slot.unset).toArray = ls at hl ⊢
  have hl : lv_has ls 5 [(0, .ref aX), (1, .int v1), (2, .int v2), (3, .int v3)] := hl
  refine lv_aload_n hx hb dL_from_0 rfl (lv_at hl 0 rfl) ?_
  refine lv_iload_n hx hb dL_from_1 rfl (lv_at hl 1 rfl) ?_
  refine lv_iload_n hx hb dL_from_2 rfl (lv_at hl 2 rfl) ?_
  refine lv_iload_n hx hb dL_from_3 rfl (lv_at hl 3 rfl) ?_
  refine dz_kX (av := #[]) (vx_runV (As := [_, _, _]) ⟨hx, hb, hml, hown, hts⟩ hM (cwV 3 hts gL_from_X8_from rfl rfl rfl (by decide +kernel) ⟨Nat.le_refl _, Nat.le_refl _⟩) (dz_P.preV hE hS hG ho rfl ha) rfl rfl hl.1 rfl (lv_room (Nat.le_of_ble_eq_true rfl)) dL_from_4 ⟨Nat.le_refl _, Nat.le_refl _⟩) hS (fun E q ce H locs hEx hG hS hce hcv hcl => ?_)
  subst hEx
  refine vx_catch (name := "java/lang/IllegalArgumentException") hown [] ⟨0, 7, 8, 13⟩ [] ((vx_table (x := yL_from) B (hts _ List.mem_cons_self)).trans rfl) (fun z h => absurd h List.not_mem_nil) (by decide) (by decide) (hts _ (List.mem_of_getElem? (i := 1) rfl)) (va_Nw.use rfl (hE.2.2.2.2.2.2.1 ("java/lang/IllegalArgumentException", "java/lang/IllegalArgumentException") (by decide +kernel))) hce hcv hcl ?_
  refine lv_astore (lv' := [(4, .ref q), (0, .ref aX), (1, .int v1), (2, .int v2), (3, .int v3)]) (pc := 8) hx hb dL_from_8 hl (by decide) rfl (fun ls hl => ?_)
  refine lv_ldc hx hb hown (hts _ (List.mem_of_getElem? (i := 2) rfl)) dL_from_10 ?_
  refine W.widen (k := 1) (n := 6) (by omega) (by omega) ?_
  refine W.iret hx hb hrt (fun t ht hW => dz_endM (f := rv_i) (-2000000002) hE hS hG ?_ ht hW) (fun q h => hS.2.2 q h) dL_from_12
  exact ⟨rfl, rfl, rfl⟩

set_option maxHeartbeats 4000000 in
set_option maxRecDepth 100000 in
theorem c_L_images_W (l : Launch) (Z : dzG) (G : dzW) (ad : dzA) (aX : Nat) (v1 : Int32) (fs : List Value) (fr lo mc ms : Nat) (Po : Int32 → dzW → dzA → Prop) (ha : ad (1, 0) = aX) (ho : G (1, 0) = some (.inr (9, fs))) (hM : dzWr l yX8_images wsX8_images fr lo mc ms Z G ad [.ref aX, .int v1] rv_i Po) : dzWr l yL_images wsL_images (fr + 1) (8 + (3 + 11) + lo) mc ms Z G ad [.ref aX, .int v1] rv_i (fun (x : Int32) G1 ad1 => Po x G1 ad1) := by
  refine dz_ofWH (cc := cL_images) (maxL := 3) (ret := (some .int)) (by decide) rfl ?_
  intro p e s m args below meth c s₁ B hml hv
  obtain ⟨rfl, hG, hE⟩ := hv
  have hx := B.exec
  have hb := B.bytes
  have hrt := B.returns
  have hts := atoms_spec (ws := wsL_images) B.pre
  have hown : s.vm.findClass RL = some m.cls := findClass_of_methodNamed B.named
  have hS : va_S (dz_A Z) s.heap s.heap [] := va_S.rf
  have hl := lv_entry ([.ref aX, .int v1]) (n := 3) (Nat.le_of_ble_eq_true rfl)
  rw [lg_entry_eq]
  generalize (lg_sl ([.ref aX, .int v1]) ++ List.replicate (3 - (lg_sl ([.ref aX, .int v1])).length) Slot.unset).toArray = ls at hl ⊢
  have hl : lv_has ls 3 [(0, .ref aX), (1, .int v1)] := hl
  refine lv_aload_n hx hb dL_images_0 rfl (lv_at hl 0 rfl) ?_
  refine lv_iload_n hx hb dL_images_1 rfl (lv_at hl 1 rfl) ?_
  refine dz_kMi (va_runV (As := [_]) ⟨hx, hb, hml, hown, hts⟩ hM (cwV 1 hts gL_images_X8_images rfl rfl rfl (by decide +kernel) ⟨Nat.le_refl _, Nat.le_refl _⟩) (dz_P.preV hE hS hG ho rfl ha) rfl rfl hl.1 rfl (lv_room (Nat.le_of_ble_eq_true rfl)) dL_images_2 ⟨Nat.le_of_eq (Nat.zero_add mc), Nat.le_of_eq (Nat.zero_add ms)⟩) hS (fun y G2 ad2 H locs hp hG hS => ?_)
  refine W.widen (k := mc) (n := ms) (by omega) (by omega) ?_
  refine W.iret hx hb hrt (fun t ht hW => dz_endM (f := rv_i) y hE hS hG ?_ ht hW) (fun q h => hS.2.2 q h) dL_images_5
  exact hp
set_option maxHeartbeats 4000000 in
set_option maxRecDepth 100000 in
theorem c_L_images_R (l : Launch) (Z : dzG) (G : dzW) (ad : dzA) (aX : Nat) (v1 : Int32) (fs : List Value) (fr lo : Nat) (v : Int32) (ha : ad (1, 0) = aX) (ho : G (1, 0) = some (.inr (9, fs))) (hM : dzRd l yX8_images wsX8_images fr lo Z G ad [.ref aX, .int v1] (some (.int v))) : dzRd l yL_images wsL_images (fr + 1) (8 + (3 + 11) + lo) Z G ad [.ref aX, .int v1] (some (.int v)) := by
  refine dz_ofWH (cc := cL_images) (maxL := 3) (ret := (some .int)) (by decide) rfl ?_
  intro p e s m args below meth c s₁ B hml hv
  obtain ⟨rfl, hG, hE⟩ := hv
  have hx := B.exec
  have hb := B.bytes
  have hrt := B.returns
  have hts := atoms_spec (ws := wsL_images) B.pre
  have hown : s.vm.findClass RL = some m.cls := findClass_of_methodNamed B.named
  have hS : va_S (dz_A Z) s.heap s.heap [] := va_S.rf
  have hl := lv_entry ([.ref aX, .int v1]) (n := 3) (Nat.le_of_ble_eq_true rfl)
  rw [lg_entry_eq]
  generalize (lg_sl ([.ref aX, .int v1]) ++ List.replicate (3 - (lg_sl ([.ref aX, .int v1])).length) Slot.unset).toArray = ls at hl ⊢
  have hl : lv_has ls 3 [(0, .ref aX), (1, .int v1)] := hl
  refine lv_aload_n hx hb dL_images_0 rfl (lv_at hl 0 rfl) ?_
  refine lv_iload_n hx hb dL_images_1 rfl (lv_at hl 1 rfl) ?_
  refine dz_kRi (va_runV (As := [_]) ⟨hx, hb, hml, hown, hts⟩ hM (cwV 1 hts gL_images_X8_images rfl rfl rfl (by decide +kernel) ⟨Nat.le_refl _, Nat.le_refl _⟩) (dz_P.preV hE hS hG ho rfl ha) rfl rfl hl.1 rfl (lv_room (Nat.le_of_ble_eq_true rfl)) dL_images_2 ⟨Nat.le_refl _, Nat.le_refl _⟩) ?_
  refine W.iret hx hb hrt (fun t ht hW => ⟨congrArg (fun x => Outcome.returned (some (Value.int x))) ?_, ht⟩) (fun _ h => by cases h) dL_images_5
  exact rfl
set_option maxHeartbeats 4000000 in
set_option maxRecDepth 100000 in
theorem c_L_images_X1 (l : Launch) (Z : dzG) (G : dzW) (ad : dzA) (aX : Nat) (v1 : Int32) (fs : List Value) (fr lo : Nat) (ha : ad (1, 0) = aX) (ho : G (1, 0) = some (.inr (9, fs))) (hM : vx_Met l yX8_images wsX8_images (dz_rm fr lo 1 6) (dz_P Z G ad [.ref aX, .int v1]) (fun _ _ _ _ => False) (dz_XC Z G ad (fun E => E = "java/lang/IndexOutOfBoundsException")) 1 6 (dz_A Z)) : dzWr l yL_images wsL_images (fr + 1) (8 + (3 + 11) + lo) 1 6 Z G ad [.ref aX, .int v1] rv_i (fun (x : Int32) G1 ad1 => x = -2000000001 ∧ G1 = G ∧ ad1 = ad) := by
  refine dz_ofWH (cc := cL_images) (maxL := 3) (ret := (some .int)) (by decide) rfl ?_
  intro p e s m args below meth c s₁ B hml hv
  obtain ⟨rfl, hG, hE⟩ := hv
  have hx := B.exec
  have hb := B.bytes
  have hrt := B.returns
  have hts := atoms_spec (ws := wsL_images) B.pre
  have hown : s.vm.findClass RL = some m.cls := findClass_of_methodNamed B.named
  have hS : va_S (dz_A Z) s.heap s.heap [] := va_S.rf
  have hl := lv_entry ([.ref aX, .int v1]) (n := 3) (Nat.le_of_ble_eq_true rfl)
  rw [lg_entry_eq]
  generalize (lg_sl ([.ref aX, .int v1]) ++ List.replicate (3 - (lg_sl ([.ref aX, .int v1])).length) Slot.unset).toArray = ls at hl ⊢
  have hl : lv_has ls 3 [(0, .ref aX), (1, .int v1)] := hl
  refine lv_aload_n hx hb dL_images_0 rfl (lv_at hl 0 rfl) ?_
  refine lv_iload_n hx hb dL_images_1 rfl (lv_at hl 1 rfl) ?_
  refine dz_kX (av := #[]) (vx_runV (As := [_]) ⟨hx, hb, hml, hown, hts⟩ hM (cwV 1 hts gL_images_X8_images rfl rfl rfl (by decide +kernel) ⟨Nat.le_refl _, Nat.le_refl _⟩) (dz_P.preV hE hS hG ho rfl ha) rfl rfl hl.1 rfl (lv_room (Nat.le_of_ble_eq_true rfl)) dL_images_2 ⟨Nat.le_refl _, Nat.le_refl _⟩) hS (fun E q ce H locs hEx hG hS hce hcv hcl => ?_)
  subst hEx
  refine vx_catch (name := "java/lang/IndexOutOfBoundsException") hown [] ⟨0, 5, 6, 23⟩ [] ((vx_table (x := yL_images) B (hts _ List.mem_cons_self)).trans rfl) (fun z h => absurd h List.not_mem_nil) (by decide) (by decide) (hts _ (List.mem_of_getElem? (i := 1) rfl)) (va_Nw.use rfl (hE.2.2.2.2.2.2.1 ("java/lang/IndexOutOfBoundsException", "java/lang/IndexOutOfBoundsException") (by decide +kernel))) hce hcv hcl ?_
  refine lv_astore_n (lv' := [(2, .ref q), (0, .ref aX), (1, .int v1)]) (pc := 6) hx hb dL_images_6 rfl hl (by decide) rfl (fun ls hl => ?_)
  refine lv_ldc hx hb hown (hts _ (List.mem_of_getElem? (i := 2) rfl)) dL_images_7 ?_
  refine W.widen (k := 1) (n := 6) (by omega) (by omega) ?_
  refine W.iret hx hb hrt (fun t ht hW => dz_endM (f := rv_i) (-2000000001) hE hS hG ?_ ht hW) (fun q h => hS.2.2 q h) dL_images_9
  exact ⟨rfl, rfl, rfl⟩

set_option maxHeartbeats 4000000 in
set_option maxRecDepth 100000 in
theorem c_L_anew_W (l : Launch) (Z : dzG) (G : dzW) (ad : dzA) (aX : Nat) (v1 : Int32) (fs : List Value) (fr lo mc ms : Nat) (Po : Int32 → dzW → dzA → Prop) (ha : ad (1, 0) = aX) (ho : G (1, 0) = some (.inr (9, fs))) (hM : dzWr l yX8_imagesAnew wsX8_imagesAnew fr lo mc ms Z G ad [.ref aX, .int v1] rv_i Po) : dzWr l yL_anew wsL_anew (fr + 1) (8 + (3 + 11) + lo) mc ms Z G ad [.ref aX, .int v1] rv_i (fun (x : Int32) G1 ad1 => Po x G1 ad1) := by
  refine dz_ofWH (cc := cL_anew) (maxL := 3) (ret := (some .int)) (by decide) rfl ?_
  intro p e s m args below meth c s₁ B hml hv
  obtain ⟨rfl, hG, hE⟩ := hv
  have hx := B.exec
  have hb := B.bytes
  have hrt := B.returns
  have hts := atoms_spec (ws := wsL_anew) B.pre
  have hown : s.vm.findClass RL = some m.cls := findClass_of_methodNamed B.named
  have hS : va_S (dz_A Z) s.heap s.heap [] := va_S.rf
  have hl := lv_entry ([.ref aX, .int v1]) (n := 3) (Nat.le_of_ble_eq_true rfl)
  rw [lg_entry_eq]
  generalize (lg_sl ([.ref aX, .int v1]) ++ List.replicate (3 - (lg_sl ([.ref aX, .int v1])).length) Slot.unset).toArray = ls at hl ⊢
  have hl : lv_has ls 3 [(0, .ref aX), (1, .int v1)] := hl
  refine lv_aload_n hx hb dL_anew_0 rfl (lv_at hl 0 rfl) ?_
  refine lv_iload_n hx hb dL_anew_1 rfl (lv_at hl 1 rfl) ?_
  refine dz_kMi (va_runV (As := [_]) ⟨hx, hb, hml, hown, hts⟩ hM (cwV 1 hts gL_anew_X8_imagesAnew rfl rfl rfl (by decide +kernel) ⟨Nat.le_refl _, Nat.le_refl _⟩) (dz_P.preV hE hS hG ho rfl ha) rfl rfl hl.1 rfl (lv_room (Nat.le_of_ble_eq_true rfl)) dL_anew_2 ⟨Nat.le_of_eq (Nat.zero_add mc), Nat.le_of_eq (Nat.zero_add ms)⟩) hS (fun y G2 ad2 H locs hp hG hS => ?_)
  refine W.widen (k := mc) (n := ms) (by omega) (by omega) ?_
  refine W.iret hx hb hrt (fun t ht hW => dz_endM (f := rv_i) y hE hS hG ?_ ht hW) (fun q h => hS.2.2 q h) dL_anew_5
  exact hp
set_option maxHeartbeats 4000000 in
set_option maxRecDepth 100000 in
theorem c_L_anew_R (l : Launch) (Z : dzG) (G : dzW) (ad : dzA) (aX : Nat) (v1 : Int32) (fs : List Value) (fr lo : Nat) (v : Int32) (ha : ad (1, 0) = aX) (ho : G (1, 0) = some (.inr (9, fs))) (hM : dzRd l yX8_imagesAnew wsX8_imagesAnew fr lo Z G ad [.ref aX, .int v1] (some (.int v))) : dzRd l yL_anew wsL_anew (fr + 1) (8 + (3 + 11) + lo) Z G ad [.ref aX, .int v1] (some (.int v)) := by
  refine dz_ofWH (cc := cL_anew) (maxL := 3) (ret := (some .int)) (by decide) rfl ?_
  intro p e s m args below meth c s₁ B hml hv
  obtain ⟨rfl, hG, hE⟩ := hv
  have hx := B.exec
  have hb := B.bytes
  have hrt := B.returns
  have hts := atoms_spec (ws := wsL_anew) B.pre
  have hown : s.vm.findClass RL = some m.cls := findClass_of_methodNamed B.named
  have hS : va_S (dz_A Z) s.heap s.heap [] := va_S.rf
  have hl := lv_entry ([.ref aX, .int v1]) (n := 3) (Nat.le_of_ble_eq_true rfl)
  rw [lg_entry_eq]
  generalize (lg_sl ([.ref aX, .int v1]) ++ List.replicate (3 - (lg_sl ([.ref aX, .int v1])).length) Slot.unset).toArray = ls at hl ⊢
  have hl : lv_has ls 3 [(0, .ref aX), (1, .int v1)] := hl
  refine lv_aload_n hx hb dL_anew_0 rfl (lv_at hl 0 rfl) ?_
  refine lv_iload_n hx hb dL_anew_1 rfl (lv_at hl 1 rfl) ?_
  refine dz_kRi (va_runV (As := [_]) ⟨hx, hb, hml, hown, hts⟩ hM (cwV 1 hts gL_anew_X8_imagesAnew rfl rfl rfl (by decide +kernel) ⟨Nat.le_refl _, Nat.le_refl _⟩) (dz_P.preV hE hS hG ho rfl ha) rfl rfl hl.1 rfl (lv_room (Nat.le_of_ble_eq_true rfl)) dL_anew_2 ⟨Nat.le_refl _, Nat.le_refl _⟩) ?_
  refine W.iret hx hb hrt (fun t ht hW => ⟨congrArg (fun x => Outcome.returned (some (Value.int x))) ?_, ht⟩) (fun _ h => by cases h) dL_anew_5
  exact rfl
set_option maxHeartbeats 4000000 in
set_option maxRecDepth 100000 in
theorem c_L_anew_X1 (l : Launch) (Z : dzG) (G : dzW) (ad : dzA) (aX : Nat) (v1 : Int32) (fs : List Value) (fr lo : Nat) (ha : ad (1, 0) = aX) (ho : G (1, 0) = some (.inr (9, fs))) (hM : vx_Met l yX8_imagesAnew wsX8_imagesAnew (dz_rm fr lo 1 6) (dz_P Z G ad [.ref aX, .int v1]) (fun _ _ _ _ => False) (dz_XC Z G ad (fun E => E = "java/lang/IndexOutOfBoundsException")) 1 6 (dz_A Z)) : dzWr l yL_anew wsL_anew (fr + 1) (8 + (3 + 11) + lo) 1 6 Z G ad [.ref aX, .int v1] rv_i (fun (x : Int32) G1 ad1 => x = -2000000001 ∧ G1 = G ∧ ad1 = ad) := by
  refine dz_ofWH (cc := cL_anew) (maxL := 3) (ret := (some .int)) (by decide) rfl ?_
  intro p e s m args below meth c s₁ B hml hv
  obtain ⟨rfl, hG, hE⟩ := hv
  have hx := B.exec
  have hb := B.bytes
  have hrt := B.returns
  have hts := atoms_spec (ws := wsL_anew) B.pre
  have hown : s.vm.findClass RL = some m.cls := findClass_of_methodNamed B.named
  have hS : va_S (dz_A Z) s.heap s.heap [] := va_S.rf
  have hl := lv_entry ([.ref aX, .int v1]) (n := 3) (Nat.le_of_ble_eq_true rfl)
  rw [lg_entry_eq]
  generalize (lg_sl ([.ref aX, .int v1]) ++ List.replicate (3 - (lg_sl ([.ref aX, .int v1])).length) Slot.unset).toArray = ls at hl ⊢
  have hl : lv_has ls 3 [(0, .ref aX), (1, .int v1)] := hl
  refine lv_aload_n hx hb dL_anew_0 rfl (lv_at hl 0 rfl) ?_
  refine lv_iload_n hx hb dL_anew_1 rfl (lv_at hl 1 rfl) ?_
  refine dz_kX (av := #[]) (vx_runV (As := [_]) ⟨hx, hb, hml, hown, hts⟩ hM (cwV 1 hts gL_anew_X8_imagesAnew rfl rfl rfl (by decide +kernel) ⟨Nat.le_refl _, Nat.le_refl _⟩) (dz_P.preV hE hS hG ho rfl ha) rfl rfl hl.1 rfl (lv_room (Nat.le_of_ble_eq_true rfl)) dL_anew_2 ⟨Nat.le_refl _, Nat.le_refl _⟩) hS (fun E q ce H locs hEx hG hS hce hcv hcl => ?_)
  subst hEx
  refine vx_catch (name := "java/lang/IndexOutOfBoundsException") hown [] ⟨0, 5, 6, 23⟩ [] ((vx_table (x := yL_anew) B (hts _ List.mem_cons_self)).trans rfl) (fun z h => absurd h List.not_mem_nil) (by decide) (by decide) (hts _ (List.mem_of_getElem? (i := 1) rfl)) (va_Nw.use rfl (hE.2.2.2.2.2.2.1 ("java/lang/IndexOutOfBoundsException", "java/lang/IndexOutOfBoundsException") (by decide +kernel))) hce hcv hcl ?_
  refine lv_astore_n (lv' := [(2, .ref q), (0, .ref aX), (1, .int v1)]) (pc := 6) hx hb dL_anew_6 rfl hl (by decide) rfl (fun ls hl => ?_)
  refine lv_ldc hx hb hown (hts _ (List.mem_of_getElem? (i := 2) rfl)) dL_anew_7 ?_
  refine W.widen (k := 1) (n := 6) (by omega) (by omega) ?_
  refine W.iret hx hb hrt (fun t ht hW => dz_endM (f := rv_i) (-2000000001) hE hS hG ?_ ht hW) (fun q h => hS.2.2 q h) dL_anew_9
  exact ⟨rfl, rfl, rfl⟩

set_option maxHeartbeats 4000000 in
set_option maxRecDepth 100000 in
theorem c_L_imageOf_W (l : Launch) (Z : dzG) (G : dzW) (ad : dzA) (aX : Nat) (v1 v2 v3 : Int32) (fs : List Value) (fr lo mc ms : Nat) (Po : Int32 → dzW → dzA → Prop) (ha : ad (1, 0) = aX) (ho : G (1, 0) = some (.inr (9, fs))) (hM : dzWr l yX8_imageOf wsX8_imageOf fr lo mc ms Z G ad [.ref aX, .int v1, .int v2, .int v3] rv_i Po) : dzWr l yL_imageOf wsL_imageOf (fr + 1) (8 + (5 + 11) + lo) mc ms Z G ad [.ref aX, .int v1, .int v2, .int v3] rv_i (fun (x : Int32) G1 ad1 => Po x G1 ad1) := by
  refine dz_ofWH (cc := cL_imageOf) (maxL := 5) (ret := (some .int)) (by decide) rfl ?_
  intro p e s m args below meth c s₁ B hml hv
  obtain ⟨rfl, hG, hE⟩ := hv
  have hx := B.exec
  have hb := B.bytes
  have hrt := B.returns
  have hts := atoms_spec (ws := wsL_imageOf) B.pre
  have hown : s.vm.findClass RL = some m.cls := findClass_of_methodNamed B.named
  have hS : va_S (dz_A Z) s.heap s.heap [] := va_S.rf
  have hl := lv_entry ([.ref aX, .int v1, .int v2, .int v3]) (n := 5) (Nat.le_of_ble_eq_true rfl)
  rw [lg_entry_eq]
  generalize (lg_sl ([.ref aX, .int v1, .int v2, .int v3]) ++ List.replicate (5 - (lg_sl ([.ref aX, .int v1, .int v2, .int v3])).length) Slot.unset).toArray = ls at hl ⊢
  have hl : lv_has ls 5 [(0, .ref aX), (1, .int v1), (2, .int v2), (3, .int v3)] := hl
  refine lv_aload_n hx hb dL_imageOf_0 rfl (lv_at hl 0 rfl) ?_
  refine lv_iload_n hx hb dL_imageOf_1 rfl (lv_at hl 1 rfl) ?_
  refine lv_iload_n hx hb dL_imageOf_2 rfl (lv_at hl 2 rfl) ?_
  refine lv_iload_n hx hb dL_imageOf_3 rfl (lv_at hl 3 rfl) ?_
  refine dz_kMi (va_runV (As := [_, _, _]) ⟨hx, hb, hml, hown, hts⟩ hM (cwV 3 hts gL_imageOf_X8_imageOf rfl rfl rfl (by decide +kernel) ⟨Nat.le_refl _, Nat.le_refl _⟩) (dz_P.preV hE hS hG ho rfl ha) rfl rfl hl.1 rfl (lv_room (Nat.le_of_ble_eq_true rfl)) dL_imageOf_4 ⟨Nat.le_of_eq (Nat.zero_add mc), Nat.le_of_eq (Nat.zero_add ms)⟩) hS (fun y G2 ad2 H locs hp hG hS => ?_)
  refine W.widen (k := mc) (n := ms) (by omega) (by omega) ?_
  refine W.iret hx hb hrt (fun t ht hW => dz_endM (f := rv_i) y hE hS hG ?_ ht hW) (fun q h => hS.2.2 q h) dL_imageOf_7
  exact hp
set_option maxHeartbeats 4000000 in
set_option maxRecDepth 100000 in
theorem c_L_imageOf_R (l : Launch) (Z : dzG) (G : dzW) (ad : dzA) (aX : Nat) (v1 v2 v3 : Int32) (fs : List Value) (fr lo : Nat) (v : Int32) (ha : ad (1, 0) = aX) (ho : G (1, 0) = some (.inr (9, fs))) (hM : dzRd l yX8_imageOf wsX8_imageOf fr lo Z G ad [.ref aX, .int v1, .int v2, .int v3] (some (.int v))) : dzRd l yL_imageOf wsL_imageOf (fr + 1) (8 + (5 + 11) + lo) Z G ad [.ref aX, .int v1, .int v2, .int v3] (some (.int v)) := by
  refine dz_ofWH (cc := cL_imageOf) (maxL := 5) (ret := (some .int)) (by decide) rfl ?_
  intro p e s m args below meth c s₁ B hml hv
  obtain ⟨rfl, hG, hE⟩ := hv
  have hx := B.exec
  have hb := B.bytes
  have hrt := B.returns
  have hts := atoms_spec (ws := wsL_imageOf) B.pre
  have hown : s.vm.findClass RL = some m.cls := findClass_of_methodNamed B.named
  have hS : va_S (dz_A Z) s.heap s.heap [] := va_S.rf
  have hl := lv_entry ([.ref aX, .int v1, .int v2, .int v3]) (n := 5) (Nat.le_of_ble_eq_true rfl)
  rw [lg_entry_eq]
  generalize (lg_sl ([.ref aX, .int v1, .int v2, .int v3]) ++ List.replicate (5 - (lg_sl ([.ref aX, .int v1, .int v2, .int v3])).length) Slot.unset).toArray = ls at hl ⊢
  have hl : lv_has ls 5 [(0, .ref aX), (1, .int v1), (2, .int v2), (3, .int v3)] := hl
  refine lv_aload_n hx hb dL_imageOf_0 rfl (lv_at hl 0 rfl) ?_
  refine lv_iload_n hx hb dL_imageOf_1 rfl (lv_at hl 1 rfl) ?_
  refine lv_iload_n hx hb dL_imageOf_2 rfl (lv_at hl 2 rfl) ?_
  refine lv_iload_n hx hb dL_imageOf_3 rfl (lv_at hl 3 rfl) ?_
  refine dz_kRi (va_runV (As := [_, _, _]) ⟨hx, hb, hml, hown, hts⟩ hM (cwV 3 hts gL_imageOf_X8_imageOf rfl rfl rfl (by decide +kernel) ⟨Nat.le_refl _, Nat.le_refl _⟩) (dz_P.preV hE hS hG ho rfl ha) rfl rfl hl.1 rfl (lv_room (Nat.le_of_ble_eq_true rfl)) dL_imageOf_4 ⟨Nat.le_refl _, Nat.le_refl _⟩) ?_
  refine W.iret hx hb hrt (fun t ht hW => ⟨congrArg (fun x => Outcome.returned (some (Value.int x))) ?_, ht⟩) (fun _ h => by cases h) dL_imageOf_7
  exact rfl
set_option maxHeartbeats 4000000 in
set_option maxRecDepth 100000 in
theorem c_L_imageOf_X1 (l : Launch) (Z : dzG) (G : dzW) (ad : dzA) (aX : Nat) (v1 v2 v3 : Int32) (fs : List Value) (fr lo : Nat) (ha : ad (1, 0) = aX) (ho : G (1, 0) = some (.inr (9, fs))) (hM : vx_Met l yX8_imageOf wsX8_imageOf (dz_rm fr lo 1 6) (dz_P Z G ad [.ref aX, .int v1, .int v2, .int v3]) (fun _ _ _ _ => False) (dz_XC Z G ad (fun E => E = "java/lang/IndexOutOfBoundsException")) 1 6 (dz_A Z)) : dzWr l yL_imageOf wsL_imageOf (fr + 1) (8 + (5 + 11) + lo) 1 6 Z G ad [.ref aX, .int v1, .int v2, .int v3] rv_i (fun (x : Int32) G1 ad1 => x = -2000000001 ∧ G1 = G ∧ ad1 = ad) := by
  refine dz_ofWH (cc := cL_imageOf) (maxL := 5) (ret := (some .int)) (by decide) rfl ?_
  intro p e s m args below meth c s₁ B hml hv
  obtain ⟨rfl, hG, hE⟩ := hv
  have hx := B.exec
  have hb := B.bytes
  have hrt := B.returns
  have hts := atoms_spec (ws := wsL_imageOf) B.pre
  have hown : s.vm.findClass RL = some m.cls := findClass_of_methodNamed B.named
  have hS : va_S (dz_A Z) s.heap s.heap [] := va_S.rf
  have hl := lv_entry ([.ref aX, .int v1, .int v2, .int v3]) (n := 5) (Nat.le_of_ble_eq_true rfl)
  rw [lg_entry_eq]
  generalize (lg_sl ([.ref aX, .int v1, .int v2, .int v3]) ++ List.replicate (5 - (lg_sl ([.ref aX, .int v1, .int v2, .int v3])).length) Slot.unset).toArray = ls at hl ⊢
  have hl : lv_has ls 5 [(0, .ref aX), (1, .int v1), (2, .int v2), (3, .int v3)] := hl
  refine lv_aload_n hx hb dL_imageOf_0 rfl (lv_at hl 0 rfl) ?_
  refine lv_iload_n hx hb dL_imageOf_1 rfl (lv_at hl 1 rfl) ?_
  refine lv_iload_n hx hb dL_imageOf_2 rfl (lv_at hl 2 rfl) ?_
  refine lv_iload_n hx hb dL_imageOf_3 rfl (lv_at hl 3 rfl) ?_
  refine dz_kX (av := #[]) (vx_runV (As := [_, _, _]) ⟨hx, hb, hml, hown, hts⟩ hM (cwV 3 hts gL_imageOf_X8_imageOf rfl rfl rfl (by decide +kernel) ⟨Nat.le_refl _, Nat.le_refl _⟩) (dz_P.preV hE hS hG ho rfl ha) rfl rfl hl.1 rfl (lv_room (Nat.le_of_ble_eq_true rfl)) dL_imageOf_4 ⟨Nat.le_refl _, Nat.le_refl _⟩) hS (fun E q ce H locs hEx hG hS hce hcv hcl => ?_)
  subst hEx
  refine vx_catch (name := "java/lang/IndexOutOfBoundsException") hown [] ⟨0, 7, 8, 23⟩ [⟨0, 7, 13, 13⟩] ((vx_table (x := yL_imageOf) B (hts _ List.mem_cons_self)).trans rfl) (fun z h => absurd h List.not_mem_nil) (by decide) (by decide) (hts _ (List.mem_of_getElem? (i := 1) rfl)) (va_Nw.use rfl (hE.2.2.2.2.2.2.1 ("java/lang/IndexOutOfBoundsException", "java/lang/IndexOutOfBoundsException") (by decide +kernel))) hce hcv hcl ?_
  refine lv_astore (lv' := [(4, .ref q), (0, .ref aX), (1, .int v1), (2, .int v2), (3, .int v3)]) (pc := 8) hx hb dL_imageOf_8 hl (by decide) rfl (fun ls hl => ?_)
  refine lv_ldc hx hb hown (hts _ (List.mem_of_getElem? (i := 3) rfl)) dL_imageOf_10 ?_
  refine W.widen (k := 1) (n := 6) (by omega) (by omega) ?_
  refine W.iret hx hb hrt (fun t ht hW => dz_endM (f := rv_i) (-2000000001) hE hS hG ?_ ht hW) (fun q h => hS.2.2 q h) dL_imageOf_12
  exact ⟨rfl, rfl, rfl⟩
set_option maxHeartbeats 4000000 in
set_option maxRecDepth 100000 in
theorem c_L_imageOf_X2 (l : Launch) (Z : dzG) (G : dzW) (ad : dzA) (aX : Nat) (v1 v2 v3 : Int32) (fs : List Value) (fr lo : Nat) (ha : ad (1, 0) = aX) (ho : G (1, 0) = some (.inr (9, fs))) (hM : vx_Met l yX8_imageOf wsX8_imageOf (dz_rm fr lo 1 6) (dz_P Z G ad [.ref aX, .int v1, .int v2, .int v3]) (fun _ _ _ _ => False) (dz_XC Z G ad (fun E => E = "java/lang/IllegalArgumentException")) 1 6 (dz_A Z)) : dzWr l yL_imageOf wsL_imageOf (fr + 1) (8 + (5 + 11) + lo) 1 6 Z G ad [.ref aX, .int v1, .int v2, .int v3] rv_i (fun (x : Int32) G1 ad1 => x = -2000000002 ∧ G1 = G ∧ ad1 = ad) := by
  refine dz_ofWH (cc := cL_imageOf) (maxL := 5) (ret := (some .int)) (by decide) rfl ?_
  intro p e s m args below meth c s₁ B hml hv
  obtain ⟨rfl, hG, hE⟩ := hv
  have hx := B.exec
  have hb := B.bytes
  have hrt := B.returns
  have hts := atoms_spec (ws := wsL_imageOf) B.pre
  have hown : s.vm.findClass RL = some m.cls := findClass_of_methodNamed B.named
  have hS : va_S (dz_A Z) s.heap s.heap [] := va_S.rf
  have hl := lv_entry ([.ref aX, .int v1, .int v2, .int v3]) (n := 5) (Nat.le_of_ble_eq_true rfl)
  rw [lg_entry_eq]
  generalize (lg_sl ([.ref aX, .int v1, .int v2, .int v3]) ++ List.replicate (5 - (lg_sl ([.ref aX, .int v1, .int v2, .int v3])).length) Slot.unset).toArray = ls at hl ⊢
  have hl : lv_has ls 5 [(0, .ref aX), (1, .int v1), (2, .int v2), (3, .int v3)] := hl
  refine lv_aload_n hx hb dL_imageOf_0 rfl (lv_at hl 0 rfl) ?_
  refine lv_iload_n hx hb dL_imageOf_1 rfl (lv_at hl 1 rfl) ?_
  refine lv_iload_n hx hb dL_imageOf_2 rfl (lv_at hl 2 rfl) ?_
  refine lv_iload_n hx hb dL_imageOf_3 rfl (lv_at hl 3 rfl) ?_
  refine dz_kX (av := #[]) (vx_runV (As := [_, _, _]) ⟨hx, hb, hml, hown, hts⟩ hM (cwV 3 hts gL_imageOf_X8_imageOf rfl rfl rfl (by decide +kernel) ⟨Nat.le_refl _, Nat.le_refl _⟩) (dz_P.preV hE hS hG ho rfl ha) rfl rfl hl.1 rfl (lv_room (Nat.le_of_ble_eq_true rfl)) dL_imageOf_4 ⟨Nat.le_refl _, Nat.le_refl _⟩) hS (fun E q ce H locs hEx hG hS hce hcv hcl => ?_)
  subst hEx
  refine vx_catch (name := "java/lang/IllegalArgumentException") hown [⟨0, 7, 8, 23⟩] ⟨0, 7, 13, 13⟩ [] ((vx_table (x := yL_imageOf) B (hts _ List.mem_cons_self)).trans rfl) (List.forall_mem_cons.mpr ⟨Or.inr ⟨by decide, "java/lang/IndexOutOfBoundsException", (hts _ (List.mem_of_getElem? (i := 1) rfl)), hE.2.2.2.2.2.2.2.2.2.2.2.1 ("java/lang/IllegalArgumentException", "java/lang/IndexOutOfBoundsException") (by decide +kernel)⟩, (fun z h => absurd h List.not_mem_nil)⟩) (by decide) (by decide) (hts _ (List.mem_of_getElem? (i := 2) rfl)) (va_Nw.use rfl (hE.2.2.2.2.2.2.1 ("java/lang/IllegalArgumentException", "java/lang/IllegalArgumentException") (by decide +kernel))) hce hcv hcl ?_
  refine lv_astore (lv' := [(4, .ref q), (0, .ref aX), (1, .int v1), (2, .int v2), (3, .int v3)]) (pc := 13) hx hb dL_imageOf_13 hl (by decide) rfl (fun ls hl => ?_)
  refine lv_ldc hx hb hown (hts _ (List.mem_of_getElem? (i := 4) rfl)) dL_imageOf_15 ?_
  refine W.widen (k := 1) (n := 6) (by omega) (by omega) ?_
  refine W.iret hx hb hrt (fun t ht hW => dz_endM (f := rv_i) (-2000000002) hE hS hG ?_ ht hW) (fun q h => hS.2.2 q h) dL_imageOf_17
  exact ⟨rfl, rfl, rfl⟩
