set_option maxHeartbeats 4000000 in
set_option maxRecDepth 100000 in
theorem c_Jxa1e45_init_da8c8 (l : Launch) (Z : dzG) (G : dzW) (ad : dzA) (a : Nat)  : dzWr l yJxa1e45_init_da8c8 wsJxa1e45_init_da8c8 1 20 0 0 Z G ad [.ref a] rv_v (fun (x : Unit) G1 ad1 => (∀ r9 : dzR, G1 r9 = G r9 ∧ ad1 r9 = ad r9)) := by
  refine Met.ofW (cc := cJxa1e45_init_da8c8) (maxL := 1) (ret := none) (by decide) rfl ?_
  intro p e s m args below meth c s₁ B hml hv
  obtain ⟨rfl, hG, hE⟩ := hv
  have hx := B.exec
  have hb := B.bytes
  have hrt := B.returns
  have hts := atoms_spec (ws := wsJxa1e45_init_da8c8) B.pre
  have hown : s.vm.findClass RJxa1e45 = some m.cls := findClass_of_methodNamed B.named
  have hlocks := B.notSynchronized
  have hini : meth.name = "<init>" := (name_of_methodNamed B.named B.method).1
  have hS : va_S (dz_A Z) s.heap s.heap [] := va_S.rf
  have hl := lv_entry ([.ref a]) (n := 1) (Nat.le_of_ble_eq_true rfl)
  rw [lg_entry_eq]
  generalize (lg_sl ([.ref a]) ++ List.replicate (1 - (lg_sl ([.ref a])).length) Slot.unset).toArray = ls at hl ⊢
  have hl : lv_has ls 1 [(0, .ref a)] := hl
  refine lv_aload_n hx hb dJxa1e45_init_da8c8_0 rfl (lv_at hl 0 rfl) ?_
  refine W.objInit hx hb hown (hts _ (List.mem_of_getElem? (i := 1) rfl)) (hts _ (List.mem_of_getElem? (i := 2) rfl)) (hts _ (List.mem_of_getElem? (i := 3) rfl)) rfl (by rw [hml]; exact hl.1) rfl dJxa1e45_init_da8c8_1 (Nat.le_of_ble_eq_true rfl) (Nat.le_of_ble_eq_true rfl) ?_
  refine W.eq (g2 := F0 m 4 ls []) rfl ?_
  refine W.widen (k := 0) (n := 0) (by first | omega | decide) (by first | omega | decide) ?_
  refine W.vret hx hb hrt (fun t ht hW => dz_endM (f := rv_v) () hE hS hG ?_ ht hW) (fun q h => hS.2.2 q h) dJxa1e45_init_da8c8_4
  exact fun r9 => ⟨rfl, rfl⟩

set_option maxHeartbeats 4000000 in
set_option maxRecDepth 100000 in
theorem c_Jxc12de_init_da8c8 (l : Launch) (Z : dzG) (G : dzW) (ad : dzA) (rl : dzR) (a : Nat) (mo : Int32) (ha : ad rl = a) (h1 : G rl = some (eO 0 [.int mo, .null, .int 0])) : dzWr l yJxc12de_init_da8c8 wsJxc12de_init_da8c8 2 40 0 0 Z G ad [.ref a] rv_v (fun (x : Unit) G1 ad1 => (∀ r9 : dzR, r9 ≠ rl → G1 r9 = G r9 ∧ ad1 r9 = ad r9) ∧ G1 rl = some (eO 0 [.int 0, .null, .int 0]) ∧ ad1 rl = a) := by
  refine Met.ofW (cc := cJxc12de_init_da8c8) (maxL := 1) (ret := none) (by decide) rfl ?_
  intro p e s m args below meth c s₁ B hml hv
  obtain ⟨rfl, hG, hE⟩ := hv
  have hx := B.exec
  have hb := B.bytes
  have hrt := B.returns
  have hts := atoms_spec (ws := wsJxc12de_init_da8c8) B.pre
  have hown : s.vm.findClass RJxc12de = some m.cls := findClass_of_methodNamed B.named
  have hlocks := B.notSynchronized
  have hini : meth.name = "<init>" := (name_of_methodNamed B.named B.method).1
  have hS : va_S (dz_A Z) s.heap s.heap [] := va_S.rf
  have hl := lv_entry ([.ref a]) (n := 1) (Nat.le_of_ble_eq_true rfl)
  rw [lg_entry_eq]
  generalize (lg_sl ([.ref a]) ++ List.replicate (1 - (lg_sl ([.ref a])).length) Slot.unset).toArray = ls at hl ⊢
  have hl : lv_has ls 1 [(0, .ref a)] := hl
  refine lv_aload_n hx hb dJxc12de_init_da8c8_0 rfl (lv_at hl 0 rfl) ?_
  refine dz_kMv (va_runI (As := []) ⟨hx, hb, hml, hown, hts⟩ (c_Jxa1e45_init_da8c8 l Z _ _ _ ) (cwI 0 hts gJxc12de_init_da8c8_Jxa1e45_init_da8c8 rfl rfl rfl (hts _ (List.mem_of_getElem? (i := 4) rfl)) (hts _ (List.mem_of_getElem? (i := 2) rfl)) (hts _ (List.mem_of_getElem? (i := 3) rfl)) rfl (by decide +kernel) ⟨Nat.le_of_ble_eq_true rfl, Nat.le_of_ble_eq_true rfl⟩) (dz_P.pre hE hS hG) rfl rfl hl.1 rfl (lv_room (Nat.le_of_ble_eq_true rfl)) dJxc12de_init_da8c8_1 ⟨Nat.le_of_ble_eq_true rfl, Nat.le_of_ble_eq_true rfl⟩) hS (fun G_1_1 ad_1_1 H locs hp_1_1 hG hS => ?_)
  have fr_1_1 := hp_1_1
  refine lv_aload_n hx hb dJxc12de_init_da8c8_4 rfl (lv_at hl 0 rfl) ?_
  refine lv_iconst (v := 0) hx hb dJxc12de_init_da8c8_5 (by decide) ?_
  refine dz_put hx hb hts (fun _ h => List.mem_cons_of_mem _ (List.mem_append_right _ h)) tyJx4a65c tyJx4a65c_ok nmJx4a65c hown hE hG ((fr_1_1 _).2.trans ha) hS ((fr_1_1 _).1.trans h1) rfl 0 (by decide) (hts _ (List.mem_of_getElem? (i := 1) rfl)) (fun _ h9 => h9) rfl (ty := .int) (by decide +kernel) rfl rfl (fs' := [.int 0, .null, .int 0]) rfl (Nat.le_of_ble_eq_true rfl) dJxc12de_init_da8c8_6 (fun H locs hG hS => ?_)
  obtain ⟨G_1, hG, w_1, o_1⟩ := dz_nm hG
  refine W.widen (k := 0) (n := 0) (by first | omega | decide) (by first | omega | decide) ?_
  refine W.vret hx hb hrt (fun t ht hW => dz_endM (f := rv_v) () hE hS hG ?_ ht hW) (fun q h => hS.2.2 q h) dJxc12de_init_da8c8_9
  refine ⟨fun r9 n_0 => (dz_tr (o_1 r9 n_0) (fr_1_1 r9 )), ?_⟩
  exact ⟨w_1, ((fr_1_1 _).2.trans ha)⟩

set_option maxHeartbeats 4000000 in
set_option maxRecDepth 100000 in
theorem c_Jx4a65c_init_da8c8 (l : Launch) (Z : dzG) (G : dzW) (ad : dzA) (rl ra : dzR) (a : Nat) (el : Nat → Nat) (mo : Int32) (ha : ad rl = a) (h1 : G rl = some (eO 0 [.int mo, .null, .int 0])) : dzWr l yJx4a65c_init_da8c8 wsJx4a65c_init_da8c8 3 60 0 0 Z G ad [.ref a] rv_v (fun (x : Unit) G1 ad1 => (∀ r9 : dzR, r9 ≠ rl → G1 r9 = G r9 ∧ ad1 r9 = ad r9) ∧ dz_L Z G1 ad1 rl ra 0 el ∧ ad1 rl = a) := by
  refine Met.ofW (cc := cJx4a65c_init_da8c8) (maxL := 1) (ret := none) (by decide) rfl ?_
  intro p e s m args below meth c s₁ B hml hv
  obtain ⟨rfl, hG, hE⟩ := hv
  have hx := B.exec
  have hb := B.bytes
  have hrt := B.returns
  have hts := atoms_spec (ws := wsJx4a65c_init_da8c8) B.pre
  have hown : s.vm.findClass RJx4a65c = some m.cls := findClass_of_methodNamed B.named
  have hlocks := B.notSynchronized
  have hini : meth.name = "<init>" := (name_of_methodNamed B.named B.method).1
  have hS : va_S (dz_A Z) s.heap s.heap [] := va_S.rf
  have hl := lv_entry ([.ref a]) (n := 1) (Nat.le_of_ble_eq_true rfl)
  rw [lg_entry_eq]
  generalize (lg_sl ([.ref a]) ++ List.replicate (1 - (lg_sl ([.ref a])).length) Slot.unset).toArray = ls at hl ⊢
  have hl : lv_has ls 1 [(0, .ref a)] := hl
  refine lv_aload_n hx hb dJx4a65c_init_da8c8_0 rfl (lv_at hl 0 rfl) ?_
  refine dz_kMv (va_runI (As := []) ⟨hx, hb, hml, hown, hts⟩ (c_Jxc12de_init_da8c8 l Z _ _ _ _ _ ha h1) (cwI 0 hts gJx4a65c_init_da8c8_Jxc12de_init_da8c8 rfl rfl rfl (hts _ (List.mem_of_getElem? (i := 5) rfl)) (hts _ (List.mem_of_getElem? (i := 3) rfl)) (hts _ (List.mem_of_getElem? (i := 4) rfl)) rfl (by decide +kernel) ⟨Nat.le_of_ble_eq_true rfl, Nat.le_of_ble_eq_true rfl⟩) (dz_P.pre hE hS hG) rfl rfl hl.1 rfl (lv_room (Nat.le_of_ble_eq_true rfl)) dJx4a65c_init_da8c8_1 ⟨Nat.le_of_ble_eq_true rfl, Nat.le_of_ble_eq_true rfl⟩) hS (fun G_1_1 ad_1_1 H locs hp_1_1 hG hS => ?_)
  obtain ⟨fr_1_1, g_1_1⟩ := hp_1_1
  refine lv_aload_n hx hb dJx4a65c_init_da8c8_4 rfl (lv_at hl 0 rfl) ?_
  refine va_gets hx hb hE.2.2.1 hS hown (hts _ (List.mem_of_getElem? (i := 1) rfl)) (fun _ h9 => h9) dJx4a65c_init_da8c8_5 ?_
  refine dz_put hx hb hts (fun _ h => List.mem_cons_of_mem _ (List.mem_append_right _ h)) tyJx4a65c tyJx4a65c_ok nmJx4a65c hown hE hG (g_1_1.2) hS (g_1_1.1) rfl 1 (by decide) (hts _ (List.mem_of_getElem? (i := 2) rfl)) (fun _ h9 => h9) rfl (ty := .array (.object "java/lang/Object")) (by decide +kernel) rfl rfl (fs' := [.int 0, .ref (dz0 Z), .int 0]) rfl (Nat.le_of_ble_eq_true rfl) dJx4a65c_init_da8c8_8 (fun H locs hG hS => ?_)
  obtain ⟨G_1, hG, w_1, o_1⟩ := dz_nm hG
  refine W.widen (k := 0) (n := 0) (by first | omega | decide) (by first | omega | decide) ?_
  refine W.vret hx hb hrt (fun t ht hW => dz_endM (f := rv_v) () hE hS hG ?_ ht hW) (fun q h => hS.2.2 q h) dJx4a65c_init_da8c8_11
  refine ⟨fun r9 n_0 => (dz_tr (o_1 r9 n_0) (fr_1_1 r9 n_0)), ?_⟩
  exact ⟨⟨_, _, 0, fun _ => none, w_1, Nat.le_refl _, by omega, Or.inl ⟨rfl, rfl⟩⟩, (g_1_1.2)⟩

set_option maxHeartbeats 4000000 in
set_option maxRecDepth 100000 in
theorem c_J7_copyOf_6403c (l : Launch) (Z : dzG) (G : dzW) (ad : dzA) (ra : dzR) (e0 n0 nn ce : Nat) (g0 : Nat → Option Nat) (Ce : String) (Te : u_T) (Nf : Nat) (ha : ad ra = e0) (h1 : G ra = some (eR Z n0 g0)) (hn1 : n0 ≤ nn) (hn2 : nn ≤ 100) (hra : ra ≠ (90, 0)) (hce : vwCl[ce]? = some (Ce, Te, Nf)) (hCe : (Ce, "java/lang/Object") ∈ dz_cast) (hel : ∀ j, j < n0 → ∀ y, g0 j = some y → ∃ r vs, ad r = y ∧ G r = some (.inr (ce, vs)) ∧ r ≠ (90, 0)) : dzWr l yJ7_copyOf_6403c wsJ7_copyOf_6403c 1 44 1 100 Z G ad [.ref e0, .int (nI nn), .ref (dzMi Z)] rv_r (fun (x : Nat) G1 ad1 => (∀ r9 : dzR, r9 ≠ (90, 0) → G1 r9 = G r9 ∧ ad1 r9 = ad r9) ∧ (G1 (90, 0) = some (eR Z nn (va_cpy g0 (fun _ => none) 0 0 n0)) ∧ ad1 (90, 0) = x)) := by
  refine Met.ofW (cc := cJ7_copyOf_6403c) (maxL := 4) (ret := (some (.array (.object "java/lang/Object")))) (by decide) rfl ?_
  intro p e s m args below meth c s₁ B hml hv
  obtain ⟨rfl, hG, hE⟩ := hv
  have hx := B.exec
  have hb := B.bytes
  have hrt := B.returns
  have hts := atoms_spec (ws := wsJ7_copyOf_6403c) B.pre
  have hown : s.vm.findClass RJ7 = some m.cls := findClass_of_methodNamed B.named
  have hlocks := B.notSynchronized
  have hS : va_S (dz_A Z) s.heap s.heap [] := va_S.rf
  have hl := lv_entry ([.ref e0, .int (nI nn), .ref (dzMi Z)]) (n := 4) (Nat.le_of_ble_eq_true rfl)
  rw [lg_entry_eq]
  generalize (lg_sl ([.ref e0, .int (nI nn), .ref (dzMi Z)]) ++ List.replicate (4 - (lg_sl ([.ref e0, .int (nI nn), .ref (dzMi Z)])).length) Slot.unset).toArray = ls at hl ⊢
  have hl : lv_has ls 4 [(0, .ref e0), (1, .int (nI nn)), (2, .ref (dzMi Z))] := hl
  refine lv_aload_n hx hb dJ7_copyOf_6403c_0 rfl (lv_at hl 2 rfl) ?_
  refine va_ldcM hx hb hown (hts _ (List.mem_of_getElem? (i := 1) rfl)) hE.2.2.2.2.2.2.2.2.2.2.1 dJ7_copyOf_6403c_1 ?_
  refine lv_acmp_ne (rx := some (dzMi Z)) (ry := some (dzMi Z)) (tgt := 13) hx hb dJ7_copyOf_6403c_3 (by decide) (fun c_3 => absurd rfl c_3) (fun c_3 => ?_)
  refine lv_iload_n hx hb dJ7_copyOf_6403c_6 rfl (lv_at hl 1 rfl) ?_
  refine dz_newq hx hb hown (hts _ (List.mem_of_getElem? (i := 2) rfl)) hE hG hS (90, 0) (N' := nn) (nI_pos (by omega)) (nI_clamp (by omega)) (by omega) (Nat.le_of_ble_eq_true rfl) (Nat.le_trans (show 0 + nn ≤ 100 by omega) (Nat.le_of_ble_eq_true rfl)) dJ7_copyOf_6403c_7 (fun q_1 H hG hS => ?_)
  refine W.widen (k := 1) (n := 100) (by omega) (by omega) ?_
  obtain ⟨G_1, ad_1, hG, w_1, a_1, o_1⟩ := dz_nma hG
  refine lv_goto (tgt := 24) hx hb dJ7_copyOf_6403c_10 (by decide) ?_
  refine lv_astore_n (lv' := [(3, .ref q_1), (0, .ref e0), (1, .int (nI nn)), (2, .ref (dzMi Z))]) hx hb dJ7_copyOf_6403c_24 rfl hl (by decide) rfl (fun ls hl => ?_)
  refine lv_aload_n hx hb dJ7_copyOf_6403c_25 rfl (lv_at hl 1 rfl) ?_
  refine lv_iconst (v := 0) hx hb dJ7_copyOf_6403c_26 (by decide) ?_
  refine lv_aload_n hx hb dJ7_copyOf_6403c_27 rfl (lv_at hl 0 rfl) ?_
  refine lv_iconst (v := 0) hx hb dJ7_copyOf_6403c_28 (by decide) ?_
  refine lv_aload_n hx hb dJ7_copyOf_6403c_29 rfl (lv_at hl 1 rfl) ?_
  refine dz_alen hx hb hE hG ((o_1 _ hra).2.trans ha) ((o_1 _ hra).1.trans h1) 3 rfl dJ7_copyOf_6403c_30 ?_
  refine lv_iload_n hx hb dJ7_copyOf_6403c_31 rfl (lv_at hl 2 rfl) ?_
  refine va_mmin hx hb (hml.trans hl.1.symm) hown (hts _ (List.mem_of_getElem? (i := 3) rfl)) (hts _ (List.mem_of_getElem? (i := 4) rfl)) (hts _ (List.mem_of_getElem? (i := 5) rfl)) (hts _ (List.mem_of_getElem? (i := 6) rfl)) (Nat.le_of_ble_eq_true rfl) (Nat.le_of_ble_eq_true rfl) (Nat.le_of_ble_eq_true rfl) (Nat.le_of_ble_eq_true rfl) dJ7_copyOf_6403c_32 ?_
  refine lv_topi (fun v ev => ?_)
  obtain rfl : v = nI n0 := ev.trans (by rw [if_neg (nI_nlt hn1 (by omega))])
  have hP2 : va_P (dzD Z) vwCl [(e0, eR Z n0 g0), (q_1, eR Z nn (fun _ => none))] H := by
    intro k q hk
    match k, hk with
    | 0, hk => cases hk; have z := hG.1 _ _ ((o_1 _ hra).1.trans h1); rw [((o_1 _ hra).2.trans ha)] at z; exact z
    | 1, hk => cases hk; have z := hG.1 _ _ w_1; rw [a_1] at z; exact z
    | k + 2, hk => simp at hk
  have hne2 : e0 ≠ q_1 := by
    intro z
    exact hra (hG.2.1 _ _ _ _ ((o_1 _ hra).1.trans h1) w_1 (((o_1 _ hra).2.trans ha).trans (z.trans a_1.symm)))
  have hD2 : va_D (fun q => q = e0 ∨ q = q_1) [(e0, eR Z n0 g0), (q_1, eR Z nn (fun _ => none))] := by
    refine ⟨fun i j p q h1 h2 h3 => ?_, fun k q hk => ?_⟩
    · match i, j, h1, h2 with
      | 0, 0, _, _ => rfl
      | 1, 1, _, _ => rfl
      | 0, 1, h1, h2 => cases h1; cases h2; exact absurd h3 hne2
      | 1, 0, h1, h2 => cases h1; cases h2; exact absurd h3.symm hne2
      | i + 2, _, h1, _ => simp at h1
      | 0, j + 2, _, h2 => simp at h2
      | 1, j + 2, _, h2 => simp at h2
    · match k, hk with
      | 0, hk => cases hk; exact Or.inl rfl
      | 1, hk => cases hk; exact Or.inr rfl
      | k + 2, hk => simp at hk
  have hS2 : va_S (fun q => q = e0 ∨ q = q_1) H H [] := va_S.rf
  refine va_copyq (C := Ce) hx hb (hml.trans hl.1.symm) hown (hts _ (List.mem_of_getElem? (i := 7) rfl)) (hts _ (List.mem_of_getElem? (i := 8) rfl)) (hts _ (List.mem_of_getElem? (i := 9) rfl)) (hts _ (List.mem_of_getElem? (i := 10) rfl)) hE.1 hP2 hD2 hS2 0 1 3 3 rfl rfl rfl rfl (by decide) (by decide) (nI_pos (by omega)) (by rw [nI_clamp (by omega)]; show (0 : Int32).toNatClampNeg + _ ≤ _; rw [show (0 : Int32).toNatClampNeg = 0 by decide]; omega) (by rw [nI_clamp (by omega)]; show (0 : Int32).toNatClampNeg + _ ≤ _; rw [show (0 : Int32).toNatClampNeg = 0 by decide]; omega) (fun i hi y hy => ?_) (vb_asgC (hE.2.2.2.2.2.2.1 _ hCe)) (Nat.le_of_ble_eq_true rfl) (Nat.le_of_ble_eq_true rfl) dJ7_copyOf_6403c_35 (fun H2 locs2 hP3 _ hS3 => ?_)
  · rw [nI_clamp (by omega)] at hi
    rw [show (0 : Int32).toNatClampNeg = 0 by decide, Nat.zero_add] at hy
    obtain ⟨r, vs, z1, z2, z3⟩ := hel i hi y hy
    have z4 := va_recv hE.1 (hG.P (r := r) (e := .inr (ce, vs)) ((o_1 r z3).1.trans z2)) hce (q0 := 0) rfl
    rw [(o_1 r z3).2, z1] at z4
    exact z4
  rw [show (0 : Int32).toNatClampNeg = 0 by decide, nI_clamp (by omega)] at hP3
  obtain ⟨hG, hS⟩ := dz_set2 hG hS ((o_1 _ hra).1.trans h1) ((o_1 _ hra).2.trans ha) w_1 a_1 hP3 hS3
  obtain ⟨G_2, hG, w_2, o_2⟩ := dz_nm hG
  refine lv_aload_n hx hb dJ7_copyOf_6403c_38 rfl (lv_at hl 0 rfl) ?_
  refine W.widen (k := 1) (n := 100) (by first | omega | decide) (by first | omega | decide) ?_
  refine W.aret hx hb hrt (Or.inr ⟨_, rfl⟩) (Or.inr ⟨_, rfl⟩) (fun t ht hW => dz_endM (f := rv_r) _ hE hS hG ?_ ht hW) (fun q h => hS.2.2 q h) dJ7_copyOf_6403c_39
  refine ⟨fun r9 n_0 => (dz_tr (o_2 r9 n_0) (o_1 r9 n_0)), ?_⟩
  exact ⟨w_2, a_1⟩

set_option maxHeartbeats 4000000 in
set_option maxRecDepth 100000 in
theorem c_J7_copyOf_1904c (l : Launch) (Z : dzG) (G : dzW) (ad : dzA) (ra : dzR) (e0 n0 nn ce : Nat) (g0 : Nat → Option Nat) (Ce : String) (Te : u_T) (Nf : Nat) (ha : ad ra = e0) (h1 : G ra = some (eR Z n0 g0)) (hn1 : n0 ≤ nn) (hn2 : nn ≤ 100) (hra : ra ≠ (90, 0)) (hce : vwCl[ce]? = some (Ce, Te, Nf)) (hCe : (Ce, "java/lang/Object") ∈ dz_cast) (hel : ∀ j, j < n0 → ∀ y, g0 j = some y → ∃ r vs, ad r = y ∧ G r = some (.inr (ce, vs)) ∧ r ≠ (90, 0)) : dzWr l yJ7_copyOf_1904c wsJ7_copyOf_1904c 2 67 1 100 Z G ad [.ref e0, .int (nI nn)] rv_r (fun (x : Nat) G1 ad1 => (∀ r9 : dzR, r9 ≠ (90, 0) → G1 r9 = G r9 ∧ ad1 r9 = ad r9) ∧ (G1 (90, 0) = some (eR Z nn (va_cpy g0 (fun _ => none) 0 0 n0)) ∧ ad1 (90, 0) = x)) := by
  refine Met.ofW (cc := cJ7_copyOf_1904c) (maxL := 2) (ret := (some (.array (.object "java/lang/Object")))) (by decide) rfl ?_
  intro p e s m args below meth c s₁ B hml hv
  obtain ⟨rfl, hG, hE⟩ := hv
  have hx := B.exec
  have hb := B.bytes
  have hrt := B.returns
  have hts := atoms_spec (ws := wsJ7_copyOf_1904c) B.pre
  have hown : s.vm.findClass RJ7 = some m.cls := findClass_of_methodNamed B.named
  have hlocks := B.notSynchronized
  have hS : va_S (dz_A Z) s.heap s.heap [] := va_S.rf
  have hl := lv_entry ([.ref e0, .int (nI nn)]) (n := 2) (Nat.le_of_ble_eq_true rfl)
  rw [lg_entry_eq]
  generalize (lg_sl ([.ref e0, .int (nI nn)]) ++ List.replicate (2 - (lg_sl ([.ref e0, .int (nI nn)])).length) Slot.unset).toArray = ls at hl ⊢
  have hl : lv_has ls 2 [(0, .ref e0), (1, .int (nI nn))] := hl
  refine lv_aload_n hx hb dJ7_copyOf_1904c_0 rfl (lv_at hl 0 rfl) ?_
  refine lv_iload_n hx hb dJ7_copyOf_1904c_1 rfl (lv_at hl 1 rfl) ?_
  refine lv_aload_n hx hb dJ7_copyOf_1904c_2 rfl (lv_at hl 0 rfl) ?_
  refine va_getC hx hb (hml.trans hl.1.symm) hown (hts _ (List.mem_of_getElem? (i := 1) rfl)) (va_Dc.use hE.2.2.2.2.2.2.2.2.2.1) (hts _ (List.mem_of_getElem? (i := 2) rfl)) (hts _ (List.mem_of_getElem? (i := 3) rfl)) (hts _ (List.mem_of_getElem? (i := 4) rfl)) hE.2.2.2.2.2.2.2.2.2.2.1 ?_ (Nat.le_of_ble_eq_true rfl) (Nat.le_of_ble_eq_true rfl) dJ7_copyOf_1904c_3 ?_
  · have z := hG.1 _ _ h1
    rw [ha] at z
    exact ⟨_, z, rfl, va_nmO (hE.1.2 3 _ rfl).2 rfl⟩
  refine dz_kMr (va_runS (As := [_, _, _]) ⟨hx, hb, hml, hown, hts⟩ (c_J7_copyOf_6403c l Z _ _ _ _ _ _ _ _ _ _ _ ha h1 hn1 hn2 hra hce hCe hel) (va_cwS 3 hts gJ7_copyOf_1904c_J7_copyOf_6403c rfl rfl rfl (by decide +kernel) ⟨Nat.le_of_ble_eq_true rfl, Nat.le_of_ble_eq_true rfl⟩) (dz_P.pre hE hS hG) rfl rfl hl.1 rfl (lv_room (Nat.le_of_ble_eq_true rfl)) dJ7_copyOf_1904c_6 ⟨Nat.le_of_ble_eq_true rfl, Nat.le_of_ble_eq_true rfl⟩) hS (fun x_6_1 G_6_1 ad_6_1 H locs hp_6_1 hG hS => ?_)
  refine W.widen (k := 1) (n := 100) (by omega) (by omega) ?_
  obtain ⟨fr_6_1, g_6_1⟩ := hp_6_1
  refine W.widen (k := 1) (n := 100) (by first | omega | decide) (by first | omega | decide) ?_
  refine W.aret hx hb hrt (Or.inr ⟨_, rfl⟩) (Or.inr ⟨_, rfl⟩) (fun t ht hW => dz_endM (f := rv_r) _ hE hS hG ?_ ht hW) (fun q h => hS.2.2 q h) dJ7_copyOf_1904c_9
  refine ⟨fun r9 n_0 => (fr_6_1 r9 n_0), ?_⟩
  exact ⟨(g_6_1.1), (g_6_1.2)⟩

set_option maxHeartbeats 4000000 in
set_option maxRecDepth 100000 in
theorem c_J8_newLength_cabcc (l : Launch) (Z : dzG) (G : dzW) (ad : dzA) (n0 : Nat) (h1 : 2 ≤ n0) (h2 : n0 ≤ 1000) : dzRd l yJ8_newLength_cabcc wsJ8_newLength_cabcc 1 21 Z G ad [.int (nI n0), .int (nI 1), .int (nI (n0 / 2))] (some (.int (nI (n0 + n0 / 2)))) := by
  refine Met.ofW (cc := cJ8_newLength_cabcc) (maxL := 4) (ret := (some .int)) (by decide) rfl ?_
  intro p e s m args below meth c s₁ B hml hv
  obtain ⟨rfl, hG, hE⟩ := hv
  have hx := B.exec
  have hb := B.bytes
  have hrt := B.returns
  have hts := atoms_spec (ws := wsJ8_newLength_cabcc) B.pre
  have hown : s.vm.findClass RJ8 = some m.cls := findClass_of_methodNamed B.named
  have hlocks := B.notSynchronized
  have hS : va_S (dz_A Z) s.heap s.heap [] := va_S.rf
  have hl := lv_entry ([.int (nI n0), .int (nI 1), .int (nI (n0 / 2))]) (n := 4) (Nat.le_of_ble_eq_true rfl)
  rw [lg_entry_eq]
  generalize (lg_sl ([.int (nI n0), .int (nI 1), .int (nI (n0 / 2))]) ++ List.replicate (4 - (lg_sl ([.int (nI n0), .int (nI 1), .int (nI (n0 / 2))])).length) Slot.unset).toArray = ls at hl ⊢
  have hl : lv_has ls 4 [(0, .int (nI n0)), (1, .int (nI 1)), (2, .int (nI (n0 / 2)))] := hl
  refine lv_iload_n hx hb dJ8_newLength_cabcc_0 rfl (lv_at hl 0 rfl) ?_
  refine lv_iload_n hx hb dJ8_newLength_cabcc_1 rfl (lv_at hl 1 rfl) ?_
  refine lv_iload_n hx hb dJ8_newLength_cabcc_2 rfl (lv_at hl 2 rfl) ?_
  refine va_mmax hx hb (hml.trans hl.1.symm) hown (hts _ (List.mem_of_getElem? (i := 1) rfl)) (hts _ (List.mem_of_getElem? (i := 2) rfl)) (hts _ (List.mem_of_getElem? (i := 3) rfl)) (hts _ (List.mem_of_getElem? (i := 4) rfl)) (Nat.le_of_ble_eq_true rfl) (Nat.le_of_ble_eq_true rfl) (Nat.le_of_ble_eq_true rfl) (Nat.le_of_ble_eq_true rfl) dJ8_newLength_cabcc_3 ?_
  refine lv_iadd hx hb dJ8_newLength_cabcc_6 ?_
  refine lv_topi (fun v ev => ?_)
  obtain rfl : v = nI (n0 + n0 / 2) := by
    rw [ev]
    by_cases c : 1 < n0 / 2
    · rw [if_pos (nI_lt c (by omega))]; exact nI_add _ _
    · rw [if_neg (nI_nlt (by omega) (by decide)), show n0 / 2 = 1 by omega]; exact nI_add _ _
  refine lv_istore_n (lv' := [(3, .int (nI (n0 + n0 / 2))), (0, .int (nI n0)), (1, .int (nI 1)), (2, .int (nI (n0 / 2)))]) hx hb dJ8_newLength_cabcc_7 rfl hl (by decide) rfl (fun ls hl => ?_)
  refine lv_iconst (v := 0) hx hb dJ8_newLength_cabcc_8 (by decide) ?_
  refine lv_iload_n hx hb dJ8_newLength_cabcc_9 rfl (lv_at hl 0 rfl) ?_
  refine lv_icmp_ge (tgt := 21) hx hb dJ8_newLength_cabcc_10 (by decide) (fun c_10 => absurd c_10 (nI_nle (by omega) (by omega))) (fun c_10 => ?_)
  refine lv_iload_n hx hb dJ8_newLength_cabcc_13 rfl (lv_at hl 0 rfl) ?_
  refine lv_ldc hx hb hown (hts _ (List.mem_of_getElem? (i := 5) rfl)) dJ8_newLength_cabcc_14 ?_
  refine lv_icmp_gt (tgt := 21) hx hb dJ8_newLength_cabcc_16 (by decide) (fun c_16 => absurd c_16 (show ¬ nI 2147483639 < nI (n0 + n0 / 2) from nI_nlt (by omega) (by decide))) (fun c_16 => ?_)
  refine lv_iload_n hx hb dJ8_newLength_cabcc_19 rfl (lv_at hl 0 rfl) ?_
  refine W.iret hx hb hrt (fun t ht hW => ⟨congrArg (fun x => Outcome.returned (some (Value.int x))) ?_, ht⟩) (fun _ h => by cases h) dJ8_newLength_cabcc_20
  rfl

set_option maxHeartbeats 4000000 in
set_option maxRecDepth 100000 in
theorem c_growE (l : Launch) (Z : dzG) (G : dzW) (ad : dzA) (rl ra : dzR) (a : Nat) (mo : Int32) (ha : ad rl = a) (h1 : G rl = some (eO 0 [.int mo, .ref (dz0 Z), .int (nI 0)])) (hne : rl ≠ ra) : dzWr l yJx4a65c_grow_92f84 wsJx4a65c_grow_92f84 1 21 1 100 Z G ad [.ref a, .int (nI 1)] rv_r (fun (x : Nat) G1 ad1 => (∀ r9 : dzR, r9 ≠ rl → r9 ≠ ra → G1 r9 = G r9 ∧ ad1 r9 = ad r9) ∧ (G1 rl = some (eO 0 [.int mo, .ref x, .int (nI 0)]) ∧ ad1 rl = a) ∧ G1 ra = some (eR Z 10 (fun _ => none)) ∧ ad1 ra = x) := by
  refine Met.ofW (cc := cJx4a65c_grow_92f84) (maxL := 4) (ret := (some (.array (.object "java/lang/Object")))) (by decide) rfl ?_
  intro p e s m args below meth c s₁ B hml hv
  obtain ⟨rfl, hG, hE⟩ := hv
  have hx := B.exec
  have hb := B.bytes
  have hrt := B.returns
  have hts := atoms_spec (ws := wsJx4a65c_grow_92f84) B.pre
  have hown : s.vm.findClass RJx4a65c = some m.cls := findClass_of_methodNamed B.named
  have hlocks := B.notSynchronized
  have hS : va_S (dz_A Z) s.heap s.heap [] := va_S.rf
  have hl := lv_entry ([.ref a, .int (nI 1)]) (n := 4) (Nat.le_of_ble_eq_true rfl)
  rw [lg_entry_eq]
  generalize (lg_sl ([.ref a, .int (nI 1)]) ++ List.replicate (4 - (lg_sl ([.ref a, .int (nI 1)])).length) Slot.unset).toArray = ls at hl ⊢
  have hl : lv_has ls 4 [(0, .ref a), (1, .int (nI 1))] := hl
  refine lv_aload_n hx hb dJx4a65c_grow_92f84_0 rfl (lv_at hl 0 rfl) ?_
  refine dz_get hx hb hts (fun _ h => List.mem_cons_of_mem _ (List.mem_append_right _ h)) hown hE hG ha h1 rfl 1 (by decide) (hts _ (List.mem_of_getElem? (i := 1) rfl)) (fun _ h9 => h9) rfl dJx4a65c_grow_92f84_1 ?_
  refine dz_alen0 hx hb hE hS dJx4a65c_grow_92f84_4 ?_
  refine lv_istore_n (lv' := [(2, .int 0), (0, .ref a), (1, .int (nI 1))]) hx hb dJx4a65c_grow_92f84_5 rfl hl (by decide) rfl (fun ls hl => ?_)
  refine lv_iload_n hx hb dJx4a65c_grow_92f84_6 rfl (lv_at hl 0 rfl) ?_
  refine lv_if_gt (tgt := 20) hx hb dJx4a65c_grow_92f84_7 (by decide) (fun c_7 => absurd c_7 (by decide)) (fun c_7 => ?_)
  refine lv_aload_n hx hb dJx4a65c_grow_92f84_10 rfl (lv_at hl 1 rfl) ?_
  refine dz_get hx hb hts (fun _ h => List.mem_cons_of_mem _ (List.mem_append_right _ h)) hown hE hG ha h1 rfl 1 (by decide) (hts _ (List.mem_of_getElem? (i := 1) rfl)) (fun _ h9 => h9) rfl dJx4a65c_grow_92f84_11 ?_
  refine va_gets hx hb hE.2.2.1 hS hown (hts _ (List.mem_of_getElem? (i := 2) rfl)) (fun _ h9 => h9) dJx4a65c_grow_92f84_14 ?_
  refine lv_acmp_eq (rx := some (dz0 Z)) (ry := some (dz0 Z)) (tgt := 45) hx hb dJx4a65c_grow_92f84_17 (by decide) (fun c_17 => ?_) (fun c_17 => absurd rfl c_17)
  refine lv_aload_n hx hb dJx4a65c_grow_92f84_45 rfl (lv_at hl 1 rfl) ?_
  refine lv_bipush (v := 10) hx hb dJx4a65c_grow_92f84_46 (by decide) ?_
  refine lv_iload_n hx hb dJx4a65c_grow_92f84_48 rfl (lv_at hl 2 rfl) ?_
  refine va_mmax hx hb (hml.trans hl.1.symm) hown (hts _ (List.mem_of_getElem? (i := 3) rfl)) (hts _ (List.mem_of_getElem? (i := 4) rfl)) (hts _ (List.mem_of_getElem? (i := 5) rfl)) (hts _ (List.mem_of_getElem? (i := 6) rfl)) (Nat.le_of_ble_eq_true rfl) (Nat.le_of_ble_eq_true rfl) (Nat.le_of_ble_eq_true rfl) (Nat.le_of_ble_eq_true rfl) dJx4a65c_grow_92f84_49 ?_
  refine lv_topi (fun v ev => ?_)
  obtain rfl : v = nI 10 := ev.trans (by decide)
  refine dz_newq hx hb hown (hts _ (List.mem_of_getElem? (i := 7) rfl)) hE hG hS ra (N' := 10) (by decide) (nI_clamp (by omega)) (by omega) (Nat.le_of_ble_eq_true rfl) (Nat.le_of_ble_eq_true rfl) dJx4a65c_grow_92f84_52 (fun q_1 H hG hS => ?_)
  refine W.widen (k := 1) (n := 100) (by omega) (by omega) ?_
  obtain ⟨G_1, ad_1, hG, w_1, a_1, o_1⟩ := dz_nma hG
  refine lv_dup_x1 hx hb dJx4a65c_grow_92f84_55 rfl rfl ?_
  refine dz_put hx hb hts (fun _ h => List.mem_cons_of_mem _ (List.mem_append_right _ h)) tyJx4a65c tyJx4a65c_ok nmJx4a65c hown hE hG ((o_1 _ hne).2.trans ha) hS ((o_1 _ hne).1.trans h1) rfl 1 (by decide) (hts _ (List.mem_of_getElem? (i := 1) rfl)) (fun _ h9 => h9) rfl (ty := .array (.object "java/lang/Object")) (by decide +kernel) rfl rfl (fs' := [.int mo, .ref q_1, .int (nI 0)]) rfl (Nat.le_of_ble_eq_true rfl) dJx4a65c_grow_92f84_56 (fun H locs hG hS => ?_)
  obtain ⟨G_2, hG, w_2, o_2⟩ := dz_nm hG
  refine W.widen (k := 1) (n := 100) (by first | omega | decide) (by first | omega | decide) ?_
  refine W.aret hx hb hrt (Or.inr ⟨_, rfl⟩) (Or.inr ⟨_, rfl⟩) (fun t ht hW => dz_endM (f := rv_r) _ hE hS hG ?_ ht hW) (fun q h => hS.2.2 q h) dJx4a65c_grow_92f84_59
  refine ⟨fun r9 n_0 n_1 => (dz_tr (o_2 r9 n_0) (o_1 r9 n_1)), ?_⟩
  exact ⟨⟨w_2, ((o_1 _ hne).2.trans ha)⟩, ((o_2 _ (Ne.symm hne)).1.trans w_1), ((o_2 _ (Ne.symm hne)).2.trans a_1)⟩

set_option maxHeartbeats 4000000 in
set_option maxRecDepth 100000 in
theorem c_growF (l : Launch) (Z : dzG) (G : dzW) (ad : dzA) (rl ra : dzR) (a : Nat) (mo : Int32) (e0 n0 ce : Nat) (g0 : Nat → Option Nat) (Ce : String) (Te : u_T) (Nf : Nat) (ha : ad rl = a) (h1 : G rl = some (eO 0 [.int mo, .ref e0, .int (nI n0)])) (har : ad ra = e0) (h2 : G ra = some (eR Z n0 g0)) (hn : 2 ≤ n0) (hn60 : n0 ≤ 60) (hne : rl ≠ ra) (hrl : rl ≠ (90, 0)) (hra : ra ≠ (90, 0)) (hce : vwCl[ce]? = some (Ce, Te, Nf)) (hCe : (Ce, "java/lang/Object") ∈ dz_cast) (hel : ∀ j, j < n0 → ∀ y, g0 j = some y → ∃ r vs, ad r = y ∧ G r = some (.inr (ce, vs)) ∧ r ≠ (90, 0)) : dzWr l yJx4a65c_grow_92f84 wsJx4a65c_grow_92f84 3 88 1 100 Z G ad [.ref a, .int (nI (n0 + 1))] rv_r (fun (x : Nat) G1 ad1 => (∀ r9 : dzR, r9 ≠ rl → r9 ≠ ra → r9 ≠ (90, 0) → G1 r9 = G r9 ∧ ad1 r9 = ad r9) ∧ (G1 rl = some (eO 0 [.int mo, .ref x, .int (nI n0)]) ∧ ad1 rl = a) ∧ G1 ra = some (eR Z (n0 + n0 / 2) (va_cpy g0 (fun _ => none) 0 0 n0)) ∧ ad1 ra = x) := by
  refine Met.ofW (cc := cJx4a65c_grow_92f84) (maxL := 4) (ret := (some (.array (.object "java/lang/Object")))) (by decide) rfl ?_
  intro p e s m args below meth c s₁ B hml hv
  obtain ⟨rfl, hG, hE⟩ := hv
  have hx := B.exec
  have hb := B.bytes
  have hrt := B.returns
  have hts := atoms_spec (ws := wsJx4a65c_grow_92f84) B.pre
  have hown : s.vm.findClass RJx4a65c = some m.cls := findClass_of_methodNamed B.named
  have hlocks := B.notSynchronized
  have hS : va_S (dz_A Z) s.heap s.heap [] := va_S.rf
  have hl := lv_entry ([.ref a, .int (nI (n0 + 1))]) (n := 4) (Nat.le_of_ble_eq_true rfl)
  rw [lg_entry_eq]
  generalize (lg_sl ([.ref a, .int (nI (n0 + 1))]) ++ List.replicate (4 - (lg_sl ([.ref a, .int (nI (n0 + 1))])).length) Slot.unset).toArray = ls at hl ⊢
  have hl : lv_has ls 4 [(0, .ref a), (1, .int (nI (n0 + 1)))] := hl
  refine lv_aload_n hx hb dJx4a65c_grow_92f84_0 rfl (lv_at hl 0 rfl) ?_
  refine dz_get hx hb hts (fun _ h => List.mem_cons_of_mem _ (List.mem_append_right _ h)) hown hE hG ha h1 rfl 1 (by decide) (hts _ (List.mem_of_getElem? (i := 1) rfl)) (fun _ h9 => h9) rfl dJx4a65c_grow_92f84_1 ?_
  refine dz_alen hx hb hE hG har h2 3 rfl dJx4a65c_grow_92f84_4 ?_
  refine lv_istore_n (lv' := [(2, .int (nI n0)), (0, .ref a), (1, .int (nI (n0 + 1)))]) hx hb dJx4a65c_grow_92f84_5 rfl hl (by decide) rfl (fun ls hl => ?_)
  refine lv_iload_n hx hb dJx4a65c_grow_92f84_6 rfl (lv_at hl 0 rfl) ?_
  refine lv_if_gt (tgt := 20) hx hb dJx4a65c_grow_92f84_7 (by decide) (fun c_7 => ?_) (fun c_7 => absurd (show nI 0 < nI n0 from nI_lt (by omega) (by omega)) c_7)
  refine lv_iload_n hx hb dJx4a65c_grow_92f84_20 rfl (lv_at hl 0 rfl) ?_
  refine lv_iload_n hx hb dJx4a65c_grow_92f84_21 rfl (lv_at hl 2 rfl) ?_
  refine lv_iload_n hx hb dJx4a65c_grow_92f84_22 rfl (lv_at hl 0 rfl) ?_
  refine lv_isub hx hb dJx4a65c_grow_92f84_23 ?_
  refine lv_topi (fun v_1 ev_1 => ?_)
  obtain rfl : v_1 = nI 1 := ev_1.trans ((pk_sub (by omega)).trans (by rw [Nat.add_sub_cancel_left]))
  refine lv_iload_n hx hb dJx4a65c_grow_92f84_24 rfl (lv_at hl 0 rfl) ?_
  refine lv_iconst (v := 1) hx hb dJx4a65c_grow_92f84_25 (by decide) ?_
  refine lv_ishr hx hb dJx4a65c_grow_92f84_26 ?_
  refine lv_topi (fun v_2 ev_2 => ?_)
  obtain rfl : v_2 = nI (n0 / 2) := (by have k := pk_shrN (n := n0) (by omega) ((1 : Int32) &&& 31) 1 (by decide); rw [Nat.pow_one] at k; exact ev_2.trans k)
  refine dz_kRi (va_runS (As := [_, _, _]) ⟨hx, hb, hml, hown, hts⟩ (c_J8_newLength_cabcc l Z _ _ _ hn (by omega)) (va_cwS 3 hts gJx4a65c_grow_92f84_J8_newLength_cabcc rfl rfl rfl (by decide +kernel) ⟨Nat.le_of_ble_eq_true rfl, Nat.le_of_ble_eq_true rfl⟩) (dz_P.pre hE hS hG) rfl rfl hl.1 rfl (lv_room (Nat.le_of_ble_eq_true rfl)) dJx4a65c_grow_92f84_27 ⟨Nat.le_of_ble_eq_true rfl, Nat.le_of_ble_eq_true rfl⟩) ?_
  refine lv_topi (fun v_3 ev_3 => ?_)
  obtain rfl : v_3 = nI (n0 + n0 / 2) := ev_3
  refine lv_istore_n (lv' := [(3, .int (nI (n0 + n0 / 2))), (2, .int (nI n0)), (0, .ref a), (1, .int (nI (n0 + 1)))]) hx hb dJx4a65c_grow_92f84_30 rfl hl (by decide) rfl (fun ls hl => ?_)
  refine lv_aload_n hx hb dJx4a65c_grow_92f84_31 rfl (lv_at hl 2 rfl) ?_
  refine lv_aload_n hx hb dJx4a65c_grow_92f84_32 rfl (lv_at hl 2 rfl) ?_
  refine dz_get hx hb hts (fun _ h => List.mem_cons_of_mem _ (List.mem_append_right _ h)) hown hE hG ha h1 rfl 1 (by decide) (hts _ (List.mem_of_getElem? (i := 1) rfl)) (fun _ h9 => h9) rfl dJx4a65c_grow_92f84_33 ?_
  refine lv_iload_n hx hb dJx4a65c_grow_92f84_36 rfl (lv_at hl 0 rfl) ?_
  refine dz_kMr (va_runS (As := [_, _]) ⟨hx, hb, hml, hown, hts⟩ (c_J7_copyOf_1904c l Z _ _ _ _ _ _ _ _ _ _ _ har h2 (by omega) (by omega) hra hce hCe hel) (va_cwS 2 hts gJx4a65c_grow_92f84_J7_copyOf_1904c rfl rfl rfl (by decide +kernel) ⟨Nat.le_of_ble_eq_true rfl, Nat.le_of_ble_eq_true rfl⟩) (dz_P.pre hE hS hG) rfl rfl hl.1 rfl (lv_room (Nat.le_of_ble_eq_true rfl)) dJx4a65c_grow_92f84_37 ⟨Nat.le_of_ble_eq_true rfl, Nat.le_of_ble_eq_true rfl⟩) hS (fun x_37_1 G_37_1 ad_37_1 H locs hp_37_1 hG hS => ?_)
  refine W.widen (k := 1) (n := 100) (by omega) (by omega) ?_
  obtain ⟨fr_37_1, g_37_1⟩ := hp_37_1
  refine lv_dup_x1 hx hb dJx4a65c_grow_92f84_40 rfl rfl ?_
  refine dz_put hx hb hts (fun _ h => List.mem_cons_of_mem _ (List.mem_append_right _ h)) tyJx4a65c tyJx4a65c_ok nmJx4a65c hown hE hG ((fr_37_1 _ hrl).2.trans ha) hS ((fr_37_1 _ hrl).1.trans h1) rfl 1 (by decide) (hts _ (List.mem_of_getElem? (i := 1) rfl)) (fun _ h9 => h9) rfl (ty := .array (.object "java/lang/Object")) (by decide +kernel) rfl rfl (fs' := [.int mo, .ref x_37_1, .int (nI n0)]) rfl (Nat.le_of_ble_eq_true rfl) dJx4a65c_grow_92f84_41 (fun H locs hG hS => ?_)
  obtain ⟨G_1, hG, w_1, o_1⟩ := dz_nm hG
  obtain ⟨G_2, ad_2, hG, w_2, a_2, o_2⟩ := dz_ren (r := ra) hG ((o_1 _ (Ne.symm hrl)).1.trans (g_37_1.1)) ((o_1 _ (Ne.symm hrl)).2.trans (g_37_1.2)) hra
  refine W.widen (k := 1) (n := 100) (by first | omega | decide) (by first | omega | decide) ?_
  refine W.aret hx hb hrt (Or.inr ⟨_, rfl⟩) (Or.inr ⟨_, rfl⟩) (fun t ht hW => dz_endM (f := rv_r) _ hE hS hG ?_ ht hW) (fun q h => hS.2.2 q h) dJx4a65c_grow_92f84_44
  refine ⟨fun r9 n_0 n_1 n_2 => (dz_tr (o_2 r9 n_1 n_2) (dz_tr (o_1 r9 n_0) (fr_37_1 r9 n_2))), ?_⟩
  exact ⟨⟨((o_2 _ hne hrl).1.trans w_1), ((o_2 _ hne hrl).2.trans ((fr_37_1 _ hrl).2.trans ha))⟩, w_2, a_2⟩

set_option maxHeartbeats 4000000 in
set_option maxRecDepth 100000 in
theorem c_grow0E (l : Launch) (Z : dzG) (G : dzW) (ad : dzA) (rl ra : dzR) (a : Nat) (mo : Int32) (ha : ad rl = a) (h1 : G rl = some (eO 0 [.int mo, .ref (dz0 Z), .int (nI 0)])) (hne : rl ≠ ra) : dzWr l yJx4a65c_grow_d5877 wsJx4a65c_grow_d5877 2 44 1 100 Z G ad [.ref a] rv_r (fun (x : Nat) G1 ad1 => (∀ r9 : dzR, r9 ≠ rl → r9 ≠ ra → G1 r9 = G r9 ∧ ad1 r9 = ad r9) ∧ (G1 rl = some (eO 0 [.int mo, .ref x, .int (nI 0)]) ∧ ad1 rl = a) ∧ G1 ra = some (eR Z 10 (fun _ => none)) ∧ ad1 ra = x) := by
  refine Met.ofW (cc := cJx4a65c_grow_d5877) (maxL := 1) (ret := (some (.array (.object "java/lang/Object")))) (by decide) rfl ?_
  intro p e s m args below meth c s₁ B hml hv
  obtain ⟨rfl, hG, hE⟩ := hv
  have hx := B.exec
  have hb := B.bytes
  have hrt := B.returns
  have hts := atoms_spec (ws := wsJx4a65c_grow_d5877) B.pre
  have hown : s.vm.findClass RJx4a65c = some m.cls := findClass_of_methodNamed B.named
  have hlocks := B.notSynchronized
  have hS : va_S (dz_A Z) s.heap s.heap [] := va_S.rf
  have hl := lv_entry ([.ref a]) (n := 1) (Nat.le_of_ble_eq_true rfl)
  rw [lg_entry_eq]
  generalize (lg_sl ([.ref a]) ++ List.replicate (1 - (lg_sl ([.ref a])).length) Slot.unset).toArray = ls at hl ⊢
  have hl : lv_has ls 1 [(0, .ref a)] := hl
  refine lv_aload_n hx hb dJx4a65c_grow_d5877_0 rfl (lv_at hl 0 rfl) ?_
  refine lv_aload_n hx hb dJx4a65c_grow_d5877_1 rfl (lv_at hl 0 rfl) ?_
  refine dz_get hx hb hts (fun _ h => List.mem_cons_of_mem _ (List.mem_append_right _ h)) hown hE hG ha h1 rfl 2 (by decide) (hts _ (List.mem_of_getElem? (i := 1) rfl)) (fun _ h9 => h9) rfl dJx4a65c_grow_d5877_2 ?_
  refine lv_iconst (v := 1) hx hb dJx4a65c_grow_d5877_5 (by decide) ?_
  refine lv_iadd hx hb dJx4a65c_grow_d5877_6 ?_
  refine lv_topi (fun v_1 ev_1 => ?_)
  obtain rfl : v_1 = nI 1 := ev_1.trans (nI_1 0)
  refine dz_kMr (va_runV (As := [_]) ⟨hx, hb, hml, hown, hts⟩ (c_growE l Z _ _ _ _ _ _ ha h1 hne) (cwV 1 hts gJx4a65c_grow_d5877_Jx4a65c_grow_92f84 rfl rfl rfl (by decide +kernel) ⟨Nat.le_of_ble_eq_true rfl, Nat.le_of_ble_eq_true rfl⟩) (dz_P.preV hE hS hG h1 rfl ha) rfl rfl hl.1 rfl (lv_room (Nat.le_of_ble_eq_true rfl)) dJx4a65c_grow_d5877_7 ⟨Nat.le_of_ble_eq_true rfl, Nat.le_of_ble_eq_true rfl⟩) hS (fun x_7_1 G_7_1 ad_7_1 H locs hp_7_1 hG hS => ?_)
  refine W.widen (k := 1) (n := 100) (by omega) (by omega) ?_
  obtain ⟨fr_7_1, g_7_1⟩ := hp_7_1
  obtain ⟨⟨h1_7_1, h2_7_1⟩, h3_7_1, h4_7_1⟩ := g_7_1
  refine W.widen (k := 1) (n := 100) (by first | omega | decide) (by first | omega | decide) ?_
  refine W.aret hx hb hrt (Or.inr ⟨_, rfl⟩) (Or.inr ⟨_, rfl⟩) (fun t ht hW => dz_endM (f := rv_r) _ hE hS hG ?_ ht hW) (fun q h => hS.2.2 q h) dJx4a65c_grow_d5877_10
  refine ⟨fun r9 n_0 n_1 => (fr_7_1 r9 n_0 n_1), ?_⟩
  exact ⟨⟨h1_7_1, h2_7_1⟩, h3_7_1, h4_7_1⟩

set_option maxHeartbeats 4000000 in
set_option maxRecDepth 100000 in
theorem c_grow0F (l : Launch) (Z : dzG) (G : dzW) (ad : dzA) (rl ra : dzR) (a : Nat) (mo : Int32) (e0 n0 ce : Nat) (g0 : Nat → Option Nat) (Ce : String) (Te : u_T) (Nf : Nat) (ha : ad rl = a) (h1 : G rl = some (eO 0 [.int mo, .ref e0, .int (nI n0)])) (har : ad ra = e0) (h2 : G ra = some (eR Z n0 g0)) (hn : 2 ≤ n0) (hn60 : n0 ≤ 60) (hne : rl ≠ ra) (hrl : rl ≠ (90, 0)) (hra : ra ≠ (90, 0)) (hce : vwCl[ce]? = some (Ce, Te, Nf)) (hCe : (Ce, "java/lang/Object") ∈ dz_cast) (hel : ∀ j, j < n0 → ∀ y, g0 j = some y → ∃ r vs, ad r = y ∧ G r = some (.inr (ce, vs)) ∧ r ≠ (90, 0)) : dzWr l yJx4a65c_grow_d5877 wsJx4a65c_grow_d5877 4 111 1 100 Z G ad [.ref a] rv_r (fun (x : Nat) G1 ad1 => (∀ r9 : dzR, r9 ≠ rl → r9 ≠ ra → r9 ≠ (90, 0) → G1 r9 = G r9 ∧ ad1 r9 = ad r9) ∧ (G1 rl = some (eO 0 [.int mo, .ref x, .int (nI n0)]) ∧ ad1 rl = a) ∧ G1 ra = some (eR Z (n0 + n0 / 2) (va_cpy g0 (fun _ => none) 0 0 n0)) ∧ ad1 ra = x) := by
  refine Met.ofW (cc := cJx4a65c_grow_d5877) (maxL := 1) (ret := (some (.array (.object "java/lang/Object")))) (by decide) rfl ?_
  intro p e s m args below meth c s₁ B hml hv
  obtain ⟨rfl, hG, hE⟩ := hv
  have hx := B.exec
  have hb := B.bytes
  have hrt := B.returns
  have hts := atoms_spec (ws := wsJx4a65c_grow_d5877) B.pre
  have hown : s.vm.findClass RJx4a65c = some m.cls := findClass_of_methodNamed B.named
  have hlocks := B.notSynchronized
  have hS : va_S (dz_A Z) s.heap s.heap [] := va_S.rf
  have hl := lv_entry ([.ref a]) (n := 1) (Nat.le_of_ble_eq_true rfl)
  rw [lg_entry_eq]
  generalize (lg_sl ([.ref a]) ++ List.replicate (1 - (lg_sl ([.ref a])).length) Slot.unset).toArray = ls at hl ⊢
  have hl : lv_has ls 1 [(0, .ref a)] := hl
  refine lv_aload_n hx hb dJx4a65c_grow_d5877_0 rfl (lv_at hl 0 rfl) ?_
  refine lv_aload_n hx hb dJx4a65c_grow_d5877_1 rfl (lv_at hl 0 rfl) ?_
  refine dz_get hx hb hts (fun _ h => List.mem_cons_of_mem _ (List.mem_append_right _ h)) hown hE hG ha h1 rfl 2 (by decide) (hts _ (List.mem_of_getElem? (i := 1) rfl)) (fun _ h9 => h9) rfl dJx4a65c_grow_d5877_2 ?_
  refine lv_iconst (v := 1) hx hb dJx4a65c_grow_d5877_5 (by decide) ?_
  refine lv_iadd hx hb dJx4a65c_grow_d5877_6 ?_
  refine lv_topi (fun v_1 ev_1 => ?_)
  obtain rfl : v_1 = nI (n0 + 1) := ev_1.trans (nI_1 n0)
  refine dz_kMr (va_runV (As := [_]) ⟨hx, hb, hml, hown, hts⟩ (c_growF l Z _ _ _ _ _ _ _ _ _ _ _ _ _ ha h1 har h2 hn hn60 hne hrl hra hce hCe hel) (cwV 1 hts gJx4a65c_grow_d5877_Jx4a65c_grow_92f84 rfl rfl rfl (by decide +kernel) ⟨Nat.le_of_ble_eq_true rfl, Nat.le_of_ble_eq_true rfl⟩) (dz_P.preV hE hS hG h1 rfl ha) rfl rfl hl.1 rfl (lv_room (Nat.le_of_ble_eq_true rfl)) dJx4a65c_grow_d5877_7 ⟨Nat.le_of_ble_eq_true rfl, Nat.le_of_ble_eq_true rfl⟩) hS (fun x_7_1 G_7_1 ad_7_1 H locs hp_7_1 hG hS => ?_)
  refine W.widen (k := 1) (n := 100) (by omega) (by omega) ?_
  obtain ⟨fr_7_1, g_7_1⟩ := hp_7_1
  obtain ⟨⟨h1_7_1, h2_7_1⟩, h3_7_1, h4_7_1⟩ := g_7_1
  refine W.widen (k := 1) (n := 100) (by first | omega | decide) (by first | omega | decide) ?_
  refine W.aret hx hb hrt (Or.inr ⟨_, rfl⟩) (Or.inr ⟨_, rfl⟩) (fun t ht hW => dz_endM (f := rv_r) _ hE hS hG ?_ ht hW) (fun q h => hS.2.2 q h) dJx4a65c_grow_d5877_10
  refine ⟨fun r9 n_0 n_1 n_2 => (fr_7_1 r9 n_0 n_1 n_2), ?_⟩
  exact ⟨⟨h1_7_1, h2_7_1⟩, h3_7_1, h4_7_1⟩

set_option maxHeartbeats 4000000 in
set_option maxRecDepth 100000 in
theorem c_addE (l : Launch) (Z : dzG) (G : dzW) (ad : dzA) (rl ra : dzR) (a : Nat) (mo : Int32) (rv : dzR) (av ce : Nat) (vv : List Value) (Ce : String) (Te : u_T) (Nf : Nat) (el : Nat → Nat) (ha : ad rl = a) (h1 : G rl = some (eO 0 [.int mo, .ref (dz0 Z), .int (nI 0)])) (hne : rl ≠ ra) (hrl : rl ≠ (90, 0)) (hra : ra ≠ (90, 0)) (hv1 : rv ≠ rl) (hv2 : rv ≠ ra) (hv3 : rv ≠ (90, 0)) (hce : vwCl[ce]? = some (Ce, Te, Nf)) (hCe : (Ce, "java/lang/Object") ∈ dz_cast) (hav : ad rv = av) (hv : G rv = some (.inr (ce, vv))) : dzWr l yJx4a65c_add_72be8 wsJx4a65c_add_72be8 5 140 1 100 Z G ad [.ref a, .ref av, .ref (dz0 Z), .int (nI 0)] rv_v (fun (x : Unit) G1 ad1 => (∀ r9 : dzR, r9 ≠ rl → r9 ≠ ra → r9 ≠ (90, 0) → G1 r9 = G r9 ∧ ad1 r9 = ad r9) ∧ dz_L Z G1 ad1 rl ra (0 + 1) (fun j => if j = 0 then av else el j) ∧ ad1 rl = a) := by
  refine Met.ofW (cc := cJx4a65c_add_72be8) (maxL := 4) (ret := none) (by decide) rfl ?_
  intro p e s m args below meth c s₁ B hml hv
  obtain ⟨rfl, hG, hE⟩ := hv
  have hx := B.exec
  have hb := B.bytes
  have hrt := B.returns
  have hts := atoms_spec (ws := wsJx4a65c_add_72be8) B.pre
  have hown : s.vm.findClass RJx4a65c = some m.cls := findClass_of_methodNamed B.named
  have hlocks := B.notSynchronized
  have hS : va_S (dz_A Z) s.heap s.heap [] := va_S.rf
  have hl := lv_entry ([.ref a, .ref av, .ref (dz0 Z), .int (nI 0)]) (n := 4) (Nat.le_of_ble_eq_true rfl)
  rw [lg_entry_eq]
  generalize (lg_sl ([.ref a, .ref av, .ref (dz0 Z), .int (nI 0)]) ++ List.replicate (4 - (lg_sl ([.ref a, .ref av, .ref (dz0 Z), .int (nI 0)])).length) Slot.unset).toArray = ls at hl ⊢
  have hl : lv_has ls 4 [(0, .ref a), (1, .ref av), (2, .ref (dz0 Z)), (3, .int (nI 0))] := hl
  refine lv_iload_n hx hb dJx4a65c_add_72be8_0 rfl (lv_at hl 3 rfl) ?_
  refine lv_aload_n hx hb dJx4a65c_add_72be8_1 rfl (lv_at hl 2 rfl) ?_
  refine dz_alen0 hx hb hE hS dJx4a65c_add_72be8_2 ?_
  refine lv_icmp_ne (tgt := 11) hx hb dJx4a65c_add_72be8_3 (by decide) (fun c_3 => absurd nI_0 c_3) (fun c_3 => ?_)
  refine lv_aload_n hx hb dJx4a65c_add_72be8_6 rfl (lv_at hl 0 rfl) ?_
  refine dz_kMr (va_runV (As := []) ⟨hx, hb, hml, hown, hts⟩ (c_grow0E l Z _ _ _ _ _ _ ha h1 hne) (cwV 0 hts gJx4a65c_add_72be8_Jx4a65c_grow_d5877 rfl rfl rfl (by decide +kernel) ⟨Nat.le_of_ble_eq_true rfl, Nat.le_of_ble_eq_true rfl⟩) (dz_P.preV hE hS hG h1 rfl ha) rfl rfl hl.1 rfl (lv_room (Nat.le_of_ble_eq_true rfl)) dJx4a65c_add_72be8_7 ⟨Nat.le_of_ble_eq_true rfl, Nat.le_of_ble_eq_true rfl⟩) hS (fun x_7_1 G_7_1 ad_7_1 H locs hp_7_1 hG hS => ?_)
  refine W.widen (k := 1) (n := 100) (by omega) (by omega) ?_
  obtain ⟨fr_7_1, g_7_1⟩ := hp_7_1
  obtain ⟨⟨h1_7_1, h2_7_1⟩, h3_7_1, h4_7_1⟩ := g_7_1
  refine lv_astore_n (lv' := [(2, .ref x_7_1), (0, .ref a), (1, .ref av), (3, .int (nI 0))]) hx hb dJx4a65c_add_72be8_10 rfl hl (by decide) rfl (fun ls hl => ?_)
  refine lv_aload_n hx hb dJx4a65c_add_72be8_11 rfl (lv_at hl 0 rfl) ?_
  refine lv_iload_n hx hb dJx4a65c_add_72be8_12 rfl (lv_at hl 3 rfl) ?_
  refine lv_aload_n hx hb dJx4a65c_add_72be8_13 rfl (lv_at hl 2 rfl) ?_
  refine dz_aast hx hb hE hG h4_7_1 hS h3_7_1 ⟨Ce, hCe, by have z := va_recv hE.1 (hG.P ((fr_7_1 _ hv1 hv2).1.trans hv)) hce (q0 := 0) rfl; rw [((fr_7_1 _ hv1 hv2).2.trans hav)] at z; exact z⟩ (vp_in_nI (by decide) (by decide)) dJx4a65c_add_72be8_14 (fun H locs hG hS => ?_)
  obtain ⟨G_1, hG, w_1, o_1⟩ := dz_nm hG
  refine lv_aload_n hx hb dJx4a65c_add_72be8_15 rfl (lv_at hl 1 rfl) ?_
  refine lv_iload_n hx hb dJx4a65c_add_72be8_16 rfl (lv_at hl 3 rfl) ?_
  refine lv_iconst (v := 1) hx hb dJx4a65c_add_72be8_17 (by decide) ?_
  refine lv_iadd hx hb dJx4a65c_add_72be8_18 ?_
  refine lv_topi (fun v_1 ev_1 => ?_)
  obtain rfl : v_1 = nI (0 + 1) := ev_1.trans (nI_1 0)
  refine dz_put hx hb hts (fun _ h => List.mem_cons_of_mem _ (List.mem_append_right _ h)) tyJx4a65c tyJx4a65c_ok nmJx4a65c hown hE hG ((o_1 _ hne).2.trans h2_7_1) hS ((o_1 _ hne).1.trans h1_7_1) rfl 2 (by decide) (hts _ (List.mem_of_getElem? (i := 1) rfl)) (fun _ h9 => h9) rfl (ty := .int) (by decide +kernel) rfl rfl (fs' := [.int mo, .ref x_7_1, .int (nI (0 + 1))]) rfl (Nat.le_of_ble_eq_true rfl) dJx4a65c_add_72be8_19 (fun H locs hG hS => ?_)
  obtain ⟨G_2, hG, w_2, o_2⟩ := dz_nm hG
  refine W.widen (k := 1) (n := 100) (by first | omega | decide) (by first | omega | decide) ?_
  refine W.vret hx hb hrt (fun t ht hW => dz_endM (f := rv_v) () hE hS hG ?_ ht hW) (fun q h => hS.2.2 q h) dJx4a65c_add_72be8_22
  refine ⟨fun r9 n_0 n_1 n_2 => (dz_tr (o_2 r9 n_0) (dz_tr (o_1 r9 n_1) (fr_7_1 r9 n_0 n_1))), ?_⟩
  refine ⟨⟨_, _, 10, _, w_2, by omega, by omega, Or.inr ⟨by omega, ((o_2 _ (Ne.symm hne)).1.trans w_1), ((o_2 _ (Ne.symm hne)).2.trans h4_7_1), fun j hj => ?_⟩⟩, ((o_1 _ hne).2.trans h2_7_1)⟩
  rw [nI_clamp (by omega)]
  show _ = some (if j = 0 then av else el j)
  by_cases c9 : j = 0
  · subst c9
    rw [va_up_self, if_pos rfl]
  · rw [va_up_ne _ _ c9, if_neg c9]
    omega

set_option maxHeartbeats 4000000 in
set_option maxRecDepth 100000 in
theorem c_addR (l : Launch) (Z : dzG) (G : dzW) (ad : dzA) (rl ra : dzR) (a : Nat) (mo : Int32) (e0 n0 cn : Nat) (g0 : Nat → Option Nat) (rv : dzR) (av ce : Nat) (vv : List Value) (Ce : String) (Te : u_T) (Nf : Nat) (el : Nat → Nat) (ha : ad rl = a) (h1 : G rl = some (eO 0 [.int mo, .ref e0, .int (nI cn)])) (har : ad ra = e0) (h2 : G ra = some (eR Z n0 g0)) (hn : cn < n0) (hn2 : 2 ≤ n0) (hn200 : n0 ≤ 200) (hg : ∀ j, j < cn → g0 j = some (el j)) (hne : rl ≠ ra) (hrl : rl ≠ (90, 0)) (hra : ra ≠ (90, 0)) (hv1 : rv ≠ rl) (hv2 : rv ≠ ra) (hv3 : rv ≠ (90, 0)) (hce : vwCl[ce]? = some (Ce, Te, Nf)) (hCe : (Ce, "java/lang/Object") ∈ dz_cast) (hav : ad rv = av) (hv : G rv = some (.inr (ce, vv))) : dzWr l yJx4a65c_add_72be8 wsJx4a65c_add_72be8 5 140 1 100 Z G ad [.ref a, .ref av, .ref e0, .int (nI cn)] rv_v (fun (x : Unit) G1 ad1 => (∀ r9 : dzR, r9 ≠ rl → r9 ≠ ra → r9 ≠ (90, 0) → G1 r9 = G r9 ∧ ad1 r9 = ad r9) ∧ dz_L Z G1 ad1 rl ra (cn + 1) (fun j => if j = cn then av else el j) ∧ ad1 rl = a) := by
  refine Met.ofW (cc := cJx4a65c_add_72be8) (maxL := 4) (ret := none) (by decide) rfl ?_
  intro p e s m args below meth c s₁ B hml hv
  obtain ⟨rfl, hG, hE⟩ := hv
  have hx := B.exec
  have hb := B.bytes
  have hrt := B.returns
  have hts := atoms_spec (ws := wsJx4a65c_add_72be8) B.pre
  have hown : s.vm.findClass RJx4a65c = some m.cls := findClass_of_methodNamed B.named
  have hlocks := B.notSynchronized
  have hS : va_S (dz_A Z) s.heap s.heap [] := va_S.rf
  have hl := lv_entry ([.ref a, .ref av, .ref e0, .int (nI cn)]) (n := 4) (Nat.le_of_ble_eq_true rfl)
  rw [lg_entry_eq]
  generalize (lg_sl ([.ref a, .ref av, .ref e0, .int (nI cn)]) ++ List.replicate (4 - (lg_sl ([.ref a, .ref av, .ref e0, .int (nI cn)])).length) Slot.unset).toArray = ls at hl ⊢
  have hl : lv_has ls 4 [(0, .ref a), (1, .ref av), (2, .ref e0), (3, .int (nI cn))] := hl
  refine lv_iload_n hx hb dJx4a65c_add_72be8_0 rfl (lv_at hl 3 rfl) ?_
  refine lv_aload_n hx hb dJx4a65c_add_72be8_1 rfl (lv_at hl 2 rfl) ?_
  refine dz_alen hx hb hE hG har h2 3 rfl dJx4a65c_add_72be8_2 ?_
  refine lv_icmp_ne (tgt := 11) hx hb dJx4a65c_add_72be8_3 (by decide) (fun c_3 => ?_) (fun c_3 => absurd c_3 (fun z => absurd ((nI_eq (by omega) (by omega)).mp z) (by omega)))
  refine lv_aload_n hx hb dJx4a65c_add_72be8_11 rfl (lv_at hl 2 rfl) ?_
  refine lv_iload_n hx hb dJx4a65c_add_72be8_12 rfl (lv_at hl 3 rfl) ?_
  refine lv_aload_n hx hb dJx4a65c_add_72be8_13 rfl (lv_at hl 1 rfl) ?_
  refine dz_aast hx hb hE hG har hS h2 ⟨Ce, hCe, by have z := va_recv hE.1 (hG.P hv) hce (q0 := 0) rfl; rw [hav] at z; exact z⟩ (vp_in_nI hn (by omega)) dJx4a65c_add_72be8_14 (fun H locs hG hS => ?_)
  obtain ⟨G_1, hG, w_1, o_1⟩ := dz_nm hG
  refine lv_aload_n hx hb dJx4a65c_add_72be8_15 rfl (lv_at hl 0 rfl) ?_
  refine lv_iload_n hx hb dJx4a65c_add_72be8_16 rfl (lv_at hl 3 rfl) ?_
  refine lv_iconst (v := 1) hx hb dJx4a65c_add_72be8_17 (by decide) ?_
  refine lv_iadd hx hb dJx4a65c_add_72be8_18 ?_
  refine lv_topi (fun v_1 ev_1 => ?_)
  obtain rfl : v_1 = nI (cn + 1) := ev_1.trans (nI_1 cn)
  refine dz_put hx hb hts (fun _ h => List.mem_cons_of_mem _ (List.mem_append_right _ h)) tyJx4a65c tyJx4a65c_ok nmJx4a65c hown hE hG ((o_1 _ hne).2.trans ha) hS ((o_1 _ hne).1.trans h1) rfl 2 (by decide) (hts _ (List.mem_of_getElem? (i := 1) rfl)) (fun _ h9 => h9) rfl (ty := .int) (by decide +kernel) rfl rfl (fs' := [.int mo, .ref e0, .int (nI (cn + 1))]) rfl (Nat.le_of_ble_eq_true rfl) dJx4a65c_add_72be8_19 (fun H locs hG hS => ?_)
  obtain ⟨G_2, hG, w_2, o_2⟩ := dz_nm hG
  refine W.widen (k := 1) (n := 100) (by first | omega | decide) (by first | omega | decide) ?_
  refine W.vret hx hb hrt (fun t ht hW => dz_endM (f := rv_v) () hE hS hG ?_ ht hW) (fun q h => hS.2.2 q h) dJx4a65c_add_72be8_22
  refine ⟨fun r9 n_0 n_1 n_2 => (dz_tr (o_2 r9 n_0) (o_1 r9 n_1)), ?_⟩
  refine ⟨⟨_, _, n0, _, w_2, by omega, by omega, Or.inr ⟨by omega, ((o_2 _ (Ne.symm hne)).1.trans w_1), ((o_2 _ (Ne.symm hne)).2.trans har), fun j hj => ?_⟩⟩, ((o_1 _ hne).2.trans ha)⟩
  rw [nI_clamp (by omega)]
  show _ = some (if j = cn then av else el j)
  by_cases c9 : j = cn
  · subst c9
    rw [va_up_self, if_pos rfl]
  · rw [va_up_ne _ _ c9, if_neg c9]
    exact hg j (by omega)

set_option maxHeartbeats 4000000 in
set_option maxRecDepth 100000 in
theorem c_addF (l : Launch) (Z : dzG) (G : dzW) (ad : dzA) (rl ra : dzR) (a : Nat) (mo : Int32) (e0 n0 : Nat) (g0 : Nat → Option Nat) (rv : dzR) (av ce : Nat) (vv : List Value) (Ce : String) (Te : u_T) (Nf : Nat) (el : Nat → Nat) (ha : ad rl = a) (h1 : G rl = some (eO 0 [.int mo, .ref e0, .int (nI n0)])) (har : ad ra = e0) (h2 : G ra = some (eR Z n0 g0)) (hn : 2 ≤ n0) (hn60 : n0 ≤ 60) (hg : ∀ j, j < n0 → g0 j = some (el j)) (hel : ∀ j, j < n0 → ∃ r vs, ad r = el j ∧ G r = some (.inr (ce, vs)) ∧ r ≠ (90, 0)) (hne : rl ≠ ra) (hrl : rl ≠ (90, 0)) (hra : ra ≠ (90, 0)) (hv1 : rv ≠ rl) (hv2 : rv ≠ ra) (hv3 : rv ≠ (90, 0)) (hce : vwCl[ce]? = some (Ce, Te, Nf)) (hCe : (Ce, "java/lang/Object") ∈ dz_cast) (hav : ad rv = av) (hv : G rv = some (.inr (ce, vv))) : dzWr l yJx4a65c_add_72be8 wsJx4a65c_add_72be8 5 140 1 100 Z G ad [.ref a, .ref av, .ref e0, .int (nI n0)] rv_v (fun (x : Unit) G1 ad1 => (∀ r9 : dzR, r9 ≠ rl → r9 ≠ ra → r9 ≠ (90, 0) → G1 r9 = G r9 ∧ ad1 r9 = ad r9) ∧ dz_L Z G1 ad1 rl ra (n0 + 1) (fun j => if j = n0 then av else el j) ∧ ad1 rl = a) := by
  refine Met.ofW (cc := cJx4a65c_add_72be8) (maxL := 4) (ret := none) (by decide) rfl ?_
  intro p e s m args below meth c s₁ B hml hv
  obtain ⟨rfl, hG, hE⟩ := hv
  have hx := B.exec
  have hb := B.bytes
  have hrt := B.returns
  have hts := atoms_spec (ws := wsJx4a65c_add_72be8) B.pre
  have hown : s.vm.findClass RJx4a65c = some m.cls := findClass_of_methodNamed B.named
  have hlocks := B.notSynchronized
  have hS : va_S (dz_A Z) s.heap s.heap [] := va_S.rf
  have hl := lv_entry ([.ref a, .ref av, .ref e0, .int (nI n0)]) (n := 4) (Nat.le_of_ble_eq_true rfl)
  rw [lg_entry_eq]
  generalize (lg_sl ([.ref a, .ref av, .ref e0, .int (nI n0)]) ++ List.replicate (4 - (lg_sl ([.ref a, .ref av, .ref e0, .int (nI n0)])).length) Slot.unset).toArray = ls at hl ⊢
  have hl : lv_has ls 4 [(0, .ref a), (1, .ref av), (2, .ref e0), (3, .int (nI n0))] := hl
  have hel2 : ∀ j, j < n0 → ∀ y, g0 j = some y → ∃ r vs, ad r = y ∧ G r = some (.inr (ce, vs)) ∧ r ≠ (90, 0) := by
    intro j hj y hy
    rw [hg j hj] at hy
    cases hy
    exact hel j hj
  refine lv_iload_n hx hb dJx4a65c_add_72be8_0 rfl (lv_at hl 3 rfl) ?_
  refine lv_aload_n hx hb dJx4a65c_add_72be8_1 rfl (lv_at hl 2 rfl) ?_
  refine dz_alen hx hb hE hG har h2 3 rfl dJx4a65c_add_72be8_2 ?_
  refine lv_icmp_ne (tgt := 11) hx hb dJx4a65c_add_72be8_3 (by decide) (fun c_3 => absurd rfl c_3) (fun c_3 => ?_)
  refine lv_aload_n hx hb dJx4a65c_add_72be8_6 rfl (lv_at hl 0 rfl) ?_
  refine dz_kMr (va_runV (As := []) ⟨hx, hb, hml, hown, hts⟩ (c_grow0F l Z _ _ _ _ _ _ _ _ _ _ _ _ _ ha h1 har h2 hn hn60 hne hrl hra hce hCe hel2) (cwV 0 hts gJx4a65c_add_72be8_Jx4a65c_grow_d5877 rfl rfl rfl (by decide +kernel) ⟨Nat.le_of_ble_eq_true rfl, Nat.le_of_ble_eq_true rfl⟩) (dz_P.preV hE hS hG h1 rfl ha) rfl rfl hl.1 rfl (lv_room (Nat.le_of_ble_eq_true rfl)) dJx4a65c_add_72be8_7 ⟨Nat.le_of_ble_eq_true rfl, Nat.le_of_ble_eq_true rfl⟩) hS (fun x_7_1 G_7_1 ad_7_1 H locs hp_7_1 hG hS => ?_)
  refine W.widen (k := 1) (n := 100) (by omega) (by omega) ?_
  obtain ⟨fr_7_1, g_7_1⟩ := hp_7_1
  obtain ⟨⟨h1_7_1, h2_7_1⟩, h3_7_1, h4_7_1⟩ := g_7_1
  refine lv_astore_n (lv' := [(2, .ref x_7_1), (0, .ref a), (1, .ref av), (3, .int (nI n0))]) hx hb dJx4a65c_add_72be8_10 rfl hl (by decide) rfl (fun ls hl => ?_)
  refine lv_aload_n hx hb dJx4a65c_add_72be8_11 rfl (lv_at hl 0 rfl) ?_
  refine lv_iload_n hx hb dJx4a65c_add_72be8_12 rfl (lv_at hl 3 rfl) ?_
  refine lv_aload_n hx hb dJx4a65c_add_72be8_13 rfl (lv_at hl 2 rfl) ?_
  refine dz_aast hx hb hE hG h4_7_1 hS h3_7_1 ⟨Ce, hCe, by have z := va_recv hE.1 (hG.P ((fr_7_1 _ hv1 hv2 hv3).1.trans hv)) hce (q0 := 0) rfl; rw [((fr_7_1 _ hv1 hv2 hv3).2.trans hav)] at z; exact z⟩ (vp_in_nI (by omega) (by omega)) dJx4a65c_add_72be8_14 (fun H locs hG hS => ?_)
  obtain ⟨G_1, hG, w_1, o_1⟩ := dz_nm hG
  refine lv_aload_n hx hb dJx4a65c_add_72be8_15 rfl (lv_at hl 1 rfl) ?_
  refine lv_iload_n hx hb dJx4a65c_add_72be8_16 rfl (lv_at hl 3 rfl) ?_
  refine lv_iconst (v := 1) hx hb dJx4a65c_add_72be8_17 (by decide) ?_
  refine lv_iadd hx hb dJx4a65c_add_72be8_18 ?_
  refine lv_topi (fun v_1 ev_1 => ?_)
  obtain rfl : v_1 = nI (n0 + 1) := ev_1.trans (nI_1 n0)
  refine dz_put hx hb hts (fun _ h => List.mem_cons_of_mem _ (List.mem_append_right _ h)) tyJx4a65c tyJx4a65c_ok nmJx4a65c hown hE hG ((o_1 _ hne).2.trans h2_7_1) hS ((o_1 _ hne).1.trans h1_7_1) rfl 2 (by decide) (hts _ (List.mem_of_getElem? (i := 1) rfl)) (fun _ h9 => h9) rfl (ty := .int) (by decide +kernel) rfl rfl (fs' := [.int mo, .ref x_7_1, .int (nI (n0 + 1))]) rfl (Nat.le_of_ble_eq_true rfl) dJx4a65c_add_72be8_19 (fun H locs hG hS => ?_)
  obtain ⟨G_2, hG, w_2, o_2⟩ := dz_nm hG
  refine W.widen (k := 1) (n := 100) (by first | omega | decide) (by first | omega | decide) ?_
  refine W.vret hx hb hrt (fun t ht hW => dz_endM (f := rv_v) () hE hS hG ?_ ht hW) (fun q h => hS.2.2 q h) dJx4a65c_add_72be8_22
  refine ⟨fun r9 n_0 n_1 n_2 => (dz_tr (o_2 r9 n_0) (dz_tr (o_1 r9 n_1) (fr_7_1 r9 n_0 n_1 n_2))), ?_⟩
  refine ⟨⟨_, _, (n0 + n0 / 2), _, w_2, by omega, by omega, Or.inr ⟨by omega, ((o_2 _ (Ne.symm hne)).1.trans w_1), ((o_2 _ (Ne.symm hne)).2.trans h4_7_1), fun j hj => ?_⟩⟩, ((o_1 _ hne).2.trans h2_7_1)⟩
  rw [nI_clamp (by omega)]
  show _ = some (if j = n0 then av else el j)
  by_cases c9 : j = n0
  · subst c9
    rw [va_up_self, if_pos rfl]
  · rw [va_up_ne _ _ c9, if_neg c9]
    rw [pk_cpy_in (by omega) (by omega), Nat.sub_zero, Nat.zero_add]; exact hg j (by omega)


/-- add(E, Object[], int), whatever room there is -/
theorem c_add72 (l : Launch) (Z : dzG) (G : dzW) (ad : dzA) (rl ra : dzR) (a : Nat) (mo : Int32) (e0 n0 cn : Nat) (g0 : Nat → Option Nat) (rv : dzR) (av ce : Nat) (vv : List Value) (Ce : String) (Te : u_T) (Nf : Nat) (el : Nat → Nat) (ha : ad rl = a) (h1 : G rl = some (eO 0 [.int mo, .ref e0, .int (nI cn)])) (hcn : cn ≤ 60) (k2 : cn ≤ n0) (k3 : n0 ≤ 200) (k4 : (n0 = 0 ∧ e0 = dz0 Z) ∨ (2 ≤ n0 ∧ G ra = some (eR Z n0 g0) ∧ ad ra = e0 ∧ ∀ j, j < cn → g0 j = some (el j))) (hel : ∀ j, j < cn → ∃ r vs, ad r = el j ∧ G r = some (.inr (ce, vs)) ∧ r ≠ (90, 0)) (hne : rl ≠ ra) (hrl : rl ≠ (90, 0)) (hra : ra ≠ (90, 0)) (hv1 : rv ≠ rl) (hv2 : rv ≠ ra) (hv3 : rv ≠ (90, 0)) (hce : vwCl[ce]? = some (Ce, Te, Nf)) (hCe : (Ce, "java/lang/Object") ∈ dz_cast) (hav : ad rv = av) (hv : G rv = some (.inr (ce, vv))) : dzWr l yJx4a65c_add_72be8 wsJx4a65c_add_72be8 5 140 1 100 Z G ad [.ref a, .ref av, .ref e0, .int (nI cn)] rv_v (fun (x : Unit) G1 ad1 => (∀ r9 : dzR, r9 ≠ rl → r9 ≠ ra → r9 ≠ (90, 0) → G1 r9 = G r9 ∧ ad1 r9 = ad r9) ∧ dz_L Z G1 ad1 rl ra (cn + 1) (fun j => if j = cn then av else el j) ∧ ad1 rl = a) := by
  rcases k4 with ⟨rfl, rfl⟩ | ⟨q1, q2, q3, q4⟩
  · obtain rfl : cn = 0 := by omega
    exact c_addE l Z G ad rl ra a mo rv av ce vv Ce Te Nf el ha h1 hne hrl hra hv1 hv2 hv3 hce hCe hav hv
  · rcases Nat.lt_or_ge cn n0 with c | c
    · exact c_addR l Z G ad rl ra a mo e0 n0 cn g0 rv av ce vv Ce Te Nf el ha h1 q3 q2 c q1 k3 q4 hne hrl hra hv1 hv2 hv3 hce hCe hav hv
    · obtain rfl : cn = n0 := by omega
      exact c_addF l Z G ad rl ra a mo e0 cn g0 rv av ce vv Ce Te Nf el ha h1 q3 q2 q1 hcn q4 hel hne hrl hra hv1 hv2 hv3 hce hCe hav hv

set_option maxHeartbeats 4000000 in
set_option maxRecDepth 100000 in
theorem c_Jx4a65c_add_9ea2d (l : Launch) (Z : dzG) (G : dzW) (ad : dzA) (rl ra : dzR) (a cn : Nat) (el : Nat → Nat) (rv : dzR) (av ce : Nat) (vv : List Value) (Ce : String) (Te : u_T) (Nf : Nat) (ha : ad rl = a) (hL : dz_L Z G ad rl ra cn el) (hcn : cn ≤ 60) (hel : ∀ j, j < cn → ∃ r vs, ad r = el j ∧ G r = some (.inr (ce, vs)) ∧ r ≠ (90, 0) ∧ r ≠ rl) (hne : rl ≠ ra) (hrl : rl ≠ (90, 0)) (hra : ra ≠ (90, 0)) (hv1 : rv ≠ rl) (hv2 : rv ≠ ra) (hv3 : rv ≠ (90, 0)) (hce : vwCl[ce]? = some (Ce, Te, Nf)) (hCe : (Ce, "java/lang/Object") ∈ dz_cast) (hav : ad rv = av) (hv : G rv = some (.inr (ce, vv))) : dzWr l yJx4a65c_add_9ea2d wsJx4a65c_add_9ea2d 6 163 1 100 Z G ad [.ref a, .ref av] rv_i (fun (x : Int32) G1 ad1 => (∀ r9 : dzR, r9 ≠ rl → r9 ≠ ra → r9 ≠ (90, 0) → G1 r9 = G r9 ∧ ad1 r9 = ad r9) ∧ x = 1 ∧ dz_L Z G1 ad1 rl ra (cn + 1) (fun j => if j = cn then av else el j) ∧ ad1 rl = a) := by
  refine Met.ofW (cc := cJx4a65c_add_9ea2d) (maxL := 2) (ret := (some .boolean)) (by decide) rfl ?_
  intro p e s m args below meth c s₁ B hml hv
  obtain ⟨rfl, hG, hE⟩ := hv
  have hx := B.exec
  have hb := B.bytes
  have hrt := B.returns
  have hts := atoms_spec (ws := wsJx4a65c_add_9ea2d) B.pre
  have hown : s.vm.findClass RJx4a65c = some m.cls := findClass_of_methodNamed B.named
  have hlocks := B.notSynchronized
  have hS : va_S (dz_A Z) s.heap s.heap [] := va_S.rf
  have hl := lv_entry ([.ref a, .ref av]) (n := 2) (Nat.le_of_ble_eq_true rfl)
  rw [lg_entry_eq]
  generalize (lg_sl ([.ref a, .ref av]) ++ List.replicate (2 - (lg_sl ([.ref a, .ref av])).length) Slot.unset).toArray = ls at hl ⊢
  have hl : lv_has ls 2 [(0, .ref a), (1, .ref av)] := hl
  obtain ⟨mo, e0, n0, g0, k1, k2, k3, k4⟩ := hL
  refine lv_aload_n hx hb dJx4a65c_add_9ea2d_0 rfl (lv_at hl 0 rfl) ?_
  refine lv_dup hx hb dJx4a65c_add_9ea2d_1 rfl ?_
  refine dz_get hx hb hts (fun _ h => List.mem_cons_of_mem _ (List.mem_append_right _ h)) hown hE hG ha k1 rfl 0 (by decide) (hts _ (List.mem_of_getElem? (i := 1) rfl)) (u_same (hts _ (List.mem_of_getElem? (i := 2) rfl))) rfl dJx4a65c_add_9ea2d_2 ?_
  refine lv_iconst (v := 1) hx hb dJx4a65c_add_9ea2d_5 (by decide) ?_
  refine lv_iadd hx hb dJx4a65c_add_9ea2d_6 ?_
  refine lv_topi (fun v_1 ev_1 => ?_)
  refine dz_put hx hb hts (fun _ h => List.mem_cons_of_mem _ (List.mem_append_right _ h)) tyJx4a65c tyJx4a65c_ok nmJx4a65c hown hE hG ha hS k1 rfl 0 (by decide) (hts _ (List.mem_of_getElem? (i := 1) rfl)) (u_same (hts _ (List.mem_of_getElem? (i := 2) rfl))) rfl (ty := .int) (by decide +kernel) rfl rfl (fs' := [.int v_1, .ref e0, .int (nI cn)]) rfl (Nat.le_of_ble_eq_true rfl) dJx4a65c_add_9ea2d_7 (fun H locs hG hS => ?_)
  obtain ⟨G_1, hG, w_1, o_1⟩ := dz_nm hG
  refine lv_aload_n hx hb dJx4a65c_add_9ea2d_10 rfl (lv_at hl 0 rfl) ?_
  refine lv_aload_n hx hb dJx4a65c_add_9ea2d_11 rfl (lv_at hl 1 rfl) ?_
  refine lv_aload_n hx hb dJx4a65c_add_9ea2d_12 rfl (lv_at hl 0 rfl) ?_
  refine dz_get hx hb hts (fun _ h => List.mem_cons_of_mem _ (List.mem_append_right _ h)) hown hE hG ha w_1 rfl 1 (by decide) (hts _ (List.mem_of_getElem? (i := 3) rfl)) (fun _ h9 => h9) rfl dJx4a65c_add_9ea2d_13 ?_
  refine lv_aload_n hx hb dJx4a65c_add_9ea2d_16 rfl (lv_at hl 0 rfl) ?_
  refine dz_get hx hb hts (fun _ h => List.mem_cons_of_mem _ (List.mem_append_right _ h)) hown hE hG ha w_1 rfl 2 (by decide) (hts _ (List.mem_of_getElem? (i := 4) rfl)) (fun _ h9 => h9) rfl dJx4a65c_add_9ea2d_17 ?_
  have k4b : (n0 = 0 ∧ e0 = dz0 Z) ∨ (2 ≤ n0 ∧ G_1 ra = some (eR Z n0 g0) ∧ ad ra = e0 ∧ ∀ j, j < cn → g0 j = some (el j)) := by
    rcases k4 with k | ⟨q1, q2, q3, q4⟩
    · exact Or.inl k
    · exact Or.inr ⟨q1, (o_1 _ (Ne.symm hne)).1.trans q2, q3, q4⟩
  have helb : ∀ j, j < cn → ∃ r vs, ad r = el j ∧ G_1 r = some (.inr (ce, vs)) ∧ r ≠ (90, 0) := by
    intro j hj
    obtain ⟨r, vs, z1, z2, z3, z4⟩ := hel j hj
    exact ⟨r, vs, z1, (o_1 r z4).1.trans z2, z3⟩
  refine dz_kMv (va_runV (As := [_, _, _]) ⟨hx, hb, hml, hown, hts⟩ (c_add72 l Z _ _ _ _ _ _ _ _ _ _ _ _ _ _ _ _ _ _ ha w_1 hcn k2 k3 k4b helb hne hrl hra hv1 hv2 hv3 hce hCe hav ((o_1 _ hv1).1.trans hv)) (cwV 3 hts gJx4a65c_add_9ea2d_Jx4a65c_add_72be8 rfl rfl rfl (by decide +kernel) ⟨Nat.le_of_ble_eq_true rfl, Nat.le_of_ble_eq_true rfl⟩) (dz_P.preV hE hS hG w_1 rfl ha) rfl rfl hl.1 rfl (lv_room (Nat.le_of_ble_eq_true rfl)) dJx4a65c_add_9ea2d_20 ⟨Nat.le_of_ble_eq_true rfl, Nat.le_of_ble_eq_true rfl⟩) hS (fun G_20_1 ad_20_1 H locs hp_20_1 hG hS => ?_)
  refine W.widen (k := 1) (n := 100) (by omega) (by omega) ?_
  obtain ⟨fr_20_1, g_20_1⟩ := hp_20_1
  refine lv_iconst (v := 1) hx hb dJx4a65c_add_9ea2d_23 (by decide) ?_
  refine W.widen (k := 1) (n := 100) (by first | omega | decide) (by first | omega | decide) ?_
  refine W.zret hx hb hrt (by decide) (fun t ht hW => dz_endM (f := rv_i) _ hE hS hG ?_ ht hW) (fun q h => hS.2.2 q h) dJx4a65c_add_9ea2d_24
  refine ⟨fun r9 n_0 n_1 n_2 => (dz_tr (fr_20_1 r9 n_0 n_1 n_2) (o_1 r9 n_0)), ?_⟩
  exact ⟨rfl, g_20_1⟩

set_option maxHeartbeats 4000000 in
set_option maxRecDepth 100000 in
theorem c_clearE (l : Launch) (Z : dzG) (G : dzW) (ad : dzA) (rl ra : dzR) (a : Nat) (mo : Int32) (e0 : Nat) (el : Nat → Nat) (ha : ad rl = a) (h1 : G rl = some (eO 0 [.int mo, .ref e0, .int (nI 0)])) (h0 : e0 = dz0 Z) : dzWr l yJx4a65c_clear_da8c8 wsJx4a65c_clear_da8c8 0 0 0 0 Z G ad [.ref a] rv_v (fun (x : Unit) G1 ad1 => (∀ r9 : dzR, r9 ≠ rl → r9 ≠ ra → G1 r9 = G r9 ∧ ad1 r9 = ad r9) ∧ dz_L Z G1 ad1 rl ra 0 el ∧ ad1 rl = a) := by
  refine Met.ofW (cc := cJx4a65c_clear_da8c8) (maxL := 4) (ret := none) (by decide) rfl ?_
  intro p e s m args below meth c s₁ B hml hv
  obtain ⟨rfl, hG, hE⟩ := hv
  have hx := B.exec
  have hb := B.bytes
  have hrt := B.returns
  have hts := atoms_spec (ws := wsJx4a65c_clear_da8c8) B.pre
  have hown : s.vm.findClass RJx4a65c = some m.cls := findClass_of_methodNamed B.named
  have hlocks := B.notSynchronized
  have hS : va_S (dz_A Z) s.heap s.heap [] := va_S.rf
  have hl := lv_entry ([.ref a]) (n := 4) (Nat.le_of_ble_eq_true rfl)
  rw [lg_entry_eq]
  generalize (lg_sl ([.ref a]) ++ List.replicate (4 - (lg_sl ([.ref a])).length) Slot.unset).toArray = ls at hl ⊢
  have hl : lv_has ls 4 [(0, .ref a)] := hl
  refine lv_aload_n hx hb dJx4a65c_clear_da8c8_0 rfl (lv_at hl 0 rfl) ?_
  refine lv_dup hx hb dJx4a65c_clear_da8c8_1 rfl ?_
  refine dz_get hx hb hts (fun _ h => List.mem_cons_of_mem _ (List.mem_append_right _ h)) hown hE hG ha h1 rfl 0 (by decide) (hts _ (List.mem_of_getElem? (i := 1) rfl)) (u_same (hts _ (List.mem_of_getElem? (i := 2) rfl))) rfl dJx4a65c_clear_da8c8_2 ?_
  refine lv_iconst (v := 1) hx hb dJx4a65c_clear_da8c8_5 (by decide) ?_
  refine lv_iadd hx hb dJx4a65c_clear_da8c8_6 ?_
  refine lv_topi (fun v_1 ev_1 => ?_)
  refine dz_put hx hb hts (fun _ h => List.mem_cons_of_mem _ (List.mem_append_right _ h)) tyJx4a65c tyJx4a65c_ok nmJx4a65c hown hE hG ha hS h1 rfl 0 (by decide) (hts _ (List.mem_of_getElem? (i := 1) rfl)) (u_same (hts _ (List.mem_of_getElem? (i := 2) rfl))) rfl (ty := .int) (by decide +kernel) rfl rfl (fs' := [.int v_1, .ref e0, .int (nI 0)]) rfl (Nat.le_of_ble_eq_true rfl) dJx4a65c_clear_da8c8_7 (fun H locs hG hS => ?_)
  obtain ⟨G_1, hG, w_1, o_1⟩ := dz_nm hG
  refine lv_aload_n hx hb dJx4a65c_clear_da8c8_10 rfl (lv_at hl 0 rfl) ?_
  refine dz_get hx hb hts (fun _ h => List.mem_cons_of_mem _ (List.mem_append_right _ h)) hown hE hG ha w_1 rfl 1 (by decide) (hts _ (List.mem_of_getElem? (i := 3) rfl)) (fun _ h9 => h9) rfl dJx4a65c_clear_da8c8_11 ?_
  refine lv_astore_n (lv' := [(1, .ref e0), (0, .ref a)]) hx hb dJx4a65c_clear_da8c8_14 rfl hl (by decide) rfl (fun ls hl => ?_)
  refine lv_aload_n hx hb dJx4a65c_clear_da8c8_15 rfl (lv_at hl 1 rfl) ?_
  refine dz_get hx hb hts (fun _ h => List.mem_cons_of_mem _ (List.mem_append_right _ h)) hown hE hG ha w_1 rfl 2 (by decide) (hts _ (List.mem_of_getElem? (i := 4) rfl)) (fun _ h9 => h9) rfl dJx4a65c_clear_da8c8_16 ?_
  refine lv_istore_n (lv' := [(2, .int (nI 0)), (1, .ref e0), (0, .ref a)]) hx hb dJx4a65c_clear_da8c8_19 rfl hl (by decide) rfl (fun ls hl => ?_)
  refine lv_aload_n hx hb dJx4a65c_clear_da8c8_20 rfl (lv_at hl 2 rfl) ?_
  refine lv_iconst (v := 0) hx hb dJx4a65c_clear_da8c8_21 (by decide) ?_
  refine lv_dup_x1 hx hb dJx4a65c_clear_da8c8_22 rfl rfl ?_
  refine dz_put hx hb hts (fun _ h => List.mem_cons_of_mem _ (List.mem_append_right _ h)) tyJx4a65c tyJx4a65c_ok nmJx4a65c hown hE hG ha hS w_1 rfl 2 (by decide) (hts _ (List.mem_of_getElem? (i := 4) rfl)) (fun _ h9 => h9) rfl (ty := .int) (by decide +kernel) rfl rfl (fs' := [.int v_1, .ref e0, .int 0]) rfl (Nat.le_of_ble_eq_true rfl) dJx4a65c_clear_da8c8_23 (fun H locs hG hS => ?_)
  obtain ⟨G_2, hG, w_2, o_2⟩ := dz_nm hG
  refine lv_istore_n (lv' := [(3, .int 0), (2, .int (nI 0)), (1, .ref e0), (0, .ref a)]) hx hb dJx4a65c_clear_da8c8_26 rfl hl (by decide) rfl (fun ls hl => ?_)
  refine lv_iload_n hx hb dJx4a65c_clear_da8c8_27 rfl (lv_at hl 0 rfl) ?_
  refine lv_iload_n hx hb dJx4a65c_clear_da8c8_28 rfl (lv_at hl 1 rfl) ?_
  refine lv_icmp_ge (tgt := 42) hx hb dJx4a65c_clear_da8c8_29 (by decide) (fun c_29 => ?_) (fun c_29 => absurd (by decide) c_29)
  refine W.widen (k := 0) (n := 0) (by first | omega | decide) (by first | omega | decide) ?_
  refine W.vret hx hb hrt (fun t ht hW => dz_endM (f := rv_v) () hE hS hG ?_ ht hW) (fun q h => hS.2.2 q h) dJx4a65c_clear_da8c8_42
  refine ⟨fun r9 n_0 n_1 => (dz_tr (o_2 r9 n_0) (o_1 r9 n_0)), ?_⟩
  exact ⟨⟨_, _, 0, fun _ => none, w_2, Nat.le_refl _, by omega, Or.inl ⟨rfl, h0⟩⟩, ha⟩

set_option maxHeartbeats 4000000 in
set_option maxRecDepth 100000 in
theorem c_clearN (l : Launch) (Z : dzG) (G : dzW) (ad : dzA) (rl ra : dzR) (a : Nat) (mo : Int32) (e0 n0 cn : Nat) (g0 : Nat → Option Nat) (el : Nat → Nat) (ha : ad rl = a) (h1 : G rl = some (eO 0 [.int mo, .ref e0, .int (nI cn)])) (har : ad ra = e0) (h2 : G ra = some (eR Z n0 g0)) (hn : cn ≤ n0) (hn2 : 2 ≤ n0) (hn200 : n0 ≤ 200) (hne : rl ≠ ra) : dzWr l yJx4a65c_clear_da8c8 wsJx4a65c_clear_da8c8 0 0 0 0 Z G ad [.ref a] rv_v (fun (x : Unit) G1 ad1 => (∀ r9 : dzR, r9 ≠ rl → r9 ≠ ra → G1 r9 = G r9 ∧ ad1 r9 = ad r9) ∧ dz_L Z G1 ad1 rl ra 0 el ∧ ad1 rl = a) := by
  refine Met.ofW (cc := cJx4a65c_clear_da8c8) (maxL := 4) (ret := none) (by decide) rfl ?_
  intro p e s m args below meth c s₁ B hml hv
  obtain ⟨rfl, hG, hE⟩ := hv
  have hx := B.exec
  have hb := B.bytes
  have hrt := B.returns
  have hts := atoms_spec (ws := wsJx4a65c_clear_da8c8) B.pre
  have hown : s.vm.findClass RJx4a65c = some m.cls := findClass_of_methodNamed B.named
  have hlocks := B.notSynchronized
  have hS : va_S (dz_A Z) s.heap s.heap [] := va_S.rf
  have hl := lv_entry ([.ref a]) (n := 4) (Nat.le_of_ble_eq_true rfl)
  rw [lg_entry_eq]
  generalize (lg_sl ([.ref a]) ++ List.replicate (4 - (lg_sl ([.ref a])).length) Slot.unset).toArray = ls at hl ⊢
  have hl : lv_has ls 4 [(0, .ref a)] := hl
  refine lv_aload_n hx hb dJx4a65c_clear_da8c8_0 rfl (lv_at hl 0 rfl) ?_
  refine lv_dup hx hb dJx4a65c_clear_da8c8_1 rfl ?_
  refine dz_get hx hb hts (fun _ h => List.mem_cons_of_mem _ (List.mem_append_right _ h)) hown hE hG ha h1 rfl 0 (by decide) (hts _ (List.mem_of_getElem? (i := 1) rfl)) (u_same (hts _ (List.mem_of_getElem? (i := 2) rfl))) rfl dJx4a65c_clear_da8c8_2 ?_
  refine lv_iconst (v := 1) hx hb dJx4a65c_clear_da8c8_5 (by decide) ?_
  refine lv_iadd hx hb dJx4a65c_clear_da8c8_6 ?_
  refine lv_topi (fun v_1 ev_1 => ?_)
  refine dz_put hx hb hts (fun _ h => List.mem_cons_of_mem _ (List.mem_append_right _ h)) tyJx4a65c tyJx4a65c_ok nmJx4a65c hown hE hG ha hS h1 rfl 0 (by decide) (hts _ (List.mem_of_getElem? (i := 1) rfl)) (u_same (hts _ (List.mem_of_getElem? (i := 2) rfl))) rfl (ty := .int) (by decide +kernel) rfl rfl (fs' := [.int v_1, .ref e0, .int (nI cn)]) rfl (Nat.le_of_ble_eq_true rfl) dJx4a65c_clear_da8c8_7 (fun H locs hG hS => ?_)
  obtain ⟨G_1, hG, w_1, o_1⟩ := dz_nm hG
  refine lv_aload_n hx hb dJx4a65c_clear_da8c8_10 rfl (lv_at hl 0 rfl) ?_
  refine dz_get hx hb hts (fun _ h => List.mem_cons_of_mem _ (List.mem_append_right _ h)) hown hE hG ha w_1 rfl 1 (by decide) (hts _ (List.mem_of_getElem? (i := 3) rfl)) (fun _ h9 => h9) rfl dJx4a65c_clear_da8c8_11 ?_
  refine lv_astore_n (lv' := [(1, .ref e0), (0, .ref a)]) hx hb dJx4a65c_clear_da8c8_14 rfl hl (by decide) rfl (fun ls hl => ?_)
  refine lv_aload_n hx hb dJx4a65c_clear_da8c8_15 rfl (lv_at hl 1 rfl) ?_
  refine dz_get hx hb hts (fun _ h => List.mem_cons_of_mem _ (List.mem_append_right _ h)) hown hE hG ha w_1 rfl 2 (by decide) (hts _ (List.mem_of_getElem? (i := 4) rfl)) (fun _ h9 => h9) rfl dJx4a65c_clear_da8c8_16 ?_
  refine lv_istore_n (lv' := [(2, .int (nI cn)), (1, .ref e0), (0, .ref a)]) hx hb dJx4a65c_clear_da8c8_19 rfl hl (by decide) rfl (fun ls hl => ?_)
  refine lv_aload_n hx hb dJx4a65c_clear_da8c8_20 rfl (lv_at hl 2 rfl) ?_
  refine lv_iconst (v := 0) hx hb dJx4a65c_clear_da8c8_21 (by decide) ?_
  refine lv_dup_x1 hx hb dJx4a65c_clear_da8c8_22 rfl rfl ?_
  refine dz_put hx hb hts (fun _ h => List.mem_cons_of_mem _ (List.mem_append_right _ h)) tyJx4a65c tyJx4a65c_ok nmJx4a65c hown hE hG ha hS w_1 rfl 2 (by decide) (hts _ (List.mem_of_getElem? (i := 4) rfl)) (fun _ h9 => h9) rfl (ty := .int) (by decide +kernel) rfl rfl (fs' := [.int v_1, .ref e0, .int 0]) rfl (Nat.le_of_ble_eq_true rfl) dJx4a65c_clear_da8c8_23 (fun H locs hG hS => ?_)
  obtain ⟨G_2, hG, w_2, o_2⟩ := dz_nm hG
  refine lv_istore_n (lv' := [(3, .int 0), (2, .int (nI cn)), (1, .ref e0), (0, .ref a)]) hx hb dJx4a65c_clear_da8c8_26 rfl hl (by decide) rfl (fun ls hl => ?_)
  refine dz_lw (α := Nat × (Nat → Option Nat) × dzW × Array Slot) (fun a9 => (fun (j : Nat) (gk : Nat → Option Nat) (G_L27 : dzW) (ls : Array Slot) => cn - j) a9.1 a9.2.1 a9.2.2.1 a9.2.2.2) (fun a9 H locs => (fun (j : Nat) (gk : Nat → Option Nat) (G_L27 : dzW) (ls : Array Slot) => (j ≤ cn) ∧ (∀ r9 : dzR, r9 ≠ ra → G_L27 r9 = G_2 r9 ∧ ad r9 = ad r9) ∧ (G_L27 ra = some (eR Z n0 gk)) ∧ dz_w Z G_L27 ad H ∧ va_S (dz_A Z) s.heap H locs ∧ lv_has ls 4 [(3, .int (nI j)), (2, .int (nI cn)), (1, .ref e0), (0, .ref a)]) a9.1 a9.2.1 a9.2.2.1 a9.2.2.2) (fun a9 => F0 m 27 a9.2.2.2 []) (fun a9 H locs hI ih_27 => ?_) (0, g0, G_2, ls) ⟨(Nat.zero_le _), (fun r9 _ => ⟨rfl, rfl⟩), ((o_2 _ (Ne.symm hne)).1.trans ((o_1 _ (Ne.symm hne)).1.trans h2)), hG, hS, lv_sub hl [0, 1, 2, 3] rfl⟩
  obtain ⟨j, gk, G_L27, ls⟩ := a9
  obtain ⟨hj, fr_L27, hgk, hG, hS, hl⟩ := hI
  have hj : j ≤ cn := hj
  have fr_L27 : ∀ r9 : dzR, r9 ≠ ra → G_L27 r9 = G_2 r9 ∧ ad r9 = ad r9 := fr_L27
  have hgk : G_L27 ra = some (eR Z n0 gk) := hgk
  have hG : dz_w Z G_L27 ad H := hG
  have hS : va_S (dz_A Z) s.heap H locs := hS
  have hl : lv_has ls 4 [(3, .int (nI j)), (2, .int (nI cn)), (1, .ref e0), (0, .ref a)] := hl
  refine lv_iload_n hx hb dJx4a65c_clear_da8c8_27 rfl (lv_at hl 0 rfl) ?_
  refine lv_iload_n hx hb dJx4a65c_clear_da8c8_28 rfl (lv_at hl 1 rfl) ?_
  refine lv_icmp_ge (tgt := 42) hx hb dJx4a65c_clear_da8c8_29 (by decide) (fun c_29 => ?_) (fun c_29 => ?_)
  · refine W.widen (k := 0) (n := 0) (by first | omega | decide) (by first | omega | decide) ?_
    refine W.vret hx hb hrt (fun t ht hW => dz_endM (f := rv_v) () hE hS hG ?_ ht hW) (fun q h => hS.2.2 q h) dJx4a65c_clear_da8c8_42
    refine ⟨fun r9 n_0 n_1 => (dz_tr (fr_L27 r9 n_1) (dz_tr (o_2 r9 n_0) (o_1 r9 n_0))), ?_⟩
    exact ⟨⟨_, _, n0, _, ((fr_L27 _ hne).1.trans w_2), Nat.zero_le _, hn200, Or.inr ⟨hn2, hgk, ((o_2 _ (Ne.symm hne)).2.trans ((o_1 _ (Ne.symm hne)).2.trans har)), fun j hj => absurd hj (Nat.not_lt_zero _)⟩⟩, ((fr_L27 _ hne).2.trans ha)⟩
  · have hlt : j < cn := by
      rcases Nat.lt_or_ge j cn with q | q
      · exact q
      · exact absurd ((nI_leI (by omega) (by omega)).mpr q) c_29
    refine lv_aload_n hx hb dJx4a65c_clear_da8c8_32 rfl (lv_at hl 2 rfl) ?_
    refine lv_iload_n hx hb dJx4a65c_clear_da8c8_33 rfl (lv_at hl 0 rfl) ?_
    refine lv_null hx hb dJx4a65c_clear_da8c8_34 ?_
    refine dz_aastN hx hb hE hG ((o_2 _ (Ne.symm hne)).2.trans ((o_1 _ (Ne.symm hne)).2.trans har)) hS hgk (vp_in_nI (by omega) (by omega)) dJx4a65c_clear_da8c8_35 (fun H locs hG hS => ?_)
    obtain ⟨G_3, hG, w_3, o_3⟩ := dz_nm hG
    obtain ⟨v_2, ev_2⟩ : ∃ y : Int32, y = (nI j) + 1 := ⟨_, rfl⟩
    refine lv_iinc (v := v_2) (lv' := [(3, .int v_2), (2, .int (nI cn)), (1, .ref e0), (0, .ref a)]) hx hb dJx4a65c_clear_da8c8_36 hl (k := 0) rfl (by rw [ev_2]; rfl) (by decide) rfl (fun ls hl => ?_)
    refine lv_goto (tgt := 27) hx hb dJx4a65c_clear_da8c8_39 (by decide) ?_
    obtain rfl : v_2 = nI (j + 1) := ev_2.trans (nI_1 j)
    exact ih_27 (j + 1, _, G_3, ls) _ _ (by first | (dsimp only; omega) | omega) ⟨(by omega), (fun r9 n_0 => (dz_tr (o_3 r9 n_0) (fr_L27 r9 n_0))), w_3, hG, hS, lv_sub hl [0, 1, 2, 3] rfl⟩


/-- clear(), whatever is in it -/
theorem c_Jx4a65c_clear_da8c8 (l : Launch) (Z : dzG) (G : dzW) (ad : dzA) (rl ra : dzR) (a cn : Nat) (el : Nat → Nat) (ha : ad rl = a) (hL : dz_L Z G ad rl ra cn el) (hne : rl ≠ ra) : dzWr l yJx4a65c_clear_da8c8 wsJx4a65c_clear_da8c8 0 0 0 0 Z G ad [.ref a] rv_v (fun (x : Unit) G1 ad1 => (∀ r9 : dzR, r9 ≠ rl → r9 ≠ ra → G1 r9 = G r9 ∧ ad1 r9 = ad r9) ∧ dz_L Z G1 ad1 rl ra 0 el ∧ ad1 rl = a) := by
  obtain ⟨mo, e0, n0, g0, k1, k2, k3, k4⟩ := hL
  rcases k4 with ⟨rfl, q⟩ | ⟨q1, q2, q3, q4⟩
  · obtain rfl : cn = 0 := by omega
    have h := c_clearE l Z G ad rl ra a mo e0 el ha k1 q
    exact h
  · exact c_clearN l Z G ad rl ra a mo e0 n0 cn g0 el ha k1 q3 q2 k2 q1 k3 hne
