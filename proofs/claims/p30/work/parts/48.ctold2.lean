set_option maxHeartbeats 4000000 in
set_option maxRecDepth 100000 in
theorem c_D_flare_ok2 (l : Launch) (Z : dzG) (G : dzW) (ad : dzA) (aX nl nx : Nat) (dy ssf sst cfr grw : Int32) (ns sc : Nat) (cnt : Nat → Nat) (col row fl : Nat → Int32) (nfl nst : Nat → Nat) (fx sx : Nat → Nat → Nat) (fd fb sr sd sw sg : Nat → Int32) (v2 : Int32) (ha : ad (1, 0) = aX) (hco : G (1, 0) = some (eO 9 [.ref (ad (2, 0)), .ref (ad (9, 0)), .int (nI nl), .int (nI nx), .ref (ad (19, 0)), .ref (ad (26, 0)), .int dy, .int ssf, .int sst, .int cfr, .int grw])) (hls : dz_L Z G ad (9, 0) (10, 0) ns (fun i => ad (11, i))) (hsc : sc < ns) (hns : ns ≤ 5) (hso : G (11, sc) = some (eO 7 [.int (col sc), .int (row sc), .int (fl sc), .ref (ad (12, sc)), .int (nI (cnt sc)), .ref (ad (13, sc)), .ref (ad (15, sc))])) (hfl : dz_L Z G ad (13, sc) (14, sc) (nfl sc) (fun j => ad (17, fx sc j))) (hfo : ∀ j, j < nfl sc → G (17, fx sc j) = some (eO 3 [.int (fd (fx sc j)), .int (fb (fx sc j))])) (hg : (((-100) : Int32) ≤ v2 ∧ v2 ≤ 100)) (hnl : nl ≤ 39) (hnn : nfl sc ≤ 59) (hfx : ∀ j, j < nfl sc → fx sc j < nl) (hfd : fd nl = dy) (hfb : fb nl = v2) : dzWr l yX8_flare wsX8_flare 8 205 2 102 Z G ad [.ref aX, .int (nI sc), .int v2] rv_i (fun (x : Int32) G1 ad1 => (∀ r9 : dzR, r9 ≠ (1, 0) → r9 ≠ (17, nl) → r9 ≠ (13, sc) → r9 ≠ (14, sc) → r9 ≠ (90, 0) → G1 r9 = G r9 ∧ ad1 r9 = ad r9) ∧ ad1 (1, 0) = aX ∧ x = (m_pos (m_lgt (fl sc) fd fb (fun j => if j = nfl sc then nl else fx sc j) dy (nfl sc + 1))) ∧ G1 (1, 0) = some (eO 9 [.ref (ad (2, 0)), .ref (ad (9, 0)), .int (nI (nl + 1)), .int (nI nx), .ref (ad (19, 0)), .ref (ad (26, 0)), .int dy, .int ssf, .int sst, .int cfr, .int grw]) ∧ dz_L Z G1 ad1 (13, sc) (14, sc) (nfl sc + 1) (fun j => ad1 (17, (fun j => if j = nfl sc then nl else fx sc j) j)) ∧ ad1 (13, sc) = ad (13, sc) ∧ G1 (17, nl) = some (eO 3 [.int dy, .int v2])) := by
  refine Met.ofW (cc := cX8_flare) (maxL := 4) (ret := (some .int)) (by decide) rfl ?_
  intro p e s m args below meth c s₁ B hml hv
  obtain ⟨rfl, hG, hE⟩ := hv
  have hx := B.exec
  have hb := B.bytes
  have hrt := B.returns
  have hts := atoms_spec (ws := wsX8_flare) B.pre
  have hown : s.vm.findClass RX8 = some m.cls := findClass_of_methodNamed B.named
  have hlocks := B.notSynchronized
  have hS : va_S (dz_A Z) s.heap s.heap [] := va_S.rf
  have hl := lv_entry ([.ref aX, .int (nI sc), .int v2]) (n := 4) (Nat.le_of_ble_eq_true rfl)
  rw [lg_entry_eq]
  generalize (lg_sl ([.ref aX, .int (nI sc), .int v2]) ++ List.replicate (4 - (lg_sl ([.ref aX, .int (nI sc), .int v2])).length) Slot.unset).toArray = ls at hl ⊢
  have hl : lv_has ls 4 [(0, .ref aX), (1, .int (nI sc)), (2, .int v2)] := hl
  refine lv_aload_n hx hb dX8_flare_0 rfl (lv_at hl 0 rfl) ?_
  refine lv_iload_n hx hb dX8_flare_1 rfl (lv_at hl 1 rfl) ?_
  refine dz_kRr (va_runV (As := [_]) ⟨hx, hb, hml, hown, hts⟩ (c_sourceIn l Z _ _ _ _ _ _ _ _ _ _ _ _ _ _ _ _ ha hco hls hsc hns hso) (cwV 1 hts gX8_flare_X8_sourceAt rfl rfl rfl (by decide +kernel) ⟨Nat.le_of_ble_eq_true rfl, Nat.le_of_ble_eq_true rfl⟩) (dz_P.preV hE hS hG hco rfl ha) rfl rfl hl.1 rfl (lv_room (Nat.le_of_ble_eq_true rfl)) dX8_flare_2 ⟨Nat.le_of_ble_eq_true rfl, Nat.le_of_ble_eq_true rfl⟩) ?_
  refine lv_astore_n (lv' := [(3, .ref (ad (11, sc))), (0, .ref aX), (1, .int (nI sc)), (2, .int v2)]) hx hb dX8_flare_5 rfl hl (by decide) rfl (fun ls hl => ?_)
  refine lv_aload_n hx hb dX8_flare_6 rfl (lv_at hl 0 rfl) ?_
  refine lv_ifnonnull (tgt := 20) hx hb dX8_flare_7 (by decide) ?_
  refine lv_iload_n hx hb dX8_flare_20 rfl (lv_at hl 3 rfl) ?_
  refine lv_bipush (v := (-100)) hx hb dX8_flare_21 (by decide) ?_
  refine lv_bipush (v := 100) hx hb dX8_flare_23 (by decide) ?_
  refine dz_kRi (va_runS (As := [_, _, _]) ⟨hx, hb, hml, hown, hts⟩ (c_X8_isWithin l Z _ _ _ _ _ ) (va_cwS 3 hts gX8_flare_X8_isWithin rfl rfl rfl (by decide +kernel) ⟨Nat.le_of_ble_eq_true rfl, Nat.le_of_ble_eq_true rfl⟩) (dz_P.pre hE hS hG) rfl rfl hl.1 rfl (lv_room (Nat.le_of_ble_eq_true rfl)) dX8_flare_25 ⟨Nat.le_of_ble_eq_true rfl, Nat.le_of_ble_eq_true rfl⟩) ?_
  refine lv_topi (fun v_1 ev_1 => ?_)
  obtain rfl : v_1 = 1 := ev_1.trans (dz_b1 hg)
  refine lv_if_ne (tgt := 41) hx hb dX8_flare_28 (by decide) (fun c_28 => ?_) (fun c_28 => absurd c_28 (by decide))
  refine lv_aload_n hx hb dX8_flare_41 rfl (lv_at hl 1 rfl) ?_
  refine dz_get hx hb hts (fun _ h => List.mem_cons_of_mem _ (List.mem_append_left _ (List.mem_append_left _ (List.mem_append_left _ (List.mem_append_left _ (List.mem_append_left _ (List.mem_append_left _ (List.mem_append_right _ h)))))))) hown hE hG ha hco rfl 2 (by decide) (hts _ (List.mem_of_getElem? (i := 7) rfl)) (fun _ h9 => h9) rfl dX8_flare_42 ?_
  refine lv_bipush (v := 40) hx hb dX8_flare_45 (by decide) ?_
  refine lv_icmp_lt (tgt := 60) hx hb dX8_flare_47 (by decide) (fun c_47 => ?_) (fun c_47 => absurd (nI_lt (b := 40) (by omega) (by decide)) c_47)
  refine lv_aload_n hx hb dX8_flare_60 rfl (lv_at hl 1 rfl) ?_
  refine lv_dup hx hb dX8_flare_61 rfl ?_
  refine dz_get hx hb hts (fun _ h => List.mem_cons_of_mem _ (List.mem_append_left _ (List.mem_append_left _ (List.mem_append_left _ (List.mem_append_left _ (List.mem_append_left _ (List.mem_append_left _ (List.mem_append_right _ h)))))))) hown hE hG ha hco rfl 2 (by decide) (hts _ (List.mem_of_getElem? (i := 7) rfl)) (fun _ h9 => h9) rfl dX8_flare_62 ?_
  refine lv_iconst (v := 1) hx hb dX8_flare_65 (by decide) ?_
  refine lv_iadd hx hb dX8_flare_66 ?_
  refine lv_topi (fun v_2 ev_2 => ?_)
  obtain rfl : v_2 = nI (nl + 1) := ev_2.trans (nI_1 nl)
  refine dz_put hx hb hts (fun _ h => List.mem_cons_of_mem _ (List.mem_append_left _ (List.mem_append_left _ (List.mem_append_left _ (List.mem_append_left _ (List.mem_append_left _ (List.mem_append_left _ (List.mem_append_right _ h)))))))) tyX8 tyX8_ok nmX8 hown hE hG ha hS hco rfl 2 (by decide) (hts _ (List.mem_of_getElem? (i := 7) rfl)) (fun _ h9 => h9) rfl (ty := .int) (by decide +kernel) rfl rfl (fs' := [.ref (ad (2, 0)), .ref (ad (9, 0)), .int (nI (nl + 1)), .int (nI nx), .ref (ad (19, 0)), .ref (ad (26, 0)), .int dy, .int ssf, .int sst, .int cfr, .int grw]) rfl (Nat.le_of_ble_eq_true rfl) dX8_flare_67 (fun H locs hG hS => ?_)
  obtain ⟨G_1, hG, w_1, o_1⟩ := dz_nm hG
  refine lv_aload_n hx hb dX8_flare_70 rfl (lv_at hl 0 rfl) ?_
  refine dz_new (ci := 3) hx hb hts (fun _ h => List.mem_cons_of_mem _ (List.mem_append_left _ (List.mem_append_left _ (List.mem_append_left _ (List.mem_append_left _ (List.mem_append_left _ (List.mem_append_right _ h))))))) tyX2 tyX2_ok hown (hts _ (List.mem_of_getElem? (i := 8) rfl)) (hts _ (List.mem_of_getElem? (i := 9) rfl)) (hts _ (List.mem_of_getElem? (i := 10) rfl)) hE hG hS (17, nl) rfl (fs := [.int 0, .int 0]) (fun j hj => by rcases (show j = 0 ∨ j = 1 by omega) with rfl | rfl <;> rfl) (Nat.le_of_ble_eq_true rfl) (Nat.le_of_ble_eq_true rfl) dX8_flare_71 (fun q_3 H hG hS => ?_)
  refine W.widen (k := 1) (n := 2) (by omega) (by omega) ?_
  obtain ⟨G_2, ad_2, hG, w_2, a_2, o_2⟩ := dz_nma hG
  refine lv_dup hx hb dX8_flare_74 rfl ?_
  refine lv_aload_n hx hb dX8_flare_75 rfl (lv_at hl 1 rfl) ?_
  refine dz_get hx hb hts (fun _ h => List.mem_cons_of_mem _ (List.mem_append_left _ (List.mem_append_left _ (List.mem_append_left _ (List.mem_append_left _ (List.mem_append_left _ (List.mem_append_left _ (List.mem_append_right _ h)))))))) hown hE hG ((o_2 _ (dz_n rfl)).2.trans ha) ((o_2 _ (dz_n rfl)).1.trans w_1) rfl 6 (by decide) (hts _ (List.mem_of_getElem? (i := 11) rfl)) (fun _ h9 => h9) rfl dX8_flare_76 ?_
  refine lv_iload_n hx hb dX8_flare_79 rfl (lv_at hl 3 rfl) ?_
  refine dz_kMv (va_runI (As := [_, _]) ⟨hx, hb, hml, hown, hts⟩ (c_X2_init l Z _ _ _ _ _ _ a_2 w_2) (cwI 2 hts gX8_flare_X2_init rfl rfl rfl (hts _ (List.mem_of_getElem? (i := 10) rfl)) (hts _ (List.mem_of_getElem? (i := 45) rfl)) (hts _ (List.mem_of_getElem? (i := 46) rfl)) rfl (by decide +kernel) ⟨Nat.le_of_ble_eq_true rfl, Nat.le_of_ble_eq_true rfl⟩) (dz_P.pre hE hS hG) rfl rfl hl.1 rfl (lv_room (Nat.le_of_ble_eq_true rfl)) dX8_flare_80 ⟨Nat.le_of_ble_eq_true rfl, Nat.le_of_ble_eq_true rfl⟩) hS (fun G_80_1 ad_80_1 H locs hp_80_1 hG hS => ?_)
  obtain ⟨fr_80_1, rfl, g_80_1⟩ := hp_80_1
  have hq9 : ∀ j, j < nfl sc → ((17, fx sc j) : Nat × Nat) ≠ (17, nl) := fun j hj => dz_n2 (Nat.ne_of_lt (hfx j hj))
  have hel9 : ∀ j, j < nfl sc → G_80_1 (17, fx sc j) = some (eO 3 [.int (fd (fx sc j)), .int (fb (fx sc j))]) ∧ ad_2 (17, fx sc j) = ad (17, fx sc j) := fun j hj => ⟨(dz_tr (fr_80_1 (17, fx sc j) (hq9 j hj)) (dz_tr (o_2 (17, fx sc j) (hq9 j hj)) (o_1 (17, fx sc j) (dz_n rfl)))).1.trans (hfo j hj), (dz_tr (fr_80_1 (17, fx sc j) (hq9 j hj)) (dz_tr (o_2 (17, fx sc j) (hq9 j hj)) (o_1 (17, fx sc j) (dz_n rfl)))).2⟩
  have hso9 : G_80_1 (11, sc) = some (eO 7 [.int (col sc), .int (row sc), .int (fl sc), .ref (ad_2 (12, sc)), .int (nI (cnt sc)), .ref (ad (13, sc)), .ref (ad (15, sc))]) := by
    rw [show ad_2 (12, sc) = ad (12, sc) from (dz_tr (fr_80_1 (12, sc) (dz_n rfl)) (dz_tr (o_2 (12, sc) (dz_n rfl)) (o_1 (12, sc) (dz_n rfl)))).2]
    exact ((fr_80_1 _ (dz_n rfl)).1.trans ((o_2 _ (dz_n rfl)).1.trans ((o_1 _ (dz_n rfl)).1.trans hso)))
  refine dz_kMv (va_runV (As := [_]) ⟨hx, hb, hml, hown, hts⟩ (c_X6_addFlare l Z _ _ _ _ _ _ _ _ _ _ _ _ _ _ _ _ ((fr_80_1 _ (dz_n rfl)).2.trans ((o_2 _ (dz_n rfl)).2.trans ((o_1 _ (dz_n rfl)).2.trans rfl))) hso9 ((fr_80_1 _ (dz_n rfl)).2.trans ((o_2 _ (dz_n rfl)).2.trans ((o_1 _ (dz_n rfl)).2.trans rfl))) (dz_L.frame (dz_L.frame (dz_L.frame hfl (o_1 _ (dz_n rfl)).1 (o_1 _ (dz_n rfl))) (o_2 _ (dz_n rfl)).1 (o_2 _ (dz_n rfl))) (fr_80_1 _ (dz_n rfl)).1 (fr_80_1 _ (dz_n rfl))) (g_80_1.2) (g_80_1.1) rfl (by omega) (fun j hj => ⟨(17, fx sc j), _, (hel9 j hj).2, (hel9 j hj).1, dz_n rfl, dz_n rfl⟩)) (cwV 1 hts gX8_flare_X6_addFlare rfl rfl rfl (by decide +kernel) ⟨Nat.le_of_ble_eq_true rfl, Nat.le_of_ble_eq_true rfl⟩) (dz_P.preV hE hS hG ((fr_80_1 _ (dz_n rfl)).1.trans ((o_2 _ (dz_n rfl)).1.trans ((o_1 _ (dz_n rfl)).1.trans hso))) rfl ((fr_80_1 _ (dz_n rfl)).2.trans ((o_2 _ (dz_n rfl)).2.trans ((o_1 _ (dz_n rfl)).2.trans rfl)))) rfl rfl hl.1 rfl (lv_room (Nat.le_of_ble_eq_true rfl)) dX8_flare_83 ⟨Nat.le_of_ble_eq_true rfl, Nat.le_of_ble_eq_true rfl⟩) hS (fun G_83_2 ad_83_2 H locs hp_83_2 hG hS => ?_)
  refine W.widen (k := 2) (n := 102) (by omega) (by omega) ?_
  obtain ⟨fr_83_2, g_83_2⟩ := hp_83_2
  have hL9 : dz_L Z G_83_2 ad_83_2 (13, sc) (14, sc) (nfl sc + 1) (fun j => ad_83_2 (17, (fun j => if j = nfl sc then nl else fx sc j) j)) := g_83_2.1.el (fun j hj9 => by
    by_cases c9 : j = nfl sc
    · simp only [if_pos c9]
      exact ((fr_83_2 _ (dz_n rfl) (dz_n rfl) (dz_n rfl)).2.trans (g_80_1.2))
    · have hj : j < nfl sc := by omega
      simp only [if_neg c9]
      exact (dz_tr (fr_83_2 (17, fx sc j) (dz_n rfl) (dz_n rfl) (dz_n rfl)) (dz_tr (fr_80_1 (17, fx sc j) (hq9 j hj)) (dz_tr (o_2 (17, fx sc j) (hq9 j hj)) (o_1 (17, fx sc j) (dz_n rfl))))).2)
  have hF9 : ∀ j, j < nfl sc + 1 → G_83_2 (17, (fun j => if j = nfl sc then nl else fx sc j) j) = some (eO 3 [.int (fd ((fun j => if j = nfl sc then nl else fx sc j) j)), .int (fb ((fun j => if j = nfl sc then nl else fx sc j) j))]) := fun j hj9 => by
    by_cases c9 : j = nfl sc
    · simp only [if_pos c9]
      rw [hfd, hfb]
      exact ((fr_83_2 _ (dz_n rfl) (dz_n rfl) (dz_n rfl)).1.trans (g_80_1.1))
    · have hj : j < nfl sc := by omega
      simp only [if_neg c9]
      exact (dz_tr (fr_83_2 (17, fx sc j) (dz_n rfl) (dz_n rfl) (dz_n rfl)) (dz_tr (fr_80_1 (17, fx sc j) (hq9 j hj)) (dz_tr (o_2 (17, fx sc j) (hq9 j hj)) (o_1 (17, fx sc j) (dz_n rfl))))).1.trans (hfo j hj)
  have hso8 : G_83_2 (11, sc) = some (eO 7 [.int (col sc), .int (row sc), .int (fl sc), .ref (ad_83_2 (12, sc)), .int (nI (cnt sc)), .ref (ad (13, sc)), .ref (ad (15, sc))]) := by
    rw [show ad_83_2 (12, sc) = ad (12, sc) from (dz_tr (fr_83_2 (12, sc) (dz_n rfl) (dz_n rfl) (dz_n rfl)) (dz_tr (fr_80_1 (12, sc) (dz_n rfl)) (dz_tr (o_2 (12, sc) (dz_n rfl)) (o_1 (12, sc) (dz_n rfl))))).2]
    exact ((fr_83_2 _ (dz_n rfl) (dz_n rfl) (dz_n rfl)).1.trans ((fr_80_1 _ (dz_n rfl)).1.trans ((o_2 _ (dz_n rfl)).1.trans ((o_1 _ (dz_n rfl)).1.trans hso))))
  refine lv_aload_n hx hb dX8_flare_86 rfl (lv_at hl 0 rfl) ?_
  refine lv_aload_n hx hb dX8_flare_87 rfl (lv_at hl 1 rfl) ?_
  refine dz_get hx hb hts (fun _ h => List.mem_cons_of_mem _ (List.mem_append_left _ (List.mem_append_left _ (List.mem_append_left _ (List.mem_append_left _ (List.mem_append_left _ (List.mem_append_left _ (List.mem_append_right _ h)))))))) hown hE hG ((fr_83_2 _ (dz_n rfl) (dz_n rfl) (dz_n rfl)).2.trans ((fr_80_1 _ (dz_n rfl)).2.trans ((o_2 _ (dz_n rfl)).2.trans ha))) ((fr_83_2 _ (dz_n rfl) (dz_n rfl) (dz_n rfl)).1.trans ((fr_80_1 _ (dz_n rfl)).1.trans ((o_2 _ (dz_n rfl)).1.trans w_1))) rfl 6 (by decide) (hts _ (List.mem_of_getElem? (i := 11) rfl)) (fun _ h9 => h9) rfl dX8_flare_88 ?_
  refine dz_kRi (va_runV (As := [_]) ⟨hx, hb, hml, hown, hts⟩ (c_X6_lightOn l Z _ _ _ _ _ _ _ _ _ _ _ _ _ _ _ ((fr_83_2 _ (dz_n rfl) (dz_n rfl) (dz_n rfl)).2.trans ((fr_80_1 _ (dz_n rfl)).2.trans ((o_2 _ (dz_n rfl)).2.trans ((o_1 _ (dz_n rfl)).2.trans rfl)))) hso8 g_83_2.2 hL9 hF9 (by omega)) (cwV 1 hts gX8_flare_X6_lightOn rfl rfl rfl (by decide +kernel) ⟨Nat.le_of_ble_eq_true rfl, Nat.le_of_ble_eq_true rfl⟩) (dz_P.preV hE hS hG hso8 rfl ((fr_83_2 _ (dz_n rfl) (dz_n rfl) (dz_n rfl)).2.trans ((fr_80_1 _ (dz_n rfl)).2.trans ((o_2 _ (dz_n rfl)).2.trans ((o_1 _ (dz_n rfl)).2.trans rfl))))) rfl rfl hl.1 rfl (lv_room (Nat.le_of_ble_eq_true rfl)) dX8_flare_91 ⟨Nat.le_of_ble_eq_true rfl, Nat.le_of_ble_eq_true rfl⟩) ?_
  refine lv_topi (fun v_4 ev_4 => ?_)
  obtain rfl : v_4 = (m_pos (m_lgt (fl sc) fd fb (fun j => if j = nfl sc then nl else fx sc j) dy (nfl sc + 1))) := ev_4
  refine W.widen (k := 2) (n := 102) (by first | omega | decide) (by first | omega | decide) ?_
  refine W.iret hx hb hrt (fun t ht hW => dz_endM (f := rv_i) _ hE hS hG ?_ ht hW) (fun q h => hS.2.2 q h) dX8_flare_94
  refine ⟨fun r9 n_0 n_1 n_2 n_3 n_4 => (dz_tr (fr_83_2 r9 n_2 n_3 n_4) (dz_tr (fr_80_1 r9 n_1) (dz_tr (o_2 r9 n_1) (o_1 r9 n_0)))), ?_⟩
  exact ⟨((fr_83_2 _ (dz_n rfl) (dz_n rfl) (dz_n rfl)).2.trans ((fr_80_1 _ (dz_n rfl)).2.trans ((o_2 _ (dz_n rfl)).2.trans ha))), rfl, ((fr_83_2 _ (dz_n rfl) (dz_n rfl) (dz_n rfl)).1.trans ((fr_80_1 _ (dz_n rfl)).1.trans ((o_2 _ (dz_n rfl)).1.trans w_1))), hL9, g_83_2.2, ((fr_83_2 _ (dz_n rfl) (dz_n rfl) (dz_n rfl)).1.trans (g_80_1.1))⟩

set_option maxHeartbeats 4000000 in
set_option maxRecDepth 100000 in
theorem c_D_cross_ok2 (l : Launch) (Z : dzG) (G : dzW) (ad : dzA) (aX nl nx : Nat) (dy ssf sst cfr grw : Int32) (ns sc rk : Nat) (cnt : Nat → Nat) (col row fl : Nat → Int32) (nfl nst : Nat → Nat) (fx sx : Nat → Nat → Nat) (fd fb sr sd sw sg : Nat → Int32) (v3 v4 : Int32) (ha : ad (1, 0) = aX) (hco : G (1, 0) = some (eO 9 [.ref (ad (2, 0)), .ref (ad (9, 0)), .int (nI nl), .int (nI nx), .ref (ad (19, 0)), .ref (ad (26, 0)), .int dy, .int ssf, .int sst, .int cfr, .int grw])) (hls : dz_L Z G ad (9, 0) (10, 0) ns (fun i => ad (11, i))) (hsc : sc < ns) (hns : ns ≤ 5) (hso : G (11, sc) = some (eO 7 [.int (col sc), .int (row sc), .int (fl sc), .ref (ad (12, sc)), .int (nI (cnt sc)), .ref (ad (13, sc)), .ref (ad (15, sc))])) (hst0 : dz_L Z G ad (15, sc) (16, sc) (nst sc) (fun j => ad (18, sx sc j))) (hstt : ∀ j, j < nst sc → G (18, sx sc j) = some (eO 8 [.int (sr (sx sc j)), .int (sd (sx sc j)), .int (sw (sx sc j)), .int (sg (sx sc j))])) (hrk : rk < cnt sc) (hcn : cnt sc ≤ 441) (hg : (((1 : Int32) ≤ v3 ∧ v3 ≤ 50) ∧ ((1 : Int32) ≤ v4 ∧ v4 ≤ 1000))) (hnx : nx ≤ 19) (hnn : nst sc ≤ 59) (hsx : ∀ j, j < nst sc → sx sc j < nx) : dzWr l yX8_cross wsX8_cross 8 205 2 104 Z G ad [.ref aX, .int (nI sc), .int (nI rk), .int v3, .int v4] rv_v (fun (x : Unit) G1 ad1 => (∀ r9 : dzR, r9 ≠ (1, 0) → r9 ≠ (18, nx) → r9 ≠ (15, sc) → r9 ≠ (16, sc) → r9 ≠ (90, 0) → G1 r9 = G r9 ∧ ad1 r9 = ad r9) ∧ ad1 (1, 0) = aX ∧ G1 (1, 0) = some (eO 9 [.ref (ad (2, 0)), .ref (ad (9, 0)), .int (nI nl), .int (nI (nx + 1)), .ref (ad (19, 0)), .ref (ad (26, 0)), .int dy, .int ssf, .int sst, .int cfr, .int grw]) ∧ dz_L Z G1 ad1 (15, sc) (16, sc) (nst sc + 1) (fun j => ad1 (18, (fun j => if j = nst sc then nx else sx sc j) j)) ∧ ad1 (15, sc) = ad (15, sc) ∧ G1 (18, nx) = some (eO 8 [.int (nI rk), .int dy, .int v3, .int v4])) := by
  refine Met.ofW (cc := cX8_cross) (maxL := 6) (ret := none) (by decide) rfl ?_
  intro p e s m args below meth c s₁ B hml hv
  obtain ⟨rfl, hG, hE⟩ := hv
  have hx := B.exec
  have hb := B.bytes
  have hrt := B.returns
  have hts := atoms_spec (ws := wsX8_cross) B.pre
  have hown : s.vm.findClass RX8 = some m.cls := findClass_of_methodNamed B.named
  have hlocks := B.notSynchronized
  have hS : va_S (dz_A Z) s.heap s.heap [] := va_S.rf
  have hl := lv_entry ([.ref aX, .int (nI sc), .int (nI rk), .int v3, .int v4]) (n := 6) (Nat.le_of_ble_eq_true rfl)
  rw [lg_entry_eq]
  generalize (lg_sl ([.ref aX, .int (nI sc), .int (nI rk), .int v3, .int v4]) ++ List.replicate (6 - (lg_sl ([.ref aX, .int (nI sc), .int (nI rk), .int v3, .int v4])).length) Slot.unset).toArray = ls at hl ⊢
  have hl : lv_has ls 6 [(0, .ref aX), (1, .int (nI sc)), (2, .int (nI rk)), (3, .int v3), (4, .int v4)] := hl
  refine lv_aload_n hx hb dX8_cross_0 rfl (lv_at hl 0 rfl) ?_
  refine lv_iload_n hx hb dX8_cross_1 rfl (lv_at hl 1 rfl) ?_
  refine dz_kRr (va_runV (As := [_]) ⟨hx, hb, hml, hown, hts⟩ (c_sourceIn l Z _ _ _ _ _ _ _ _ _ _ _ _ _ _ _ _ ha hco hls hsc hns hso) (cwV 1 hts gX8_cross_X8_sourceAt rfl rfl rfl (by decide +kernel) ⟨Nat.le_of_ble_eq_true rfl, Nat.le_of_ble_eq_true rfl⟩) (dz_P.preV hE hS hG hco rfl ha) rfl rfl hl.1 rfl (lv_room (Nat.le_of_ble_eq_true rfl)) dX8_cross_2 ⟨Nat.le_of_ble_eq_true rfl, Nat.le_of_ble_eq_true rfl⟩) ?_
  refine lv_astore (lv' := [(5, .ref (ad (11, sc))), (0, .ref aX), (1, .int (nI sc)), (2, .int (nI rk)), (3, .int v3), (4, .int v4)]) hx hb dX8_cross_5 hl (by decide) rfl (fun ls hl => ?_)
  refine lv_aload hx hb dX8_cross_7 (lv_at hl 0 rfl) ?_
  refine lv_ifnull hx hb dX8_cross_9 ?_
  refine lv_aload hx hb dX8_cross_12 (lv_at hl 0 rfl) ?_
  refine lv_iload_n hx hb dX8_cross_14 rfl (lv_at hl 3 rfl) ?_
  refine dz_kRi (va_runV (As := [_]) ⟨hx, hb, hml, hown, hts⟩ (c_X6_hasImage l Z _ _ _ _ _ _ _ _ _ _ _ rfl hso) (cwV 1 hts gX8_cross_X6_hasImage rfl rfl rfl (by decide +kernel) ⟨Nat.le_of_ble_eq_true rfl, Nat.le_of_ble_eq_true rfl⟩) (dz_P.preV hE hS hG hso rfl rfl) rfl rfl hl.1 rfl (lv_room (Nat.le_of_ble_eq_true rfl)) dX8_cross_15 ⟨Nat.le_of_ble_eq_true rfl, Nat.le_of_ble_eq_true rfl⟩) ?_
  refine lv_topi (fun v_1 ev_1 => ?_)
  obtain rfl : v_1 = 1 := ev_1.trans (dz_b1 ⟨nI_pos' (by omega), nI_lt hrk (by omega)⟩)
  refine lv_if_ne (tgt := 31) hx hb dX8_cross_18 (by decide) (fun c_18 => ?_) (fun c_18 => absurd c_18 (by decide))
  refine lv_iload_n hx hb dX8_cross_31 rfl (lv_at hl 4 rfl) ?_
  refine lv_iconst (v := 1) hx hb dX8_cross_32 (by decide) ?_
  refine lv_bipush (v := 50) hx hb dX8_cross_33 (by decide) ?_
  refine dz_kRi (va_runS (As := [_, _, _]) ⟨hx, hb, hml, hown, hts⟩ (c_X8_isWithin l Z _ _ _ _ _ ) (va_cwS 3 hts gX8_cross_X8_isWithin rfl rfl rfl (by decide +kernel) ⟨Nat.le_of_ble_eq_true rfl, Nat.le_of_ble_eq_true rfl⟩) (dz_P.pre hE hS hG) rfl rfl hl.1 rfl (lv_room (Nat.le_of_ble_eq_true rfl)) dX8_cross_35 ⟨Nat.le_of_ble_eq_true rfl, Nat.le_of_ble_eq_true rfl⟩) ?_
  refine lv_topi (fun v_2 ev_2 => ?_)
  obtain rfl : v_2 = 1 := ev_2.trans (dz_b1 hg.1)
  refine lv_if_eq (tgt := 53) hx hb dX8_cross_38 (by decide) (fun c_38 => absurd c_38 (by decide)) (fun c_38 => ?_)
  refine lv_iload hx hb dX8_cross_41 (lv_at hl 5 rfl) ?_
  refine lv_iconst (v := 1) hx hb dX8_cross_43 (by decide) ?_
  refine lv_sipush (v := 1000) hx hb dX8_cross_44 (by decide) ?_
  refine dz_kRi (va_runS (As := [_, _, _]) ⟨hx, hb, hml, hown, hts⟩ (c_X8_isWithin l Z _ _ _ _ _ ) (va_cwS 3 hts gX8_cross_X8_isWithin rfl rfl rfl (by decide +kernel) ⟨Nat.le_of_ble_eq_true rfl, Nat.le_of_ble_eq_true rfl⟩) (dz_P.pre hE hS hG) rfl rfl hl.1 rfl (lv_room (Nat.le_of_ble_eq_true rfl)) dX8_cross_47 ⟨Nat.le_of_ble_eq_true rfl, Nat.le_of_ble_eq_true rfl⟩) ?_
  refine lv_topi (fun v_3 ev_3 => ?_)
  obtain rfl : v_3 = 1 := ev_3.trans (dz_b1 hg.2)
  refine lv_if_ne (tgt := 63) hx hb dX8_cross_50 (by decide) (fun c_50 => ?_) (fun c_50 => absurd c_50 (by decide))
  refine lv_aload_n hx hb dX8_cross_63 rfl (lv_at hl 1 rfl) ?_
  refine dz_get hx hb hts (fun _ h => List.mem_cons_of_mem _ (List.mem_append_left _ (List.mem_append_left _ (List.mem_append_left _ (List.mem_append_left _ (List.mem_append_left _ (List.mem_append_left _ (List.mem_append_right _ h)))))))) hown hE hG ha hco rfl 3 (by decide) (hts _ (List.mem_of_getElem? (i := 7) rfl)) (fun _ h9 => h9) rfl dX8_cross_64 ?_
  refine lv_bipush (v := 20) hx hb dX8_cross_67 (by decide) ?_
  refine lv_icmp_lt (tgt := 82) hx hb dX8_cross_69 (by decide) (fun c_69 => ?_) (fun c_69 => absurd (nI_lt (b := 20) (by omega) (by decide)) c_69)
  refine lv_aload_n hx hb dX8_cross_82 rfl (lv_at hl 1 rfl) ?_
  refine lv_dup hx hb dX8_cross_83 rfl ?_
  refine dz_get hx hb hts (fun _ h => List.mem_cons_of_mem _ (List.mem_append_left _ (List.mem_append_left _ (List.mem_append_left _ (List.mem_append_left _ (List.mem_append_left _ (List.mem_append_left _ (List.mem_append_right _ h)))))))) hown hE hG ha hco rfl 3 (by decide) (hts _ (List.mem_of_getElem? (i := 7) rfl)) (fun _ h9 => h9) rfl dX8_cross_84 ?_
  refine lv_iconst (v := 1) hx hb dX8_cross_87 (by decide) ?_
  refine lv_iadd hx hb dX8_cross_88 ?_
  refine lv_topi (fun v_4 ev_4 => ?_)
  obtain rfl : v_4 = nI (nx + 1) := ev_4.trans (nI_1 nx)
  refine dz_put hx hb hts (fun _ h => List.mem_cons_of_mem _ (List.mem_append_left _ (List.mem_append_left _ (List.mem_append_left _ (List.mem_append_left _ (List.mem_append_left _ (List.mem_append_left _ (List.mem_append_right _ h)))))))) tyX8 tyX8_ok nmX8 hown hE hG ha hS hco rfl 3 (by decide) (hts _ (List.mem_of_getElem? (i := 7) rfl)) (fun _ h9 => h9) rfl (ty := .int) (by decide +kernel) rfl rfl (fs' := [.ref (ad (2, 0)), .ref (ad (9, 0)), .int (nI nl), .int (nI (nx + 1)), .ref (ad (19, 0)), .ref (ad (26, 0)), .int dy, .int ssf, .int sst, .int cfr, .int grw]) rfl (Nat.le_of_ble_eq_true rfl) dX8_cross_89 (fun H locs hG hS => ?_)
  obtain ⟨G_1, hG, w_1, o_1⟩ := dz_nm hG
  refine lv_aload hx hb dX8_cross_92 (lv_at hl 0 rfl) ?_
  refine dz_new (ci := 8) hx hb hts (fun _ h => List.mem_cons_of_mem _ (List.mem_append_left _ (List.mem_append_left _ (List.mem_append_left _ (List.mem_append_left _ (List.mem_append_left _ (List.mem_append_right _ h))))))) tyX7 tyX7_ok hown (hts _ (List.mem_of_getElem? (i := 8) rfl)) (hts _ (List.mem_of_getElem? (i := 9) rfl)) (hts _ (List.mem_of_getElem? (i := 10) rfl)) hE hG hS (18, nx) rfl (fs := [.int 0, .int 0, .int 0, .int 0]) (fun j hj => by rcases (show j = 0 ∨ j = 1 ∨ j = 2 ∨ j = 3 by omega) with rfl | rfl | rfl | rfl <;> rfl) (Nat.le_of_ble_eq_true rfl) (Nat.le_of_ble_eq_true rfl) dX8_cross_94 (fun q_5 H hG hS => ?_)
  refine W.widen (k := 1) (n := 4) (by omega) (by omega) ?_
  obtain ⟨G_2, ad_2, hG, w_2, a_2, o_2⟩ := dz_nma hG
  refine lv_dup hx hb dX8_cross_97 rfl ?_
  refine lv_iload_n hx hb dX8_cross_98 rfl (lv_at hl 3 rfl) ?_
  refine lv_aload_n hx hb dX8_cross_99 rfl (lv_at hl 1 rfl) ?_
  refine dz_get hx hb hts (fun _ h => List.mem_cons_of_mem _ (List.mem_append_left _ (List.mem_append_left _ (List.mem_append_left _ (List.mem_append_left _ (List.mem_append_left _ (List.mem_append_left _ (List.mem_append_right _ h)))))))) hown hE hG ((o_2 _ (dz_n rfl)).2.trans ha) ((o_2 _ (dz_n rfl)).1.trans w_1) rfl 6 (by decide) (hts _ (List.mem_of_getElem? (i := 11) rfl)) (fun _ h9 => h9) rfl dX8_cross_100 ?_
  refine lv_iload_n hx hb dX8_cross_103 rfl (lv_at hl 4 rfl) ?_
  refine lv_iload hx hb dX8_cross_104 (lv_at hl 5 rfl) ?_
  refine dz_kMv (va_runI (As := [_, _, _, _]) ⟨hx, hb, hml, hown, hts⟩ (c_X7_init l Z _ _ _ _ _ _ _ _ a_2 w_2) (cwI 4 hts gX8_cross_X7_init rfl rfl rfl (hts _ (List.mem_of_getElem? (i := 10) rfl)) (hts _ (List.mem_of_getElem? (i := 51) rfl)) (hts _ (List.mem_of_getElem? (i := 52) rfl)) rfl (by decide +kernel) ⟨Nat.le_of_ble_eq_true rfl, Nat.le_of_ble_eq_true rfl⟩) (dz_P.pre hE hS hG) rfl rfl hl.1 rfl (lv_room (Nat.le_of_ble_eq_true rfl)) dX8_cross_106 ⟨Nat.le_of_ble_eq_true rfl, Nat.le_of_ble_eq_true rfl⟩) hS (fun G_106_1 ad_106_1 H locs hp_106_1 hG hS => ?_)
  obtain ⟨fr_106_1, rfl, g_106_1⟩ := hp_106_1
  have hq9 : ∀ j, j < nst sc → ((18, sx sc j) : Nat × Nat) ≠ (18, nx) := fun j hj => dz_n2 (Nat.ne_of_lt (hsx j hj))
  have hel9 : ∀ j, j < nst sc → G_106_1 (18, sx sc j) = some (eO 8 [.int (sr (sx sc j)), .int (sd (sx sc j)), .int (sw (sx sc j)), .int (sg (sx sc j))]) ∧ ad_2 (18, sx sc j) = ad (18, sx sc j) := fun j hj => ⟨(dz_tr (fr_106_1 (18, sx sc j) (hq9 j hj)) (dz_tr (o_2 (18, sx sc j) (hq9 j hj)) (o_1 (18, sx sc j) (dz_n rfl)))).1.trans (hstt j hj), (dz_tr (fr_106_1 (18, sx sc j) (hq9 j hj)) (dz_tr (o_2 (18, sx sc j) (hq9 j hj)) (o_1 (18, sx sc j) (dz_n rfl)))).2⟩
  have hso9 : G_106_1 (11, sc) = some (eO 7 [.int (col sc), .int (row sc), .int (fl sc), .ref (ad_2 (12, sc)), .int (nI (cnt sc)), .ref (ad (13, sc)), .ref (ad (15, sc))]) := by
    rw [show ad_2 (12, sc) = ad (12, sc) from (dz_tr (fr_106_1 (12, sc) (dz_n rfl)) (dz_tr (o_2 (12, sc) (dz_n rfl)) (o_1 (12, sc) (dz_n rfl)))).2]
    exact ((fr_106_1 _ (dz_n rfl)).1.trans ((o_2 _ (dz_n rfl)).1.trans ((o_1 _ (dz_n rfl)).1.trans hso)))
  refine dz_kMv (va_runV (As := [_]) ⟨hx, hb, hml, hown, hts⟩ (c_X6_addStar l Z _ _ _ _ _ _ _ _ _ _ _ _ _ _ _ _ ((fr_106_1 _ (dz_n rfl)).2.trans ((o_2 _ (dz_n rfl)).2.trans ((o_1 _ (dz_n rfl)).2.trans rfl))) hso9 ((fr_106_1 _ (dz_n rfl)).2.trans ((o_2 _ (dz_n rfl)).2.trans ((o_1 _ (dz_n rfl)).2.trans rfl))) (dz_L.frame (dz_L.frame (dz_L.frame hst0 (o_1 _ (dz_n rfl)).1 (o_1 _ (dz_n rfl))) (o_2 _ (dz_n rfl)).1 (o_2 _ (dz_n rfl))) (fr_106_1 _ (dz_n rfl)).1 (fr_106_1 _ (dz_n rfl))) (g_106_1.2) (g_106_1.1) rfl (by omega) (fun j hj => ⟨(18, sx sc j), _, (hel9 j hj).2, (hel9 j hj).1, dz_n rfl, dz_n rfl⟩)) (cwV 1 hts gX8_cross_X6_addStar rfl rfl rfl (by decide +kernel) ⟨Nat.le_of_ble_eq_true rfl, Nat.le_of_ble_eq_true rfl⟩) (dz_P.preV hE hS hG ((fr_106_1 _ (dz_n rfl)).1.trans ((o_2 _ (dz_n rfl)).1.trans ((o_1 _ (dz_n rfl)).1.trans hso))) rfl ((fr_106_1 _ (dz_n rfl)).2.trans ((o_2 _ (dz_n rfl)).2.trans ((o_1 _ (dz_n rfl)).2.trans rfl)))) rfl rfl hl.1 rfl (lv_room (Nat.le_of_ble_eq_true rfl)) dX8_cross_109 ⟨Nat.le_of_ble_eq_true rfl, Nat.le_of_ble_eq_true rfl⟩) hS (fun G_109_2 ad_109_2 H locs hp_109_2 hG hS => ?_)
  refine W.widen (k := 2) (n := 104) (by omega) (by omega) ?_
  obtain ⟨fr_109_2, g_109_2⟩ := hp_109_2
  have hL9 : dz_L Z G_109_2 ad_109_2 (15, sc) (16, sc) (nst sc + 1) (fun j => ad_109_2 (18, (fun j => if j = nst sc then nx else sx sc j) j)) := g_109_2.1.el (fun j hj9 => by
    by_cases c9 : j = nst sc
    · simp only [if_pos c9]
      exact ((fr_109_2 _ (dz_n rfl) (dz_n rfl) (dz_n rfl)).2.trans (g_106_1.2))
    · have hj : j < nst sc := by omega
      simp only [if_neg c9]
      exact (dz_tr (fr_109_2 (18, sx sc j) (dz_n rfl) (dz_n rfl) (dz_n rfl)) (dz_tr (fr_106_1 (18, sx sc j) (hq9 j hj)) (dz_tr (o_2 (18, sx sc j) (hq9 j hj)) (o_1 (18, sx sc j) (dz_n rfl))))).2)
  refine W.widen (k := 2) (n := 104) (by first | omega | decide) (by first | omega | decide) ?_
  refine W.vret hx hb hrt (fun t ht hW => dz_endM (f := rv_v) () hE hS hG ?_ ht hW) (fun q h => hS.2.2 q h) dX8_cross_112
  refine ⟨fun r9 n_0 n_1 n_2 n_3 n_4 => (dz_tr (fr_109_2 r9 n_2 n_3 n_4) (dz_tr (fr_106_1 r9 n_1) (dz_tr (o_2 r9 n_1) (o_1 r9 n_0)))), ?_⟩
  exact ⟨((fr_109_2 _ (dz_n rfl) (dz_n rfl) (dz_n rfl)).2.trans ((fr_106_1 _ (dz_n rfl)).2.trans ((o_2 _ (dz_n rfl)).2.trans ha))), ((fr_109_2 _ (dz_n rfl) (dz_n rfl) (dz_n rfl)).1.trans ((fr_106_1 _ (dz_n rfl)).1.trans ((o_2 _ (dz_n rfl)).1.trans w_1))), hL9, g_109_2.2, ((fr_109_2 _ (dz_n rfl) (dz_n rfl) (dz_n rfl)).1.trans (g_106_1.1))⟩
