set_option maxHeartbeats 4000000 in
set_option maxRecDepth 100000 in
theorem c_X9_look (l : Launch) (Z : dzG) (G : dzW) (ad : dzA) (aM nm ns nl nx nf my : Nat) (th dy td ssf sst cfr grw bkk iop : Int32) (f8 f9 f10 f12 f13 f37 : Nat → Int32) (sc : Nat) (ha : ad (39, 0) = aM) (ho : G (39, 0) = some (eO 10 [.int th, .int dy, .int (nI nm), .ref (ad (40, 3)), .ref (ad (40, 4)), .ref (ad (40, 5)), .ref (ad (40, 6)), .int td, .ref (ad (40, 8)), .ref (ad (40, 9)), .ref (ad (40, 10)), .int (nI ns), .ref (ad (40, 12)), .ref (ad (40, 13)), .ref (ad (40, 14)), .int (nI nl), .ref (ad (40, 16)), .ref (ad (40, 17)), .ref (ad (40, 18)), .int (nI nx), .ref (ad (40, 20)), .ref (ad (40, 21)), .ref (ad (40, 22)), .ref (ad (40, 23)), .ref (ad (40, 24)), .int ssf, .int sst, .int cfr, .int grw, .int (nI nf), .ref (ad (40, 30)), .ref (ad (40, 31)), .int bkk, .ref (ad (40, 33)), .ref (ad (40, 34)), .ref (ad (40, 35)), .int iop, .ref (ad (40, 37)), .int (nI my)])) (h8 : G (40, 8) = some (eI Z 484 f8)) (h9 : G (40, 9) = some (eI Z 484 f9)) (h10 : G (40, 10) = some (eI Z 484 f10)) (h12 : G (40, 12) = some (eI Z 5 f12)) (h13 : G (40, 13) = some (eI Z 5 f13)) (h37 : G (40, 37) = some (eI Z 441 f37)) (hsc : sc < 5) : dzWr l yX9_look wsX9_look 1 22 0 0 Z G ad [.ref aM, .int (nI sc)] rv_v (fun (x : Unit) G1 ad1 => (∀ r9 : dzR, r9 ≠ (39, 0) → r9 ≠ (40, 37) → G1 r9 = G r9 ∧ ad1 r9 = ad r9) ∧ ad = ad1 ∧ G1 (39, 0) = some (eO 10 [.int th, .int dy, .int (nI nm), .ref (ad (40, 3)), .ref (ad (40, 4)), .ref (ad (40, 5)), .ref (ad (40, 6)), .int td, .ref (ad (40, 8)), .ref (ad (40, 9)), .ref (ad (40, 10)), .int (nI ns), .ref (ad (40, 12)), .ref (ad (40, 13)), .ref (ad (40, 14)), .int (nI nl), .ref (ad (40, 16)), .ref (ad (40, 17)), .ref (ad (40, 18)), .int (nI nx), .ref (ad (40, 20)), .ref (ad (40, 21)), .ref (ad (40, 22)), .ref (ad (40, 23)), .ref (ad (40, 24)), .int ssf, .int sst, .int cfr, .int grw, .int (nI nf), .ref (ad (40, 30)), .ref (ad (40, 31)), .int bkk, .ref (ad (40, 33)), .ref (ad (40, 34)), .ref (ad (40, 35)), .int iop, .ref (ad (40, 37)), .int (nI (m_la f10 (fun j => dz_b (m_pc j - f8 j = f12 sc ∧ m_pr j - f9 j = f13 sc)) (0, f37) 21).1)]) ∧ G1 (40, 37) = some (eI Z 441 (m_la f10 (fun j => dz_b (m_pc j - f8 j = f12 sc ∧ m_pr j - f9 j = f13 sc)) (0, f37) 21).2)) := by
  refine Met.ofW (cc := cX9_look) (maxL := 6) (ret := none) (by decide) rfl ?_
  intro p e s m args below meth c s₁ B hml hv
  obtain ⟨rfl, hG, hE⟩ := hv
  have hx := B.exec
  have hb := B.bytes
  have hrt := B.returns
  have hts := atoms_spec (ws := wsX9_look) B.pre
  have hown : s.vm.findClass RX9 = some m.cls := findClass_of_methodNamed B.named
  have hlocks := B.notSynchronized
  have hS : va_S (dz_A Z) s.heap s.heap [] := va_S.rf
  have hl := lv_entry ([.ref aM, .int (nI sc)]) (n := 6) (Nat.le_of_ble_eq_true rfl)
  rw [lg_entry_eq]
  generalize (lg_sl ([.ref aM, .int (nI sc)]) ++ List.replicate (6 - (lg_sl ([.ref aM, .int (nI sc)])).length) Slot.unset).toArray = ls at hl ⊢
  have hl : lv_has ls 6 [(0, .ref aM), (1, .int (nI sc))] := hl
  refine lv_aload_n hx hb dX9_look_0 rfl (lv_at hl 0 rfl) ?_
  refine lv_iconst (v := 0) hx hb dX9_look_1 (by decide) ?_
  refine dz_put hx hb hts (fun _ h => List.mem_cons_of_mem _ (List.mem_append_right _ h)) tyX9 tyX9_ok nmX9 hown hE hG ha hS ho rfl 38 (by decide) (hts _ (List.mem_of_getElem? (i := 1) rfl)) (fun _ h9 => h9) rfl (ty := .int) (by decide +kernel) rfl rfl (fs' := [.int th, .int dy, .int (nI nm), .ref (ad (40, 3)), .ref (ad (40, 4)), .ref (ad (40, 5)), .ref (ad (40, 6)), .int td, .ref (ad (40, 8)), .ref (ad (40, 9)), .ref (ad (40, 10)), .int (nI ns), .ref (ad (40, 12)), .ref (ad (40, 13)), .ref (ad (40, 14)), .int (nI nl), .ref (ad (40, 16)), .ref (ad (40, 17)), .ref (ad (40, 18)), .int (nI nx), .ref (ad (40, 20)), .ref (ad (40, 21)), .ref (ad (40, 22)), .ref (ad (40, 23)), .ref (ad (40, 24)), .int ssf, .int sst, .int cfr, .int grw, .int (nI nf), .ref (ad (40, 30)), .ref (ad (40, 31)), .int bkk, .ref (ad (40, 33)), .ref (ad (40, 34)), .ref (ad (40, 35)), .int iop, .ref (ad (40, 37)), .int 0]) rfl (Nat.le_of_ble_eq_true rfl) dX9_look_2 (fun H locs hG hS => ?_)
  obtain ⟨G_1, hG, w_1, o_1⟩ := dz_nm hG
  refine lv_bipush (v := (-10)) hx hb dX9_look_5 (by decide) ?_
  refine lv_istore_n (lv' := [(2, .int (-10)), (0, .ref aM), (1, .int (nI sc))]) hx hb dX9_look_7 rfl hl (by decide) rfl (fun ls hl => ?_)
  refine dz_lw (α := Nat × dzW × Array Slot) (fun a9 => (fun (a : Nat) (G_L8 : dzW) (ls : Array Slot) => 21 - a) a9.1 a9.2.1 a9.2.2) (fun a9 H locs => (fun (a : Nat) (G_L8 : dzW) (ls : Array Slot) => (a ≤ 21) ∧ (∀ r9 : dzR, r9 ≠ (39, 0) → r9 ≠ (40, 37) → G_L8 r9 = G_1 r9 ∧ ad r9 = ad r9) ∧ (G_L8 (39, 0) = some (eO 10 [.int th, .int dy, .int (nI nm), .ref (ad (40, 3)), .ref (ad (40, 4)), .ref (ad (40, 5)), .ref (ad (40, 6)), .int td, .ref (ad (40, 8)), .ref (ad (40, 9)), .ref (ad (40, 10)), .int (nI ns), .ref (ad (40, 12)), .ref (ad (40, 13)), .ref (ad (40, 14)), .int (nI nl), .ref (ad (40, 16)), .ref (ad (40, 17)), .ref (ad (40, 18)), .int (nI nx), .ref (ad (40, 20)), .ref (ad (40, 21)), .ref (ad (40, 22)), .ref (ad (40, 23)), .ref (ad (40, 24)), .int ssf, .int sst, .int cfr, .int grw, .int (nI nf), .ref (ad (40, 30)), .ref (ad (40, 31)), .int bkk, .ref (ad (40, 33)), .ref (ad (40, 34)), .ref (ad (40, 35)), .int iop, .ref (ad (40, 37)), .int (nI (m_la f10 (fun j => dz_b (m_pc j - f8 j = f12 sc ∧ m_pr j - f9 j = f13 sc)) (0, f37) a).1)])) ∧ (G_L8 (40, 37) = some (eI Z 441 ((m_la f10 (fun j => dz_b (m_pc j - f8 j = f12 sc ∧ m_pr j - f9 j = f13 sc)) (0, f37) a).2))) ∧ dz_w Z G_L8 ad H ∧ va_S (dz_A Z) s.heap H locs ∧ lv_has ls 6 [(2, .int (nI a - 10)), (0, .ref aM), (1, .int (nI sc))]) a9.1 a9.2.1 a9.2.2) (fun a9 => F0 m 8 a9.2.2 []) (fun a9 H locs hI ih_8 => ?_) (0, G_1, ls) ⟨(Nat.zero_le _), (fun r9 _ _ => ⟨rfl, rfl⟩), w_1, ((o_1 _ (dz_n rfl)).1.trans h37), hG, hS, lv_sub hl [0, 1, 2] rfl⟩
  obtain ⟨a, G_L8, ls⟩ := a9
  obtain ⟨hal, fr_L8, gs1, gp1, hG, hS, hl⟩ := hI
  have hal : a ≤ 21 := hal
  have fr_L8 : ∀ r9 : dzR, r9 ≠ (39, 0) → r9 ≠ (40, 37) → G_L8 r9 = G_1 r9 ∧ ad r9 = ad r9 := fr_L8
  have gs1 : G_L8 (39, 0) = some (eO 10 [.int th, .int dy, .int (nI nm), .ref (ad (40, 3)), .ref (ad (40, 4)), .ref (ad (40, 5)), .ref (ad (40, 6)), .int td, .ref (ad (40, 8)), .ref (ad (40, 9)), .ref (ad (40, 10)), .int (nI ns), .ref (ad (40, 12)), .ref (ad (40, 13)), .ref (ad (40, 14)), .int (nI nl), .ref (ad (40, 16)), .ref (ad (40, 17)), .ref (ad (40, 18)), .int (nI nx), .ref (ad (40, 20)), .ref (ad (40, 21)), .ref (ad (40, 22)), .ref (ad (40, 23)), .ref (ad (40, 24)), .int ssf, .int sst, .int cfr, .int grw, .int (nI nf), .ref (ad (40, 30)), .ref (ad (40, 31)), .int bkk, .ref (ad (40, 33)), .ref (ad (40, 34)), .ref (ad (40, 35)), .int iop, .ref (ad (40, 37)), .int (nI (m_la f10 (fun j => dz_b (m_pc j - f8 j = f12 sc ∧ m_pr j - f9 j = f13 sc)) (0, f37) a).1)]) := gs1
  have gp1 : G_L8 (40, 37) = some (eI Z 441 ((m_la f10 (fun j => dz_b (m_pc j - f8 j = f12 sc ∧ m_pr j - f9 j = f13 sc)) (0, f37) a).2)) := gp1
  have hG : dz_w Z G_L8 ad H := hG
  have hS : va_S (dz_A Z) s.heap H locs := hS
  have hl : lv_has ls 6 [(2, .int (nI a - 10)), (0, .ref aM), (1, .int (nI sc))] := hl
  refine lv_iload_n hx hb dX9_look_8 rfl (lv_at hl 0 rfl) ?_
  refine lv_bipush (v := 10) hx hb dX9_look_9 (by decide) ?_
  refine lv_icmp_gt (tgt := 142) hx hb dX9_look_11 (by decide) (fun c_11 => ?_) (fun c_11 => ?_)
  · have ha2 : a = 21 := (fl_gt a (by omega)).mp c_11
    refine W.widen (k := 0) (n := 0) (by first | omega | decide) (by first | omega | decide) ?_
    refine W.vret hx hb hrt (fun t ht hW => dz_endM (f := rv_v) () hE hS hG ?_ ht hW) (fun q h => hS.2.2 q h) dX9_look_142
    refine ⟨fun r9 n_0 n_1 => (dz_tr (fr_L8 r9 n_0 n_1) (o_1 r9 n_0)), rfl, ?_⟩
    rw [ha2] at gs1 gp1
    exact ⟨gs1, gp1⟩
  · have hal2 : a < 21 := by
      rcases Nat.lt_or_ge a 21 with q | q
      · exact q
      · exact absurd ((fl_gt a (by omega)).mpr (by omega)) c_11
    refine lv_bipush (v := (-10)) hx hb dX9_look_14 (by decide) ?_
    refine lv_istore_n (lv' := [(3, .int (-10)), (2, .int (nI a - 10)), (0, .ref aM), (1, .int (nI sc))]) hx hb dX9_look_16 rfl hl (by decide) rfl (fun ls hl => ?_)
    refine dz_lw (α := Nat × dzW × Array Slot) (fun a9 => (fun (b : Nat) (G_L17 : dzW) (ls : Array Slot) => 21 - b) a9.1 a9.2.1 a9.2.2) (fun a9 H locs => (fun (b : Nat) (G_L17 : dzW) (ls : Array Slot) => (b ≤ 21) ∧ (∀ r9 : dzR, r9 ≠ (39, 0) → r9 ≠ (40, 37) → G_L17 r9 = G_L8 r9 ∧ ad r9 = ad r9) ∧ (G_L17 (39, 0) = some (eO 10 [.int th, .int dy, .int (nI nm), .ref (ad (40, 3)), .ref (ad (40, 4)), .ref (ad (40, 5)), .ref (ad (40, 6)), .int td, .ref (ad (40, 8)), .ref (ad (40, 9)), .ref (ad (40, 10)), .int (nI ns), .ref (ad (40, 12)), .ref (ad (40, 13)), .ref (ad (40, 14)), .int (nI nl), .ref (ad (40, 16)), .ref (ad (40, 17)), .ref (ad (40, 18)), .int (nI nx), .ref (ad (40, 20)), .ref (ad (40, 21)), .ref (ad (40, 22)), .ref (ad (40, 23)), .ref (ad (40, 24)), .int ssf, .int sst, .int cfr, .int grw, .int (nI nf), .ref (ad (40, 30)), .ref (ad (40, 31)), .int bkk, .ref (ad (40, 33)), .ref (ad (40, 34)), .ref (ad (40, 35)), .int iop, .ref (ad (40, 37)), .int (nI (m_lr f10 (fun j => dz_b (m_pc j - f8 j = f12 sc ∧ m_pr j - f9 j = f13 sc)) a (m_la f10 (fun j => dz_b (m_pc j - f8 j = f12 sc ∧ m_pr j - f9 j = f13 sc)) (0, f37) a) b).1)])) ∧ (G_L17 (40, 37) = some (eI Z 441 ((m_lr f10 (fun j => dz_b (m_pc j - f8 j = f12 sc ∧ m_pr j - f9 j = f13 sc)) a (m_la f10 (fun j => dz_b (m_pc j - f8 j = f12 sc ∧ m_pr j - f9 j = f13 sc)) (0, f37) a) b).2))) ∧ dz_w Z G_L17 ad H ∧ va_S (dz_A Z) s.heap H locs ∧ lv_has ls 6 [(3, .int (nI b - 10)), (2, .int (nI a - 10)), (0, .ref aM), (1, .int (nI sc))]) a9.1 a9.2.1 a9.2.2) (fun a9 => F0 m 17 a9.2.2 []) (fun a9 H locs hI ih_17 => ?_) (0, G_L8, ls) ⟨(Nat.zero_le _), (fun r9 _ _ => ⟨rfl, rfl⟩), gs1, gp1, hG, hS, lv_sub hl [0, 1, 2, 3] rfl⟩
    obtain ⟨b, G_L17, ls⟩ := a9
    obtain ⟨hbl, fr_L17, gs2, gp2, hG, hS, hl⟩ := hI
    have hbl : b ≤ 21 := hbl
    have fr_L17 : ∀ r9 : dzR, r9 ≠ (39, 0) → r9 ≠ (40, 37) → G_L17 r9 = G_L8 r9 ∧ ad r9 = ad r9 := fr_L17
    have gs2 : G_L17 (39, 0) = some (eO 10 [.int th, .int dy, .int (nI nm), .ref (ad (40, 3)), .ref (ad (40, 4)), .ref (ad (40, 5)), .ref (ad (40, 6)), .int td, .ref (ad (40, 8)), .ref (ad (40, 9)), .ref (ad (40, 10)), .int (nI ns), .ref (ad (40, 12)), .ref (ad (40, 13)), .ref (ad (40, 14)), .int (nI nl), .ref (ad (40, 16)), .ref (ad (40, 17)), .ref (ad (40, 18)), .int (nI nx), .ref (ad (40, 20)), .ref (ad (40, 21)), .ref (ad (40, 22)), .ref (ad (40, 23)), .ref (ad (40, 24)), .int ssf, .int sst, .int cfr, .int grw, .int (nI nf), .ref (ad (40, 30)), .ref (ad (40, 31)), .int bkk, .ref (ad (40, 33)), .ref (ad (40, 34)), .ref (ad (40, 35)), .int iop, .ref (ad (40, 37)), .int (nI (m_lr f10 (fun j => dz_b (m_pc j - f8 j = f12 sc ∧ m_pr j - f9 j = f13 sc)) a (m_la f10 (fun j => dz_b (m_pc j - f8 j = f12 sc ∧ m_pr j - f9 j = f13 sc)) (0, f37) a) b).1)]) := gs2
    have gp2 : G_L17 (40, 37) = some (eI Z 441 ((m_lr f10 (fun j => dz_b (m_pc j - f8 j = f12 sc ∧ m_pr j - f9 j = f13 sc)) a (m_la f10 (fun j => dz_b (m_pc j - f8 j = f12 sc ∧ m_pr j - f9 j = f13 sc)) (0, f37) a) b).2)) := gp2
    have hG : dz_w Z G_L17 ad H := hG
    have hS : va_S (dz_A Z) s.heap H locs := hS
    have hl : lv_has ls 6 [(3, .int (nI b - 10)), (2, .int (nI a - 10)), (0, .ref aM), (1, .int (nI sc))] := hl
    refine lv_iload_n hx hb dX9_look_17 rfl (lv_at hl 0 rfl) ?_
    refine lv_bipush (v := 10) hx hb dX9_look_18 (by decide) ?_
    refine lv_icmp_gt (tgt := 136) hx hb dX9_look_20 (by decide) (fun c_20 => ?_) (fun c_20 => ?_)
    · have hb2 : b = 21 := (fl_gt b (by omega)).mp c_20
      obtain ⟨v_1, ev_1⟩ : ∃ y : Int32, y = (nI a - 10) + 1 := ⟨_, rfl⟩
      refine lv_iinc (v := v_1) (lv' := [(2, .int v_1), (3, .int (nI b - 10)), (0, .ref aM), (1, .int (nI sc))]) hx hb dX9_look_136 hl (k := 1) rfl (by rw [ev_1]; rfl) (by decide) rfl (fun ls hl => ?_)
      refine lv_goto (tgt := 8) hx hb dX9_look_139 (by decide) ?_
      obtain rfl : v_1 = nI (a + 1) - 10 := ev_1.trans (fl_sc a (by omega))
      exact ih_8 (a + 1, G_L17, ls) _ _ (by first | (dsimp only; omega) | omega) ⟨(by omega), (fun r9 n_0 n_1 => (dz_tr (fr_L17 r9 n_0 n_1) (fr_L8 r9 n_0 n_1))), (by have z := gs2; rw [hb2] at z; exact z), (by have z := gp2; rw [hb2] at z; exact z), hG, hS, lv_sub hl [0, 2, 3] rfl⟩
    · have hbl2 : b < 21 := by
        rcases Nat.lt_or_ge b 21 with q | q
        · exact q
        · exact absurd ((fl_gt b (by omega)).mpr (by omega)) c_20
      refine lv_iload_n hx hb dX9_look_23 rfl (lv_at hl 0 rfl) ?_
      refine lv_iload_n hx hb dX9_look_24 rfl (lv_at hl 1 rfl) ?_
      refine dz_kRi (va_runS (As := [_, _]) ⟨hx, hb, hml, hown, hts⟩ (c_X9_cell l Z _ _ _ _ ) (va_cwS 2 hts gX9_look_X9_cell rfl rfl rfl (by decide +kernel) ⟨Nat.le_of_ble_eq_true rfl, Nat.le_of_ble_eq_true rfl⟩) (dz_P.pre hE hS hG) rfl rfl hl.1 rfl (lv_room (Nat.le_of_ble_eq_true rfl)) dX9_look_25 ⟨Nat.le_of_ble_eq_true rfl, Nat.le_of_ble_eq_true rfl⟩) ?_
      refine lv_topi (fun v_2 ev_2 => ?_)
      obtain rfl : v_2 = nI (22 * a + b) := ev_2.trans (fl_cl a (by omega) b (by omega))
      refine lv_istore (lv' := [(4, .int (nI (22 * a + b))), (3, .int (nI b - 10)), (2, .int (nI a - 10)), (0, .ref aM), (1, .int (nI sc))]) hx hb dX9_look_28 hl (by decide) rfl (fun ls hl => ?_)
      refine lv_aload_n hx hb dX9_look_30 rfl (lv_at hl 3 rfl) ?_
      refine lv_iload hx hb dX9_look_31 (lv_at hl 0 rfl) ?_
      refine dz_kRi (va_runV (As := [_]) ⟨hx, hb, hml, hown, hts⟩ (c_X9_columnFrom l Z _ _ _ _ _ _ _ _ _ _ _ _ _ _ _ _ _ _ _ _ ha gs2 ((fr_L17 _ (dz_n rfl) (dz_n2 (by decide))).1.trans ((fr_L8 _ (dz_n rfl) (dz_n2 (by decide))).1.trans ((o_1 _ (dz_n rfl)).1.trans h8))) (by omega)) (cwV 1 hts gX9_look_X9_columnFrom rfl rfl rfl (by decide +kernel) ⟨Nat.le_of_ble_eq_true rfl, Nat.le_of_ble_eq_true rfl⟩) (dz_P.preV hE hS hG gs2 rfl ha) rfl rfl hl.1 rfl (lv_room (Nat.le_of_ble_eq_true rfl)) dX9_look_33 ⟨Nat.le_of_ble_eq_true rfl, Nat.le_of_ble_eq_true rfl⟩) ?_
      refine lv_topi (fun v_3 ev_3 => ?_)
      obtain rfl : v_3 = m_pc (22 * a + b) - f8 (22 * a + b) := ev_3
      refine lv_aload_n hx hb dX9_look_36 rfl (lv_at hl 3 rfl) ?_
      refine dz_get hx hb hts (fun _ h => List.mem_cons_of_mem _ (List.mem_append_right _ h)) hown hE hG ha gs2 rfl 12 (by decide) (hts _ (List.mem_of_getElem? (i := 2) rfl)) (fun _ h9 => h9) rfl dX9_look_37 ?_
      refine lv_iload_n hx hb dX9_look_40 rfl (lv_at hl 4 rfl) ?_
      refine dz_iald hx hb hE hG ((fr_L17 _ (dz_n rfl) (dz_n2 (by decide))).2.trans ((fr_L8 _ (dz_n rfl) (dz_n2 (by decide))).2.trans ((o_1 _ (dz_n rfl)).2.trans rfl))) ((fr_L17 _ (dz_n rfl) (dz_n2 (by decide))).1.trans ((fr_L8 _ (dz_n rfl) (dz_n2 (by decide))).1.trans ((o_1 _ (dz_n rfl)).1.trans h12))) (vp_in_nI (by omega) (by decide)) dX9_look_41 ?_
      refine lv_topi (fun v_4 ev_4 => ?_)
      obtain rfl : v_4 = f12 sc := ev_4.trans (by rw [nI_clamp (by omega)])
      refine lv_icmp_ne (tgt := 130) hx hb dX9_look_42 (by decide) (fun c_42 => ?_) (fun c_42 => ?_)
      · have hst : (m_lr f10 (fun j => dz_b (m_pc j - f8 j = f12 sc ∧ m_pr j - f9 j = f13 sc)) a (m_la f10 (fun j => dz_b (m_pc j - f8 j = f12 sc ∧ m_pr j - f9 j = f13 sc)) (0, f37) a) (b + 1)) = (m_lr f10 (fun j => dz_b (m_pc j - f8 j = f12 sc ∧ m_pr j - f9 j = f13 sc)) a (m_la f10 (fun j => dz_b (m_pc j - f8 j = f12 sc ∧ m_pr j - f9 j = f13 sc)) (0, f37) a) b) := if_pos (dz_b0 (fun z => c_42 z.1))
        obtain ⟨v_5, ev_5⟩ : ∃ y : Int32, y = (nI b - 10) + 1 := ⟨_, rfl⟩
        refine lv_iinc (v := v_5) (lv' := [(3, .int v_5), (4, .int (nI (22 * a + b))), (2, .int (nI a - 10)), (0, .ref aM), (1, .int (nI sc))]) hx hb dX9_look_130 hl (k := 1) rfl (by rw [ev_5]; rfl) (by decide) rfl (fun ls hl => ?_)
        refine lv_goto (tgt := 17) hx hb dX9_look_133 (by decide) ?_
        obtain rfl : v_5 = nI (b + 1) - 10 := ev_5.trans (fl_sc b (by omega))
        exact ih_17 (b + 1, G_L17, ls) _ _ (by first | (dsimp only; omega) | omega) ⟨(by omega), (fun r9 n_0 n_1 => (fr_L17 r9 n_0 n_1)), (by rw [hst]; exact gs2), (by rw [hst]; exact gp2), hG, hS, lv_sub hl [0, 2, 3, 4] rfl⟩
      · refine lv_aload_n hx hb dX9_look_45 rfl (lv_at hl 3 rfl) ?_
        refine lv_iload hx hb dX9_look_46 (lv_at hl 0 rfl) ?_
        refine dz_kRi (va_runV (As := [_]) ⟨hx, hb, hml, hown, hts⟩ (c_X9_rowFrom l Z _ _ _ _ _ _ _ _ _ _ _ _ _ _ _ _ _ _ _ _ ha gs2 ((fr_L17 _ (dz_n rfl) (dz_n2 (by decide))).1.trans ((fr_L8 _ (dz_n rfl) (dz_n2 (by decide))).1.trans ((o_1 _ (dz_n rfl)).1.trans h9))) (by omega)) (cwV 1 hts gX9_look_X9_rowFrom rfl rfl rfl (by decide +kernel) ⟨Nat.le_of_ble_eq_true rfl, Nat.le_of_ble_eq_true rfl⟩) (dz_P.preV hE hS hG gs2 rfl ha) rfl rfl hl.1 rfl (lv_room (Nat.le_of_ble_eq_true rfl)) dX9_look_48 ⟨Nat.le_of_ble_eq_true rfl, Nat.le_of_ble_eq_true rfl⟩) ?_
        refine lv_topi (fun v_6 ev_6 => ?_)
        obtain rfl : v_6 = m_pr (22 * a + b) - f9 (22 * a + b) := ev_6
        refine lv_aload_n hx hb dX9_look_51 rfl (lv_at hl 3 rfl) ?_
        refine dz_get hx hb hts (fun _ h => List.mem_cons_of_mem _ (List.mem_append_right _ h)) hown hE hG ha gs2 rfl 13 (by decide) (hts _ (List.mem_of_getElem? (i := 3) rfl)) (fun _ h9 => h9) rfl dX9_look_52 ?_
        refine lv_iload_n hx hb dX9_look_55 rfl (lv_at hl 4 rfl) ?_
        refine dz_iald hx hb hE hG ((fr_L17 _ (dz_n rfl) (dz_n2 (by decide))).2.trans ((fr_L8 _ (dz_n rfl) (dz_n2 (by decide))).2.trans ((o_1 _ (dz_n rfl)).2.trans rfl))) ((fr_L17 _ (dz_n rfl) (dz_n2 (by decide))).1.trans ((fr_L8 _ (dz_n rfl) (dz_n2 (by decide))).1.trans ((o_1 _ (dz_n rfl)).1.trans h13))) (vp_in_nI (by omega) (by decide)) dX9_look_56 ?_
        refine lv_topi (fun v_7 ev_7 => ?_)
        obtain rfl : v_7 = f13 sc := ev_7.trans (by rw [nI_clamp (by omega)])
        refine lv_icmp_ne (tgt := 130) hx hb dX9_look_57 (by decide) (fun c_57 => ?_) (fun c_57 => ?_)
        · have hst : (m_lr f10 (fun j => dz_b (m_pc j - f8 j = f12 sc ∧ m_pr j - f9 j = f13 sc)) a (m_la f10 (fun j => dz_b (m_pc j - f8 j = f12 sc ∧ m_pr j - f9 j = f13 sc)) (0, f37) a) (b + 1)) = (m_lr f10 (fun j => dz_b (m_pc j - f8 j = f12 sc ∧ m_pr j - f9 j = f13 sc)) a (m_la f10 (fun j => dz_b (m_pc j - f8 j = f12 sc ∧ m_pr j - f9 j = f13 sc)) (0, f37) a) b) := if_pos (dz_b0 (fun z => c_57 z.2))
          obtain ⟨v_8, ev_8⟩ : ∃ y : Int32, y = (nI b - 10) + 1 := ⟨_, rfl⟩
          refine lv_iinc (v := v_8) (lv' := [(3, .int v_8), (4, .int (nI (22 * a + b))), (2, .int (nI a - 10)), (0, .ref aM), (1, .int (nI sc))]) hx hb dX9_look_130 hl (k := 1) rfl (by rw [ev_8]; rfl) (by decide) rfl (fun ls hl => ?_)
          refine lv_goto (tgt := 17) hx hb dX9_look_133 (by decide) ?_
          obtain rfl : v_8 = nI (b + 1) - 10 := ev_8.trans (fl_sc b (by omega))
          exact ih_17 (b + 1, G_L17, ls) _ _ (by first | (dsimp only; omega) | omega) ⟨(by omega), (fun r9 n_0 n_1 => (fr_L17 r9 n_0 n_1)), (by rw [hst]; exact gs2), (by rw [hst]; exact gp2), hG, hS, lv_sub hl [0, 2, 3, 4] rfl⟩
        · have hst : (m_lr f10 (fun j => dz_b (m_pc j - f8 j = f12 sc ∧ m_pr j - f9 j = f13 sc)) a (m_la f10 (fun j => dz_b (m_pc j - f8 j = f12 sc ∧ m_pr j - f9 j = f13 sc)) (0, f37) a) (b + 1)) = ((m_lr f10 (fun j => dz_b (m_pc j - f8 j = f12 sc ∧ m_pr j - f9 j = f13 sc)) a (m_la f10 (fun j => dz_b (m_pc j - f8 j = f12 sc ∧ m_pr j - f9 j = f13 sc)) (0, f37) a) b).1 + 1, m_ins f10 (22 * a + b) (m_lr f10 (fun j => dz_b (m_pc j - f8 j = f12 sc ∧ m_pr j - f9 j = f13 sc)) a (m_la f10 (fun j => dz_b (m_pc j - f8 j = f12 sc ∧ m_pr j - f9 j = f13 sc)) (0, f37) a) b).1 (m_lr f10 (fun j => dz_b (m_pc j - f8 j = f12 sc ∧ m_pr j - f9 j = f13 sc)) a (m_la f10 (fun j => dz_b (m_pc j - f8 j = f12 sc ∧ m_pr j - f9 j = f13 sc)) (0, f37) a) b).2) := if_neg (fun z => dz_bx z ⟨c_42, c_57⟩)
          refine lv_aload_n hx hb dX9_look_60 rfl (lv_at hl 3 rfl) ?_
          refine dz_get hx hb hts (fun _ h => List.mem_cons_of_mem _ (List.mem_append_right _ h)) hown hE hG ha gs2 rfl 38 (by decide) (hts _ (List.mem_of_getElem? (i := 1) rfl)) (fun _ h9 => h9) rfl dX9_look_61 ?_
          refine lv_istore (lv' := [(5, .int (nI (m_lr f10 (fun j => dz_b (m_pc j - f8 j = f12 sc ∧ m_pr j - f9 j = f13 sc)) a (m_la f10 (fun j => dz_b (m_pc j - f8 j = f12 sc ∧ m_pr j - f9 j = f13 sc)) (0, f37) a) b).1)), (4, .int (nI (22 * a + b))), (3, .int (nI b - 10)), (2, .int (nI a - 10)), (0, .ref aM), (1, .int (nI sc))]) hx hb dX9_look_64 hl (by decide) rfl (fun ls hl => ?_)
          have hcn : (m_lr f10 (fun j => dz_b (m_pc j - f8 j = f12 sc ∧ m_pr j - f9 j = f13 sc)) a (m_la f10 (fun j => dz_b (m_pc j - f8 j = f12 sc ∧ m_pr j - f9 j = f13 sc)) (0, f37) a) b).1 < 441 := by have h1 := m_lr_c (w := f10) (P := (fun j => dz_b (m_pc j - f8 j = f12 sc ∧ m_pr j - f9 j = f13 sc))) (a := a) (q := (m_la f10 (fun j => dz_b (m_pc j - f8 j = f12 sc ∧ m_pr j - f9 j = f13 sc)) (0, f37) a)) b; have h2 := m_la_c (w := f10) (P := (fun j => dz_b (m_pc j - f8 j = f12 sc ∧ m_pr j - f9 j = f13 sc))) (f := f37) a; omega
          have hbd : m_bd (22 * a + b) (m_lr f10 (fun j => dz_b (m_pc j - f8 j = f12 sc ∧ m_pr j - f9 j = f13 sc)) a (m_la f10 (fun j => dz_b (m_pc j - f8 j = f12 sc ∧ m_pr j - f9 j = f13 sc)) (0, f37) a) b) := m_lr_bd (m_la_bd a) b
          refine dz_lw (α := Nat × (Nat → Int32) × dzW × Array Slot) (fun a9 => (fun (k : Nat) (fk : Nat → Int32) (G_L66 : dzW) (ls : Array Slot) => k) a9.1 a9.2.1 a9.2.2.1 a9.2.2.2) (fun a9 H locs => (fun (k : Nat) (fk : Nat → Int32) (G_L66 : dzW) (ls : Array Slot) => (k ≤ (m_lr f10 (fun j => dz_b (m_pc j - f8 j = f12 sc ∧ m_pr j - f9 j = f13 sc)) a (m_la f10 (fun j => dz_b (m_pc j - f8 j = f12 sc ∧ m_pr j - f9 j = f13 sc)) (0, f37) a) b).1) ∧ (m_sh f10 (22 * a + b) k fk = m_sh f10 (22 * a + b) (m_lr f10 (fun j => dz_b (m_pc j - f8 j = f12 sc ∧ m_pr j - f9 j = f13 sc)) a (m_la f10 (fun j => dz_b (m_pc j - f8 j = f12 sc ∧ m_pr j - f9 j = f13 sc)) (0, f37) a) b).1 (m_lr f10 (fun j => dz_b (m_pc j - f8 j = f12 sc ∧ m_pr j - f9 j = f13 sc)) a (m_la f10 (fun j => dz_b (m_pc j - f8 j = f12 sc ∧ m_pr j - f9 j = f13 sc)) (0, f37) a) b).2) ∧ (m_bd (22 * a + b) (k, fk)) ∧ (∀ r9 : dzR, r9 ≠ (40, 37) → G_L66 r9 = G_L17 r9 ∧ ad r9 = ad r9) ∧ (G_L66 (40, 37) = some (eI Z 441 fk)) ∧ dz_w Z G_L66 ad H ∧ va_S (dz_A Z) s.heap H locs ∧ lv_has ls 6 [(5, .int (nI k)), (4, .int (nI (22 * a + b))), (3, .int (nI b - 10)), (2, .int (nI a - 10)), (0, .ref aM), (1, .int (nI sc))]) a9.1 a9.2.1 a9.2.2.1 a9.2.2.2) (fun a9 => F0 m 66 a9.2.2.2 []) (fun a9 H locs hI ih_66 => ?_) ((m_lr f10 (fun j => dz_b (m_pc j - f8 j = f12 sc ∧ m_pr j - f9 j = f13 sc)) a (m_la f10 (fun j => dz_b (m_pc j - f8 j = f12 sc ∧ m_pr j - f9 j = f13 sc)) (0, f37) a) b).1, (m_lr f10 (fun j => dz_b (m_pc j - f8 j = f12 sc ∧ m_pr j - f9 j = f13 sc)) a (m_la f10 (fun j => dz_b (m_pc j - f8 j = f12 sc ∧ m_pr j - f9 j = f13 sc)) (0, f37) a) b).2, G_L17, ls) ⟨(Nat.le_refl _), rfl, hbd, (fun r9 _ => ⟨rfl, rfl⟩), gp2, hG, hS, lv_sub hl [0, 1, 2, 3, 4, 5] rfl⟩
          obtain ⟨k, fk, G_L66, ls⟩ := a9
          obtain ⟨hk, hq, hfk, fr_L66, gp, hG, hS, hl⟩ := hI
          have hk : k ≤ (m_lr f10 (fun j => dz_b (m_pc j - f8 j = f12 sc ∧ m_pr j - f9 j = f13 sc)) a (m_la f10 (fun j => dz_b (m_pc j - f8 j = f12 sc ∧ m_pr j - f9 j = f13 sc)) (0, f37) a) b).1 := hk
          have hq : m_sh f10 (22 * a + b) k fk = m_sh f10 (22 * a + b) (m_lr f10 (fun j => dz_b (m_pc j - f8 j = f12 sc ∧ m_pr j - f9 j = f13 sc)) a (m_la f10 (fun j => dz_b (m_pc j - f8 j = f12 sc ∧ m_pr j - f9 j = f13 sc)) (0, f37) a) b).1 (m_lr f10 (fun j => dz_b (m_pc j - f8 j = f12 sc ∧ m_pr j - f9 j = f13 sc)) a (m_la f10 (fun j => dz_b (m_pc j - f8 j = f12 sc ∧ m_pr j - f9 j = f13 sc)) (0, f37) a) b).2 := hq
          have hfk : m_bd (22 * a + b) (k, fk) := hfk
          have fr_L66 : ∀ r9 : dzR, r9 ≠ (40, 37) → G_L66 r9 = G_L17 r9 ∧ ad r9 = ad r9 := fr_L66
          have gp : G_L66 (40, 37) = some (eI Z 441 fk) := gp
          have hG : dz_w Z G_L66 ad H := hG
          have hS : va_S (dz_A Z) s.heap H locs := hS
          have hl : lv_has ls 6 [(5, .int (nI k)), (4, .int (nI (22 * a + b))), (3, .int (nI b - 10)), (2, .int (nI a - 10)), (0, .ref aM), (1, .int (nI sc))] := hl
          refine lv_iload hx hb dX9_look_66 (lv_at hl 0 rfl) ?_
          refine lv_if_le (tgt := 111) hx hb dX9_look_68 (by decide) (fun c_68 => ?_) (fun c_68 => ?_)
          · have hk0 : k = 0 := by
              rcases Nat.eq_zero_or_pos k with q | q
              · exact q
              · exact absurd c_68 (nI_nle q (by omega))
            have e9 : m_ins f10 (22 * a + b) (m_lr f10 (fun j => dz_b (m_pc j - f8 j = f12 sc ∧ m_pr j - f9 j = f13 sc)) a (m_la f10 (fun j => dz_b (m_pc j - f8 j = f12 sc ∧ m_pr j - f9 j = f13 sc)) (0, f37) a) b).1 (m_lr f10 (fun j => dz_b (m_pc j - f8 j = f12 sc ∧ m_pr j - f9 j = f13 sc)) a (m_la f10 (fun j => dz_b (m_pc j - f8 j = f12 sc ∧ m_pr j - f9 j = f13 sc)) (0, f37) a) b).2 = upd fk (nI k).toNatClampNeg (nI (22 * a + b)) := by
              unfold m_ins
              rw [← hq, nI_clamp (by omega)]
              subst hk0
              rfl
            refine lv_aload_n hx hb dX9_look_111 rfl (lv_at hl 4 rfl) ?_
            refine dz_get hx hb hts (fun _ h => List.mem_cons_of_mem _ (List.mem_append_right _ h)) hown hE hG ((fr_L66 _ (dz_n rfl)).2.trans ha) ((fr_L66 _ (dz_n rfl)).1.trans gs2) rfl 37 (by decide) (hts _ (List.mem_of_getElem? (i := 4) rfl)) (fun _ h9 => h9) rfl dX9_look_112 ?_
            refine lv_iload hx hb dX9_look_115 (lv_at hl 0 rfl) ?_
            refine lv_iload hx hb dX9_look_117 (lv_at hl 1 rfl) ?_
            refine dz_iast hx hb hE hG ((o_1 _ (dz_n rfl)).2.trans rfl) hS gp (vp_in_nI (by omega) (by decide)) dX9_look_119 (fun H locs hG hS => ?_)
            obtain ⟨G_2, hG, w_2, o_2⟩ := dz_nm hG
            refine lv_aload_n hx hb dX9_look_120 rfl (lv_at hl 4 rfl) ?_
            refine lv_dup hx hb dX9_look_121 rfl ?_
            refine dz_get hx hb hts (fun _ h => List.mem_cons_of_mem _ (List.mem_append_right _ h)) hown hE hG ((o_2 _ (dz_n rfl)).2.trans ((fr_L66 _ (dz_n rfl)).2.trans ha)) ((o_2 _ (dz_n rfl)).1.trans ((fr_L66 _ (dz_n rfl)).1.trans gs2)) rfl 38 (by decide) (hts _ (List.mem_of_getElem? (i := 1) rfl)) (fun _ h9 => h9) rfl dX9_look_122 ?_
            refine lv_iconst (v := 1) hx hb dX9_look_125 (by decide) ?_
            refine lv_iadd hx hb dX9_look_126 ?_
            refine lv_topi (fun v_9 ev_9 => ?_)
            obtain rfl : v_9 = nI ((m_lr f10 (fun j => dz_b (m_pc j - f8 j = f12 sc ∧ m_pr j - f9 j = f13 sc)) a (m_la f10 (fun j => dz_b (m_pc j - f8 j = f12 sc ∧ m_pr j - f9 j = f13 sc)) (0, f37) a) b).1 + 1) := ev_9.trans (nI_1 _)
            refine dz_put hx hb hts (fun _ h => List.mem_cons_of_mem _ (List.mem_append_right _ h)) tyX9 tyX9_ok nmX9 hown hE hG ((o_2 _ (dz_n rfl)).2.trans ((fr_L66 _ (dz_n rfl)).2.trans ha)) hS ((o_2 _ (dz_n rfl)).1.trans ((fr_L66 _ (dz_n rfl)).1.trans gs2)) rfl 38 (by decide) (hts _ (List.mem_of_getElem? (i := 1) rfl)) (fun _ h9 => h9) rfl (ty := .int) (by decide +kernel) rfl rfl (fs' := [.int th, .int dy, .int (nI nm), .ref (ad (40, 3)), .ref (ad (40, 4)), .ref (ad (40, 5)), .ref (ad (40, 6)), .int td, .ref (ad (40, 8)), .ref (ad (40, 9)), .ref (ad (40, 10)), .int (nI ns), .ref (ad (40, 12)), .ref (ad (40, 13)), .ref (ad (40, 14)), .int (nI nl), .ref (ad (40, 16)), .ref (ad (40, 17)), .ref (ad (40, 18)), .int (nI nx), .ref (ad (40, 20)), .ref (ad (40, 21)), .ref (ad (40, 22)), .ref (ad (40, 23)), .ref (ad (40, 24)), .int ssf, .int sst, .int cfr, .int grw, .int (nI nf), .ref (ad (40, 30)), .ref (ad (40, 31)), .int bkk, .ref (ad (40, 33)), .ref (ad (40, 34)), .ref (ad (40, 35)), .int iop, .ref (ad (40, 37)), .int (nI ((m_lr f10 (fun j => dz_b (m_pc j - f8 j = f12 sc ∧ m_pr j - f9 j = f13 sc)) a (m_la f10 (fun j => dz_b (m_pc j - f8 j = f12 sc ∧ m_pr j - f9 j = f13 sc)) (0, f37) a) b).1 + 1))]) rfl (Nat.le_of_ble_eq_true rfl) dX9_look_127 (fun H locs hG hS => ?_)
            obtain ⟨G_3, hG, w_3, o_3⟩ := dz_nm hG
            obtain ⟨v_10, ev_10⟩ : ∃ y : Int32, y = (nI b - 10) + 1 := ⟨_, rfl⟩
            refine lv_iinc (v := v_10) (lv' := [(3, .int v_10), (5, .int (nI k)), (4, .int (nI (22 * a + b))), (2, .int (nI a - 10)), (0, .ref aM), (1, .int (nI sc))]) hx hb dX9_look_130 hl (k := 2) rfl (by rw [ev_10]; rfl) (by decide) rfl (fun ls hl => ?_)
            refine lv_goto (tgt := 17) hx hb dX9_look_133 (by decide) ?_
            obtain rfl : v_10 = nI (b + 1) - 10 := ev_10.trans (fl_sc b (by omega))
            exact ih_17 (b + 1, G_3, ls) _ _ (by first | (dsimp only; omega) | omega) ⟨(by omega), (fun r9 n_0 n_1 => (dz_tr (o_3 r9 n_0) (dz_tr (o_2 r9 n_1) (dz_tr (fr_L66 r9 n_1) (fr_L17 r9 n_0 n_1))))), (by rw [hst]; exact w_3), (by rw [hst]; show _ = some (eI Z 441 (m_ins f10 (22 * a + b) (m_lr f10 (fun j => dz_b (m_pc j - f8 j = f12 sc ∧ m_pr j - f9 j = f13 sc)) a (m_la f10 (fun j => dz_b (m_pc j - f8 j = f12 sc ∧ m_pr j - f9 j = f13 sc)) (0, f37) a) b).1 (m_lr f10 (fun j => dz_b (m_pc j - f8 j = f12 sc ∧ m_pr j - f9 j = f13 sc)) a (m_la f10 (fun j => dz_b (m_pc j - f8 j = f12 sc ∧ m_pr j - f9 j = f13 sc)) (0, f37) a) b).2)); rw [e9]; exact ((o_3 _ (dz_n rfl)).1.trans w_2)), hG, hS, lv_sub hl [0, 3, 4, 5] rfl⟩
          · have hk0 : 0 < k := by
              rcases Nat.eq_zero_or_pos k with q | q
              · subst q; exact absurd (by decide) c_68
              · exact q
            obtain ⟨j9, hj9, ej9⟩ := hfk (k - 1) (by show k - 1 < k; omega)
            have ej9 : fk (k - 1) = nI j9 := ej9
            refine lv_aload_n hx hb dX9_look_71 rfl (lv_at hl 4 rfl) ?_
            refine lv_iload hx hb dX9_look_72 (lv_at hl 1 rfl) ?_
            refine lv_aload_n hx hb dX9_look_74 rfl (lv_at hl 4 rfl) ?_
            refine dz_get hx hb hts (fun _ h => List.mem_cons_of_mem _ (List.mem_append_right _ h)) hown hE hG ((fr_L66 _ (dz_n rfl)).2.trans ha) ((fr_L66 _ (dz_n rfl)).1.trans gs2) rfl 37 (by decide) (hts _ (List.mem_of_getElem? (i := 4) rfl)) (fun _ h9 => h9) rfl dX9_look_75 ?_
            refine lv_iload hx hb dX9_look_78 (lv_at hl 0 rfl) ?_
            refine lv_iconst (v := 1) hx hb dX9_look_80 (by decide) ?_
            refine lv_isub hx hb dX9_look_81 ?_
            refine lv_topi (fun v_11 ev_11 => ?_)
            obtain rfl : v_11 = nI (k - 1) := ev_11.trans (pk_sub (a := k) (b := 1) (by omega))
            refine dz_iald hx hb hE hG ((o_1 _ (dz_n rfl)).2.trans rfl) gp (vp_in_nI (by omega) (by decide)) dX9_look_82 ?_
            refine lv_topi (fun v_12 ev_12 => ?_)
            obtain rfl : v_12 = nI j9 := ev_12.trans (by rw [nI_clamp (by omega)]; exact ej9)
            refine dz_kRi (va_runV (As := [_, _]) ⟨hx, hb, hml, hown, hts⟩ (c_X9_isAhead l Z _ _ _ _ _ _ _ _ _ _ _ _ _ _ _ _ _ _ _ _ _ ((fr_L66 _ (dz_n rfl)).2.trans ha) ((fr_L66 _ (dz_n rfl)).1.trans gs2) ((fr_L66 _ (dz_n2 (by decide))).1.trans ((fr_L17 _ (dz_n rfl) (dz_n2 (by decide))).1.trans ((fr_L8 _ (dz_n rfl) (dz_n2 (by decide))).1.trans ((o_1 _ (dz_n rfl)).1.trans h10)))) (show (22 * a + b) < 484 from by omega) (show j9 < (22 * a + b) from hj9)) (cwV 2 hts gX9_look_X9_isAhead rfl rfl rfl (by decide +kernel) ⟨Nat.le_of_ble_eq_true rfl, Nat.le_of_ble_eq_true rfl⟩) (dz_P.preV hE hS hG ((fr_L66 _ (dz_n rfl)).1.trans gs2) rfl ((fr_L66 _ (dz_n rfl)).2.trans ha)) rfl rfl hl.1 rfl (lv_room (Nat.le_of_ble_eq_true rfl)) dX9_look_83 ⟨Nat.le_of_ble_eq_true rfl, Nat.le_of_ble_eq_true rfl⟩) ?_
            refine lv_topi (fun v_13 ev_13 => ?_)
            obtain rfl : v_13 = dz_b (f10 (22 * a + b) < f10 j9) := ev_13
            refine lv_if_eq (tgt := 111) hx hb dX9_look_86 (by decide) (fun c_86 => ?_) (fun c_86 => ?_)
            · have hlt : ¬ f10 (22 * a + b) < f10 (fk (k - 1)).toNatClampNeg := by rw [ej9, nI_clamp (by omega)]; exact dz_bx c_86
              have e9 : m_ins f10 (22 * a + b) (m_lr f10 (fun j => dz_b (m_pc j - f8 j = f12 sc ∧ m_pr j - f9 j = f13 sc)) a (m_la f10 (fun j => dz_b (m_pc j - f8 j = f12 sc ∧ m_pr j - f9 j = f13 sc)) (0, f37) a) b).1 (m_lr f10 (fun j => dz_b (m_pc j - f8 j = f12 sc ∧ m_pr j - f9 j = f13 sc)) a (m_la f10 (fun j => dz_b (m_pc j - f8 j = f12 sc ∧ m_pr j - f9 j = f13 sc)) (0, f37) a) b).2 = upd fk (nI k).toNatClampNeg (nI (22 * a + b)) := by
                unfold m_ins
                rw [← hq, nI_clamp (by omega)]
                rw [m_sh_e hk0 hlt]
              refine lv_aload_n hx hb dX9_look_111 rfl (lv_at hl 4 rfl) ?_
              refine dz_get hx hb hts (fun _ h => List.mem_cons_of_mem _ (List.mem_append_right _ h)) hown hE hG ((fr_L66 _ (dz_n rfl)).2.trans ha) ((fr_L66 _ (dz_n rfl)).1.trans gs2) rfl 37 (by decide) (hts _ (List.mem_of_getElem? (i := 4) rfl)) (fun _ h9 => h9) rfl dX9_look_112 ?_
              refine lv_iload hx hb dX9_look_115 (lv_at hl 0 rfl) ?_
              refine lv_iload hx hb dX9_look_117 (lv_at hl 1 rfl) ?_
              refine dz_iast hx hb hE hG ((o_1 _ (dz_n rfl)).2.trans rfl) hS gp (vp_in_nI (by omega) (by decide)) dX9_look_119 (fun H locs hG hS => ?_)
              obtain ⟨G_4, hG, w_4, o_4⟩ := dz_nm hG
              refine lv_aload_n hx hb dX9_look_120 rfl (lv_at hl 4 rfl) ?_
              refine lv_dup hx hb dX9_look_121 rfl ?_
              refine dz_get hx hb hts (fun _ h => List.mem_cons_of_mem _ (List.mem_append_right _ h)) hown hE hG ((o_4 _ (dz_n rfl)).2.trans ((fr_L66 _ (dz_n rfl)).2.trans ha)) ((o_4 _ (dz_n rfl)).1.trans ((fr_L66 _ (dz_n rfl)).1.trans gs2)) rfl 38 (by decide) (hts _ (List.mem_of_getElem? (i := 1) rfl)) (fun _ h9 => h9) rfl dX9_look_122 ?_
              refine lv_iconst (v := 1) hx hb dX9_look_125 (by decide) ?_
              refine lv_iadd hx hb dX9_look_126 ?_
              refine lv_topi (fun v_14 ev_14 => ?_)
              obtain rfl : v_14 = nI ((m_lr f10 (fun j => dz_b (m_pc j - f8 j = f12 sc ∧ m_pr j - f9 j = f13 sc)) a (m_la f10 (fun j => dz_b (m_pc j - f8 j = f12 sc ∧ m_pr j - f9 j = f13 sc)) (0, f37) a) b).1 + 1) := ev_14.trans (nI_1 _)
              refine dz_put hx hb hts (fun _ h => List.mem_cons_of_mem _ (List.mem_append_right _ h)) tyX9 tyX9_ok nmX9 hown hE hG ((o_4 _ (dz_n rfl)).2.trans ((fr_L66 _ (dz_n rfl)).2.trans ha)) hS ((o_4 _ (dz_n rfl)).1.trans ((fr_L66 _ (dz_n rfl)).1.trans gs2)) rfl 38 (by decide) (hts _ (List.mem_of_getElem? (i := 1) rfl)) (fun _ h9 => h9) rfl (ty := .int) (by decide +kernel) rfl rfl (fs' := [.int th, .int dy, .int (nI nm), .ref (ad (40, 3)), .ref (ad (40, 4)), .ref (ad (40, 5)), .ref (ad (40, 6)), .int td, .ref (ad (40, 8)), .ref (ad (40, 9)), .ref (ad (40, 10)), .int (nI ns), .ref (ad (40, 12)), .ref (ad (40, 13)), .ref (ad (40, 14)), .int (nI nl), .ref (ad (40, 16)), .ref (ad (40, 17)), .ref (ad (40, 18)), .int (nI nx), .ref (ad (40, 20)), .ref (ad (40, 21)), .ref (ad (40, 22)), .ref (ad (40, 23)), .ref (ad (40, 24)), .int ssf, .int sst, .int cfr, .int grw, .int (nI nf), .ref (ad (40, 30)), .ref (ad (40, 31)), .int bkk, .ref (ad (40, 33)), .ref (ad (40, 34)), .ref (ad (40, 35)), .int iop, .ref (ad (40, 37)), .int (nI ((m_lr f10 (fun j => dz_b (m_pc j - f8 j = f12 sc ∧ m_pr j - f9 j = f13 sc)) a (m_la f10 (fun j => dz_b (m_pc j - f8 j = f12 sc ∧ m_pr j - f9 j = f13 sc)) (0, f37) a) b).1 + 1))]) rfl (Nat.le_of_ble_eq_true rfl) dX9_look_127 (fun H locs hG hS => ?_)
              obtain ⟨G_5, hG, w_5, o_5⟩ := dz_nm hG
              obtain ⟨v_15, ev_15⟩ : ∃ y : Int32, y = (nI b - 10) + 1 := ⟨_, rfl⟩
              refine lv_iinc (v := v_15) (lv' := [(3, .int v_15), (5, .int (nI k)), (4, .int (nI (22 * a + b))), (2, .int (nI a - 10)), (0, .ref aM), (1, .int (nI sc))]) hx hb dX9_look_130 hl (k := 2) rfl (by rw [ev_15]; rfl) (by decide) rfl (fun ls hl => ?_)
              refine lv_goto (tgt := 17) hx hb dX9_look_133 (by decide) ?_
              obtain rfl : v_15 = nI (b + 1) - 10 := ev_15.trans (fl_sc b (by omega))
              exact ih_17 (b + 1, G_5, ls) _ _ (by first | (dsimp only; omega) | omega) ⟨(by omega), (fun r9 n_0 n_1 => (dz_tr (o_5 r9 n_0) (dz_tr (o_4 r9 n_1) (dz_tr (fr_L66 r9 n_1) (fr_L17 r9 n_0 n_1))))), (by rw [hst]; exact w_5), (by rw [hst]; show _ = some (eI Z 441 (m_ins f10 (22 * a + b) (m_lr f10 (fun j => dz_b (m_pc j - f8 j = f12 sc ∧ m_pr j - f9 j = f13 sc)) a (m_la f10 (fun j => dz_b (m_pc j - f8 j = f12 sc ∧ m_pr j - f9 j = f13 sc)) (0, f37) a) b).1 (m_lr f10 (fun j => dz_b (m_pc j - f8 j = f12 sc ∧ m_pr j - f9 j = f13 sc)) a (m_la f10 (fun j => dz_b (m_pc j - f8 j = f12 sc ∧ m_pr j - f9 j = f13 sc)) (0, f37) a) b).2)); rw [e9]; exact ((o_5 _ (dz_n rfl)).1.trans w_4)), hG, hS, lv_sub hl [0, 3, 4, 5] rfl⟩
            · have hlt : f10 (22 * a + b) < f10 (fk (k - 1)).toNatClampNeg := by rw [ej9, nI_clamp (by omega)]; exact dz_by c_86
              refine lv_aload_n hx hb dX9_look_89 rfl (lv_at hl 4 rfl) ?_
              refine dz_get hx hb hts (fun _ h => List.mem_cons_of_mem _ (List.mem_append_right _ h)) hown hE hG ((fr_L66 _ (dz_n rfl)).2.trans ha) ((fr_L66 _ (dz_n rfl)).1.trans gs2) rfl 37 (by decide) (hts _ (List.mem_of_getElem? (i := 4) rfl)) (fun _ h9 => h9) rfl dX9_look_90 ?_
              refine lv_iload hx hb dX9_look_93 (lv_at hl 0 rfl) ?_
              refine lv_aload_n hx hb dX9_look_95 rfl (lv_at hl 4 rfl) ?_
              refine dz_get hx hb hts (fun _ h => List.mem_cons_of_mem _ (List.mem_append_right _ h)) hown hE hG ((fr_L66 _ (dz_n rfl)).2.trans ha) ((fr_L66 _ (dz_n rfl)).1.trans gs2) rfl 37 (by decide) (hts _ (List.mem_of_getElem? (i := 4) rfl)) (fun _ h9 => h9) rfl dX9_look_96 ?_
              refine lv_iload hx hb dX9_look_99 (lv_at hl 0 rfl) ?_
              refine lv_iconst (v := 1) hx hb dX9_look_101 (by decide) ?_
              refine lv_isub hx hb dX9_look_102 ?_
              refine lv_topi (fun v_16 ev_16 => ?_)
              obtain rfl : v_16 = nI (k - 1) := ev_16.trans (pk_sub (a := k) (b := 1) (by omega))
              refine dz_iald hx hb hE hG ((o_1 _ (dz_n rfl)).2.trans rfl) gp (vp_in_nI (by omega) (by decide)) dX9_look_103 ?_
              refine lv_topi (fun v_17 ev_17 => ?_)
              obtain rfl : v_17 = fk (k - 1) := ev_17.trans (by rw [nI_clamp (by omega)])
              refine dz_iast hx hb hE hG ((o_1 _ (dz_n rfl)).2.trans rfl) hS gp (vp_in_nI (by omega) (by decide)) dX9_look_104 (fun H locs hG hS => ?_)
              obtain ⟨G_6, hG, w_6, o_6⟩ := dz_nm hG
              obtain ⟨v_18, ev_18⟩ : ∃ y : Int32, y = (nI k) + (-1) := ⟨_, rfl⟩
              refine lv_iinc (v := v_18) (lv' := [(5, .int v_18), (4, .int (nI (22 * a + b))), (3, .int (nI b - 10)), (2, .int (nI a - 10)), (0, .ref aM), (1, .int (nI sc))]) hx hb dX9_look_105 hl (k := 0) rfl (by rw [ev_18]; rfl) (by decide) rfl (fun ls hl => ?_)
              refine lv_goto (tgt := 66) hx hb dX9_look_108 (by decide) ?_
              obtain rfl : v_18 = nI (k - 1) := ev_18.trans (by have h9 := pk_m1 (k - 1); rwa [show k - 1 + 1 = k by omega] at h9)
              exact ih_66 (k - 1, _, G_6, ls) _ _ (by first | (dsimp only; omega) | omega) ⟨(by omega), ((m_sh_s hk0 hlt).symm.trans hq |> fun z => by rw [nI_clamp (by omega)]; exact z), (fun x hx => by rw [nI_clamp (by omega)]; show ∃ j, _ ∧ upd fk k (fk (k - 1)) x = _; rw [pk_un (by simp only at hx; omega)]; exact hfk x (by simp only at hx ⊢; omega)), (fun r9 n_0 => (dz_tr (o_6 r9 n_0) (fr_L66 r9 n_0))), w_6, hG, hS, lv_sub hl [0, 1, 2, 3, 4, 5] rfl⟩
