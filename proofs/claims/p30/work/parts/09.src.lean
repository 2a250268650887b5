set_option maxHeartbeats 4000000 in
set_option maxRecDepth 100000 in
theorem c_X6_imageCount (l : Launch) (Z : dzG) (G : dzW) (ad : dzA) (i a cnt af as9 : Nat) (col row fl : Int32) (hsa : ad (11, i) = a) (hs : G (11, i) = some (eO 7 [.int col, .int row, .int fl, .ref (ad (12, i)), .int (nI cnt), .ref af, .ref as9])) : dzRd l yX6_imageCount wsX6_imageCount 0 0 Z G ad [.ref a] (some (.int (nI cnt))) := by
  refine Met.ofW (cc := cX6_imageCount) (maxL := 1) (ret := (some .int)) (by decide) rfl ?_
  intro p e s m args below meth c s₁ B hml hv
  obtain ⟨rfl, hG, hE⟩ := hv
  have hx := B.exec
  have hb := B.bytes
  have hrt := B.returns
  have hts := atoms_spec (ws := wsX6_imageCount) B.pre
  have hown : s.vm.findClass RX6 = some m.cls := findClass_of_methodNamed B.named
  have hlocks := B.notSynchronized
  have hS : va_S (dz_A Z) s.heap s.heap [] := va_S.rf
  have hl := lv_entry ([.ref a]) (n := 1) (Nat.le_of_ble_eq_true rfl)
  rw [lg_entry_eq]
  generalize (lg_sl ([.ref a]) ++ List.replicate (1 - (lg_sl ([.ref a])).length) Slot.unset).toArray = ls at hl ⊢
  have hl : lv_has ls 1 [(0, .ref a)] := hl
  refine lv_aload_n hx hb dX6_imageCount_0 rfl (lv_at hl 0 rfl) ?_
  refine dz_get hx hb hts (fun _ h => List.mem_cons_of_mem _ (List.mem_append_right _ h)) hown hE hG hsa hs rfl 4 (by decide) (hts _ (List.mem_of_getElem? (i := 1) rfl)) (fun _ h9 => h9) rfl dX6_imageCount_1 ?_
  refine W.iret hx hb hrt (fun t ht hW => ⟨congrArg (fun x => Outcome.returned (some (Value.int x))) ?_, ht⟩) (fun _ h => by cases h) dX6_imageCount_4
  rfl

set_option maxHeartbeats 4000000 in
set_option maxRecDepth 100000 in
theorem c_X6_hasImage (l : Launch) (Z : dzG) (G : dzW) (ad : dzA) (i a cnt af as9 : Nat) (col row fl : Int32) (rk : Int32) (hsa : ad (11, i) = a) (hs : G (11, i) = some (eO 7 [.int col, .int row, .int fl, .ref (ad (12, i)), .int (nI cnt), .ref af, .ref as9])) : dzRd l yX6_hasImage wsX6_hasImage 0 0 Z G ad [.ref a, .int rk] (some (.int (dz_b (0 ≤ rk ∧ rk < nI cnt)))) := by
  refine Met.ofW (cc := cX6_hasImage) (maxL := 2) (ret := (some .boolean)) (by decide) rfl ?_
  intro p e s m args below meth c s₁ B hml hv
  obtain ⟨rfl, hG, hE⟩ := hv
  have hx := B.exec
  have hb := B.bytes
  have hrt := B.returns
  have hts := atoms_spec (ws := wsX6_hasImage) B.pre
  have hown : s.vm.findClass RX6 = some m.cls := findClass_of_methodNamed B.named
  have hlocks := B.notSynchronized
  have hS : va_S (dz_A Z) s.heap s.heap [] := va_S.rf
  have hl := lv_entry ([.ref a, .int rk]) (n := 2) (Nat.le_of_ble_eq_true rfl)
  rw [lg_entry_eq]
  generalize (lg_sl ([.ref a, .int rk]) ++ List.replicate (2 - (lg_sl ([.ref a, .int rk])).length) Slot.unset).toArray = ls at hl ⊢
  have hl : lv_has ls 2 [(0, .ref a), (1, .int rk)] := hl
  refine lv_iload_n hx hb dX6_hasImage_0 rfl (lv_at hl 1 rfl) ?_
  refine lv_if_lt (tgt := 16) hx hb dX6_hasImage_1 (by decide) (fun c_1 => ?_) (fun c_1 => ?_)
  · refine lv_iconst (v := 0) hx hb dX6_hasImage_16 (by decide) ?_
    refine W.zret hx hb hrt (by decide) (fun t ht hW => ⟨congrArg (fun x => Outcome.returned (some (Value.int x))) ?_, ht⟩) (fun _ h => by cases h) dX6_hasImage_17
    first | exact (dz_b1 ⟨Int32.not_lt.mp c_1, Int32.not_le.mp c_9⟩).symm | exact (dz_b0 (fun h => Int32.not_lt.mpr h.1 c_1)).symm | exact (dz_b0 (fun h => Int32.not_le.mpr h.2 c_9)).symm
  · refine lv_iload_n hx hb dX6_hasImage_4 rfl (lv_at hl 1 rfl) ?_
    refine lv_aload_n hx hb dX6_hasImage_5 rfl (lv_at hl 0 rfl) ?_
    refine dz_get hx hb hts (fun _ h => List.mem_cons_of_mem _ (List.mem_append_right _ h)) hown hE hG hsa hs rfl 4 (by decide) (hts _ (List.mem_of_getElem? (i := 1) rfl)) (fun _ h9 => h9) rfl dX6_hasImage_6 ?_
    refine lv_icmp_ge (tgt := 16) hx hb dX6_hasImage_9 (by decide) (fun c_9 => ?_) (fun c_9 => ?_)
    · refine lv_iconst (v := 0) hx hb dX6_hasImage_16 (by decide) ?_
      refine W.zret hx hb hrt (by decide) (fun t ht hW => ⟨congrArg (fun x => Outcome.returned (some (Value.int x))) ?_, ht⟩) (fun _ h => by cases h) dX6_hasImage_17
      first | exact (dz_b1 ⟨Int32.not_lt.mp c_1, Int32.not_le.mp c_9⟩).symm | exact (dz_b0 (fun h => Int32.not_lt.mpr h.1 c_1)).symm | exact (dz_b0 (fun h => Int32.not_le.mpr h.2 c_9)).symm
    · refine lv_iconst (v := 1) hx hb dX6_hasImage_12 (by decide) ?_
      refine lv_goto (tgt := 17) hx hb dX6_hasImage_13 (by decide) ?_
      refine W.zret hx hb hrt (by decide) (fun t ht hW => ⟨congrArg (fun x => Outcome.returned (some (Value.int x))) ?_, ht⟩) (fun _ h => by cases h) dX6_hasImage_17
      first | exact (dz_b1 ⟨Int32.not_lt.mp c_1, Int32.not_le.mp c_9⟩).symm | exact (dz_b0 (fun h => Int32.not_lt.mpr h.1 c_1)).symm | exact (dz_b0 (fun h => Int32.not_le.mpr h.2 c_9)).symm

set_option maxHeartbeats 4000000 in
set_option maxRecDepth 100000 in
theorem c_X6_placeAt (l : Launch) (Z : dzG) (G : dzW) (ad : dzA) (i a cnt af as9 k : Nat) (col row fl : Int32) (f : Nat → Int32) (hsa : ad (11, i) = a) (hs : G (11, i) = some (eO 7 [.int col, .int row, .int fl, .ref (ad (12, i)), .int (nI cnt), .ref af, .ref as9])) (hp : G (12, i) = some (eI Z 441 f)) (hk : k < cnt) (hcn : cnt ≤ 441) : dzRd l yX6_placeAt wsX6_placeAt 1 21 Z G ad [.ref a, .int (nI k)] (some (.int (f k))) := by
  refine Met.ofW (cc := cX6_placeAt) (maxL := 2) (ret := (some .int)) (by decide) rfl ?_
  intro p e s m args below meth c s₁ B hml hv
  obtain ⟨rfl, hG, hE⟩ := hv
  have hx := B.exec
  have hb := B.bytes
  have hrt := B.returns
  have hts := atoms_spec (ws := wsX6_placeAt) B.pre
  have hown : s.vm.findClass RX6 = some m.cls := findClass_of_methodNamed B.named
  have hlocks := B.notSynchronized
  have hS : va_S (dz_A Z) s.heap s.heap [] := va_S.rf
  have hl := lv_entry ([.ref a, .int (nI k)]) (n := 2) (Nat.le_of_ble_eq_true rfl)
  rw [lg_entry_eq]
  generalize (lg_sl ([.ref a, .int (nI k)]) ++ List.replicate (2 - (lg_sl ([.ref a, .int (nI k)])).length) Slot.unset).toArray = ls at hl ⊢
  have hl : lv_has ls 2 [(0, .ref a), (1, .int (nI k))] := hl
  refine lv_aload_n hx hb dX6_placeAt_0 rfl (lv_at hl 0 rfl) ?_
  refine lv_iload_n hx hb dX6_placeAt_1 rfl (lv_at hl 1 rfl) ?_
  refine dz_kRi (va_runV (As := [_]) ⟨hx, hb, hml, hown, hts⟩ (c_X6_hasImage l Z _ _ _ _ _ _ _ _ _ _ _ hsa hs) (cwV 1 hts gX6_placeAt_X6_hasImage rfl rfl rfl (by decide +kernel) ⟨Nat.le_of_ble_eq_true rfl, Nat.le_of_ble_eq_true rfl⟩) (dz_P.preV hE hS hG hs rfl hsa) rfl rfl hl.1 rfl (lv_room (Nat.le_of_ble_eq_true rfl)) dX6_placeAt_2 ⟨Nat.le_of_ble_eq_true rfl, Nat.le_of_ble_eq_true rfl⟩) ?_
  refine lv_if_eq (tgt := 17) hx hb dX6_placeAt_5 (by decide) (fun c_5 => absurd c_5 (fun z => dz_bx z ⟨nI_pos' (by omega), nI_lt hk (by omega)⟩)) (fun c_5 => ?_)
  refine lv_aload_n hx hb dX6_placeAt_8 rfl (lv_at hl 0 rfl) ?_
  refine dz_get hx hb hts (fun _ h => List.mem_cons_of_mem _ (List.mem_append_right _ h)) hown hE hG hsa hs rfl 3 (by decide) (hts _ (List.mem_of_getElem? (i := 1) rfl)) (fun _ h9 => h9) rfl dX6_placeAt_9 ?_
  refine lv_iload_n hx hb dX6_placeAt_12 rfl (lv_at hl 1 rfl) ?_
  refine dz_iald hx hb hE hG rfl hp (vp_in_nI (by omega) (by decide)) dX6_placeAt_13 ?_
  refine lv_goto (tgt := 18) hx hb dX6_placeAt_14 (by decide) ?_
  refine W.iret hx hb hrt (fun t ht hW => ⟨congrArg (fun x => Outcome.returned (some (Value.int x))) ?_, ht⟩) (fun _ h => by cases h) dX6_placeAt_18
  rw [nI_clamp (by omega)]

set_option maxHeartbeats 4000000 in
set_option maxRecDepth 100000 in
theorem c_X6_insert (l : Launch) (Z : dzG) (G : dzW) (ad : dzA) (i a cnt af as9 aR own : Nat) (col row fl : Int32) (f fc fw : Nat → Int32) (hsa : ad (11, i) = a) (hs : G (11, i) = some (eO 7 [.int col, .int row, .int fl, .ref (ad (12, i)), .int (nI cnt), .ref af, .ref as9])) (hp : G (12, i) = some (eI Z 441 f)) (hra : ad (2, 0) = aR) (ho : G (2, 0) = some (eO 6 [.ref (ad (3, 0)), .ref (ad (5, 0)), .ref (ad (6, 0)), .ref (ad (7, 0))])) (hc : G (5, 0) = some (eI Z 484 fc)) (hw : G (7, 0) = some (eI Z 484 fw)) (ho2 : own < 484) (hcn : cnt < 441) (hbd : m_bd 484 (cnt, f)) : dzWr l yX6_insert wsX6_insert 2 42 0 0 Z G ad [.ref a, .int (nI own), .ref aR] rv_v (fun (x : Unit) G1 ad1 => (∀ r9 : dzR, r9 ≠ (11, i) → r9 ≠ (12, i) → G1 r9 = G r9 ∧ ad1 r9 = ad r9) ∧ ad = ad1 ∧ (G1 (11, i) = some (eO 7 [.int col, .int row, .int fl, .ref (ad (12, i)), .int (nI (cnt + 1)), .ref af, .ref as9]) ∧ ad (11, i) = a) ∧ G1 (12, i) = some (eI Z 441 (m_ins fw own cnt f)) ∧ ad (12, i) = ad (12, i)) := by
  refine Met.ofW (cc := cX6_insert) (maxL := 4) (ret := none) (by decide) rfl ?_
  intro p e s m args below meth c s₁ B hml hv
  obtain ⟨rfl, hG, hE⟩ := hv
  have hx := B.exec
  have hb := B.bytes
  have hrt := B.returns
  have hts := atoms_spec (ws := wsX6_insert) B.pre
  have hown : s.vm.findClass RX6 = some m.cls := findClass_of_methodNamed B.named
  have hlocks := B.notSynchronized
  have hS : va_S (dz_A Z) s.heap s.heap [] := va_S.rf
  have hl := lv_entry ([.ref a, .int (nI own), .ref aR]) (n := 4) (Nat.le_of_ble_eq_true rfl)
  rw [lg_entry_eq]
  generalize (lg_sl ([.ref a, .int (nI own), .ref aR]) ++ List.replicate (4 - (lg_sl ([.ref a, .int (nI own), .ref aR])).length) Slot.unset).toArray = ls at hl ⊢
  have hl : lv_has ls 4 [(0, .ref a), (1, .int (nI own)), (2, .ref aR)] := hl
  refine lv_aload_n hx hb dX6_insert_0 rfl (lv_at hl 0 rfl) ?_
  refine dz_get hx hb hts (fun _ h => List.mem_cons_of_mem _ (List.mem_append_left _ (List.mem_append_right _ h))) hown hE hG hsa hs rfl 4 (by decide) (hts _ (List.mem_of_getElem? (i := 1) rfl)) (fun _ h9 => h9) rfl dX6_insert_1 ?_
  refine lv_aload_n hx hb dX6_insert_4 rfl (lv_at hl 0 rfl) ?_
  refine dz_get hx hb hts (fun _ h => List.mem_cons_of_mem _ (List.mem_append_left _ (List.mem_append_right _ h))) hown hE hG hsa hs rfl 3 (by decide) (hts _ (List.mem_of_getElem? (i := 2) rfl)) (fun _ h9 => h9) rfl dX6_insert_5 ?_
  refine dz_alen hx hb hE hG rfl hp 0 rfl dX6_insert_8 ?_
  refine lv_icmp_lt (tgt := 13) hx hb dX6_insert_9 (by decide) (fun c_9 => ?_) (fun c_9 => absurd (nI_lt hcn (by decide)) c_9)
  refine lv_aload_n hx hb dX6_insert_13 rfl (lv_at hl 0 rfl) ?_
  refine dz_get hx hb hts (fun _ h => List.mem_cons_of_mem _ (List.mem_append_left _ (List.mem_append_right _ h))) hown hE hG hsa hs rfl 4 (by decide) (hts _ (List.mem_of_getElem? (i := 1) rfl)) (fun _ h9 => h9) rfl dX6_insert_14 ?_
  refine lv_istore_n (lv' := [(3, .int (nI cnt)), (0, .ref a), (1, .int (nI own)), (2, .ref aR)]) hx hb dX6_insert_17 rfl hl (by decide) rfl (fun ls hl => ?_)
  refine dz_lw (α := Nat × (Nat → Int32) × dzW × Array Slot) (fun a9 => (fun (k : Nat) (fk : Nat → Int32) (G_L18 : dzW) (ls : Array Slot) => k) a9.1 a9.2.1 a9.2.2.1 a9.2.2.2) (fun a9 H locs => (fun (k : Nat) (fk : Nat → Int32) (G_L18 : dzW) (ls : Array Slot) => (k ≤ cnt) ∧ (m_sh fw own k fk = m_sh fw own cnt f) ∧ (m_bd 484 (k, fk)) ∧ (∀ r9 : dzR, r9 ≠ (12, i) → G_L18 r9 = G r9 ∧ ad r9 = ad r9) ∧ (G_L18 (12, i) = some (eI Z 441 fk)) ∧ dz_w Z G_L18 ad H ∧ va_S (dz_A Z) s.heap H locs ∧ lv_has ls 4 [(3, .int (nI k)), (0, .ref a), (1, .int (nI own)), (2, .ref aR)]) a9.1 a9.2.1 a9.2.2.1 a9.2.2.2) (fun a9 => F0 m 18 a9.2.2.2 []) (fun a9 H locs hI ih_18 => ?_) (cnt, f, G, ls) ⟨(Nat.le_refl _), rfl, hbd, (fun r9 _ => ⟨rfl, rfl⟩), hp, hG, hS, lv_sub hl [0, 1, 2, 3] rfl⟩
  obtain ⟨k, fk, G_L18, ls⟩ := a9
  obtain ⟨hk, hq, hfk, fr_L18, gp, hG, hS, hl⟩ := hI
  have hk : k ≤ cnt := hk
  have hq : m_sh fw own k fk = m_sh fw own cnt f := hq
  have hfk : m_bd 484 (k, fk) := hfk
  have fr_L18 : ∀ r9 : dzR, r9 ≠ (12, i) → G_L18 r9 = G r9 ∧ ad r9 = ad r9 := fr_L18
  have gp : G_L18 (12, i) = some (eI Z 441 fk) := gp
  have hG : dz_w Z G_L18 ad H := hG
  have hS : va_S (dz_A Z) s.heap H locs := hS
  have hl : lv_has ls 4 [(3, .int (nI k)), (0, .ref a), (1, .int (nI own)), (2, .ref aR)] := hl
  refine lv_iload_n hx hb dX6_insert_18 rfl (lv_at hl 0 rfl) ?_
  refine lv_if_le (tgt := 62) hx hb dX6_insert_19 (by decide) (fun c_19 => ?_) (fun c_19 => ?_)
  · have hk0 : k = 0 := by
      rcases Nat.eq_zero_or_pos k with q | q
      · exact q
      · exact absurd c_19 (nI_nle q (by omega))
    refine lv_aload_n hx hb dX6_insert_62 rfl (lv_at hl 1 rfl) ?_
    refine dz_get hx hb hts (fun _ h => List.mem_cons_of_mem _ (List.mem_append_left _ (List.mem_append_right _ h))) hown hE hG ((fr_L18 _ (dz_n rfl)).2.trans hsa) ((fr_L18 _ (dz_n rfl)).1.trans hs) rfl 3 (by decide) (hts _ (List.mem_of_getElem? (i := 2) rfl)) (fun _ h9 => h9) rfl dX6_insert_63 ?_
    refine lv_iload_n hx hb dX6_insert_66 rfl (lv_at hl 0 rfl) ?_
    refine lv_iload_n hx hb dX6_insert_67 rfl (lv_at hl 2 rfl) ?_
    refine dz_iast hx hb hE hG rfl hS gp (vp_in_nI (by omega) (by decide)) dX6_insert_68 (fun H locs hG hS => ?_)
    obtain ⟨G_1, hG, w_1, o_1⟩ := dz_nm hG
    refine lv_aload_n hx hb dX6_insert_69 rfl (lv_at hl 1 rfl) ?_
    refine lv_dup hx hb dX6_insert_70 rfl ?_
    refine dz_get hx hb hts (fun _ h => List.mem_cons_of_mem _ (List.mem_append_left _ (List.mem_append_right _ h))) hown hE hG ((o_1 _ (dz_n rfl)).2.trans ((fr_L18 _ (dz_n rfl)).2.trans hsa)) ((o_1 _ (dz_n rfl)).1.trans ((fr_L18 _ (dz_n rfl)).1.trans hs)) rfl 4 (by decide) (hts _ (List.mem_of_getElem? (i := 1) rfl)) (fun _ h9 => h9) rfl dX6_insert_71 ?_
    refine lv_iconst (v := 1) hx hb dX6_insert_74 (by decide) ?_
    refine lv_iadd hx hb dX6_insert_75 ?_
    refine lv_topi (fun v_1 ev_1 => ?_)
    obtain rfl : v_1 = nI (cnt + 1) := ev_1.trans (nI_1 cnt)
    refine dz_put hx hb hts (fun _ h => List.mem_cons_of_mem _ (List.mem_append_left _ (List.mem_append_right _ h))) tyX6 tyX6_ok nmX6 hown hE hG ((o_1 _ (dz_n rfl)).2.trans ((fr_L18 _ (dz_n rfl)).2.trans hsa)) hS ((o_1 _ (dz_n rfl)).1.trans ((fr_L18 _ (dz_n rfl)).1.trans hs)) rfl 4 (by decide) (hts _ (List.mem_of_getElem? (i := 1) rfl)) (fun _ h9 => h9) rfl (ty := .int) (by decide +kernel) rfl rfl (fs' := [.int col, .int row, .int fl, .ref (ad (12, i)), .int (nI (cnt + 1)), .ref af, .ref as9]) rfl (Nat.le_of_ble_eq_true rfl) dX6_insert_76 (fun H locs hG hS => ?_)
    obtain ⟨G_2, hG, w_2, o_2⟩ := dz_nm hG
    refine W.widen (k := 0) (n := 0) (by first | omega | decide) (by first | omega | decide) ?_
    refine W.vret hx hb hrt (fun t ht hW => dz_endM (f := rv_v) () hE hS hG ?_ ht hW) (fun q h => hS.2.2 q h) dX6_insert_79
    refine ⟨fun r9 n_0 n_1 => (dz_tr (o_2 r9 n_0) (dz_tr (o_1 r9 n_1) (fr_L18 r9 n_1))), rfl, ?_⟩
    refine ⟨⟨w_2, hsa⟩, ?_, rfl⟩
    have e9 : m_ins fw own cnt f = upd fk (nI k).toNatClampNeg (nI own) := by
      unfold m_ins
      rw [← hq, nI_clamp (by omega)]
      first | (rw [m_sh_e hk0 hlt]; done) | (subst hk0; rfl)
    rw [e9]
    exact ((o_2 _ (dz_n rfl)).1.trans w_1)
  · have hk0 : 0 < k := by
      rcases Nat.eq_zero_or_pos k with q | q
      · subst q; exact absurd (by decide) c_19
      · exact q
    obtain ⟨j9, hj9, ej9⟩ := hfk (k - 1) (by show k - 1 < k; omega)
    have ej9 : fk (k - 1) = nI j9 := ej9
    refine lv_aload_n hx hb dX6_insert_22 rfl (lv_at hl 3 rfl) ?_
    refine lv_aload_n hx hb dX6_insert_23 rfl (lv_at hl 1 rfl) ?_
    refine dz_get hx hb hts (fun _ h => List.mem_cons_of_mem _ (List.mem_append_left _ (List.mem_append_right _ h))) hown hE hG ((fr_L18 _ (dz_n rfl)).2.trans hsa) ((fr_L18 _ (dz_n rfl)).1.trans hs) rfl 3 (by decide) (hts _ (List.mem_of_getElem? (i := 2) rfl)) (fun _ h9 => h9) rfl dX6_insert_24 ?_
    refine lv_iload_n hx hb dX6_insert_27 rfl (lv_at hl 0 rfl) ?_
    refine lv_iconst (v := 1) hx hb dX6_insert_28 (by decide) ?_
    refine lv_isub hx hb dX6_insert_29 ?_
    refine lv_topi (fun v_2 ev_2 => ?_)
    obtain rfl : v_2 = nI (k - 1) := ev_2.trans (pk_sub (a := k) (b := 1) (by omega))
    refine dz_iald hx hb hE hG rfl gp (vp_in_nI (by omega) (by decide)) dX6_insert_30 ?_
    refine lv_topi (fun v_3 ev_3 => ?_)
    obtain rfl : v_3 = nI j9 := ev_3.trans (by rw [nI_clamp (by omega)]; exact ej9)
    refine dz_kRi (va_runV (As := [_]) ⟨hx, hb, hml, hown, hts⟩ (c_X5_wayAt l Z _ _ _ _ _ _ ((fr_L18 _ (dz_n rfl)).2.trans hra) ((fr_L18 _ (dz_n rfl)).1.trans ho) ((fr_L18 _ (dz_n rfl)).1.trans hc) ((fr_L18 _ (dz_n rfl)).1.trans hw) hj9) (cwV 1 hts gX6_insert_X5_wayAt rfl rfl rfl (by decide +kernel) ⟨Nat.le_of_ble_eq_true rfl, Nat.le_of_ble_eq_true rfl⟩) (dz_P.preV hE hS hG ((fr_L18 _ (dz_n rfl)).1.trans ho) rfl ((fr_L18 _ (dz_n rfl)).2.trans hra)) rfl rfl hl.1 rfl (lv_room (Nat.le_of_ble_eq_true rfl)) dX6_insert_31 ⟨Nat.le_of_ble_eq_true rfl, Nat.le_of_ble_eq_true rfl⟩) ?_
    refine lv_aload_n hx hb dX6_insert_34 rfl (lv_at hl 3 rfl) ?_
    refine lv_iload_n hx hb dX6_insert_35 rfl (lv_at hl 2 rfl) ?_
    refine dz_kRi (va_runV (As := [_]) ⟨hx, hb, hml, hown, hts⟩ (c_X5_wayAt l Z _ _ _ _ _ _ ((fr_L18 _ (dz_n rfl)).2.trans hra) ((fr_L18 _ (dz_n rfl)).1.trans ho) ((fr_L18 _ (dz_n rfl)).1.trans hc) ((fr_L18 _ (dz_n rfl)).1.trans hw) ho2) (cwV 1 hts gX6_insert_X5_wayAt rfl rfl rfl (by decide +kernel) ⟨Nat.le_of_ble_eq_true rfl, Nat.le_of_ble_eq_true rfl⟩) (dz_P.preV hE hS hG ((fr_L18 _ (dz_n rfl)).1.trans ho) rfl ((fr_L18 _ (dz_n rfl)).2.trans hra)) rfl rfl hl.1 rfl (lv_room (Nat.le_of_ble_eq_true rfl)) dX6_insert_36 ⟨Nat.le_of_ble_eq_true rfl, Nat.le_of_ble_eq_true rfl⟩) ?_
    refine lv_icmp_le (tgt := 62) hx hb dX6_insert_39 (by decide) (fun c_39 => ?_) (fun c_39 => ?_)
    · have hlt : ¬ fw own < fw (fk (k - 1)).toNatClampNeg := by rw [ej9, nI_clamp (by omega)]; exact Int32.not_lt.mpr c_39
      refine lv_aload_n hx hb dX6_insert_62 rfl (lv_at hl 1 rfl) ?_
      refine dz_get hx hb hts (fun _ h => List.mem_cons_of_mem _ (List.mem_append_left _ (List.mem_append_right _ h))) hown hE hG ((fr_L18 _ (dz_n rfl)).2.trans hsa) ((fr_L18 _ (dz_n rfl)).1.trans hs) rfl 3 (by decide) (hts _ (List.mem_of_getElem? (i := 2) rfl)) (fun _ h9 => h9) rfl dX6_insert_63 ?_
      refine lv_iload_n hx hb dX6_insert_66 rfl (lv_at hl 0 rfl) ?_
      refine lv_iload_n hx hb dX6_insert_67 rfl (lv_at hl 2 rfl) ?_
      refine dz_iast hx hb hE hG rfl hS gp (vp_in_nI (by omega) (by decide)) dX6_insert_68 (fun H locs hG hS => ?_)
      obtain ⟨G_3, hG, w_3, o_3⟩ := dz_nm hG
      refine lv_aload_n hx hb dX6_insert_69 rfl (lv_at hl 1 rfl) ?_
      refine lv_dup hx hb dX6_insert_70 rfl ?_
      refine dz_get hx hb hts (fun _ h => List.mem_cons_of_mem _ (List.mem_append_left _ (List.mem_append_right _ h))) hown hE hG ((o_3 _ (dz_n rfl)).2.trans ((fr_L18 _ (dz_n rfl)).2.trans hsa)) ((o_3 _ (dz_n rfl)).1.trans ((fr_L18 _ (dz_n rfl)).1.trans hs)) rfl 4 (by decide) (hts _ (List.mem_of_getElem? (i := 1) rfl)) (fun _ h9 => h9) rfl dX6_insert_71 ?_
      refine lv_iconst (v := 1) hx hb dX6_insert_74 (by decide) ?_
      refine lv_iadd hx hb dX6_insert_75 ?_
      refine lv_topi (fun v_4 ev_4 => ?_)
      obtain rfl : v_4 = nI (cnt + 1) := ev_4.trans (nI_1 cnt)
      refine dz_put hx hb hts (fun _ h => List.mem_cons_of_mem _ (List.mem_append_left _ (List.mem_append_right _ h))) tyX6 tyX6_ok nmX6 hown hE hG ((o_3 _ (dz_n rfl)).2.trans ((fr_L18 _ (dz_n rfl)).2.trans hsa)) hS ((o_3 _ (dz_n rfl)).1.trans ((fr_L18 _ (dz_n rfl)).1.trans hs)) rfl 4 (by decide) (hts _ (List.mem_of_getElem? (i := 1) rfl)) (fun _ h9 => h9) rfl (ty := .int) (by decide +kernel) rfl rfl (fs' := [.int col, .int row, .int fl, .ref (ad (12, i)), .int (nI (cnt + 1)), .ref af, .ref as9]) rfl (Nat.le_of_ble_eq_true rfl) dX6_insert_76 (fun H locs hG hS => ?_)
      obtain ⟨G_4, hG, w_4, o_4⟩ := dz_nm hG
      refine W.widen (k := 0) (n := 0) (by first | omega | decide) (by first | omega | decide) ?_
      refine W.vret hx hb hrt (fun t ht hW => dz_endM (f := rv_v) () hE hS hG ?_ ht hW) (fun q h => hS.2.2 q h) dX6_insert_79
      refine ⟨fun r9 n_0 n_1 => (dz_tr (o_4 r9 n_0) (dz_tr (o_3 r9 n_1) (fr_L18 r9 n_1))), rfl, ?_⟩
      refine ⟨⟨w_4, hsa⟩, ?_, rfl⟩
      have e9 : m_ins fw own cnt f = upd fk (nI k).toNatClampNeg (nI own) := by
        unfold m_ins
        rw [← hq, nI_clamp (by omega)]
        first | (rw [m_sh_e hk0 hlt]; done) | (subst hk0; rfl)
      rw [e9]
      exact ((o_4 _ (dz_n rfl)).1.trans w_3)
    · have hlt : fw own < fw (fk (k - 1)).toNatClampNeg := by rw [ej9, nI_clamp (by omega)]; exact Int32.not_le.mp c_39
      refine lv_aload_n hx hb dX6_insert_42 rfl (lv_at hl 1 rfl) ?_
      refine dz_get hx hb hts (fun _ h => List.mem_cons_of_mem _ (List.mem_append_left _ (List.mem_append_right _ h))) hown hE hG ((fr_L18 _ (dz_n rfl)).2.trans hsa) ((fr_L18 _ (dz_n rfl)).1.trans hs) rfl 3 (by decide) (hts _ (List.mem_of_getElem? (i := 2) rfl)) (fun _ h9 => h9) rfl dX6_insert_43 ?_
      refine lv_iload_n hx hb dX6_insert_46 rfl (lv_at hl 0 rfl) ?_
      refine lv_aload_n hx hb dX6_insert_47 rfl (lv_at hl 1 rfl) ?_
      refine dz_get hx hb hts (fun _ h => List.mem_cons_of_mem _ (List.mem_append_left _ (List.mem_append_right _ h))) hown hE hG ((fr_L18 _ (dz_n rfl)).2.trans hsa) ((fr_L18 _ (dz_n rfl)).1.trans hs) rfl 3 (by decide) (hts _ (List.mem_of_getElem? (i := 2) rfl)) (fun _ h9 => h9) rfl dX6_insert_48 ?_
      refine lv_iload_n hx hb dX6_insert_51 rfl (lv_at hl 0 rfl) ?_
      refine lv_iconst (v := 1) hx hb dX6_insert_52 (by decide) ?_
      refine lv_isub hx hb dX6_insert_53 ?_
      refine lv_topi (fun v_5 ev_5 => ?_)
      obtain rfl : v_5 = nI (k - 1) := ev_5.trans (pk_sub (a := k) (b := 1) (by omega))
      refine dz_iald hx hb hE hG rfl gp (vp_in_nI (by omega) (by decide)) dX6_insert_54 ?_
      refine lv_topi (fun v_6 ev_6 => ?_)
      obtain rfl : v_6 = fk (k - 1) := ev_6.trans (by rw [nI_clamp (by omega)])
      refine dz_iast hx hb hE hG rfl hS gp (vp_in_nI (by omega) (by decide)) dX6_insert_55 (fun H locs hG hS => ?_)
      obtain ⟨G_5, hG, w_5, o_5⟩ := dz_nm hG
      obtain ⟨v_7, ev_7⟩ : ∃ y : Int32, y = (nI k) + (-1) := ⟨_, rfl⟩
      refine lv_iinc (v := v_7) (lv' := [(3, .int v_7), (0, .ref a), (1, .int (nI own)), (2, .ref aR)]) hx hb dX6_insert_56 hl (k := 0) rfl (by rw [ev_7]; rfl) (by decide) rfl (fun ls hl => ?_)
      refine lv_goto (tgt := 18) hx hb dX6_insert_59 (by decide) ?_
      obtain rfl : v_7 = nI (k - 1) := ev_7.trans (by have h9 := pk_m1 (k - 1); rwa [show k - 1 + 1 = k by omega] at h9)
      exact ih_18 (k - 1, _, G_5, ls) _ _ (by first | (dsimp only; omega) | omega) ⟨(by omega), ((m_sh_s hk0 hlt).symm.trans hq |> fun z => by rw [nI_clamp (by omega)]; exact z), (fun x hx => by rw [nI_clamp (by omega)]; show ∃ j, _ ∧ upd fk k (fk (k - 1)) x = _; rw [pk_un (by simp only at hx; omega)]; exact hfk x (by simp only at hx ⊢; omega)), (fun r9 n_0 => (dz_tr (o_5 r9 n_0) (fr_L18 r9 n_0))), w_5, hG, hS, lv_sub hl [0, 1, 2, 3] rfl⟩

set_option maxHeartbeats 4000000 in
set_option maxRecDepth 100000 in
theorem c_X6_findImages (l : Launch) (Z : dzG) (G : dzW) (ad : dzA) (i aa cnt af as9 aR : Nat) (col row fl : Int32) (f fc fr fw : Nat → Int32) (hsa : ad (11, i) = aa) (hs : G (11, i) = some (eO 7 [.int col, .int row, .int fl, .ref (ad (12, i)), .int (nI cnt), .ref af, .ref as9])) (hp : G (12, i) = some (eI Z 441 f)) (hra : ad (2, 0) = aR) (ho : G (2, 0) = some (eO 6 [.ref (ad (3, 0)), .ref (ad (5, 0)), .ref (ad (6, 0)), .ref (ad (7, 0))])) (hc : G (5, 0) = some (eI Z 484 fc)) (hr : G (6, 0) = some (eI Z 484 fr)) (hw : G (7, 0) = some (eI Z 484 fw)) : dzWr l yX6_findImages wsX6_findImages 3 65 0 0 Z G ad [.ref aa, .ref aR] rv_v (fun (x : Unit) G1 ad1 => (∀ r9 : dzR, r9 ≠ (11, i) → r9 ≠ (12, i) → G1 r9 = G r9 ∧ ad1 r9 = ad r9) ∧ ad = ad1 ∧ (G1 (11, i) = some (eO 7 [.int col, .int row, .int fl, .ref (ad (12, i)), .int (nI (m_la fw (fun j => dz_b (fc j = col ∧ fr j = row)) (0, f) 21).1), .ref af, .ref as9]) ∧ ad (11, i) = aa) ∧ G1 (12, i) = some (eI Z 441 (m_la fw (fun j => dz_b (fc j = col ∧ fr j = row)) (0, f) 21).2)) := by
  refine Met.ofW (cc := cX6_findImages) (maxL := 5) (ret := none) (by decide) rfl ?_
  intro p e s m args below meth c s₁ B hml hv
  obtain ⟨rfl, hG, hE⟩ := hv
  have hx := B.exec
  have hb := B.bytes
  have hrt := B.returns
  have hts := atoms_spec (ws := wsX6_findImages) B.pre
  have hown : s.vm.findClass RX6 = some m.cls := findClass_of_methodNamed B.named
  have hlocks := B.notSynchronized
  have hS : va_S (dz_A Z) s.heap s.heap [] := va_S.rf
  have hl := lv_entry ([.ref aa, .ref aR]) (n := 5) (Nat.le_of_ble_eq_true rfl)
  rw [lg_entry_eq]
  generalize (lg_sl ([.ref aa, .ref aR]) ++ List.replicate (5 - (lg_sl ([.ref aa, .ref aR])).length) Slot.unset).toArray = ls at hl ⊢
  have hl : lv_has ls 5 [(0, .ref aa), (1, .ref aR)] := hl
  refine lv_aload_n hx hb dX6_findImages_0 rfl (lv_at hl 0 rfl) ?_
  refine lv_iconst (v := 0) hx hb dX6_findImages_1 (by decide) ?_
  refine dz_put hx hb hts (fun _ h => List.mem_cons_of_mem _ (List.mem_append_left _ (List.mem_append_right _ h))) tyX6 tyX6_ok nmX6 hown hE hG hsa hS hs rfl 4 (by decide) (hts _ (List.mem_of_getElem? (i := 1) rfl)) (fun _ h9 => h9) rfl (ty := .int) (by decide +kernel) rfl rfl (fs' := [.int col, .int row, .int fl, .ref (ad (12, i)), .int 0, .ref af, .ref as9]) rfl (Nat.le_of_ble_eq_true rfl) dX6_findImages_2 (fun H locs hG hS => ?_)
  obtain ⟨G_1, hG, w_1, o_1⟩ := dz_nm hG
  refine lv_bipush (v := (-10)) hx hb dX6_findImages_5 (by decide) ?_
  refine lv_istore_n (lv' := [(2, .int (-10)), (0, .ref aa), (1, .ref aR)]) hx hb dX6_findImages_7 rfl hl (by decide) rfl (fun ls hl => ?_)
  refine dz_lw (α := Nat × dzW × Array Slot) (fun a9 => (fun (a : Nat) (G_L8 : dzW) (ls : Array Slot) => 21 - a) a9.1 a9.2.1 a9.2.2) (fun a9 H locs => (fun (a : Nat) (G_L8 : dzW) (ls : Array Slot) => (a ≤ 21) ∧ (∀ r9 : dzR, r9 ≠ (11, i) → r9 ≠ (12, i) → G_L8 r9 = G_1 r9 ∧ ad r9 = ad r9) ∧ (G_L8 (11, i) = some (eO 7 [.int col, .int row, .int fl, .ref (ad (12, i)), .int (nI (m_la fw (fun j => dz_b (fc j = col ∧ fr j = row)) (0, f) a).1), .ref af, .ref as9])) ∧ (G_L8 (12, i) = some (eI Z 441 ((m_la fw (fun j => dz_b (fc j = col ∧ fr j = row)) (0, f) a).2))) ∧ dz_w Z G_L8 ad H ∧ va_S (dz_A Z) s.heap H locs ∧ lv_has ls 5 [(2, .int (nI a - 10)), (0, .ref aa), (1, .ref aR)]) a9.1 a9.2.1 a9.2.2) (fun a9 => F0 m 8 a9.2.2 []) (fun a9 H locs hI ih_8 => ?_) (0, G_1, ls) ⟨(Nat.zero_le _), (fun r9 _ _ => ⟨rfl, rfl⟩), w_1, ((o_1 _ (dz_n rfl)).1.trans hp), hG, hS, lv_sub hl [0, 1, 2] rfl⟩
  obtain ⟨a, G_L8, ls⟩ := a9
  obtain ⟨hal, fr_L8, gs1, gp1, hG, hS, hl⟩ := hI
  have hal : a ≤ 21 := hal
  have fr_L8 : ∀ r9 : dzR, r9 ≠ (11, i) → r9 ≠ (12, i) → G_L8 r9 = G_1 r9 ∧ ad r9 = ad r9 := fr_L8
  have gs1 : G_L8 (11, i) = some (eO 7 [.int col, .int row, .int fl, .ref (ad (12, i)), .int (nI (m_la fw (fun j => dz_b (fc j = col ∧ fr j = row)) (0, f) a).1), .ref af, .ref as9]) := gs1
  have gp1 : G_L8 (12, i) = some (eI Z 441 ((m_la fw (fun j => dz_b (fc j = col ∧ fr j = row)) (0, f) a).2)) := gp1
  have hG : dz_w Z G_L8 ad H := hG
  have hS : va_S (dz_A Z) s.heap H locs := hS
  have hl : lv_has ls 5 [(2, .int (nI a - 10)), (0, .ref aa), (1, .ref aR)] := hl
  refine lv_iload_n hx hb dX6_findImages_8 rfl (lv_at hl 0 rfl) ?_
  refine lv_bipush (v := 10) hx hb dX6_findImages_9 (by decide) ?_
  refine lv_icmp_gt (tgt := 66) hx hb dX6_findImages_11 (by decide) (fun c_11 => ?_) (fun c_11 => ?_)
  · have ha2 : a = 21 := (fl_gt a (by omega)).mp c_11
    refine W.widen (k := 0) (n := 0) (by first | omega | decide) (by first | omega | decide) ?_
    refine W.vret hx hb hrt (fun t ht hW => dz_endM (f := rv_v) () hE hS hG ?_ ht hW) (fun q h => hS.2.2 q h) dX6_findImages_66
    refine ⟨fun r9 n_0 n_1 => (dz_tr (fr_L8 r9 n_0 n_1) (o_1 r9 n_0)), rfl, ?_⟩
    rw [ha2] at gs1 gp1
    exact ⟨⟨gs1, hsa⟩, gp1⟩
  · have hal2 : a < 21 := by
      rcases Nat.lt_or_ge a 21 with q | q
      · exact q
      · exact absurd ((fl_gt a (by omega)).mpr (by omega)) c_11
    refine lv_bipush (v := (-10)) hx hb dX6_findImages_14 (by decide) ?_
    refine lv_istore_n (lv' := [(3, .int (-10)), (2, .int (nI a - 10)), (0, .ref aa), (1, .ref aR)]) hx hb dX6_findImages_16 rfl hl (by decide) rfl (fun ls hl => ?_)
    refine dz_lw (α := Nat × dzW × Array Slot) (fun a9 => (fun (b : Nat) (G_L17 : dzW) (ls : Array Slot) => 21 - b) a9.1 a9.2.1 a9.2.2) (fun a9 H locs => (fun (b : Nat) (G_L17 : dzW) (ls : Array Slot) => (b ≤ 21) ∧ (∀ r9 : dzR, r9 ≠ (11, i) → r9 ≠ (12, i) → G_L17 r9 = G_L8 r9 ∧ ad r9 = ad r9) ∧ (G_L17 (11, i) = some (eO 7 [.int col, .int row, .int fl, .ref (ad (12, i)), .int (nI (m_lr fw (fun j => dz_b (fc j = col ∧ fr j = row)) a (m_la fw (fun j => dz_b (fc j = col ∧ fr j = row)) (0, f) a) b).1), .ref af, .ref as9])) ∧ (G_L17 (12, i) = some (eI Z 441 ((m_lr fw (fun j => dz_b (fc j = col ∧ fr j = row)) a (m_la fw (fun j => dz_b (fc j = col ∧ fr j = row)) (0, f) a) b).2))) ∧ dz_w Z G_L17 ad H ∧ va_S (dz_A Z) s.heap H locs ∧ lv_has ls 5 [(3, .int (nI b - 10)), (2, .int (nI a - 10)), (0, .ref aa), (1, .ref aR)]) a9.1 a9.2.1 a9.2.2) (fun a9 => F0 m 17 a9.2.2 []) (fun a9 H locs hI ih_17 => ?_) (0, G_L8, ls) ⟨(Nat.zero_le _), (fun r9 _ _ => ⟨rfl, rfl⟩), gs1, gp1, hG, hS, lv_sub hl [0, 1, 2, 3] rfl⟩
    obtain ⟨b, G_L17, ls⟩ := a9
    obtain ⟨hbl, fr_L17, gs2, gp2, hG, hS, hl⟩ := hI
    have hbl : b ≤ 21 := hbl
    have fr_L17 : ∀ r9 : dzR, r9 ≠ (11, i) → r9 ≠ (12, i) → G_L17 r9 = G_L8 r9 ∧ ad r9 = ad r9 := fr_L17
    have gs2 : G_L17 (11, i) = some (eO 7 [.int col, .int row, .int fl, .ref (ad (12, i)), .int (nI (m_lr fw (fun j => dz_b (fc j = col ∧ fr j = row)) a (m_la fw (fun j => dz_b (fc j = col ∧ fr j = row)) (0, f) a) b).1), .ref af, .ref as9]) := gs2
    have gp2 : G_L17 (12, i) = some (eI Z 441 ((m_lr fw (fun j => dz_b (fc j = col ∧ fr j = row)) a (m_la fw (fun j => dz_b (fc j = col ∧ fr j = row)) (0, f) a) b).2)) := gp2
    have hG : dz_w Z G_L17 ad H := hG
    have hS : va_S (dz_A Z) s.heap H locs := hS
    have hl : lv_has ls 5 [(3, .int (nI b - 10)), (2, .int (nI a - 10)), (0, .ref aa), (1, .ref aR)] := hl
    refine lv_iload_n hx hb dX6_findImages_17 rfl (lv_at hl 0 rfl) ?_
    refine lv_bipush (v := 10) hx hb dX6_findImages_18 (by decide) ?_
    refine lv_icmp_gt (tgt := 60) hx hb dX6_findImages_20 (by decide) (fun c_20 => ?_) (fun c_20 => ?_)
    · have hb2 : b = 21 := (fl_gt b (by omega)).mp c_20
      obtain ⟨v_1, ev_1⟩ : ∃ y : Int32, y = (nI a - 10) + 1 := ⟨_, rfl⟩
      refine lv_iinc (v := v_1) (lv' := [(2, .int v_1), (3, .int (nI b - 10)), (0, .ref aa), (1, .ref aR)]) hx hb dX6_findImages_60 hl (k := 1) rfl (by rw [ev_1]; rfl) (by decide) rfl (fun ls hl => ?_)
      refine lv_goto (tgt := 8) hx hb dX6_findImages_63 (by decide) ?_
      obtain rfl : v_1 = nI (a + 1) - 10 := ev_1.trans (fl_sc a (by omega))
      exact ih_8 (a + 1, G_L17, ls) _ _ (by first | (dsimp only; omega) | omega) ⟨(by omega), (fun r9 n_0 n_1 => (dz_tr (fr_L17 r9 n_0 n_1) (fr_L8 r9 n_0 n_1))), (by have z := gs2; rw [hb2] at z; exact z), (by have z := gp2; rw [hb2] at z; exact z), hG, hS, lv_sub hl [0, 2, 3] rfl⟩
    · have hbl2 : b < 21 := by
        rcases Nat.lt_or_ge b 21 with q | q
        · exact q
        · exact absurd ((fl_gt b (by omega)).mpr (by omega)) c_20
      refine lv_iload_n hx hb dX6_findImages_23 rfl (lv_at hl 0 rfl) ?_
      refine lv_iload_n hx hb dX6_findImages_24 rfl (lv_at hl 1 rfl) ?_
      refine dz_kRi (va_runS (As := [_, _]) ⟨hx, hb, hml, hown, hts⟩ (c_X5_placeOf l Z _ _ _ _ ) (va_cwS 2 hts gX6_findImages_X5_placeOf rfl rfl rfl (by decide +kernel) ⟨Nat.le_of_ble_eq_true rfl, Nat.le_of_ble_eq_true rfl⟩) (dz_P.pre hE hS hG) rfl rfl hl.1 rfl (lv_room (Nat.le_of_ble_eq_true rfl)) dX6_findImages_25 ⟨Nat.le_of_ble_eq_true rfl, Nat.le_of_ble_eq_true rfl⟩) ?_
      refine lv_topi (fun v_2 ev_2 => ?_)
      obtain rfl : v_2 = nI (22 * a + b) := ev_2.trans (fl_pl a (by omega) b (by omega))
      refine lv_istore (lv' := [(4, .int (nI (22 * a + b))), (3, .int (nI b - 10)), (2, .int (nI a - 10)), (0, .ref aa), (1, .ref aR)]) hx hb dX6_findImages_28 hl (by decide) rfl (fun ls hl => ?_)
      refine lv_aload_n hx hb dX6_findImages_30 rfl (lv_at hl 4 rfl) ?_
      refine lv_iload hx hb dX6_findImages_31 (lv_at hl 0 rfl) ?_
      refine lv_aload_n hx hb dX6_findImages_33 rfl (lv_at hl 3 rfl) ?_
      refine dz_get hx hb hts (fun _ h => List.mem_cons_of_mem _ (List.mem_append_left _ (List.mem_append_right _ h))) hown hE hG hsa gs2 rfl 0 (by decide) (hts _ (List.mem_of_getElem? (i := 2) rfl)) (fun _ h9 => h9) rfl dX6_findImages_34 ?_
      refine lv_aload_n hx hb dX6_findImages_37 rfl (lv_at hl 3 rfl) ?_
      refine dz_get hx hb hts (fun _ h => List.mem_cons_of_mem _ (List.mem_append_left _ (List.mem_append_right _ h))) hown hE hG hsa gs2 rfl 1 (by decide) (hts _ (List.mem_of_getElem? (i := 3) rfl)) (fun _ h9 => h9) rfl dX6_findImages_38 ?_
      refine dz_kRi (va_runV (As := [_, _, _]) ⟨hx, hb, hml, hown, hts⟩ (c_X5_comesFrom l Z _ _ _ _ _ _ _ _ ((fr_L17 _ (dz_n rfl) (dz_n rfl)).2.trans ((fr_L8 _ (dz_n rfl) (dz_n rfl)).2.trans ((o_1 _ (dz_n rfl)).2.trans hra))) ((fr_L17 _ (dz_n rfl) (dz_n rfl)).1.trans ((fr_L8 _ (dz_n rfl) (dz_n rfl)).1.trans ((o_1 _ (dz_n rfl)).1.trans ho))) ((fr_L17 _ (dz_n rfl) (dz_n rfl)).1.trans ((fr_L8 _ (dz_n rfl) (dz_n rfl)).1.trans ((o_1 _ (dz_n rfl)).1.trans hc))) ((fr_L17 _ (dz_n rfl) (dz_n rfl)).1.trans ((fr_L8 _ (dz_n rfl) (dz_n rfl)).1.trans ((o_1 _ (dz_n rfl)).1.trans hr))) (by omega)) (cwV 3 hts gX6_findImages_X5_comesFrom rfl rfl rfl (by decide +kernel) ⟨Nat.le_of_ble_eq_true rfl, Nat.le_of_ble_eq_true rfl⟩) (dz_P.preV hE hS hG ((fr_L17 _ (dz_n rfl) (dz_n rfl)).1.trans ((fr_L8 _ (dz_n rfl) (dz_n rfl)).1.trans ((o_1 _ (dz_n rfl)).1.trans ho))) rfl ((fr_L17 _ (dz_n rfl) (dz_n rfl)).2.trans ((fr_L8 _ (dz_n rfl) (dz_n rfl)).2.trans ((o_1 _ (dz_n rfl)).2.trans hra)))) rfl rfl hl.1 rfl (lv_room (Nat.le_of_ble_eq_true rfl)) dX6_findImages_41 ⟨Nat.le_of_ble_eq_true rfl, Nat.le_of_ble_eq_true rfl⟩) ?_
      refine lv_if_eq (tgt := 54) hx hb dX6_findImages_44 (by decide) (fun c_44 => ?_) (fun c_44 => ?_)
      · have hst : (m_lr fw (fun j => dz_b (fc j = col ∧ fr j = row)) a (m_la fw (fun j => dz_b (fc j = col ∧ fr j = row)) (0, f) a) (b + 1)) = (m_lr fw (fun j => dz_b (fc j = col ∧ fr j = row)) a (m_la fw (fun j => dz_b (fc j = col ∧ fr j = row)) (0, f) a) b) := if_pos c_44
        obtain ⟨v_3, ev_3⟩ : ∃ y : Int32, y = (nI b - 10) + 1 := ⟨_, rfl⟩
        refine lv_iinc (v := v_3) (lv' := [(3, .int v_3), (4, .int (nI (22 * a + b))), (2, .int (nI a - 10)), (0, .ref aa), (1, .ref aR)]) hx hb dX6_findImages_54 hl (k := 1) rfl (by rw [ev_3]; rfl) (by decide) rfl (fun ls hl => ?_)
        refine lv_goto (tgt := 17) hx hb dX6_findImages_57 (by decide) ?_
        obtain rfl : v_3 = nI (b + 1) - 10 := ev_3.trans (fl_sc b (by omega))
        exact ih_17 (b + 1, G_L17, ls) _ _ (by first | (dsimp only; omega) | omega) ⟨(by omega), (fun r9 n_0 n_1 => (fr_L17 r9 n_0 n_1)), (by rw [hst]; exact gs2), (by rw [hst]; exact gp2), hG, hS, lv_sub hl [0, 2, 3, 4] rfl⟩
      · have hst : (m_lr fw (fun j => dz_b (fc j = col ∧ fr j = row)) a (m_la fw (fun j => dz_b (fc j = col ∧ fr j = row)) (0, f) a) (b + 1)) = ((m_lr fw (fun j => dz_b (fc j = col ∧ fr j = row)) a (m_la fw (fun j => dz_b (fc j = col ∧ fr j = row)) (0, f) a) b).1 + 1, m_ins fw (22 * a + b) (m_lr fw (fun j => dz_b (fc j = col ∧ fr j = row)) a (m_la fw (fun j => dz_b (fc j = col ∧ fr j = row)) (0, f) a) b).1 (m_lr fw (fun j => dz_b (fc j = col ∧ fr j = row)) a (m_la fw (fun j => dz_b (fc j = col ∧ fr j = row)) (0, f) a) b).2) := if_neg c_44
        refine lv_aload_n hx hb dX6_findImages_47 rfl (lv_at hl 3 rfl) ?_
        refine lv_iload hx hb dX6_findImages_48 (lv_at hl 0 rfl) ?_
        refine lv_aload_n hx hb dX6_findImages_50 rfl (lv_at hl 4 rfl) ?_
        refine dz_kMv (va_runV (As := [_, _]) ⟨hx, hb, hml, hown, hts⟩ (c_X6_insert l Z _ _ _ _ _ _ _ _ (22 * a + b) _ _ _ _ _ _ hsa gs2 gp2 ((fr_L17 _ (dz_n rfl) (dz_n rfl)).2.trans ((fr_L8 _ (dz_n rfl) (dz_n rfl)).2.trans ((o_1 _ (dz_n rfl)).2.trans hra))) ((fr_L17 _ (dz_n rfl) (dz_n rfl)).1.trans ((fr_L8 _ (dz_n rfl) (dz_n rfl)).1.trans ((o_1 _ (dz_n rfl)).1.trans ho))) ((fr_L17 _ (dz_n rfl) (dz_n rfl)).1.trans ((fr_L8 _ (dz_n rfl) (dz_n rfl)).1.trans ((o_1 _ (dz_n rfl)).1.trans hc))) ((fr_L17 _ (dz_n rfl) (dz_n rfl)).1.trans ((fr_L8 _ (dz_n rfl) (dz_n rfl)).1.trans ((o_1 _ (dz_n rfl)).1.trans hw))) (by omega) (by have h1 := m_lr_c (w := fw) (P := (fun j => dz_b (fc j = col ∧ fr j = row))) (a := a) (q := (m_la fw (fun j => dz_b (fc j = col ∧ fr j = row)) (0, f) a)) b; have h2 := m_la_c (w := fw) (P := (fun j => dz_b (fc j = col ∧ fr j = row))) (f := f) a; omega) ((m_lr_bd (m_la_bd a) b).mono (by omega))) (cwV 2 hts gX6_findImages_X6_insert rfl rfl rfl (by decide +kernel) ⟨Nat.le_of_ble_eq_true rfl, Nat.le_of_ble_eq_true rfl⟩) (dz_P.preV hE hS hG gs2 rfl hsa) rfl rfl hl.1 rfl (lv_room (Nat.le_of_ble_eq_true rfl)) dX6_findImages_51 ⟨Nat.le_of_ble_eq_true rfl, Nat.le_of_ble_eq_true rfl⟩) hS (fun G_51_1 ad_51_1 H locs hp_51_1 hG hS => ?_)
        obtain ⟨fr_51_1, rfl, g_51_1⟩ := hp_51_1
        obtain ⟨v_4, ev_4⟩ : ∃ y : Int32, y = (nI b - 10) + 1 := ⟨_, rfl⟩
        refine lv_iinc (v := v_4) (lv' := [(3, .int v_4), (4, .int (nI (22 * a + b))), (2, .int (nI a - 10)), (0, .ref aa), (1, .ref aR)]) hx hb dX6_findImages_54 hl (k := 1) rfl (by rw [ev_4]; rfl) (by decide) rfl (fun ls hl => ?_)
        refine lv_goto (tgt := 17) hx hb dX6_findImages_57 (by decide) ?_
        obtain rfl : v_4 = nI (b + 1) - 10 := ev_4.trans (fl_sc b (by omega))
        exact ih_17 (b + 1, G_51_1, ls) _ _ (by first | (dsimp only; omega) | omega) ⟨(by omega), (fun r9 n_0 n_1 => (dz_tr (fr_51_1 r9 n_0 n_1) (fr_L17 r9 n_0 n_1))), (by rw [hst]; exact g_51_1.1.1), (by rw [hst]; exact g_51_1.2.1), hG, hS, lv_sub hl [0, 2, 3, 4] rfl⟩

set_option maxHeartbeats 4000000 in
set_option maxRecDepth 100000 in
theorem c_X6_lightOn (l : Launch) (Z : dzG) (G : dzW) (ad : dzA) (i aa cnt af as9 nfl : Nat) (col row fl dy : Int32) (fd fb : Nat → Int32) (fx : Nat → Nat) (hsa : ad (11, i) = aa) (hs : G (11, i) = some (eO 7 [.int col, .int row, .int fl, .ref (ad (12, i)), .int (nI cnt), .ref af, .ref as9])) (haf : ad (13, i) = af) (hfl : dz_L Z G ad (13, i) (14, i) nfl (fun j => ad (17, fx j))) (hfo : ∀ j, j < nfl → G (17, fx j) = some (eO 3 [.int (fd (fx j)), .int (fb (fx j))])) (hnf : nfl ≤ 60) : dzRd l yX6_lightOn wsX6_lightOn 3 64 Z G ad [.ref aa, .int dy] (some (.int (m_pos (m_lgt fl fd fb fx dy nfl)))) := by
  refine Met.ofW (cc := cX6_lightOn) (maxL := 4) (ret := (some .int)) (by decide) rfl ?_
  intro p e s m args below meth c s₁ B hml hv
  obtain ⟨rfl, hG, hE⟩ := hv
  have hx := B.exec
  have hb := B.bytes
  have hrt := B.returns
  have hts := atoms_spec (ws := wsX6_lightOn) B.pre
  have hown : s.vm.findClass RX6 = some m.cls := findClass_of_methodNamed B.named
  have hlocks := B.notSynchronized
  have hS : va_S (dz_A Z) s.heap s.heap [] := va_S.rf
  have hl := lv_entry ([.ref aa, .int dy]) (n := 4) (Nat.le_of_ble_eq_true rfl)
  rw [lg_entry_eq]
  generalize (lg_sl ([.ref aa, .int dy]) ++ List.replicate (4 - (lg_sl ([.ref aa, .int dy])).length) Slot.unset).toArray = ls at hl ⊢
  have hl : lv_has ls 4 [(0, .ref aa), (1, .int dy)] := hl
  refine lv_aload_n hx hb dX6_lightOn_0 rfl (lv_at hl 0 rfl) ?_
  refine dz_get hx hb hts (fun _ h => List.mem_cons_of_mem _ (List.mem_append_left _ (List.mem_append_left _ (List.mem_append_right _ h)))) hown hE hG hsa hs rfl 2 (by decide) (hts _ (List.mem_of_getElem? (i := 1) rfl)) (fun _ h9 => h9) rfl dX6_lightOn_1 ?_
  refine lv_istore_n (lv' := [(2, .int fl), (0, .ref aa), (1, .int dy)]) hx hb dX6_lightOn_4 rfl hl (by decide) rfl (fun ls hl => ?_)
  refine lv_iconst (v := 0) hx hb dX6_lightOn_5 (by decide) ?_
  refine lv_istore_n (lv' := [(3, .int 0), (2, .int fl), (0, .ref aa), (1, .int dy)]) hx hb dX6_lightOn_6 rfl hl (by decide) rfl (fun ls hl => ?_)
  refine dz_lp (α := Nat × Array Slot) (fun a9 => (fun (k : Nat) (ls : Array Slot) => nfl - k) a9.1 a9.2) (fun a9 => (fun (k : Nat) (ls : Array Slot) => (k ≤ nfl) ∧ lv_has ls 4 [(3, .int (nI k)), (2, .int (m_lgt fl fd fb fx dy k)), (0, .ref aa), (1, .int dy)]) a9.1 a9.2) (fun a9 => F0 m 7 a9.2 []) (fun a9 hI ih_7 => ?_) (0, ls) ⟨(Nat.zero_le _), lv_sub hl [0, 1, 2, 3] rfl⟩
  obtain ⟨k, ls⟩ := a9
  obtain ⟨hk, hl⟩ := hI
  have hk : k ≤ nfl := hk
  have hl : lv_has ls 4 [(3, .int (nI k)), (2, .int (m_lgt fl fd fb fx dy k)), (0, .ref aa), (1, .int dy)] := hl
  refine lv_iload_n hx hb dX6_lightOn_7 rfl (lv_at hl 0 rfl) ?_
  refine lv_aload_n hx hb dX6_lightOn_8 rfl (lv_at hl 2 rfl) ?_
  refine dz_get hx hb hts (fun _ h => List.mem_cons_of_mem _ (List.mem_append_left _ (List.mem_append_left _ (List.mem_append_right _ h)))) hown hE hG hsa hs rfl 5 (by decide) (hts _ (List.mem_of_getElem? (i := 2) rfl)) (fun _ h9 => h9) rfl dX6_lightOn_9 ?_
  refine dz_kRi (va_runV (As := []) ⟨hx, hb, hml, hown, hts⟩ (c_Jx4a65c_size_8abf5 l Z _ _ _ _ _ _ _ haf hfl) (cwV 0 hts gX6_lightOn_Jx4a65c_size_8abf5 rfl rfl rfl (by decide +kernel) ⟨Nat.le_of_ble_eq_true rfl, Nat.le_of_ble_eq_true rfl⟩) (dz_P.preL hE hS hG hfl haf) rfl rfl hl.1 rfl (lv_room (Nat.le_of_ble_eq_true rfl)) dX6_lightOn_12 ⟨Nat.le_of_ble_eq_true rfl, Nat.le_of_ble_eq_true rfl⟩) ?_
  refine lv_icmp_ge (tgt := 59) hx hb dX6_lightOn_15 (by decide) (fun c_15 => ?_) (fun c_15 => ?_)
  · have hi2 : k = nfl := by have := (nI_leI (by omega) (by omega)).mp c_15; omega
    refine lv_iload_n hx hb dX6_lightOn_59 rfl (lv_at hl 1 rfl) ?_
    refine lv_iconst (v := 0) hx hb dX6_lightOn_60 (by decide) ?_
    refine va_mmax hx hb (hml.trans hl.1.symm) hown (hts _ (List.mem_of_getElem? (i := 4) rfl)) (hts _ (List.mem_of_getElem? (i := 5) rfl)) (hts _ (List.mem_of_getElem? (i := 6) rfl)) (hts _ (List.mem_of_getElem? (i := 7) rfl)) (Nat.le_of_ble_eq_true rfl) (Nat.le_of_ble_eq_true rfl) (Nat.le_of_ble_eq_true rfl) (Nat.le_of_ble_eq_true rfl) dX6_lightOn_61 ?_
    refine W.iret hx hb hrt (fun t ht hW => ⟨congrArg (fun x => Outcome.returned (some (Value.int x))) ?_, ht⟩) (fun _ h => by cases h) dX6_lightOn_64
    rw [hi2]; rfl
  · have hlt : k < nfl := by
      rcases Nat.lt_or_ge k nfl with q | q
      · exact q
      · exact absurd ((nI_leI (by omega) (by omega)).mpr q) c_15
    refine lv_aload_n hx hb dX6_lightOn_18 rfl (lv_at hl 2 rfl) ?_
    refine dz_get hx hb hts (fun _ h => List.mem_cons_of_mem _ (List.mem_append_left _ (List.mem_append_left _ (List.mem_append_right _ h)))) hown hE hG hsa hs rfl 5 (by decide) (hts _ (List.mem_of_getElem? (i := 2) rfl)) (fun _ h9 => h9) rfl dX6_lightOn_19 ?_
    refine lv_iload_n hx hb dX6_lightOn_22 rfl (lv_at hl 0 rfl) ?_
    refine dz_kRr (va_runV (As := [_]) ⟨hx, hb, hml, hown, hts⟩ (c_Jx4a65c_get_915e3 l Z _ _ _ _ _ _ _ _ haf hfl hlt) (cwV 1 hts gX6_lightOn_Jx4a65c_get_915e3 rfl rfl rfl (by decide +kernel) ⟨Nat.le_of_ble_eq_true rfl, Nat.le_of_ble_eq_true rfl⟩) (dz_P.preL hE hS hG hfl haf) rfl rfl hl.1 rfl (lv_room (Nat.le_of_ble_eq_true rfl)) dX6_lightOn_23 ⟨Nat.le_of_ble_eq_true rfl, Nat.le_of_ble_eq_true rfl⟩) ?_
    refine dz_cst hx hb hown (hts _ (List.mem_of_getElem? (i := 3) rfl)) hE hG rfl (hfo k hlt) rfl dX6_lightOn_26 ?_
    refine dz_getN (host := "Delaylens") hx hb hts (fun _ h => List.mem_cons_of_mem _ (List.mem_append_left _ (List.mem_append_right _ h))) hown hE hG rfl (hfo k hlt) rfl 0 (by decide) (by decide +kernel) (fun _ h9 => h9) rfl dX6_lightOn_29 ?_
    refine lv_iload_n hx hb dX6_lightOn_32 rfl (lv_at hl 3 rfl) ?_
    refine lv_icmp_gt (tgt := 53) hx hb dX6_lightOn_33 (by decide) (fun c_33 => ?_) (fun c_33 => ?_)
    · have hst : m_lgt fl fd fb fx dy (k + 1) = m_lgt fl fd fb fx dy k := if_pos c_33
      obtain ⟨v_1, ev_1⟩ : ∃ y : Int32, y = (nI k) + 1 := ⟨_, rfl⟩
      refine lv_iinc (v := v_1) (lv' := [(3, .int v_1), (2, .int (m_lgt fl fd fb fx dy k)), (0, .ref aa), (1, .int dy)]) hx hb dX6_lightOn_53 hl (k := 0) rfl (by rw [ev_1]; rfl) (by decide) rfl (fun ls hl => ?_)
      refine lv_goto (tgt := 7) hx hb dX6_lightOn_56 (by decide) ?_
      obtain rfl : v_1 = nI (k + 1) := ev_1.trans (nI_1 k)
      rw [show (m_lgt fl fd fb fx dy k) = m_lgt fl fd fb fx dy (k + 1) from hst.symm] at hl
      exact ih_7 (k + 1, ls) (by first | (dsimp only; omega) | omega) ⟨(by omega), lv_sub hl [0, 1, 2, 3] rfl⟩
    · have hst : m_lgt fl fd fb fx dy (k + 1) = m_lgt fl fd fb fx dy k + fb (fx k) := if_neg c_33
      refine lv_iload_n hx hb dX6_lightOn_36 rfl (lv_at hl 1 rfl) ?_
      refine lv_aload_n hx hb dX6_lightOn_37 rfl (lv_at hl 2 rfl) ?_
      refine dz_get hx hb hts (fun _ h => List.mem_cons_of_mem _ (List.mem_append_left _ (List.mem_append_left _ (List.mem_append_right _ h)))) hown hE hG hsa hs rfl 5 (by decide) (hts _ (List.mem_of_getElem? (i := 2) rfl)) (fun _ h9 => h9) rfl dX6_lightOn_38 ?_
      refine lv_iload_n hx hb dX6_lightOn_41 rfl (lv_at hl 0 rfl) ?_
      refine dz_kRr (va_runV (As := [_]) ⟨hx, hb, hml, hown, hts⟩ (c_Jx4a65c_get_915e3 l Z _ _ _ _ _ _ _ _ haf hfl hlt) (cwV 1 hts gX6_lightOn_Jx4a65c_get_915e3 rfl rfl rfl (by decide +kernel) ⟨Nat.le_of_ble_eq_true rfl, Nat.le_of_ble_eq_true rfl⟩) (dz_P.preL hE hS hG hfl haf) rfl rfl hl.1 rfl (lv_room (Nat.le_of_ble_eq_true rfl)) dX6_lightOn_42 ⟨Nat.le_of_ble_eq_true rfl, Nat.le_of_ble_eq_true rfl⟩) ?_
      refine dz_cst hx hb hown (hts _ (List.mem_of_getElem? (i := 3) rfl)) hE hG rfl (hfo k hlt) rfl dX6_lightOn_45 ?_
      refine dz_getN (host := "Delaylens") hx hb hts (fun _ h => List.mem_cons_of_mem _ (List.mem_append_left _ (List.mem_append_right _ h))) hown hE hG rfl (hfo k hlt) rfl 1 (by decide) (by decide +kernel) (fun _ h9 => h9) rfl dX6_lightOn_48 ?_
      refine lv_iadd hx hb dX6_lightOn_51 ?_
      refine lv_topi (fun v_2 ev_2 => ?_)
      refine lv_istore_n (lv' := [(2, .int v_2), (3, .int (nI k)), (0, .ref aa), (1, .int dy)]) hx hb dX6_lightOn_52 rfl hl (by decide) rfl (fun ls hl => ?_)
      obtain ⟨v_3, ev_3⟩ : ∃ y : Int32, y = (nI k) + 1 := ⟨_, rfl⟩
      refine lv_iinc (v := v_3) (lv' := [(3, .int v_3), (2, .int v_2), (0, .ref aa), (1, .int dy)]) hx hb dX6_lightOn_53 hl (k := 1) rfl (by rw [ev_3]; rfl) (by decide) rfl (fun ls hl => ?_)
      refine lv_goto (tgt := 7) hx hb dX6_lightOn_56 (by decide) ?_
      obtain rfl : v_3 = nI (k + 1) := ev_3.trans (nI_1 k)
      obtain rfl : v_2 = m_lgt fl fd fb fx dy (k + 1) := ev_2.trans hst.symm
      exact ih_7 (k + 1, ls) (by first | (dsimp only; omega) | omega) ⟨(by omega), lv_sub hl [0, 1, 2, 3] rfl⟩

set_option maxHeartbeats 4000000 in
set_option maxRecDepth 100000 in
theorem c_X6_starsOn (l : Launch) (Z : dzG) (G : dzW) (ad : dzA) (i aa cnt af as9 nst : Nat) (col row fl rk dy : Int32) (sr sd sw sg : Nat → Int32) (sx : Nat → Nat) (hsa : ad (11, i) = aa) (hs : G (11, i) = some (eO 7 [.int col, .int row, .int fl, .ref (ad (12, i)), .int (nI cnt), .ref af, .ref as9])) (haf : ad (15, i) = as9) (hfl : dz_L Z G ad (15, i) (16, i) nst (fun j => ad (18, sx j))) (hso : ∀ j, j < nst → G (18, sx j) = some (eO 8 [.int (sr (sx j)), .int (sd (sx j)), .int (sw (sx j)), .int (sg (sx j))])) (hnf : nst ≤ 60) (hsw : ∀ j, j < nst → 1 ≤ sw (sx j) ∧ ¬ sw (sx j) = 0) : dzRd l yX6_starsOn wsX6_starsOn 3 64 Z G ad [.ref aa, .int rk, .int dy] (some (.int (m_sts sr sd sw sg sx rk dy nst))) := by
  refine Met.ofW (cc := cX6_starsOn) (maxL := 5) (ret := (some .int)) (by decide) rfl ?_
  intro p e s m args below meth c s₁ B hml hv
  obtain ⟨rfl, hG, hE⟩ := hv
  have hx := B.exec
  have hb := B.bytes
  have hrt := B.returns
  have hts := atoms_spec (ws := wsX6_starsOn) B.pre
  have hown : s.vm.findClass RX6 = some m.cls := findClass_of_methodNamed B.named
  have hlocks := B.notSynchronized
  have hS : va_S (dz_A Z) s.heap s.heap [] := va_S.rf
  have hl := lv_entry ([.ref aa, .int rk, .int dy]) (n := 5) (Nat.le_of_ble_eq_true rfl)
  rw [lg_entry_eq]
  generalize (lg_sl ([.ref aa, .int rk, .int dy]) ++ List.replicate (5 - (lg_sl ([.ref aa, .int rk, .int dy])).length) Slot.unset).toArray = ls at hl ⊢
  have hl : lv_has ls 5 [(0, .ref aa), (1, .int rk), (2, .int dy)] := hl
  refine lv_iconst (v := 0) hx hb dX6_starsOn_0 (by decide) ?_
  refine lv_istore_n (lv' := [(3, .int 0), (0, .ref aa), (1, .int rk), (2, .int dy)]) hx hb dX6_starsOn_1 rfl hl (by decide) rfl (fun ls hl => ?_)
  refine lv_iconst (v := 0) hx hb dX6_starsOn_2 (by decide) ?_
  refine lv_istore (lv' := [(4, .int 0), (3, .int 0), (0, .ref aa), (1, .int rk), (2, .int dy)]) hx hb dX6_starsOn_3 hl (by decide) rfl (fun ls hl => ?_)
  refine dz_lp (α := Nat × Array Slot) (fun a9 => (fun (k : Nat) (ls : Array Slot) => nst - k) a9.1 a9.2) (fun a9 => (fun (k : Nat) (ls : Array Slot) => (k ≤ nst) ∧ lv_has ls 5 [(4, .int (nI k)), (3, .int (m_sts sr sd sw sg sx rk dy k)), (0, .ref aa), (1, .int rk), (2, .int dy)]) a9.1 a9.2) (fun a9 => F0 m 5 a9.2 []) (fun a9 hI ih_5 => ?_) (0, ls) ⟨(Nat.zero_le _), lv_sub hl [0, 1, 2, 3, 4] rfl⟩
  obtain ⟨k, ls⟩ := a9
  obtain ⟨hk, hl⟩ := hI
  have hk : k ≤ nst := hk
  have hl : lv_has ls 5 [(4, .int (nI k)), (3, .int (m_sts sr sd sw sg sx rk dy k)), (0, .ref aa), (1, .int rk), (2, .int dy)] := hl
  refine lv_iload hx hb dX6_starsOn_5 (lv_at hl 0 rfl) ?_
  refine lv_aload_n hx hb dX6_starsOn_7 rfl (lv_at hl 2 rfl) ?_
  refine dz_get hx hb hts (fun _ h => List.mem_cons_of_mem _ (List.mem_append_left _ (List.mem_append_left _ (List.mem_append_right _ h)))) hown hE hG hsa hs rfl 6 (by decide) (hts _ (List.mem_of_getElem? (i := 1) rfl)) (fun _ h9 => h9) rfl dX6_starsOn_8 ?_
  refine dz_kRi (va_runV (As := []) ⟨hx, hb, hml, hown, hts⟩ (c_Jx4a65c_size_8abf5 l Z _ _ _ _ _ _ _ haf hfl) (cwV 0 hts gX6_starsOn_Jx4a65c_size_8abf5 rfl rfl rfl (by decide +kernel) ⟨Nat.le_of_ble_eq_true rfl, Nat.le_of_ble_eq_true rfl⟩) (dz_P.preL hE hS hG hfl haf) rfl rfl hl.1 rfl (lv_room (Nat.le_of_ble_eq_true rfl)) dX6_starsOn_11 ⟨Nat.le_of_ble_eq_true rfl, Nat.le_of_ble_eq_true rfl⟩) ?_
  refine lv_icmp_ge (tgt := 61) hx hb dX6_starsOn_14 (by decide) (fun c_14 => ?_) (fun c_14 => ?_)
  · have hi2 : k = nst := by have := (nI_leI (by omega) (by omega)).mp c_14; omega
    refine lv_iload_n hx hb dX6_starsOn_61 rfl (lv_at hl 1 rfl) ?_
    refine W.iret hx hb hrt (fun t ht hW => ⟨congrArg (fun x => Outcome.returned (some (Value.int x))) ?_, ht⟩) (fun _ h => by cases h) dX6_starsOn_62
    rw [hi2]
  · have hlt : k < nst := by
      rcases Nat.lt_or_ge k nst with q | q
      · exact q
      · exact absurd ((nI_leI (by omega) (by omega)).mpr q) c_14
    refine lv_aload_n hx hb dX6_starsOn_17 rfl (lv_at hl 2 rfl) ?_
    refine dz_get hx hb hts (fun _ h => List.mem_cons_of_mem _ (List.mem_append_left _ (List.mem_append_left _ (List.mem_append_right _ h)))) hown hE hG hsa hs rfl 6 (by decide) (hts _ (List.mem_of_getElem? (i := 1) rfl)) (fun _ h9 => h9) rfl dX6_starsOn_18 ?_
    refine lv_iload hx hb dX6_starsOn_21 (lv_at hl 0 rfl) ?_
    refine dz_kRr (va_runV (As := [_]) ⟨hx, hb, hml, hown, hts⟩ (c_Jx4a65c_get_915e3 l Z _ _ _ _ _ _ _ _ haf hfl hlt) (cwV 1 hts gX6_starsOn_Jx4a65c_get_915e3 rfl rfl rfl (by decide +kernel) ⟨Nat.le_of_ble_eq_true rfl, Nat.le_of_ble_eq_true rfl⟩) (dz_P.preL hE hS hG hfl haf) rfl rfl hl.1 rfl (lv_room (Nat.le_of_ble_eq_true rfl)) dX6_starsOn_23 ⟨Nat.le_of_ble_eq_true rfl, Nat.le_of_ble_eq_true rfl⟩) ?_
    refine dz_cst hx hb hown (hts _ (List.mem_of_getElem? (i := 2) rfl)) hE hG rfl (hso k hlt) rfl dX6_starsOn_26 ?_
    refine dz_getN (host := "Delaylens") hx hb hts (fun _ h => List.mem_cons_of_mem _ (List.mem_append_left _ (List.mem_append_right _ h))) hown hE hG rfl (hso k hlt) rfl 0 (by decide) (by decide +kernel) (fun _ h9 => h9) rfl dX6_starsOn_29 ?_
    refine lv_iload_n hx hb dX6_starsOn_32 rfl (lv_at hl 3 rfl) ?_
    refine lv_icmp_ne (tgt := 55) hx hb dX6_starsOn_33 (by decide) (fun c_33 => ?_) (fun c_33 => ?_)
    · have hst : m_sts sr sd sw sg sx rk dy (k + 1) = m_sts sr sd sw sg sx rk dy k := if_neg c_33
      obtain ⟨v_1, ev_1⟩ : ∃ y : Int32, y = (nI k) + 1 := ⟨_, rfl⟩
      refine lv_iinc (v := v_1) (lv' := [(4, .int v_1), (3, .int (m_sts sr sd sw sg sx rk dy k)), (0, .ref aa), (1, .int rk), (2, .int dy)]) hx hb dX6_starsOn_55 hl (k := 0) rfl (by rw [ev_1]; rfl) (by decide) rfl (fun ls hl => ?_)
      refine lv_goto (tgt := 5) hx hb dX6_starsOn_58 (by decide) ?_
      obtain rfl : v_1 = nI (k + 1) := ev_1.trans (nI_1 k)
      rw [show (m_sts sr sd sw sg sx rk dy k) = m_sts sr sd sw sg sx rk dy (k + 1) from hst.symm] at hl
      exact ih_5 (k + 1, ls) (by first | (dsimp only; omega) | omega) ⟨(by omega), lv_sub hl [0, 1, 2, 3, 4] rfl⟩
    · have hst : m_sts sr sd sw sg sx rk dy (k + 1) = m_sts sr sd sw sg sx rk dy k + m_more dy (sw (sx k)) (sd (sx k)) (sg (sx k)) := if_pos c_33
      refine lv_iload_n hx hb dX6_starsOn_36 rfl (lv_at hl 1 rfl) ?_
      refine lv_aload_n hx hb dX6_starsOn_37 rfl (lv_at hl 2 rfl) ?_
      refine dz_get hx hb hts (fun _ h => List.mem_cons_of_mem _ (List.mem_append_left _ (List.mem_append_left _ (List.mem_append_right _ h)))) hown hE hG hsa hs rfl 6 (by decide) (hts _ (List.mem_of_getElem? (i := 1) rfl)) (fun _ h9 => h9) rfl dX6_starsOn_38 ?_
      refine lv_iload hx hb dX6_starsOn_41 (lv_at hl 0 rfl) ?_
      refine dz_kRr (va_runV (As := [_]) ⟨hx, hb, hml, hown, hts⟩ (c_Jx4a65c_get_915e3 l Z _ _ _ _ _ _ _ _ haf hfl hlt) (cwV 1 hts gX6_starsOn_Jx4a65c_get_915e3 rfl rfl rfl (by decide +kernel) ⟨Nat.le_of_ble_eq_true rfl, Nat.le_of_ble_eq_true rfl⟩) (dz_P.preL hE hS hG hfl haf) rfl rfl hl.1 rfl (lv_room (Nat.le_of_ble_eq_true rfl)) dX6_starsOn_43 ⟨Nat.le_of_ble_eq_true rfl, Nat.le_of_ble_eq_true rfl⟩) ?_
      refine dz_cst hx hb hown (hts _ (List.mem_of_getElem? (i := 2) rfl)) hE hG rfl (hso k hlt) rfl dX6_starsOn_46 ?_
      refine lv_iload_n hx hb dX6_starsOn_49 rfl (lv_at hl 4 rfl) ?_
      refine dz_kRi (va_runV (As := [_]) ⟨hx, hb, hml, hown, hts⟩ (c_X7_moreOn l Z _ _ _ _ _ _ _ _ _ rfl (hso k hlt) (hsw k hlt).1 (hsw k hlt).2) (cwV 1 hts gX6_starsOn_X7_moreOn rfl rfl rfl (by decide +kernel) ⟨Nat.le_of_ble_eq_true rfl, Nat.le_of_ble_eq_true rfl⟩) (dz_P.preV hE hS hG (hso k hlt) rfl rfl) rfl rfl hl.1 rfl (lv_room (Nat.le_of_ble_eq_true rfl)) dX6_starsOn_50 ⟨Nat.le_of_ble_eq_true rfl, Nat.le_of_ble_eq_true rfl⟩) ?_
      refine lv_iadd hx hb dX6_starsOn_53 ?_
      refine lv_topi (fun v_2 ev_2 => ?_)
      refine lv_istore_n (lv' := [(3, .int v_2), (4, .int (nI k)), (0, .ref aa), (1, .int rk), (2, .int dy)]) hx hb dX6_starsOn_54 rfl hl (by decide) rfl (fun ls hl => ?_)
      obtain ⟨v_3, ev_3⟩ : ∃ y : Int32, y = (nI k) + 1 := ⟨_, rfl⟩
      refine lv_iinc (v := v_3) (lv' := [(4, .int v_3), (3, .int v_2), (0, .ref aa), (1, .int rk), (2, .int dy)]) hx hb dX6_starsOn_55 hl (k := 1) rfl (by rw [ev_3]; rfl) (by decide) rfl (fun ls hl => ?_)
      refine lv_goto (tgt := 5) hx hb dX6_starsOn_58 (by decide) ?_
      obtain rfl : v_3 = nI (k + 1) := ev_3.trans (nI_1 k)
      obtain rfl : v_2 = m_sts sr sd sw sg sx rk dy (k + 1) := ev_2.trans hst.symm
      exact ih_5 (k + 1, ls) (by first | (dsimp only; omega) | omega) ⟨(by omega), lv_sub hl [0, 1, 2, 3, 4] rfl⟩

set_option maxHeartbeats 4000000 in
set_option maxRecDepth 100000 in
theorem c_X2_init (l : Launch) (Z : dzG) (G : dzW) (ad : dzA) (r : dzR) (a : Nat) (v1 v2 : Int32) (ha : ad r = a) (hf : G r = some (eO 3 [.int 0, .int 0])) : dzWr l yX2_init wsX2_init 1 20 0 0 Z G ad [.ref a, .int v1, .int v2] rv_v (fun (x : Unit) G1 ad1 => (∀ r9 : dzR, r9 ≠ r → G1 r9 = G r9 ∧ ad1 r9 = ad r9) ∧ ad = ad1 ∧ G1 r = some (eO 3 [.int v1, .int v2]) ∧ ad1 r = a) := by
  refine Met.ofW (cc := cX2_init) (maxL := 3) (ret := none) (by decide) rfl ?_
  intro p e s m args below meth c s₁ B hml hv
  obtain ⟨rfl, hG, hE⟩ := hv
  have hx := B.exec
  have hb := B.bytes
  have hrt := B.returns
  have hts := atoms_spec (ws := wsX2_init) B.pre
  have hown : s.vm.findClass RX2 = some m.cls := findClass_of_methodNamed B.named
  have hlocks := B.notSynchronized
  have hini : meth.name = "<init>" := (name_of_methodNamed B.named B.method).1
  have hS : va_S (dz_A Z) s.heap s.heap [] := va_S.rf
  have hl := lv_entry ([.ref a, .int v1, .int v2]) (n := 3) (Nat.le_of_ble_eq_true rfl)
  rw [lg_entry_eq]
  generalize (lg_sl ([.ref a, .int v1, .int v2]) ++ List.replicate (3 - (lg_sl ([.ref a, .int v1, .int v2])).length) Slot.unset).toArray = ls at hl ⊢
  have hl : lv_has ls 3 [(0, .ref a), (1, .int v1), (2, .int v2)] := hl
  refine lv_aload_n hx hb dX2_init_0 rfl (lv_at hl 0 rfl) ?_
  refine W.objInit hx hb hown (hts _ (List.mem_of_getElem? (i := 1) rfl)) (hts _ (List.mem_of_getElem? (i := 2) rfl)) (hts _ (List.mem_of_getElem? (i := 3) rfl)) rfl (by rw [hml]; exact hl.1) rfl dX2_init_1 (Nat.le_of_ble_eq_true rfl) (Nat.le_of_ble_eq_true rfl) ?_
  refine W.eq (g2 := F0 m 4 ls []) rfl ?_
  refine lv_aload_n hx hb dX2_init_4 rfl (lv_at hl 0 rfl) ?_
  refine lv_iload_n hx hb dX2_init_5 rfl (lv_at hl 1 rfl) ?_
  refine dz_putF hx hb hts (fun _ h => List.mem_cons_of_mem _ (List.mem_append_right _ h)) tyX2 tyX2_ok nmX2 hown hE hG ha hS hf rfl 0 (by decide) (hts _ (List.mem_of_getElem? (i := 4) rfl)) (fun _ h9 => h9) rfl hini rfl (ty := .int) (by decide +kernel) rfl rfl (fs' := [.int v1, .int 0]) rfl (Nat.le_of_ble_eq_true rfl) dX2_init_6 (fun H locs hG hS => ?_)
  obtain ⟨G_1, hG, w_1, o_1⟩ := dz_nm hG
  refine lv_aload_n hx hb dX2_init_9 rfl (lv_at hl 0 rfl) ?_
  refine lv_iload_n hx hb dX2_init_10 rfl (lv_at hl 2 rfl) ?_
  refine dz_putF hx hb hts (fun _ h => List.mem_cons_of_mem _ (List.mem_append_right _ h)) tyX2 tyX2_ok nmX2 hown hE hG ha hS w_1 rfl 1 (by decide) (hts _ (List.mem_of_getElem? (i := 5) rfl)) (fun _ h9 => h9) rfl hini rfl (ty := .int) (by decide +kernel) rfl rfl (fs' := [.int v1, .int v2]) rfl (Nat.le_of_ble_eq_true rfl) dX2_init_11 (fun H locs hG hS => ?_)
  obtain ⟨G_2, hG, w_2, o_2⟩ := dz_nm hG
  refine W.widen (k := 0) (n := 0) (by first | omega | decide) (by first | omega | decide) ?_
  refine W.vret hx hb hrt (fun t ht hW => dz_endM (f := rv_v) () hE hS hG ?_ ht hW) (fun q h => hS.2.2 q h) dX2_init_14
  refine ⟨fun r9 n_0 => (dz_tr (o_2 r9 n_0) (o_1 r9 n_0)), rfl, ?_⟩
  exact ⟨w_2, ha⟩

set_option maxHeartbeats 4000000 in
set_option maxRecDepth 100000 in
theorem c_X7_init (l : Launch) (Z : dzG) (G : dzW) (ad : dzA) (r : dzR) (a : Nat) (v1 v2 v3 v4 : Int32) (ha : ad r = a) (hf : G r = some (eO 8 [.int 0, .int 0, .int 0, .int 0])) : dzWr l yX7_init wsX7_init 1 20 0 0 Z G ad [.ref a, .int v1, .int v2, .int v3, .int v4] rv_v (fun (x : Unit) G1 ad1 => (∀ r9 : dzR, r9 ≠ r → G1 r9 = G r9 ∧ ad1 r9 = ad r9) ∧ ad = ad1 ∧ G1 r = some (eO 8 [.int v1, .int v2, .int v3, .int v4]) ∧ ad1 r = a) := by
  refine Met.ofW (cc := cX7_init) (maxL := 5) (ret := none) (by decide) rfl ?_
  intro p e s m args below meth c s₁ B hml hv
  obtain ⟨rfl, hG, hE⟩ := hv
  have hx := B.exec
  have hb := B.bytes
  have hrt := B.returns
  have hts := atoms_spec (ws := wsX7_init) B.pre
  have hown : s.vm.findClass RX7 = some m.cls := findClass_of_methodNamed B.named
  have hlocks := B.notSynchronized
  have hini : meth.name = "<init>" := (name_of_methodNamed B.named B.method).1
  have hS : va_S (dz_A Z) s.heap s.heap [] := va_S.rf
  have hl := lv_entry ([.ref a, .int v1, .int v2, .int v3, .int v4]) (n := 5) (Nat.le_of_ble_eq_true rfl)
  rw [lg_entry_eq]
  generalize (lg_sl ([.ref a, .int v1, .int v2, .int v3, .int v4]) ++ List.replicate (5 - (lg_sl ([.ref a, .int v1, .int v2, .int v3, .int v4])).length) Slot.unset).toArray = ls at hl ⊢
  have hl : lv_has ls 5 [(0, .ref a), (1, .int v1), (2, .int v2), (3, .int v3), (4, .int v4)] := hl
  refine lv_aload_n hx hb dX7_init_0 rfl (lv_at hl 0 rfl) ?_
  refine W.objInit hx hb hown (hts _ (List.mem_of_getElem? (i := 1) rfl)) (hts _ (List.mem_of_getElem? (i := 2) rfl)) (hts _ (List.mem_of_getElem? (i := 3) rfl)) rfl (by rw [hml]; exact hl.1) rfl dX7_init_1 (Nat.le_of_ble_eq_true rfl) (Nat.le_of_ble_eq_true rfl) ?_
  refine W.eq (g2 := F0 m 4 ls []) rfl ?_
  refine lv_aload_n hx hb dX7_init_4 rfl (lv_at hl 0 rfl) ?_
  refine lv_iload_n hx hb dX7_init_5 rfl (lv_at hl 1 rfl) ?_
  refine dz_putF hx hb hts (fun _ h => List.mem_cons_of_mem _ (List.mem_append_right _ h)) tyX7 tyX7_ok nmX7 hown hE hG ha hS hf rfl 0 (by decide) (hts _ (List.mem_of_getElem? (i := 4) rfl)) (fun _ h9 => h9) rfl hini rfl (ty := .int) (by decide +kernel) rfl rfl (fs' := [.int v1, .int 0, .int 0, .int 0]) rfl (Nat.le_of_ble_eq_true rfl) dX7_init_6 (fun H locs hG hS => ?_)
  obtain ⟨G_1, hG, w_1, o_1⟩ := dz_nm hG
  refine lv_aload_n hx hb dX7_init_9 rfl (lv_at hl 0 rfl) ?_
  refine lv_iload_n hx hb dX7_init_10 rfl (lv_at hl 2 rfl) ?_
  refine dz_putF hx hb hts (fun _ h => List.mem_cons_of_mem _ (List.mem_append_right _ h)) tyX7 tyX7_ok nmX7 hown hE hG ha hS w_1 rfl 1 (by decide) (hts _ (List.mem_of_getElem? (i := 5) rfl)) (fun _ h9 => h9) rfl hini rfl (ty := .int) (by decide +kernel) rfl rfl (fs' := [.int v1, .int v2, .int 0, .int 0]) rfl (Nat.le_of_ble_eq_true rfl) dX7_init_11 (fun H locs hG hS => ?_)
  obtain ⟨G_2, hG, w_2, o_2⟩ := dz_nm hG
  refine lv_aload_n hx hb dX7_init_14 rfl (lv_at hl 0 rfl) ?_
  refine lv_iload_n hx hb dX7_init_15 rfl (lv_at hl 3 rfl) ?_
  refine dz_putF hx hb hts (fun _ h => List.mem_cons_of_mem _ (List.mem_append_right _ h)) tyX7 tyX7_ok nmX7 hown hE hG ha hS w_2 rfl 2 (by decide) (hts _ (List.mem_of_getElem? (i := 6) rfl)) (fun _ h9 => h9) rfl hini rfl (ty := .int) (by decide +kernel) rfl rfl (fs' := [.int v1, .int v2, .int v3, .int 0]) rfl (Nat.le_of_ble_eq_true rfl) dX7_init_16 (fun H locs hG hS => ?_)
  obtain ⟨G_3, hG, w_3, o_3⟩ := dz_nm hG
  refine lv_aload_n hx hb dX7_init_19 rfl (lv_at hl 0 rfl) ?_
  refine lv_iload hx hb dX7_init_20 (lv_at hl 4 rfl) ?_
  refine dz_putF hx hb hts (fun _ h => List.mem_cons_of_mem _ (List.mem_append_right _ h)) tyX7 tyX7_ok nmX7 hown hE hG ha hS w_3 rfl 3 (by decide) (hts _ (List.mem_of_getElem? (i := 7) rfl)) (fun _ h9 => h9) rfl hini rfl (ty := .int) (by decide +kernel) rfl rfl (fs' := [.int v1, .int v2, .int v3, .int v4]) rfl (Nat.le_of_ble_eq_true rfl) dX7_init_22 (fun H locs hG hS => ?_)
  obtain ⟨G_4, hG, w_4, o_4⟩ := dz_nm hG
  refine W.widen (k := 0) (n := 0) (by first | omega | decide) (by first | omega | decide) ?_
  refine W.vret hx hb hrt (fun t ht hW => dz_endM (f := rv_v) () hE hS hG ?_ ht hW) (fun q h => hS.2.2 q h) dX7_init_25
  refine ⟨fun r9 n_0 => (dz_tr (o_4 r9 n_0) (dz_tr (o_3 r9 n_0) (dz_tr (o_2 r9 n_0) (o_1 r9 n_0)))), rfl, ?_⟩
  exact ⟨w_4, ha⟩

set_option maxHeartbeats 4000000 in
set_option maxRecDepth 100000 in
theorem c_X6_addFlare (l : Launch) (Z : dzG) (G : dzW) (ad : dzA) (i aa cnt af as9 al k ak nn : Nat) (col row fl : Int32) (el : Nat → Nat) (vv : List Value) (hsa : ad (11, i) = aa) (hs : G (11, i) = some (eO 7 [.int col, .int row, .int fl, .ref (ad (12, i)), .int (nI cnt), .ref af, .ref as9])) (hal : ad (13, i) = al) (hll : dz_L Z G ad (13, i) (14, i) nn el) (hak : ad (17, k) = ak) (hkf : G (17, k) = some (.inr (3, vv))) (hfa : af = al) (hnn : nn ≤ 60) (hel : ∀ j, j < nn → ∃ r vs, ad r = el j ∧ G r = some (.inr (3, vs)) ∧ r ≠ (90, 0) ∧ r ≠ (13, i)) : dzWr l yX6_addFlare wsX6_addFlare 7 184 1 100 Z G ad [.ref aa, .ref ak] rv_v (fun (x : Unit) G1 ad1 => (∀ r9 : dzR, r9 ≠ (13, i) → r9 ≠ (14, i) → r9 ≠ (90, 0) → G1 r9 = G r9 ∧ ad1 r9 = ad r9) ∧ dz_L Z G1 ad1 (13, i) (14, i) (nn + 1) (fun j => if j = nn then ak else el j) ∧ ad1 (13, i) = al) := by
  refine Met.ofW (cc := cX6_addFlare) (maxL := 2) (ret := none) (by decide) rfl ?_
  intro p e s m args below meth c s₁ B hml hv
  obtain ⟨rfl, hG, hE⟩ := hv
  have hx := B.exec
  have hb := B.bytes
  have hrt := B.returns
  have hts := atoms_spec (ws := wsX6_addFlare) B.pre
  have hown : s.vm.findClass RX6 = some m.cls := findClass_of_methodNamed B.named
  have hlocks := B.notSynchronized
  have hS : va_S (dz_A Z) s.heap s.heap [] := va_S.rf
  have hl := lv_entry ([.ref aa, .ref ak]) (n := 2) (Nat.le_of_ble_eq_true rfl)
  rw [lg_entry_eq]
  generalize (lg_sl ([.ref aa, .ref ak]) ++ List.replicate (2 - (lg_sl ([.ref aa, .ref ak])).length) Slot.unset).toArray = ls at hl ⊢
  have hl : lv_has ls 2 [(0, .ref aa), (1, .ref ak)] := hl
  subst hfa
  refine lv_aload_n hx hb dX6_addFlare_0 rfl (lv_at hl 0 rfl) ?_
  refine dz_get hx hb hts (fun _ h => List.mem_cons_of_mem _ (List.mem_append_left _ (List.mem_append_right _ h))) hown hE hG hsa hs rfl 5 (by decide) (hts _ (List.mem_of_getElem? (i := 1) rfl)) (fun _ h9 => h9) rfl dX6_addFlare_1 ?_
  refine lv_aload_n hx hb dX6_addFlare_4 rfl (lv_at hl 1 rfl) ?_
  refine dz_kMi (va_runV (As := [_]) ⟨hx, hb, hml, hown, hts⟩ (c_Jx4a65c_add_9ea2d l Z _ _ _ _ _ _ _ _ _ _ _ _ _ _ hal hll hnn hel (dz_n rfl) (dz_n rfl) (dz_n rfl) (dz_n rfl) (dz_n rfl) (dz_n rfl) (rfl : vwCl[3]? = some (RX2, TX2, 2)) (by decide +kernel) hak hkf) (cwV 1 hts gX6_addFlare_Jx4a65c_add_9ea2d rfl rfl rfl (by decide +kernel) ⟨Nat.le_of_ble_eq_true rfl, Nat.le_of_ble_eq_true rfl⟩) (dz_P.preL hE hS hG hll hal) rfl rfl hl.1 rfl (lv_room (Nat.le_of_ble_eq_true rfl)) dX6_addFlare_5 ⟨Nat.le_of_ble_eq_true rfl, Nat.le_of_ble_eq_true rfl⟩) hS (fun x_5_1 G_5_1 ad_5_1 H locs hp_5_1 hG hS => ?_)
  refine W.widen (k := 1) (n := 100) (by omega) (by omega) ?_
  obtain ⟨fr_5_1, e_5_1, g_5_1⟩ := hp_5_1
  refine lv_pop hx hb dX6_addFlare_8 rfl ?_
  refine W.widen (k := 1) (n := 100) (by first | omega | decide) (by first | omega | decide) ?_
  refine W.vret hx hb hrt (fun t ht hW => dz_endM (f := rv_v) () hE hS hG ?_ ht hW) (fun q h => hS.2.2 q h) dX6_addFlare_9
  refine ⟨fun r9 n_0 n_1 n_2 => (fr_5_1 r9 n_0 n_1 n_2), ?_⟩
  exact g_5_1

set_option maxHeartbeats 4000000 in
set_option maxRecDepth 100000 in
theorem c_X6_addStar (l : Launch) (Z : dzG) (G : dzW) (ad : dzA) (i aa cnt af as9 al k ak nn : Nat) (col row fl : Int32) (el : Nat → Nat) (vv : List Value) (hsa : ad (11, i) = aa) (hs : G (11, i) = some (eO 7 [.int col, .int row, .int fl, .ref (ad (12, i)), .int (nI cnt), .ref af, .ref as9])) (hal : ad (15, i) = al) (hll : dz_L Z G ad (15, i) (16, i) nn el) (hak : ad (18, k) = ak) (hkf : G (18, k) = some (.inr (8, vv))) (hfa : as9 = al) (hnn : nn ≤ 60) (hel : ∀ j, j < nn → ∃ r vs, ad r = el j ∧ G r = some (.inr (8, vs)) ∧ r ≠ (90, 0) ∧ r ≠ (15, i)) : dzWr l yX6_addStar wsX6_addStar 7 184 1 100 Z G ad [.ref aa, .ref ak] rv_v (fun (x : Unit) G1 ad1 => (∀ r9 : dzR, r9 ≠ (15, i) → r9 ≠ (16, i) → r9 ≠ (90, 0) → G1 r9 = G r9 ∧ ad1 r9 = ad r9) ∧ dz_L Z G1 ad1 (15, i) (16, i) (nn + 1) (fun j => if j = nn then ak else el j) ∧ ad1 (15, i) = al) := by
  refine Met.ofW (cc := cX6_addStar) (maxL := 2) (ret := none) (by decide) rfl ?_
  intro p e s m args below meth c s₁ B hml hv
  obtain ⟨rfl, hG, hE⟩ := hv
  have hx := B.exec
  have hb := B.bytes
  have hrt := B.returns
  have hts := atoms_spec (ws := wsX6_addStar) B.pre
  have hown : s.vm.findClass RX6 = some m.cls := findClass_of_methodNamed B.named
  have hlocks := B.notSynchronized
  have hS : va_S (dz_A Z) s.heap s.heap [] := va_S.rf
  have hl := lv_entry ([.ref aa, .ref ak]) (n := 2) (Nat.le_of_ble_eq_true rfl)
  rw [lg_entry_eq]
  generalize (lg_sl ([.ref aa, .ref ak]) ++ List.replicate (2 - (lg_sl ([.ref aa, .ref ak])).length) Slot.unset).toArray = ls at hl ⊢
  have hl : lv_has ls 2 [(0, .ref aa), (1, .ref ak)] := hl
  subst hfa
  refine lv_aload_n hx hb dX6_addStar_0 rfl (lv_at hl 0 rfl) ?_
  refine dz_get hx hb hts (fun _ h => List.mem_cons_of_mem _ (List.mem_append_left _ (List.mem_append_right _ h))) hown hE hG hsa hs rfl 6 (by decide) (hts _ (List.mem_of_getElem? (i := 1) rfl)) (fun _ h9 => h9) rfl dX6_addStar_1 ?_
  refine lv_aload_n hx hb dX6_addStar_4 rfl (lv_at hl 1 rfl) ?_
  refine dz_kMi (va_runV (As := [_]) ⟨hx, hb, hml, hown, hts⟩ (c_Jx4a65c_add_9ea2d l Z _ _ _ _ _ _ _ _ _ _ _ _ _ _ hal hll hnn hel (dz_n rfl) (dz_n rfl) (dz_n rfl) (dz_n rfl) (dz_n rfl) (dz_n rfl) (rfl : vwCl[8]? = some (RX7, TX7, 4)) (by decide +kernel) hak hkf) (cwV 1 hts gX6_addStar_Jx4a65c_add_9ea2d rfl rfl rfl (by decide +kernel) ⟨Nat.le_of_ble_eq_true rfl, Nat.le_of_ble_eq_true rfl⟩) (dz_P.preL hE hS hG hll hal) rfl rfl hl.1 rfl (lv_room (Nat.le_of_ble_eq_true rfl)) dX6_addStar_5 ⟨Nat.le_of_ble_eq_true rfl, Nat.le_of_ble_eq_true rfl⟩) hS (fun x_5_1 G_5_1 ad_5_1 H locs hp_5_1 hG hS => ?_)
  refine W.widen (k := 1) (n := 100) (by omega) (by omega) ?_
  obtain ⟨fr_5_1, e_5_1, g_5_1⟩ := hp_5_1
  refine lv_pop hx hb dX6_addStar_8 rfl ?_
  refine W.widen (k := 1) (n := 100) (by first | omega | decide) (by first | omega | decide) ?_
  refine W.vret hx hb hrt (fun t ht hW => dz_endM (f := rv_v) () hE hS hG ?_ ht hW) (fun q h => hS.2.2 q h) dX6_addStar_9
  refine ⟨fun r9 n_0 n_1 n_2 => (fr_5_1 r9 n_0 n_1 n_2), ?_⟩
  exact g_5_1

set_option maxHeartbeats 4000000 in
set_option maxRecDepth 100000 in
theorem c_X6_clearStars (l : Launch) (Z : dzG) (G : dzW) (ad : dzA) (i aa cnt af as9 al nn : Nat) (col row fl : Int32) (el : Nat → Nat) (hsa : ad (11, i) = aa) (hs : G (11, i) = some (eO 7 [.int col, .int row, .int fl, .ref (ad (12, i)), .int (nI cnt), .ref af, .ref as9])) (hal : ad (15, i) = al) (hll : dz_L Z G ad (15, i) (16, i) nn el) (hfa : as9 = al) : dzWr l yX6_clearStars wsX6_clearStars 1 23 0 0 Z G ad [.ref aa] rv_v (fun (x : Unit) G1 ad1 => (∀ r9 : dzR, r9 ≠ (15, i) → r9 ≠ (16, i) → G1 r9 = G r9 ∧ ad1 r9 = ad r9) ∧ dz_L Z G1 ad1 (15, i) (16, i) 0 el ∧ ad1 (15, i) = al) := by
  refine Met.ofW (cc := cX6_clearStars) (maxL := 1) (ret := none) (by decide) rfl ?_
  intro p e s m args below meth c s₁ B hml hv
  obtain ⟨rfl, hG, hE⟩ := hv
  have hx := B.exec
  have hb := B.bytes
  have hrt := B.returns
  have hts := atoms_spec (ws := wsX6_clearStars) B.pre
  have hown : s.vm.findClass RX6 = some m.cls := findClass_of_methodNamed B.named
  have hlocks := B.notSynchronized
  have hS : va_S (dz_A Z) s.heap s.heap [] := va_S.rf
  have hl := lv_entry ([.ref aa]) (n := 1) (Nat.le_of_ble_eq_true rfl)
  rw [lg_entry_eq]
  generalize (lg_sl ([.ref aa]) ++ List.replicate (1 - (lg_sl ([.ref aa])).length) Slot.unset).toArray = ls at hl ⊢
  have hl : lv_has ls 1 [(0, .ref aa)] := hl
  subst hfa
  refine lv_aload_n hx hb dX6_clearStars_0 rfl (lv_at hl 0 rfl) ?_
  refine dz_get hx hb hts (fun _ h => List.mem_cons_of_mem _ (List.mem_append_left _ (List.mem_append_right _ h))) hown hE hG hsa hs rfl 6 (by decide) (hts _ (List.mem_of_getElem? (i := 1) rfl)) (fun _ h9 => h9) rfl dX6_clearStars_1 ?_
  refine dz_kMv (va_runV (As := []) ⟨hx, hb, hml, hown, hts⟩ (c_Jx4a65c_clear_da8c8 l Z _ _ _ _ _ _ _ hal hll (dz_n rfl)) (cwV 0 hts gX6_clearStars_Jx4a65c_clear_da8c8 rfl rfl rfl (by decide +kernel) ⟨Nat.le_of_ble_eq_true rfl, Nat.le_of_ble_eq_true rfl⟩) (dz_P.preL hE hS hG hll hal) rfl rfl hl.1 rfl (lv_room (Nat.le_of_ble_eq_true rfl)) dX6_clearStars_4 ⟨Nat.le_of_ble_eq_true rfl, Nat.le_of_ble_eq_true rfl⟩) hS (fun G_4_1 ad_4_1 H locs hp_4_1 hG hS => ?_)
  obtain ⟨fr_4_1, g_4_1⟩ := hp_4_1
  refine W.widen (k := 0) (n := 0) (by first | omega | decide) (by first | omega | decide) ?_
  refine W.vret hx hb hrt (fun t ht hW => dz_endM (f := rv_v) () hE hS hG ?_ ht hW) (fun q h => hS.2.2 q h) dX6_clearStars_7
  refine ⟨fun r9 n_0 n_1 => (fr_4_1 r9 n_0 n_1), ?_⟩
  exact ⟨(g_4_1.1), (g_4_1.2)⟩

set_option maxHeartbeats 4000000 in
set_option maxRecDepth 100000 in
theorem c_X6_init (l : Launch) (Z : dzG) (G : dzW) (ad : dzA) (i aa : Nat) (cc rr fl : Int32) (hsa : ad (11, i) = aa) (hf : G (11, i) = some (eO 7 [.int 0, .int 0, .int 0, .null, .int 0, .null, .null])) : dzWr l yX6_init wsX6_init 4 80 3 447 Z G ad [.ref aa, .int cc, .int rr, .int fl] rv_v (fun (x : Unit) G1 ad1 => (∀ r9 : dzR, r9 ≠ (11, i) → r9 ≠ (12, i) → r9 ≠ (13, i) → r9 ≠ (15, i) → G1 r9 = G r9 ∧ ad1 r9 = ad r9) ∧ G1 (11, i) = some (eO 7 [.int cc, .int rr, .int fl, .ref (ad1 (12, i)), .int (nI 0), .ref (ad1 (13, i)), .ref (ad1 (15, i))]) ∧ ad1 (11, i) = aa ∧ G1 (12, i) = some (eI Z 441 (fun _ => 0)) ∧ dz_L Z G1 ad1 (13, i) (14, i) 0 (fun _ => 0) ∧ dz_L Z G1 ad1 (15, i) (16, i) 0 (fun _ => 0)) := by
  refine Met.ofW (cc := cX6_init) (maxL := 4) (ret := none) (by decide) rfl ?_
  intro p e s m args below meth c s₁ B hml hv
  obtain ⟨rfl, hG, hE⟩ := hv
  have hx := B.exec
  have hb := B.bytes
  have hrt := B.returns
  have hts := atoms_spec (ws := wsX6_init) B.pre
  have hown : s.vm.findClass RX6 = some m.cls := findClass_of_methodNamed B.named
  have hlocks := B.notSynchronized
  have hini : meth.name = "<init>" := (name_of_methodNamed B.named B.method).1
  have hS : va_S (dz_A Z) s.heap s.heap [] := va_S.rf
  have hl := lv_entry ([.ref aa, .int cc, .int rr, .int fl]) (n := 4) (Nat.le_of_ble_eq_true rfl)
  rw [lg_entry_eq]
  generalize (lg_sl ([.ref aa, .int cc, .int rr, .int fl]) ++ List.replicate (4 - (lg_sl ([.ref aa, .int cc, .int rr, .int fl])).length) Slot.unset).toArray = ls at hl ⊢
  have hl : lv_has ls 4 [(0, .ref aa), (1, .int cc), (2, .int rr), (3, .int fl)] := hl
  refine lv_aload_n hx hb dX6_init_0 rfl (lv_at hl 0 rfl) ?_
  refine W.objInit hx hb hown (hts _ (List.mem_of_getElem? (i := 1) rfl)) (hts _ (List.mem_of_getElem? (i := 2) rfl)) (hts _ (List.mem_of_getElem? (i := 3) rfl)) rfl (by rw [hml]; exact hl.1) rfl dX6_init_1 (Nat.le_of_ble_eq_true rfl) (Nat.le_of_ble_eq_true rfl) ?_
  refine W.eq (g2 := F0 m 4 ls []) rfl ?_
  refine lv_aload_n hx hb dX6_init_4 rfl (lv_at hl 0 rfl) ?_
  refine lv_sipush (v := 441) hx hb dX6_init_5 (by decide) ?_
  refine dz_newa (atype := .int) (a0 := (441, .inl (fun _ => 0))) hx hb (hts _ (List.mem_of_getElem? (i := 4) rfl)) hE hG hS (12, i) 0 rfl rfl (by decide) rfl (Nat.le_of_ble_eq_true rfl) (Nat.le_of_ble_eq_true rfl) (Nat.le_of_ble_eq_true rfl) dX6_init_8 (fun q_1 H hG hS => ?_)
  refine W.widen (k := 1) (n := 441) (by omega) (by omega) ?_
  obtain ⟨G_1, ad_1, hG, w_1, a_1, o_1⟩ := dz_nma hG
  refine dz_putF hx hb hts (fun _ h => List.mem_cons_of_mem _ (List.mem_append_left _ (List.mem_append_right _ h))) tyX6 tyX6_ok nmX6 hown hE hG ((o_1 _ (dz_n rfl)).2.trans hsa) hS ((o_1 _ (dz_n rfl)).1.trans hf) rfl 3 (by decide) (hts _ (List.mem_of_getElem? (i := 5) rfl)) (fun _ h9 => h9) rfl hini rfl (ty := .array .int) (by decide +kernel) rfl rfl (fs' := [.int 0, .int 0, .int 0, .ref q_1, .int 0, .null, .null]) rfl (Nat.le_of_ble_eq_true rfl) dX6_init_10 (fun H locs hG hS => ?_)
  obtain ⟨G_2, hG, w_2, o_2⟩ := dz_nm hG
  refine lv_aload_n hx hb dX6_init_13 rfl (lv_at hl 0 rfl) ?_
  refine lv_iconst (v := 0) hx hb dX6_init_14 (by decide) ?_
  refine dz_put hx hb hts (fun _ h => List.mem_cons_of_mem _ (List.mem_append_left _ (List.mem_append_right _ h))) tyX6 tyX6_ok nmX6 hown hE hG ((o_1 _ (dz_n rfl)).2.trans hsa) hS w_2 rfl 4 (by decide) (hts _ (List.mem_of_getElem? (i := 6) rfl)) (fun _ h9 => h9) rfl (ty := .int) (by decide +kernel) rfl rfl (fs' := [.int 0, .int 0, .int 0, .ref q_1, .int 0, .null, .null]) rfl (Nat.le_of_ble_eq_true rfl) dX6_init_15 (fun H locs hG hS => ?_)
  obtain ⟨G_3, hG, w_3, o_3⟩ := dz_nm hG
  refine lv_aload_n hx hb dX6_init_18 rfl (lv_at hl 0 rfl) ?_
  refine dz_new (ci := 0) hx hb hts (fun _ h => List.mem_cons_of_mem _ (List.mem_append_right _ h)) tyJx4a65c tyJx4a65c_ok hown (hts _ (List.mem_of_getElem? (i := 7) rfl)) (hts _ (List.mem_of_getElem? (i := 8) rfl)) (hts _ (List.mem_of_getElem? (i := 9) rfl)) hE hG hS (13, i) rfl (fs := [.int 0, .null, .int 0]) (fun j hj => by rcases (show j = 0 ∨ j = 1 ∨ j = 2 by omega) with rfl | rfl | rfl <;> rfl) (Nat.le_of_ble_eq_true rfl) (Nat.le_of_ble_eq_true rfl) dX6_init_19 (fun q_2 H hG hS => ?_)
  refine W.widen (k := 2) (n := 444) (by omega) (by omega) ?_
  obtain ⟨G_4, ad_4, hG, w_4, a_4, o_4⟩ := dz_nma hG
  refine lv_dup hx hb dX6_init_22 rfl ?_
  refine dz_kMv (va_runI (As := []) ⟨hx, hb, hml, hown, hts⟩ (c_Jx4a65c_init_da8c8 l Z _ _ _ (14, i) _ (fun _ => 0) _ a_4 w_4) (cwI 0 hts gX6_init_Jx4a65c_init_da8c8 rfl rfl rfl (hts _ (List.mem_of_getElem? (i := 9) rfl)) (hts _ (List.mem_of_getElem? (i := 15) rfl)) (hts _ (List.mem_of_getElem? (i := 16) rfl)) rfl (by decide +kernel) ⟨Nat.le_of_ble_eq_true rfl, Nat.le_of_ble_eq_true rfl⟩) (dz_P.pre hE hS hG) rfl rfl hl.1 rfl (lv_room (Nat.le_of_ble_eq_true rfl)) dX6_init_23 ⟨Nat.le_of_ble_eq_true rfl, Nat.le_of_ble_eq_true rfl⟩) hS (fun G_23_1 ad_23_1 H locs hp_23_1 hG hS => ?_)
  obtain ⟨fr_23_1, g_23_1⟩ := hp_23_1
  refine dz_putF hx hb hts (fun _ h => List.mem_cons_of_mem _ (List.mem_append_left _ (List.mem_append_right _ h))) tyX6 tyX6_ok nmX6 hown hE hG ((fr_23_1 _ (dz_n rfl)).2.trans ((o_4 _ (dz_n rfl)).2.trans ((o_1 _ (dz_n rfl)).2.trans hsa))) hS ((fr_23_1 _ (dz_n rfl)).1.trans ((o_4 _ (dz_n rfl)).1.trans w_3)) rfl 5 (by decide) (hts _ (List.mem_of_getElem? (i := 10) rfl)) (fun _ h9 => h9) rfl hini rfl (ty := .object "java/util/ArrayList") (by decide +kernel) rfl rfl (fs' := [.int 0, .int 0, .int 0, .ref q_1, .int 0, .ref q_2, .null]) rfl (Nat.le_of_ble_eq_true rfl) dX6_init_26 (fun H locs hG hS => ?_)
  obtain ⟨G_5, hG, w_5, o_5⟩ := dz_nm hG
  refine lv_aload_n hx hb dX6_init_29 rfl (lv_at hl 0 rfl) ?_
  refine dz_new (ci := 0) hx hb hts (fun _ h => List.mem_cons_of_mem _ (List.mem_append_right _ h)) tyJx4a65c tyJx4a65c_ok hown (hts _ (List.mem_of_getElem? (i := 7) rfl)) (hts _ (List.mem_of_getElem? (i := 8) rfl)) (hts _ (List.mem_of_getElem? (i := 9) rfl)) hE hG hS (15, i) rfl (fs := [.int 0, .null, .int 0]) (fun j hj => by rcases (show j = 0 ∨ j = 1 ∨ j = 2 by omega) with rfl | rfl | rfl <;> rfl) (Nat.le_of_ble_eq_true rfl) (Nat.le_of_ble_eq_true rfl) dX6_init_30 (fun q_3 H hG hS => ?_)
  refine W.widen (k := 3) (n := 447) (by omega) (by omega) ?_
  obtain ⟨G_6, ad_6, hG, w_6, a_6, o_6⟩ := dz_nma hG
  refine lv_dup hx hb dX6_init_33 rfl ?_
  refine dz_kMv (va_runI (As := []) ⟨hx, hb, hml, hown, hts⟩ (c_Jx4a65c_init_da8c8 l Z _ _ _ (16, i) _ (fun _ => 0) _ a_6 w_6) (cwI 0 hts gX6_init_Jx4a65c_init_da8c8 rfl rfl rfl (hts _ (List.mem_of_getElem? (i := 9) rfl)) (hts _ (List.mem_of_getElem? (i := 15) rfl)) (hts _ (List.mem_of_getElem? (i := 16) rfl)) rfl (by decide +kernel) ⟨Nat.le_of_ble_eq_true rfl, Nat.le_of_ble_eq_true rfl⟩) (dz_P.pre hE hS hG) rfl rfl hl.1 rfl (lv_room (Nat.le_of_ble_eq_true rfl)) dX6_init_34 ⟨Nat.le_of_ble_eq_true rfl, Nat.le_of_ble_eq_true rfl⟩) hS (fun G_34_2 ad_34_2 H locs hp_34_2 hG hS => ?_)
  obtain ⟨fr_34_2, g_34_2⟩ := hp_34_2
  refine dz_putF hx hb hts (fun _ h => List.mem_cons_of_mem _ (List.mem_append_left _ (List.mem_append_right _ h))) tyX6 tyX6_ok nmX6 hown hE hG ((fr_34_2 _ (dz_n rfl)).2.trans ((o_6 _ (dz_n rfl)).2.trans ((fr_23_1 _ (dz_n rfl)).2.trans ((o_4 _ (dz_n rfl)).2.trans ((o_1 _ (dz_n rfl)).2.trans hsa))))) hS ((fr_34_2 _ (dz_n rfl)).1.trans ((o_6 _ (dz_n rfl)).1.trans w_5)) rfl 6 (by decide) (hts _ (List.mem_of_getElem? (i := 11) rfl)) (fun _ h9 => h9) rfl hini rfl (ty := .object "java/util/ArrayList") (by decide +kernel) rfl rfl (fs' := [.int 0, .int 0, .int 0, .ref q_1, .int 0, .ref q_2, .ref q_3]) rfl (Nat.le_of_ble_eq_true rfl) dX6_init_37 (fun H locs hG hS => ?_)
  obtain ⟨G_7, hG, w_7, o_7⟩ := dz_nm hG
  refine lv_aload_n hx hb dX6_init_40 rfl (lv_at hl 0 rfl) ?_
  refine lv_iload_n hx hb dX6_init_41 rfl (lv_at hl 1 rfl) ?_
  refine dz_putF hx hb hts (fun _ h => List.mem_cons_of_mem _ (List.mem_append_left _ (List.mem_append_right _ h))) tyX6 tyX6_ok nmX6 hown hE hG ((fr_34_2 _ (dz_n rfl)).2.trans ((o_6 _ (dz_n rfl)).2.trans ((fr_23_1 _ (dz_n rfl)).2.trans ((o_4 _ (dz_n rfl)).2.trans ((o_1 _ (dz_n rfl)).2.trans hsa))))) hS w_7 rfl 0 (by decide) (hts _ (List.mem_of_getElem? (i := 12) rfl)) (fun _ h9 => h9) rfl hini rfl (ty := .int) (by decide +kernel) rfl rfl (fs' := [.int cc, .int 0, .int 0, .ref q_1, .int 0, .ref q_2, .ref q_3]) rfl (Nat.le_of_ble_eq_true rfl) dX6_init_42 (fun H locs hG hS => ?_)
  obtain ⟨G_8, hG, w_8, o_8⟩ := dz_nm hG
  refine lv_aload_n hx hb dX6_init_45 rfl (lv_at hl 0 rfl) ?_
  refine lv_iload_n hx hb dX6_init_46 rfl (lv_at hl 2 rfl) ?_
  refine dz_putF hx hb hts (fun _ h => List.mem_cons_of_mem _ (List.mem_append_left _ (List.mem_append_right _ h))) tyX6 tyX6_ok nmX6 hown hE hG ((fr_34_2 _ (dz_n rfl)).2.trans ((o_6 _ (dz_n rfl)).2.trans ((fr_23_1 _ (dz_n rfl)).2.trans ((o_4 _ (dz_n rfl)).2.trans ((o_1 _ (dz_n rfl)).2.trans hsa))))) hS w_8 rfl 1 (by decide) (hts _ (List.mem_of_getElem? (i := 13) rfl)) (fun _ h9 => h9) rfl hini rfl (ty := .int) (by decide +kernel) rfl rfl (fs' := [.int cc, .int rr, .int 0, .ref q_1, .int 0, .ref q_2, .ref q_3]) rfl (Nat.le_of_ble_eq_true rfl) dX6_init_47 (fun H locs hG hS => ?_)
  obtain ⟨G_9, hG, w_9, o_9⟩ := dz_nm hG
  refine lv_aload_n hx hb dX6_init_50 rfl (lv_at hl 0 rfl) ?_
  refine lv_iload_n hx hb dX6_init_51 rfl (lv_at hl 3 rfl) ?_
  refine dz_putF hx hb hts (fun _ h => List.mem_cons_of_mem _ (List.mem_append_left _ (List.mem_append_right _ h))) tyX6 tyX6_ok nmX6 hown hE hG ((fr_34_2 _ (dz_n rfl)).2.trans ((o_6 _ (dz_n rfl)).2.trans ((fr_23_1 _ (dz_n rfl)).2.trans ((o_4 _ (dz_n rfl)).2.trans ((o_1 _ (dz_n rfl)).2.trans hsa))))) hS w_9 rfl 2 (by decide) (hts _ (List.mem_of_getElem? (i := 14) rfl)) (fun _ h9 => h9) rfl hini rfl (ty := .int) (by decide +kernel) rfl rfl (fs' := [.int cc, .int rr, .int fl, .ref q_1, .int 0, .ref q_2, .ref q_3]) rfl (Nat.le_of_ble_eq_true rfl) dX6_init_52 (fun H locs hG hS => ?_)
  obtain ⟨G_10, hG, w_10, o_10⟩ := dz_nm hG
  refine W.widen (k := 3) (n := 447) (by first | omega | decide) (by first | omega | decide) ?_
  refine W.vret hx hb hrt (fun t ht hW => dz_endM (f := rv_v) () hE hS hG ?_ ht hW) (fun q h => hS.2.2 q h) dX6_init_55
  refine ⟨fun r9 n_0 n_1 n_2 n_3 => (dz_tr (o_10 r9 n_0) (dz_tr (o_9 r9 n_0) (dz_tr (o_8 r9 n_0) (dz_tr (o_7 r9 n_0) (dz_tr (fr_34_2 r9 n_3) (dz_tr (o_6 r9 n_3) (dz_tr (o_5 r9 n_0) (dz_tr (fr_23_1 r9 n_2) (dz_tr (o_4 r9 n_2) (dz_tr (o_3 r9 n_0) (dz_tr (o_2 r9 n_0) (o_1 r9 n_1)))))))))))), ?_⟩
  refine ⟨?_, ((fr_34_2 _ (dz_n rfl)).2.trans ((o_6 _ (dz_n rfl)).2.trans ((fr_23_1 _ (dz_n rfl)).2.trans ((o_4 _ (dz_n rfl)).2.trans ((o_1 _ (dz_n rfl)).2.trans hsa))))), ((o_10 _ (dz_n rfl)).1.trans ((o_9 _ (dz_n rfl)).1.trans ((o_8 _ (dz_n rfl)).1.trans ((o_7 _ (dz_n rfl)).1.trans ((fr_34_2 _ (dz_n rfl)).1.trans ((o_6 _ (dz_n rfl)).1.trans ((o_5 _ (dz_n rfl)).1.trans ((fr_23_1 _ (dz_n rfl)).1.trans ((o_4 _ (dz_n rfl)).1.trans ((o_3 _ (dz_n rfl)).1.trans ((o_2 _ (dz_n rfl)).1.trans w_1))))))))))), (dz_L.frame (dz_L.frame (dz_L.frame (dz_L.frame (dz_L.frame (dz_L.frame (dz_L.frame (g_23_1.1) (o_5 _ (dz_n rfl)).1 (o_5 _ (dz_n rfl))) (o_6 _ (dz_n rfl)).1 (o_6 _ (dz_n rfl))) (fr_34_2 _ (dz_n rfl)).1 (fr_34_2 _ (dz_n rfl))) (o_7 _ (dz_n rfl)).1 (o_7 _ (dz_n rfl))) (o_8 _ (dz_n rfl)).1 (o_8 _ (dz_n rfl))) (o_9 _ (dz_n rfl)).1 (o_9 _ (dz_n rfl))) (o_10 _ (dz_n rfl)).1 (o_10 _ (dz_n rfl))), (dz_L.frame (dz_L.frame (dz_L.frame (dz_L.frame (g_34_2.1) (o_7 _ (dz_n rfl)).1 (o_7 _ (dz_n rfl))) (o_8 _ (dz_n rfl)).1 (o_8 _ (dz_n rfl))) (o_9 _ (dz_n rfl)).1 (o_9 _ (dz_n rfl))) (o_10 _ (dz_n rfl)).1 (o_10 _ (dz_n rfl)))⟩
  rw [show ad_34_2 (12, i) = _ from ((o_10 _ (dz_n rfl)).2.trans ((o_9 _ (dz_n rfl)).2.trans ((o_8 _ (dz_n rfl)).2.trans ((o_7 _ (dz_n rfl)).2.trans ((fr_34_2 _ (dz_n rfl)).2.trans ((o_6 _ (dz_n rfl)).2.trans ((o_5 _ (dz_n rfl)).2.trans ((fr_23_1 _ (dz_n rfl)).2.trans ((o_4 _ (dz_n rfl)).2.trans ((o_3 _ (dz_n rfl)).2.trans ((o_2 _ (dz_n rfl)).2.trans a_1))))))))))), show ad_34_2 (13, i) = _ from ((o_10 _ (dz_n rfl)).2.trans ((o_9 _ (dz_n rfl)).2.trans ((o_8 _ (dz_n rfl)).2.trans ((o_7 _ (dz_n rfl)).2.trans ((fr_34_2 _ (dz_n rfl)).2.trans ((o_6 _ (dz_n rfl)).2.trans ((o_5 _ (dz_n rfl)).2.trans (g_23_1.2)))))))), show ad_34_2 (15, i) = _ from ((o_10 _ (dz_n rfl)).2.trans ((o_9 _ (dz_n rfl)).2.trans ((o_8 _ (dz_n rfl)).2.trans ((o_7 _ (dz_n rfl)).2.trans (g_34_2.2)))))]
  exact w_10
