set_option maxHeartbeats 4000000 in
set_option maxRecDepth 100000 in
theorem c_X6_imageCount (l : Launch) (Z : dzG) (G : dzW) (ad : dzA) (i a cnt af as9 : Nat) (col row fl : Int32) (hsa : ad (11, i) = a) (hs : G (11, i) = some (eO 7 [.int col, .int row, .int fl, .ref (ad (12, i)), .int (nI cnt), .ref af, .ref as9])) : dzRd l yX6_imageCount wsX6_imageCount 0 0 Z G ad [.ref a] (some (.int (nI cnt))) := by
  refine Met.ofW (cc := cX6_imageCount) (maxL := 1) (ret := (some .int)) (by decide) rfl ?_
  intro p e s m args below meth c s₁ B hml hv
  obtain ⟨rfl, hG, hE⟩ := hv
  have hx := B.exec
  have hb := B.bytes
  have hrt := B.returns
  have hts := atoms_spec (ws := wsX6_imageCount) B.pre
  have hown : s.vm.findClass RX6 = some m.cls := findClass_of_methodNamed B.named
  have hlocks := B.notSynchronized
  have hS : va_S (dz_A Z) s.heap s.heap [] := va_S.rf
  have hl := lv_entry ([.ref a]) (n := 1) (Nat.le_of_ble_eq_true rfl)
  rw [lg_entry_eq]
  generalize (lg_sl ([.ref a]) ++ List.replicate (1 - (lg_sl ([.ref a])).length) Slot.unset).toArray = ls at hl ⊢
  have hl : lv_has ls 1 [(0, .ref a)] := hl
  refine lv_aload_n hx hb dX6_imageCount_0 rfl (lv_at hl 0 rfl) ?_
  refine dz_get hx hb hts (fun _ h => List.mem_cons_of_mem _ (List.mem_append_right _ h)) hown hE hG hsa hs rfl 4 (by decide) (hts _ (List.mem_of_getElem? (i := 1) rfl)) (fun _ h9 => h9) rfl dX6_imageCount_1 ?_
  refine W.iret hx hb hrt (fun t ht hW => ⟨congrArg (fun x => Outcome.returned (some (Value.int x))) ?_, ht⟩) (fun _ h => by cases h) dX6_imageCount_4
  rfl

set_option maxHeartbeats 4000000 in
set_option maxRecDepth 100000 in
theorem c_X6_hasImage (l : Launch) (Z : dzG) (G : dzW) (ad : dzA) (i a cnt af as9 : Nat) (col row fl : Int32) (rk : Int32) (hsa : ad (11, i) = a) (hs : G (11, i) = some (eO 7 [.int col, .int row, .int fl, .ref (ad (12, i)), .int (nI cnt), .ref af, .ref as9])) : dzRd l yX6_hasImage wsX6_hasImage 0 0 Z G ad [.ref a, .int rk] (some (.int (dz_b (0 ≤ rk ∧ rk < nI cnt)))) := by
  refine Met.ofW (cc := cX6_hasImage) (maxL := 2) (ret := (some .boolean)) (by decide) rfl ?_
  intro p e s m args below meth c s₁ B hml hv
  obtain ⟨rfl, hG, hE⟩ := hv
  have hx := B.exec
  have hb := B.bytes
  have hrt := B.returns
  have hts := atoms_spec (ws := wsX6_hasImage) B.pre
  have hown : s.vm.findClass RX6 = some m.cls := findClass_of_methodNamed B.named
  have hlocks := B.notSynchronized
  have hS : va_S (dz_A Z) s.heap s.heap [] := va_S.rf
  have hl := lv_entry ([.ref a, .int rk]) (n := 2) (Nat.le_of_ble_eq_true rfl)
  rw [lg_entry_eq]
  generalize (lg_sl ([.ref a, .int rk]) ++ List.replicate (2 - (lg_sl ([.ref a, .int rk])).length) Slot.unset).toArray = ls at hl ⊢
  have hl : lv_has ls 2 [(0, .ref a), (1, .int rk)] := hl
  refine lv_iload_n hx hb dX6_hasImage_0 rfl (lv_at hl 1 rfl) ?_
  refine lv_if_lt (tgt := 16) hx hb dX6_hasImage_1 (by decide) (fun c_1 => ?_) (fun c_1 => ?_)
  · refine lv_iconst (v := 0) hx hb dX6_hasImage_16 (by decide) ?_
    refine W.zret hx hb hrt (by decide) (fun t ht hW => ⟨congrArg (fun x => Outcome.returned (some (Value.int x))) ?_, ht⟩) (fun _ h => by cases h) dX6_hasImage_17
    first | exact (dz_b1 ⟨Int32.not_lt.mp c_1, Int32.not_le.mp c_9⟩).symm | exact (dz_b0 (fun h => Int32.not_lt.mpr h.1 c_1)).symm | exact (dz_b0 (fun h => Int32.not_le.mpr h.2 c_9)).symm
  · refine lv_iload_n hx hb dX6_hasImage_4 rfl (lv_at hl 1 rfl) ?_
    refine lv_aload_n hx hb dX6_hasImage_5 rfl (lv_at hl 0 rfl) ?_
    refine dz_get hx hb hts (fun _ h => List.mem_cons_of_mem _ (List.mem_append_right _ h)) hown hE hG hsa hs rfl 4 (by decide) (hts _ (List.mem_of_getElem? (i := 1) rfl)) (fun _ h9 => h9) rfl dX6_hasImage_6 ?_
    refine lv_icmp_ge (tgt := 16) hx hb dX6_hasImage_9 (by decide) (fun c_9 => ?_) (fun c_9 => ?_)
    · refine lv_iconst (v := 0) hx hb dX6_hasImage_16 (by decide) ?_
      refine W.zret hx hb hrt (by decide) (fun t ht hW => ⟨congrArg (fun x => Outcome.returned (some (Value.int x))) ?_, ht⟩) (fun _ h => by cases h) dX6_hasImage_17
      first | exact (dz_b1 ⟨Int32.not_lt.mp c_1, Int32.not_le.mp c_9⟩).symm | exact (dz_b0 (fun h => Int32.not_lt.mpr h.1 c_1)).symm | exact (dz_b0 (fun h => Int32.not_le.mpr h.2 c_9)).symm
    · refine lv_iconst (v := 1) hx hb dX6_hasImage_12 (by decide) ?_
      refine lv_goto (tgt := 17) hx hb dX6_hasImage_13 (by decide) ?_
      refine W.zret hx hb hrt (by decide) (fun t ht hW => ⟨congrArg (fun x => Outcome.returned (some (Value.int x))) ?_, ht⟩) (fun _ h => by cases h) dX6_hasImage_17
      first | exact (dz_b1 ⟨Int32.not_lt.mp c_1, Int32.not_le.mp c_9⟩).symm | exact (dz_b0 (fun h => Int32.not_lt.mpr h.1 c_1)).symm | exact (dz_b0 (fun h => Int32.not_le.mpr h.2 c_9)).symm

set_option maxHeartbeats 4000000 in
set_option maxRecDepth 100000 in
theorem c_X6_placeAt (l : Launch) (Z : dzG) (G : dzW) (ad : dzA) (i a cnt af as9 k : Nat) (col row fl : Int32) (f : Nat → Int32) (hsa : ad (11, i) = a) (hs : G (11, i) = some (eO 7 [.int col, .int row, .int fl, .ref (ad (12, i)), .int (nI cnt), .ref af, .ref as9])) (hp : G (12, i) = some (eI Z 441 f)) (hk : k < cnt) (hcn : cnt ≤ 441) : dzRd l yX6_placeAt wsX6_placeAt 1 21 Z G ad [.ref a, .int (nI k)] (some (.int (f k))) := by
  refine Met.ofW (cc := cX6_placeAt) (maxL := 2) (ret := (some .int)) (by decide) rfl ?_
  intro p e s m args below meth c s₁ B hml hv
  obtain ⟨rfl, hG, hE⟩ := hv
  have hx := B.exec
  have hb := B.bytes
  have hrt := B.returns
  have hts := atoms_spec (ws := wsX6_placeAt) B.pre
  have hown : s.vm.findClass RX6 = some m.cls := findClass_of_methodNamed B.named
  have hlocks := B.notSynchronized
  have hS : va_S (dz_A Z) s.heap s.heap [] := va_S.rf
  have hl := lv_entry ([.ref a, .int (nI k)]) (n := 2) (Nat.le_of_ble_eq_true rfl)
  rw [lg_entry_eq]
  generalize (lg_sl ([.ref a, .int (nI k)]) ++ List.replicate (2 - (lg_sl ([.ref a, .int (nI k)])).length) Slot.unset).toArray = ls at hl ⊢
  have hl : lv_has ls 2 [(0, .ref a), (1, .int (nI k))] := hl
  refine lv_aload_n hx hb dX6_placeAt_0 rfl (lv_at hl 0 rfl) ?_
  refine lv_iload_n hx hb dX6_placeAt_1 rfl (lv_at hl 1 rfl) ?_
  refine dz_kRi (va_runV (As := [_]) ⟨hx, hb, hml, hown, hts⟩ (c_X6_hasImage l Z _ _ _ _ _ _ _ _ _ _ _ hsa hs) (cwV 1 hts gX6_placeAt_X6_hasImage rfl rfl rfl (by decide +kernel) ⟨Nat.le_of_ble_eq_true rfl, Nat.le_of_ble_eq_true rfl⟩) (dz_P.preV hE hS hG hs rfl hsa) rfl rfl hl.1 rfl (lv_room (Nat.le_of_ble_eq_true rfl)) dX6_placeAt_2 ⟨Nat.le_of_ble_eq_true rfl, Nat.le_of_ble_eq_true rfl⟩) ?_
  refine lv_if_eq (tgt := 17) hx hb dX6_placeAt_5 (by decide) (fun c_5 => absurd c_5 (fun z => dz_bx z ⟨nI_pos' (by omega), nI_lt hk (by omega)⟩)) (fun c_5 => ?_)
  refine lv_aload_n hx hb dX6_placeAt_8 rfl (lv_at hl 0 rfl) ?_
  refine dz_get hx hb hts (fun _ h => List.mem_cons_of_mem _ (List.mem_append_right _ h)) hown hE hG hsa hs rfl 3 (by decide) (hts _ (List.mem_of_getElem? (i := 1) rfl)) (fun _ h9 => h9) rfl dX6_placeAt_9 ?_
  refine lv_iload_n hx hb dX6_placeAt_12 rfl (lv_at hl 1 rfl) ?_
  refine dz_iald hx hb hE hG rfl hp (vp_in_nI (by omega) (by decide)) dX6_placeAt_13 ?_
  refine lv_goto (tgt := 18) hx hb dX6_placeAt_14 (by decide) ?_
  refine W.iret hx hb hrt (fun t ht hW => ⟨congrArg (fun x => Outcome.returned (some (Value.int x))) ?_, ht⟩) (fun _ h => by cases h) dX6_placeAt_18
  rw [nI_clamp (by omega)]

set_option maxHeartbeats 4000000 in
set_option maxRecDepth 100000 in
theorem c_X6_insert (l : Launch) (Z : dzG) (G : dzW) (ad : dzA) (i a cnt af as9 aR own : Nat) (col row fl : Int32) (f fc fw : Nat → Int32) (hsa : ad (11, i) = a) (hs : G (11, i) = some (eO 7 [.int col, .int row, .int fl, .ref (ad (12, i)), .int (nI cnt), .ref af, .ref as9])) (hp : G (12, i) = some (eI Z 441 f)) (hra : ad (2, 0) = aR) (ho : G (2, 0) = some (eO 6 [.ref (ad (3, 0)), .ref (ad (5, 0)), .ref (ad (6, 0)), .ref (ad (7, 0))])) (hc : G (5, 0) = some (eI Z 484 fc)) (hw : G (7, 0) = some (eI Z 484 fw)) (ho2 : own < 484) (hcn : cnt < 441) (hbd : m_bd 484 (cnt, f)) : dzWr l yX6_insert wsX6_insert 2 42 0 0 Z G ad [.ref a, .int (nI own), .ref aR] rv_v (fun (x : Unit) G1 ad1 => (∀ r9 : dzR, r9 ≠ (11, i) → r9 ≠ (12, i) → G1 r9 = G r9 ∧ ad1 r9 = ad r9) ∧ ad = ad1 ∧ (G1 (11, i) = some (eO 7 [.int col, .int row, .int fl, .ref (ad (12, i)), .int (nI (cnt + 1)), .ref af, .ref as9]) ∧ ad (11, i) = a) ∧ G1 (12, i) = some (eI Z 441 (m_ins fw own cnt f)) ∧ ad (12, i) = ad (12, i)) := by
  refine Met.ofW (cc := cX6_insert) (maxL := 4) (ret := none) (by decide) rfl ?_
  intro p e s m args below meth c s₁ B hml hv
  obtain ⟨rfl, hG, hE⟩ := hv
  have hx := B.exec
  have hb := B.bytes
  have hrt := B.returns
  have hts := atoms_spec (ws := wsX6_insert) B.pre
  have hown : s.vm.findClass RX6 = some m.cls := findClass_of_methodNamed B.named
  have hlocks := B.notSynchronized
  have hS : va_S (dz_A Z) s.heap s.heap [] := va_S.rf
  have hl := lv_entry ([.ref a, .int (nI own), .ref aR]) (n := 4) (Nat.le_of_ble_eq_true rfl)
  rw [lg_entry_eq]
  generalize (lg_sl ([.ref a, .int (nI own), .ref aR]) ++ List.replicate (4 - (lg_sl ([.ref a, .int (nI own), .ref aR])).length) Slot.unset).toArray = ls at hl ⊢
  have hl : lv_has ls 4 [(0, .ref a), (1, .int (nI own)), (2, .ref aR)] := hl
  refine lv_aload_n hx hb dX6_insert_0 rfl (lv_at hl 0 rfl) ?_
  refine dz_get hx hb hts (fun _ h => List.mem_cons_of_mem _ (List.mem_append_left _ (List.mem_append_right _ h))) hown hE hG hsa hs rfl 4 (by decide) (hts _ (List.mem_of_getElem? (i := 1) rfl)) (fun _ h9 => h9) rfl dX6_insert_1 ?_
  refine lv_aload_n hx hb dX6_insert_4 rfl (lv_at hl 0 rfl) ?_
  refine dz_get hx hb hts (fun _ h => List.mem_cons_of_mem _ (List.mem_append_left _ (List.mem_append_right _ h))) hown hE hG hsa hs rfl 3 (by decide) (hts _ (List.mem_of_getElem? (i := 2) rfl)) (fun _ h9 => h9) rfl dX6_insert_5 ?_
  refine dz_alen hx hb hE hG rfl hp 0 rfl dX6_insert_8 ?_
  refine lv_icmp_lt (tgt := 13) hx hb dX6_insert_9 (by decide) (fun c_9 => ?_) (fun c_9 => absurd (nI_lt hcn (by decide)) c_9)
  refine lv_aload_n hx hb dX6_insert_13 rfl (lv_at hl 0 rfl) ?_
  refine dz_get hx hb hts (fun _ h => List.mem_cons_of_mem _ (List.mem_append_left _ (List.mem_append_right _ h))) hown hE hG hsa hs rfl 4 (by decide) (hts _ (List.mem_of_getElem? (i := 1) rfl)) (fun _ h9 => h9) rfl dX6_insert_14 ?_
  refine lv_istore_n (lv' := [(3, .int (nI cnt)), (0, .ref a), (1, .int (nI own)), (2, .ref aR)]) hx hb dX6_insert_17 rfl hl (by decide) rfl (fun ls hl => ?_)
  refine dz_lw (α := Nat × (Nat → Int32) × dzW × Array Slot) (fun a9 => (fun (k : Nat) (fk : Nat → Int32) (G_L18 : dzW) (ls : Array Slot) => k) a9.1 a9.2.1 a9.2.2.1 a9.2.2.2) (fun a9 H locs => (fun (k : Nat) (fk : Nat → Int32) (G_L18 : dzW) (ls : Array Slot) => (k ≤ cnt) ∧ (m_sh fw own k fk = m_sh fw own cnt f) ∧ (m_bd 484 (k, fk)) ∧ (∀ r9 : dzR, r9 ≠ (12, i) → G_L18 r9 = G r9 ∧ ad r9 = ad r9) ∧ (G_L18 (12, i) = some (eI Z 441 fk)) ∧ dz_w Z G_L18 ad H ∧ va_S (dz_A Z) s.heap H locs ∧ lv_has ls 4 [(3, .int (nI k)), (0, .ref a), (1, .int (nI own)), (2, .ref aR)]) a9.1 a9.2.1 a9.2.2.1 a9.2.2.2) (fun a9 => F0 m 18 a9.2.2.2 []) (fun a9 H locs hI ih_18 => ?_) (cnt, f, G, ls) ⟨(Nat.le_refl _), rfl, hbd, (fun r9 _ => ⟨rfl, rfl⟩), hp, hG, hS, lv_sub hl [0, 1, 2, 3] rfl⟩
  obtain ⟨k, fk, G_L18, ls⟩ := a9
  obtain ⟨hk, hq, hfk, fr_L18, gp, hG, hS, hl⟩ := hI
  have hk : k ≤ cnt := hk
  have hq : m_sh fw own k fk = m_sh fw own cnt f := hq
  have hfk : m_bd 484 (k, fk) := hfk
  have fr_L18 : ∀ r9 : dzR, r9 ≠ (12, i) → G_L18 r9 = G r9 ∧ ad r9 = ad r9 := fr_L18
  have gp : G_L18 (12, i) = some (eI Z 441 fk) := gp
  have hG : dz_w Z G_L18 ad H := hG
  have hS : va_S (dz_A Z) s.heap H locs := hS
  have hl : lv_has ls 4 [(3, .int (nI k)), (0, .ref a), (1, .int (nI own)), (2, .ref aR)] := hl
  refine lv_iload_n hx hb dX6_insert_18 rfl (lv_at hl 0 rfl) ?_
  refine lv_if_le (tgt := 62) hx hb dX6_insert_19 (by decide) (fun c_19 => ?_) (fun c_19 => ?_)
  · have hk0 : k = 0 := by
      rcases Nat.eq_zero_or_pos k with q | q
      · exact q
      · exact absurd c_19 (nI_nle q (by omega))
    refine lv_aload_n hx hb dX6_insert_62 rfl (lv_at hl 1 rfl) ?_
    refine dz_get hx hb hts (fun _ h => List.mem_cons_of_mem _ (List.mem_append_left _ (List.mem_append_right _ h))) hown hE hG ((fr_L18 _ (dz_n rfl)).2.trans hsa) ((fr_L18 _ (dz_n rfl)).1.trans hs) rfl 3 (by decide) (hts _ (List.mem_of_getElem? (i := 2) rfl)) (fun _ h9 => h9) rfl dX6_insert_63 ?_
    refine lv_iload_n hx hb dX6_insert_66 rfl (lv_at hl 0 rfl) ?_
    refine lv_iload_n hx hb dX6_insert_67 rfl (lv_at hl 2 rfl) ?_
    refine dz_iast hx hb hE hG rfl hS gp (vp_in_nI (by omega) (by decide)) dX6_insert_68 (fun H locs hG hS => ?_)
    obtain ⟨G_1, hG, w_1, o_1⟩ := dz_nm hG
    refine lv_aload_n hx hb dX6_insert_69 rfl (lv_at hl 1 rfl) ?_
    refine lv_dup hx hb dX6_insert_70 rfl ?_
    refine dz_get hx hb hts (fun _ h => List.mem_cons_of_mem _ (List.mem_append_left _ (List.mem_append_right _ h))) hown hE hG ((o_1 _ (dz_n rfl)).2.trans ((fr_L18 _ (dz_n rfl)).2.trans hsa)) ((o_1 _ (dz_n rfl)).1.trans ((fr_L18 _ (dz_n rfl)).1.trans hs)) rfl 4 (by decide) (hts _ (List.mem_of_getElem? (i := 1) rfl)) (fun _ h9 => h9) rfl dX6_insert_71 ?_
    refine lv_iconst (v := 1) hx hb dX6_insert_74 (by decide) ?_
    refine lv_iadd hx hb dX6_insert_75 ?_
    refine lv_topi (fun v_1 ev_1 => ?_)
    obtain rfl : v_1 = nI (cnt + 1) := ev_1.trans (nI_1 cnt)
    refine dz_put hx hb hts (fun _ h => List.mem_cons_of_mem _ (List.mem_append_left _ (List.mem_append_right _ h))) tyX6 tyX6_ok nmX6 hown hE hG ((o_1 _ (dz_n rfl)).2.trans ((fr_L18 _ (dz_n rfl)).2.trans hsa)) hS ((o_1 _ (dz_n rfl)).1.trans ((fr_L18 _ (dz_n rfl)).1.trans hs)) rfl 4 (by decide) (hts _ (List.mem_of_getElem? (i := 1) rfl)) (fun _ h9 => h9) rfl (ty := .int) (by decide +kernel) rfl rfl (fs' := [.int col, .int row, .int fl, .ref (ad (12, i)), .int (nI (cnt + 1)), .ref af, .ref as9]) rfl (Nat.le_of_ble_eq_true rfl) dX6_insert_76 (fun H locs hG hS => ?_)
    obtain ⟨G_2, hG, w_2, o_2⟩ := dz_nm hG
    refine W.widen (k := 0) (n := 0) (by first | omega | decide) (by first | omega | decide) ?_
    refine W.vret hx hb hrt (fun t ht hW => dz_endM (f := rv_v) () hE hS hG ?_ ht hW) (fun q h => hS.2.2 q h) dX6_insert_79
    refine ⟨fun r9 n_0 n_1 => (dz_tr (o_2 r9 n_0) (dz_tr (o_1 r9 n_1) (fr_L18 r9 n_1))), rfl, ?_⟩
    refine ⟨⟨w_2, hsa⟩, ?_, rfl⟩
    have e9 : m_ins fw own cnt f = upd fk (nI k).toNatClampNeg (nI own) := by
      unfold m_ins
      rw [← hq, nI_clamp (by omega)]
      first | (rw [m_sh_e hk0 hlt]; done) | (subst hk0; rfl)
    rw [e9]
    exact ((o_2 _ (dz_n rfl)).1.trans w_1)
  · have hk0 : 0 < k := by
      rcases Nat.eq_zero_or_pos k with q | q
      · subst q; exact absurd (by decide) c_19
      · exact q
    obtain ⟨j9, hj9, ej9⟩ := hfk (k - 1) (by show k - 1 < k; omega)
    have ej9 : fk (k - 1) = nI j9 := ej9
    refine lv_aload_n hx hb dX6_insert_22 rfl (lv_at hl 3 rfl) ?_
    refine lv_aload_n hx hb dX6_insert_23 rfl (lv_at hl 1 rfl) ?_
    refine dz_get hx hb hts (fun _ h => List.mem_cons_of_mem _ (List.mem_append_left _ (List.mem_append_right _ h))) hown hE hG ((fr_L18 _ (dz_n rfl)).2.trans hsa) ((fr_L18 _ (dz_n rfl)).1.trans hs) rfl 3 (by decide) (hts _ (List.mem_of_getElem? (i := 2) rfl)) (fun _ h9 => h9) rfl dX6_insert_24 ?_
    refine lv_iload_n hx hb dX6_insert_27 rfl (lv_at hl 0 rfl) ?_
    refine lv_iconst (v := 1) hx hb dX6_insert_28 (by decide) ?_
    refine lv_isub hx hb dX6_insert_29 ?_
    refine lv_topi (fun v_2 ev_2 => ?_)
    obtain rfl : v_2 = nI (k - 1) := ev_2.trans (pk_sub (a := k) (b := 1) (by omega))
    refine dz_iald hx hb hE hG rfl gp (vp_in_nI (by omega) (by decide)) dX6_insert_30 ?_
    refine lv_topi (fun v_3 ev_3 => ?_)
    obtain rfl : v_3 = nI j9 := ev_3.trans (by rw [nI_clamp (by omega)]; exact ej9)
    refine dz_kRi (va_runV (As := [_]) ⟨hx, hb, hml, hown, hts⟩ (c_X5_wayAt l Z _ _ _ _ _ _ ((fr_L18 _ (dz_n rfl)).2.trans hra) ((fr_L18 _ (dz_n rfl)).1.trans ho) ((fr_L18 _ (dz_n rfl)).1.trans hc) ((fr_L18 _ (dz_n rfl)).1.trans hw) hj9) (cwV 1 hts gX6_insert_X5_wayAt rfl rfl rfl (by decide +kernel) ⟨Nat.le_of_ble_eq_true rfl, Nat.le_of_ble_eq_true rfl⟩) (dz_P.preV hE hS hG ((fr_L18 _ (dz_n rfl)).1.trans ho) rfl ((fr_L18 _ (dz_n rfl)).2.trans hra)) rfl rfl hl.1 rfl (lv_room (Nat.le_of_ble_eq_true rfl)) dX6_insert_31 ⟨Nat.le_of_ble_eq_true rfl, Nat.le_of_ble_eq_true rfl⟩) ?_
    refine lv_aload_n hx hb dX6_insert_34 rfl (lv_at hl 3 rfl) ?_
    refine lv_iload_n hx hb dX6_insert_35 rfl (lv_at hl 2 rfl) ?_
    refine dz_kRi (va_runV (As := [_]) ⟨hx, hb, hml, hown, hts⟩ (c_X5_wayAt l Z _ _ _ _ _ _ ((fr_L18 _ (dz_n rfl)).2.trans hra) ((fr_L18 _ (dz_n rfl)).1.trans ho) ((fr_L18 _ (dz_n rfl)).1.trans hc) ((fr_L18 _ (dz_n rfl)).1.trans hw) ho2) (cwV 1 hts gX6_insert_X5_wayAt rfl rfl rfl (by decide +kernel) ⟨Nat.le_of_ble_eq_true rfl, Nat.le_of_ble_eq_true rfl⟩) (dz_P.preV hE hS hG ((fr_L18 _ (dz_n rfl)).1.trans ho) rfl ((fr_L18 _ (dz_n rfl)).2.trans hra)) rfl rfl hl.1 rfl (lv_room (Nat.le_of_ble_eq_true rfl)) dX6_insert_36 ⟨Nat.le_of_ble_eq_true rfl, Nat.le_of_ble_eq_true rfl⟩) ?_
    refine lv_icmp_le (tgt := 62) hx hb dX6_insert_39 (by decide) (fun c_39 => ?_) (fun c_39 => ?_)
    · have hlt : ¬ fw own < fw (fk (k - 1)).toNatClampNeg := by rw [ej9, nI_clamp (by omega)]; exact Int32.not_lt.mpr c_39
      refine lv_aload_n hx hb dX6_insert_62 rfl (lv_at hl 1 rfl) ?_
      refine dz_get hx hb hts (fun _ h => List.mem_cons_of_mem _ (List.mem_append_left _ (List.mem_append_right _ h))) hown hE hG ((fr_L18 _ (dz_n rfl)).2.trans hsa) ((fr_L18 _ (dz_n rfl)).1.trans hs) rfl 3 (by decide) (hts _ (List.mem_of_getElem? (i := 2) rfl)) (fun _ h9 => h9) rfl dX6_insert_63 ?_
      refine lv_iload_n hx hb dX6_insert_66 rfl (lv_at hl 0 rfl) ?_
      refine lv_iload_n hx hb dX6_insert_67 rfl (lv_at hl 2 rfl) ?_
      refine dz_iast hx hb hE hG rfl hS gp (vp_in_nI (by omega) (by decide)) dX6_insert_68 (fun H locs hG hS => ?_)
      obtain ⟨G_3, hG, w_3, o_3⟩ := dz_nm hG
      refine lv_aload_n hx hb dX6_insert_69 rfl (lv_at hl 1 rfl) ?_
      refine lv_dup hx hb dX6_insert_70 rfl ?_
      refine dz_get hx hb hts (fun _ h => List.mem_cons_of_mem _ (List.mem_append_left _ (List.mem_append_right _ h))) hown hE hG ((o_3 _ (dz_n rfl)).2.trans ((fr_L18 _ (dz_n rfl)).2.trans hsa)) ((o_3 _ (dz_n rfl)).1.trans ((fr_L18 _ (dz_n rfl)).1.trans hs)) rfl 4 (by decide) (hts _ (List.mem_of_getElem? (i := 1) rfl)) (fun _ h9 => h9) rfl dX6_insert_71 ?_
      refine lv_iconst (v := 1) hx hb dX6_insert_74 (by decide) ?_
      refine lv_iadd hx hb dX6_insert_75 ?_
      refine lv_topi (fun v_4 ev_4 => ?_)
      obtain rfl : v_4 = nI (cnt + 1) := ev_4.trans (nI_1 cnt)
      refine dz_put hx hb hts (fun _ h => List.mem_cons_of_mem _ (List.mem_append_left _ (List.mem_append_right _ h))) tyX6 tyX6_ok nmX6 hown hE hG ((o_3 _ (dz_n rfl)).2.trans ((fr_L18 _ (dz_n rfl)).2.trans hsa)) hS ((o_3 _ (dz_n rfl)).1.trans ((fr_L18 _ (dz_n rfl)).1.trans hs)) rfl 4 (by decide) (hts _ (List.mem_of_getElem? (i := 1) rfl)) (fun _ h9 => h9) rfl (ty := .int) (by decide +kernel) rfl rfl (fs' := [.int col, .int row, .int fl, .ref (ad (12, i)), .int (nI (cnt + 1)), .ref af, .ref as9]) rfl (Nat.le_of_ble_eq_true rfl) dX6_insert_76 (fun H locs hG hS => ?_)
      obtain ⟨G_4, hG, w_4, o_4⟩ := dz_nm hG
      refine W.widen (k := 0) (n := 0) (by first | omega | decide) (by first | omega | decide) ?_
      refine W.vret hx hb hrt (fun t ht hW => dz_endM (f := rv_v) () hE hS hG ?_ ht hW) (fun q h => hS.2.2 q h) dX6_insert_79
      refine ⟨fun r9 n_0 n_1 => (dz_tr (o_4 r9 n_0) (dz_tr (o_3 r9 n_1) (fr_L18 r9 n_1))), rfl, ?_⟩
      refine ⟨⟨w_4, hsa⟩, ?_, rfl⟩
      have e9 : m_ins fw own cnt f = upd fk (nI k).toNatClampNeg (nI own) := by
        unfold m_ins
        rw [← hq, nI_clamp (by omega)]
        first | (rw [m_sh_e hk0 hlt]; done) | (subst hk0; rfl)
      rw [e9]
      exact ((o_4 _ (dz_n rfl)).1.trans w_3)
    · have hlt : fw own < fw (fk (k - 1)).toNatClampNeg := by rw [ej9, nI_clamp (by omega)]; exact Int32.not_le.mp c_39
      refine lv_aload_n hx hb dX6_insert_42 rfl (lv_at hl 1 rfl) ?_
      refine dz_get hx hb hts (fun _ h => List.mem_cons_of_mem _ (List.mem_append_left _ (List.mem_append_right _ h))) hown hE hG ((fr_L18 _ (dz_n rfl)).2.trans hsa) ((fr_L18 _ (dz_n rfl)).1.trans hs) rfl 3 (by decide) (hts _ (List.mem_of_getElem? (i := 2) rfl)) (fun _ h9 => h9) rfl dX6_insert_43 ?_
      refine lv_iload_n hx hb dX6_insert_46 rfl (lv_at hl 0 rfl) ?_
      refine lv_aload_n hx hb dX6_insert_47 rfl (lv_at hl 1 rfl) ?_
      refine dz_get hx hb hts (fun _ h => List.mem_cons_of_mem _ (List.mem_append_left _ (List.mem_append_right _ h))) hown hE hG ((fr_L18 _ (dz_n rfl)).2.trans hsa) ((fr_L18 _ (dz_n rfl)).1.trans hs) rfl 3 (by decide) (hts _ (List.mem_of_getElem? (i := 2) rfl)) (fun _ h9 => h9) rfl dX6_insert_48 ?_
      refine lv_iload_n hx hb dX6_insert_51 rfl (lv_at hl 0 rfl) ?_
      refine lv_iconst (v := 1) hx hb dX6_insert_52 (by decide) ?_
      refine lv_isub hx hb dX6_insert_53 ?_
      refine lv_topi (fun v_5 ev_5 => ?_)
      obtain rfl : v_5 = nI (k - 1) := ev_5.trans (pk_sub (a := k) (b := 1) (by omega))
      refine dz_iald hx hb hE hG rfl gp (vp_in_nI (by omega) (by decide)) dX6_insert_54 ?_
      refine lv_topi (fun v_6 ev_6 => ?_)
      obtain rfl : v_6 = fk (k - 1) := ev_6.trans (by rw [nI_clamp (by omega)])
      refine dz_iast hx hb hE hG rfl hS gp (vp_in_nI (by omega) (by decide)) dX6_insert_55 (fun H locs hG hS => ?_)
      obtain ⟨G_5, hG, w_5, o_5⟩ := dz_nm hG
      obtain ⟨v_7, ev_7⟩ : ∃ y : Int32, y = (nI k) + (-1) := ⟨_, rfl⟩
      refine lv_iinc (v := v_7) (lv' := [(3, .int v_7), (0, .ref a), (1, .int (nI own)), (2, .ref aR)]) hx hb dX6_insert_56 hl (k := 0) rfl (by rw [ev_7]; rfl) (by decide) rfl (fun ls hl => ?_)
      refine lv_goto (tgt := 18) hx hb dX6_insert_59 (by decide) ?_
      obtain rfl : v_7 = nI (k - 1) := ev_7.trans (by have h9 := pk_m1 (k - 1); rwa [show k - 1 + 1 = k by omega] at h9)
      exact ih_18 (k - 1, _, G_5, ls) _ _ (by first | (dsimp only; omega) | omega) ⟨(by omega), ((m_sh_s hk0 hlt).symm.trans hq |> fun z => by rw [nI_clamp (by omega)]; exact z), (fun x hx => by rw [nI_clamp (by omega)]; show ∃ j, _ ∧ upd fk k (fk (k - 1)) x = _; rw [pk_un (by simp only at hx; omega)]; exact hfk x (by simp only at hx ⊢; omega)), (fun r9 n_0 => (dz_tr (o_5 r9 n_0) (fr_L18 r9 n_0))), w_5, hG, hS, lv_sub hl [0, 1, 2, 3] rfl⟩

set_option maxHeartbeats 4000000 in
set_option maxRecDepth 100000 in
theorem c_X6_findImages (l : Launch) (Z : dzG) (G : dzW) (ad : dzA) (i aa cnt af as9 aR : Nat) (col row fl : Int32) (f fc fr fw : Nat → Int32) (hsa : ad (11, i) = aa) (hs : G (11, i) = some (eO 7 [.int col, .int row, .int fl, .ref (ad (12, i)), .int (nI cnt), .ref af, .ref as9])) (hp : G (12, i) = some (eI Z 441 f)) (hra : ad (2, 0) = aR) (ho : G (2, 0) = some (eO 6 [.ref (ad (3, 0)), .ref (ad (5, 0)), .ref (ad (6, 0)), .ref (ad (7, 0))])) (hc : G (5, 0) = some (eI Z 484 fc)) (hr : G (6, 0) = some (eI Z 484 fr)) (hw : G (7, 0) = some (eI Z 484 fw)) : dzWr l yX6_findImages wsX6_findImages 3 65 0 0 Z G ad [.ref aa, .ref aR] rv_v (fun (x : Unit) G1 ad1 => (∀ r9 : dzR, r9 ≠ (11, i) → r9 ≠ (12, i) → G1 r9 = G r9 ∧ ad1 r9 = ad r9) ∧ ad = ad1 ∧ (G1 (11, i) = some (eO 7 [.int col, .int row, .int fl, .ref (ad (12, i)), .int (nI (m_la fw (fun j => dz_b (fc j = col ∧ fr j = row)) (0, f) 21).1), .ref af, .ref as9]) ∧ ad (11, i) = aa) ∧ G1 (12, i) = some (eI Z 441 (m_la fw (fun j => dz_b (fc j = col ∧ fr j = row)) (0, f) 21).2)) := by
  refine Met.ofW (cc := cX6_findImages) (maxL := 5) (ret := none) (by decide) rfl ?_
  intro p e s m args below meth c s₁ B hml hv
  obtain ⟨rfl, hG, hE⟩ := hv
  have hx := B.exec
  have hb := B.bytes
  have hrt := B.returns
  have hts := atoms_spec (ws := wsX6_findImages) B.pre
  have hown : s.vm.findClass RX6 = some m.cls := findClass_of_methodNamed B.named
  have hlocks := B.notSynchronized
  have hS : va_S (dz_A Z) s.heap s.heap [] := va_S.rf
  have hl := lv_entry ([.ref aa, .ref aR]) (n := 5) (Nat.le_of_ble_eq_true rfl)
  rw [lg_entry_eq]
  generalize (lg_sl ([.ref aa, .ref aR]) ++ List.replicate (5 - (lg_sl ([.ref aa, .ref aR])).length) Slot.unset).toArray = ls at hl ⊢
  have hl : lv_has ls 5 [(0, .ref aa), (1, .ref aR)] := hl
  refine lv_aload_n hx hb dX6_findImages_0 rfl (lv_at hl 0 rfl) ?_
  refine lv_iconst (v := 0) hx hb dX6_findImages_1 (by decide) ?_
  refine dz_put hx hb hts (fun _ h => List.mem_cons_of_mem _ (List.mem_append_left _ (List.mem_append_right _ h))) tyX6 tyX6_ok nmX6 hown hE hG hsa hS hs rfl 4 (by decide) (hts _ (List.mem_of_getElem? (i := 1) rfl)) (fun _ h9 => h9) rfl (ty := .int) (by decide +kernel) rfl rfl (fs' := [.int col, .int row, .int fl, .ref (ad (12, i)), .int 0, .ref af, .ref as9]) rfl (Nat.le_of_ble_eq_true rfl) dX6_findImages_2 (fun H locs hG hS => ?_)
  obtain ⟨G_1, hG, w_1, o_1⟩ := dz_nm hG
  refine lv_bipush (v := (-10)) hx hb dX6_findImages_5 (by decide) ?_
  refine lv_istore_n (lv' := [(2, .int (-10)), (0, .ref aa), (1, .ref aR)]) hx hb dX6_findImages_7 rfl hl (by decide) rfl (fun ls hl => ?_)
  refine dz_lw (α := Nat × dzW × Array Slot) (fun a9 => (fun (a : Nat) (G_L8 : dzW) (ls : Array Slot) => 21 - a) a9.1 a9.2.1 a9.2.2) (fun a9 H locs => (fun (a : Nat) (G_L8 : dzW) (ls : Array Slot) => (a ≤ 21) ∧ (∀ r9 : dzR, r9 ≠ (11, i) → r9 ≠ (12, i) → G_L8 r9 = G_1 r9 ∧ ad r9 = ad r9) ∧ (G_L8 (11, i) = some (eO 7 [.int col, .int row, .int fl, .ref (ad (12, i)), .int (nI (m_la fw (fun j => dz_b (fc j = col ∧ fr j = row)) (0, f) a).1), .ref af, .ref as9])) ∧ (G_L8 (12, i) = some (eI Z 441 ((m_la fw (fun j => dz_b (fc j = col ∧ fr j = row)) (0, f) a).2))) ∧ dz_w Z G_L8 ad H ∧ va_S (dz_A Z) s.heap H locs ∧ lv_has ls 5 [(2, .int (nI a - 10)), (0, .ref aa), (1, .ref aR)]) a9.1 a9.2.1 a9.2.2) (fun a9 => F0 m 8 a9.2.2 []) (fun a9 H locs hI ih_8 => ?_) (0, G_1, ls) ⟨(Nat.zero_le _), (fun r9 _ _ => ⟨rfl, rfl⟩), w_1, ((o_1 _ (dz_n rfl)).1.trans hp), hG, hS, lv_sub hl [0, 1, 2] rfl⟩
  obtain ⟨a, G_L8, ls⟩ := a9
  obtain ⟨hal, fr_L8, gs1, gp1, hG, hS, hl⟩ := hI
  have hal : a ≤ 21 := hal
  have fr_L8 : ∀ r9 : dzR, r9 ≠ (11, i) → r9 ≠ (12, i) → G_L8 r9 = G_1 r9 ∧ ad r9 = ad r9 := fr_L8
  have gs1 : G_L8 (11, i) = some (eO 7 [.int col, .int row, .int fl, .ref (ad (12, i)), .int (nI (m_la fw (fun j => dz_b (fc j = col ∧ fr j = row)) (0, f) a).1), .ref af, .ref as9]) := gs1
  have gp1 : G_L8 (12, i) = some (eI Z 441 ((m_la fw (fun j => dz_b (fc j = col ∧ fr j = row)) (0, f) a).2)) := gp1
  have hG : dz_w Z G_L8 ad H := hG
  have hS : va_S (dz_A Z) s.heap H locs := hS
  have hl : lv_has ls 5 [(2, .int (nI a - 10)), (0, .ref aa), (1, .ref aR)] := hl
  refine lv_iload_n hx hb dX6_findImages_8 rfl (lv_at hl 0 rfl) ?_
  refine lv_bipush (v := 10) hx hb dX6_findImages_9 (by decide) ?_
  refine lv_icmp_gt (tgt := 66) hx hb dX6_findImages_11 (by decide) (fun c_11 => ?_) (fun c_11 => ?_)
  · have ha2 : a = 21 := (fl_gt a (by omega)).mp c_11
    refine W.widen (k := 0) (n := 0) (by first | omega | decide) (by first | omega | decide) ?_
    refine W.vret hx hb hrt (fun t ht hW => dz_endM (f := rv_v) () hE hS hG ?_ ht hW) (fun q h => hS.2.2 q h) dX6_findImages_66
    refine ⟨fun r9 n_0 n_1 => (dz_tr (fr_L8 r9 n_0 n_1) (o_1 r9 n_0)), rfl, ?_⟩
    rw [ha2] at gs1 gp1
    exact ⟨⟨gs1, hsa⟩, gp1⟩
  · have hal2 : a < 21 := by
      rcases Nat.lt_or_ge a 21 with q | q
      · exact q
      · exact absurd ((fl_gt a (by omega)).mpr (by omega)) c_11
    refine lv_bipush (v := (-10)) hx hb dX6_findImages_14 (by decide) ?_
    refine lv_istore_n (lv' := [(3, .int (-10)), (2, .int (nI a - 10)), (0, .ref aa), (1, .ref aR)]) hx hb dX6_findImages_16 rfl hl (by decide) rfl (fun ls hl => ?_)
    refine dz_lw (α := Nat × dzW × Array Slot) (fun a9 => (fun (b : Nat) (G_L17 : dzW) (ls : Array Slot) => 21 - b) a9.1 a9.2.1 a9.2.2) (fun a9 H locs => (fun (b : Nat) (G_L17 : dzW) (ls : Array Slot) => (b ≤ 21) ∧ (∀ r9 : dzR, r9 ≠ (11, i) → r9 ≠ (12, i) → G_L17 r9 = G_L8 r9 ∧ ad r9 = ad r9) ∧ (G_L17 (11, i) = some (eO 7 [.int col, .int row, .int fl, .ref (ad (12, i)), .int (nI (m_lr fw (fun j => dz_b (fc j = col ∧ fr j = row)) a (m_la fw (fun j => dz_b (fc j = col ∧ fr j = row)) (0, f) a) b).1), .ref af, .ref as9])) ∧ (G_L17 (12, i) = some (eI Z 441 ((m_lr fw (fun j => dz_b (fc j = col ∧ fr j = row)) a (m_la fw (fun j => dz_b (fc j = col ∧ fr j = row)) (0, f) a) b).2))) ∧ dz_w Z G_L17 ad H ∧ va_S (dz_A Z) s.heap H locs ∧ lv_has ls 5 [(3, .int (nI b - 10)), (2, .int (nI a - 10)), (0, .ref aa), (1, .ref aR)]) a9.1 a9.2.1 a9.2.2) (fun a9 => F0 m 17 a9.2.2 []) (fun a9 H locs hI ih_17 => ?_) (0, G_L8, ls) ⟨(Nat.zero_le _), (fun r9 _ _ => ⟨rfl, rfl⟩), gs1, gp1, hG, hS, lv_sub hl [0, 1, 2, 3] rfl⟩
    obtain ⟨b, G_L17, ls⟩ := a9
    obtain ⟨hbl, fr_L17, gs2, gp2, hG, hS, hl⟩ := hI
    have hbl : b ≤ 21 := hbl
    have fr_L17 : ∀ r9 : dzR, r9 ≠ (11, i) → r9 ≠ (12, i) → G_L17 r9 = G_L8 r9 ∧ ad r9 = ad r9 := fr_L17
    have gs2 : G_L17 (11, i) = some (eO 7 [.int col, .int row, .int fl, .ref (ad (12, i)), .int (nI (m_lr fw (fun j => dz_b (fc j = col ∧ fr j = row)) a (m_la fw (fun j => dz_b (fc j = col ∧ fr j = row)) (0, f) a) b).1), .ref af, .ref as9]) := gs2
    have gp2 : G_L17 (12, i) = some (eI Z 441 ((m_lr fw (fun j => dz_b (fc j = col ∧ fr j = row)) a (m_la fw (fun j => dz_b (fc j = col ∧ fr j = row)) (0, f) a) b).2)) := gp2
    have hG : dz_w Z G_L17 ad H := hG
    have hS : va_S (dz_A Z) s.heap H locs := hS
    have hl : lv_has ls 5 [(3, .int (nI b - 10)), (2, .int (nI a - 10)), (0, .ref aa), (1, .ref aR)] := hl
    refine lv_iload_n hx hb dX6_findImages_17 rfl (lv_at hl 0 rfl) ?_
    refine lv_bipush (v := 10) hx hb dX6_findImages_18 (by decide) ?_
    refine lv_icmp_gt (tgt := 60) hx hb dX6_findImages_20 (by decide) (fun c_20 => ?_) (fun c_20 => ?_)
    · have hb2 : b = 21 := (fl_gt b (by omega)).mp c_20
      obtain ⟨v_1, ev_1⟩ : ∃ y : Int32, y = (nI a - 10) + 1 := ⟨_, rfl⟩
      refine lv_iinc (v := v_1) (lv' := [(2, .int v_1), (3, .int (nI b - 10)), (0, .ref aa), (1, .ref aR)]) hx hb dX6_findImages_60 hl (k := 1) rfl (by rw [ev_1]; rfl) (by decide) rfl (fun ls hl => ?_)
      refine lv_goto (tgt := 8) hx hb dX6_findImages_63 (by decide) ?_
      obtain rfl : v_1 = nI (a + 1) - 10 := ev_1.trans (fl_sc a (by omega))
      exact ih_8 (a + 1, G_L17, ls) _ _ (by first | (dsimp only; omega) | omega) ⟨(by omega), (fun r9 n_0 n_1 => (dz_tr (fr_L17 r9 n_0 n_1) (fr_L8 r9 n_0 n_1))), (by have z := gs2; rw [hb2] at z; exact z), (by have z := gp2; rw [hb2] at z; exact z), hG, hS, lv_sub hl [0, 2, 3] rfl⟩
    · have hbl2 : b < 21 := by
        rcases Nat.lt_or_ge b 21 with q | q
        · exact q
        · exact absurd ((fl_gt b (by omega)).mpr (by omega)) c_20
      refine lv_iload_n hx hb dX6_findImages_23 rfl (lv_at hl 0 rfl) ?_
      refine lv_iload_n hx hb dX6_findImages_24 rfl (lv_at hl 1 rfl) ?_
      refine dz_kRi (va_runS (As := [_, _]) ⟨hx, hb, hml, hown, hts⟩ (c_X5_placeOf l Z _ _ _ _ ) (va_cwS 2 hts gX6_findImages_X5_placeOf rfl rfl rfl (by decide +kernel) ⟨Nat.le_of_ble_eq_true rfl, Nat.le_of_ble_eq_true rfl⟩) (dz_P.pre hE hS hG) rfl rfl hl.1 rfl (lv_room (Nat.le_of_ble_eq_true rfl)) dX6_findImages_25 ⟨Nat.le_of_ble_eq_true rfl, Nat.le_of_ble_eq_true rfl⟩) ?_
      refine lv_topi (fun v_2 ev_2 => ?_)
      obtain rfl : v_2 = nI (22 * a + b) := ev_2.trans (fl_pl a (by omega) b (by omega))
      refine lv_istore (lv' := [(4, .int (nI (22 * a + b))), (3, .int (nI b - 10)), (2, .int (nI a - 10)), (0, .ref aa), (1, .ref aR)]) hx hb dX6_findImages_28 hl (by decide) rfl (fun ls hl => ?_)
      refine lv_aload_n hx hb dX6_findImages_30 rfl (lv_at hl 4 rfl) ?_
      refine lv_iload hx hb dX6_findImages_31 (lv_at hl 0 rfl) ?_
      refine lv_aload_n hx hb dX6_findImages_33 rfl (lv_at hl 3 rfl) ?_
      refine dz_get hx hb hts (fun _ h => List.mem_cons_of_mem _ (List.mem_append_left _ (List.mem_append_right _ h))) hown hE hG hsa gs2 rfl 0 (by decide) (hts _ (List.mem_of_getElem? (i := 2) rfl)) (fun _ h9 => h9) rfl dX6_findImages_34 ?_
      refine lv_aload_n hx hb dX6_findImages_37 rfl (lv_at hl 3 rfl) ?_
      refine dz_get hx hb hts (fun _ h => List.mem_cons_of_mem _ (List.mem_append_left _ (List.mem_append_right _ h))) hown hE hG hsa gs2 rfl 1 (by decide) (hts _ (List.mem_of_getElem? (i := 3) rfl)) (fun _ h9 => h9) rfl dX6_findImages_38 ?_
      refine dz_kRi (va_runV (As := [_, _, _]) ⟨hx, hb, hml, hown, hts⟩ (c_X5_comesFrom l Z _ _ _ _ _ _ _ _ ((fr_L17 _ (dz_n rfl) (dz_n rfl)).2.trans ((fr_L8 _ (dz_n rfl) (dz_n rfl)).2.trans ((o_1 _ (dz_n rfl)).2.trans hra))) ((fr_L17 _ (dz_n rfl) (dz_n rfl)).1.trans ((fr_L8 _ (dz_n rfl) (dz_n rfl)).1.trans ((o_1 _ (dz_n rfl)).1.trans ho))) ((fr_L17 _ (dz_n rfl) (dz_n rfl)).1.trans ((fr_L8 _ (dz_n rfl) (dz_n rfl)).1.trans ((o_1 _ (dz_n rfl)).1.trans hc))) ((fr_L17 _ (dz_n rfl) (dz_n rfl)).1.trans ((fr_L8 _ (dz_n rfl) (dz_n rfl)).1.trans ((o_1 _ (dz_n rfl)).1.trans hr))) (by omega)) (cwV 3 hts gX6_findImages_X5_comesFrom rfl rfl rfl (by decide +kernel) ⟨Nat.le_of_ble_eq_true rfl, Nat.le_of_ble_eq_true rfl⟩) (dz_P.preV hE hS hG ((fr_L17 _ (dz_n rfl) (dz_n rfl)).1.trans ((fr_L8 _ (dz_n rfl) (dz_n rfl)).1.trans ((o_1 _ (dz_n rfl)).1.trans ho))) rfl ((fr_L17 _ (dz_n rfl) (dz_n rfl)).2.trans ((fr_L8 _ (dz_n rfl) (dz_n rfl)).2.trans ((o_1 _ (dz_n rfl)).2.trans hra)))) rfl rfl hl.1 rfl (lv_room (Nat.le_of_ble_eq_true rfl)) dX6_findImages_41 ⟨Nat.le_of_ble_eq_true rfl, Nat.le_of_ble_eq_true rfl⟩) ?_
      refine lv_if_eq (tgt := 54) hx hb dX6_findImages_44 (by decide) (fun c_44 => ?_) (fun c_44 => ?_)
      · have hst : (m_lr fw (fun j => dz_b (fc j = col ∧ fr j = row)) a (m_la fw (fun j => dz_b (fc j = col ∧ fr j = row)) (0, f) a) (b + 1)) = (m_lr fw (fun j => dz_b (fc j = col ∧ fr j = row)) a (m_la fw (fun j => dz_b (fc j = col ∧ fr j = row)) (0, f) a) b) := if_pos c_44
        obtain ⟨v_3, ev_3⟩ : ∃ y : Int32, y = (nI b - 10) + 1 := ⟨_, rfl⟩
        refine lv_iinc (v := v_3) (lv' := [(3, .int v_3), (4, .int (nI (22 * a + b))), (2, .int (nI a - 10)), (0, .ref aa), (1, .ref aR)]) hx hb dX6_findImages_54 hl (k := 1) rfl (by rw [ev_3]; rfl) (by decide) rfl (fun ls hl => ?_)
        refine lv_goto (tgt := 17) hx hb dX6_findImages_57 (by decide) ?_
        obtain rfl : v_3 = nI (b + 1) - 10 := ev_3.trans (fl_sc b (by omega))
        exact ih_17 (b + 1, G_L17, ls) _ _ (by first | (dsimp only; omega) | omega) ⟨(by omega), (fun r9 n_0 n_1 => (fr_L17 r9 n_0 n_1)), (by rw [hst]; exact gs2), (by rw [hst]; exact gp2), hG, hS, lv_sub hl [0, 2, 3, 4] rfl⟩
      · have hst : (m_lr fw (fun j => dz_b (fc j = col ∧ fr j = row)) a (m_la fw (fun j => dz_b (fc j = col ∧ fr j = row)) (0, f) a) (b + 1)) = ((m_lr fw (fun j => dz_b (fc j = col ∧ fr j = row)) a (m_la fw (fun j => dz_b (fc j = col ∧ fr j = row)) (0, f) a) b).1 + 1, m_ins fw (22 * a + b) (m_lr fw (fun j => dz_b (fc j = col ∧ fr j = row)) a (m_la fw (fun j => dz_b (fc j = col ∧ fr j = row)) (0, f) a) b).1 (m_lr fw (fun j => dz_b (fc j = col ∧ fr j = row)) a (m_la fw (fun j => dz_b (fc j = col ∧ fr j = row)) (0, f) a) b).2) := if_neg c_44
        refine lv_aload_n hx hb dX6_findImages_47 rfl (lv_at hl 3 rfl) ?_
        refine lv_iload hx hb dX6_findImages_48 (lv_at hl 0 rfl) ?_
        refine lv_aload_n hx hb dX6_findImages_50 rfl (lv_at hl 4 rfl) ?_
        refine dz_kMv (va_runV (As := [_, _]) ⟨hx, hb, hml, hown, hts⟩ (c_X6_insert l Z _ _ _ _ _ _ _ _ (22 * a + b) _ _ _ _ _ _ hsa gs2 gp2 ((fr_L17 _ (dz_n rfl) (dz_n rfl)).2.trans ((fr_L8 _ (dz_n rfl) (dz_n rfl)).2.trans ((o_1 _ (dz_n rfl)).2.trans hra))) ((fr_L17 _ (dz_n rfl) (dz_n rfl)).1.trans ((fr_L8 _ (dz_n rfl) (dz_n rfl)).1.trans ((o_1 _ (dz_n rfl)).1.trans ho))) ((fr_L17 _ (dz_n rfl) (dz_n rfl)).1.trans ((fr_L8 _ (dz_n rfl) (dz_n rfl)).1.trans ((o_1 _ (dz_n rfl)).1.trans hc))) ((fr_L17 _ (dz_n rfl) (dz_n rfl)).1.trans ((fr_L8 _ (dz_n rfl) (dz_n rfl)).1.trans ((o_1 _ (dz_n rfl)).1.trans hw))) (by omega) (by have h1 := m_lr_c (w := fw) (P := (fun j => dz_b (fc j = col ∧ fr j = row))) (a := a) (q := (m_la fw (fun j => dz_b (fc j = col ∧ fr j = row)) (0, f) a)) b; have h2 := m_la_c (w := fw) (P := (fun j => dz_b (fc j = col ∧ fr j = row))) (f := f) a; omega) ((m_lr_bd (m_la_bd a) b).mono (by omega))) (cwV 2 hts gX6_findImages_X6_insert rfl rfl rfl (by decide +kernel) ⟨Nat.le_of_ble_eq_true rfl, Nat.le_of_ble_eq_true rfl⟩) (dz_P.preV hE hS hG gs2 rfl hsa) rfl rfl hl.1 rfl (lv_room (Nat.le_of_ble_eq_true rfl)) dX6_findImages_51 ⟨Nat.le_of_ble_eq_true rfl, Nat.le_of_ble_eq_true rfl⟩) hS (fun G_51_1 ad_51_1 H locs hp_51_1 hG hS => ?_)
        obtain ⟨fr_51_1, rfl, g_51_1⟩ := hp_51_1
        obtain ⟨v_4, ev_4⟩ : ∃ y : Int32, y = (nI b - 10) + 1 := ⟨_, rfl⟩
        refine lv_iinc (v := v_4) (lv' := [(3, .int v_4), (4, .int (nI (22 * a + b))), (2, .int (nI a - 10)), (0, .ref aa), (1, .ref aR)]) hx hb dX6_findImages_54 hl (k := 1) rfl (by rw [ev_4]; rfl) (by decide) rfl (fun ls hl => ?_)
        refine lv_goto (tgt := 17) hx hb dX6_findImages_57 (by decide) ?_
        obtain rfl : v_4 = nI (b + 1) - 10 := ev_4.trans (fl_sc b (by omega))
        exact ih_17 (b + 1, G_51_1, ls) _ _ (by first | (dsimp only; omega) | omega) ⟨(by omega), (fun r9 n_0 n_1 => (dz_tr (fr_51_1 r9 n_0 n_1) (fr_L17 r9 n_0 n_1))), (by rw [hst]; exact g_51_1.1.1), (by rw [hst]; exact g_51_1.2.1), hG, hS, lv_sub hl [0, 2, 3, 4] rfl⟩
