set_option maxHeartbeats 4000000 in
set_option maxRecDepth 100000 in
theorem c_D_dispute_ok (l : Launch) (Z : dzG) (G : dzW) (ad : dzA) (aX nl nx : Nat) (dy ssf sst cfr grw : Int32) (bkk iop : Int32) (gr : Nat → Int32) (ha : ad (1, 0) = aX) (hco : G (1, 0) = some (eO 9 [.ref (ad (2, 0)), .ref (ad (9, 0)), .int (nI nl), .int (nI nx), .ref (ad (19, 0)), .ref (ad (26, 0)), .int dy, .int ssf, .int sst, .int cfr, .int grw])) (hbo : G (26, 0) = some (eO 2 [.ref (ad (27, 0)), .ref (ad (28, 0)), .int bkk, .ref (ad (29, 0)), .int iop])) (hgr : G (27, 0) = some (eI Z 2 gr)) (hi : ¬ iop = 0) (hio : m_bl iop) : dzRd l yX8_dispute wsX8_dispute 2 42 Z G ad [.ref aX] (some (.int (if gr 0 = -1 ∨ gr 1 = -1 then -1 else m_abs (gr 0 - gr 1)))) := by
  refine Met.ofW (cc := cX8_dispute) (maxL := 3) (ret := (some .int)) (by decide) rfl ?_
  intro p e s m args below meth c s₁ B hml hv
  obtain ⟨rfl, hG, hE⟩ := hv
  have hx := B.exec
  have hb := B.bytes
  have hrt := B.returns
  have hts := atoms_spec (ws := wsX8_dispute) B.pre
  have hown : s.vm.findClass RX8 = some m.cls := findClass_of_methodNamed B.named
  have hlocks := B.notSynchronized
  have hS : va_S (dz_A Z) s.heap s.heap [] := va_S.rf
  have hl := lv_entry ([.ref aX]) (n := 3) (Nat.le_of_ble_eq_true rfl)
  rw [lg_entry_eq]
  generalize (lg_sl ([.ref aX]) ++ List.replicate (3 - (lg_sl ([.ref aX])).length) Slot.unset).toArray = ls at hl ⊢
  have hl : lv_has ls 3 [(0, .ref aX)] := hl
  refine lv_aload_n hx hb dX8_dispute_0 rfl (lv_at hl 0 rfl) ?_
  refine dz_get hx hb hts (fun _ h => List.mem_cons_of_mem _ (List.mem_append_left _ (List.mem_append_left _ (List.mem_append_right _ h)))) hown hE hG ha hco rfl 5 (by decide) (hts _ (List.mem_of_getElem? (i := 3) rfl)) (fun _ h9 => h9) rfl dX8_dispute_1 ?_
  refine dz_kRi (va_runV (As := []) ⟨hx, hb, hml, hown, hts⟩ (c_X1_areOpen l Z _ _ _ _ _ rfl hbo hio) (cwV 0 hts gX8_dispute_X1_areOpen rfl rfl rfl (by decide +kernel) ⟨Nat.le_of_ble_eq_true rfl, Nat.le_of_ble_eq_true rfl⟩) (dz_P.preV hE hS hG hbo rfl rfl) rfl rfl hl.1 rfl (lv_room (Nat.le_of_ble_eq_true rfl)) dX8_dispute_4 ⟨Nat.le_of_ble_eq_true rfl, Nat.le_of_ble_eq_true rfl⟩) ?_
  refine lv_topi (fun v_1 ev_1 => ?_)
  obtain rfl : v_1 = iop := ev_1
  refine lv_if_ne (tgt := 21) hx hb dX8_dispute_7 (by decide) (fun c_7 => ?_) (fun c_7 => absurd c_7 hi)
  refine lv_aload_n hx hb dX8_dispute_21 rfl (lv_at hl 0 rfl) ?_
  refine dz_get hx hb hts (fun _ h => List.mem_cons_of_mem _ (List.mem_append_left _ (List.mem_append_left _ (List.mem_append_right _ h)))) hown hE hG ha hco rfl 5 (by decide) (hts _ (List.mem_of_getElem? (i := 3) rfl)) (fun _ h9 => h9) rfl dX8_dispute_22 ?_
  refine lv_iconst (v := 0) hx hb dX8_dispute_25 (by decide) ?_
  refine dz_kRi (va_runV (As := [_]) ⟨hx, hb, hml, hown, hts⟩ (c_X1_growthBy l Z _ _ _ 0 _ _ _ rfl hbo hgr (by decide)) (cwV 1 hts gX8_dispute_X1_growthBy rfl rfl rfl (by decide +kernel) ⟨Nat.le_of_ble_eq_true rfl, Nat.le_of_ble_eq_true rfl⟩) (dz_P.preV hE hS hG hbo rfl rfl) rfl rfl hl.1 rfl (lv_room (Nat.le_of_ble_eq_true rfl)) dX8_dispute_26 ⟨Nat.le_of_ble_eq_true rfl, Nat.le_of_ble_eq_true rfl⟩) ?_
  refine lv_topi (fun v_2 ev_2 => ?_)
  obtain rfl : v_2 = gr 0 := ev_2
  refine lv_istore_n (lv' := [(1, .int (gr 0)), (0, .ref aX)]) hx hb dX8_dispute_29 rfl hl (by decide) rfl (fun ls hl => ?_)
  refine lv_aload_n hx hb dX8_dispute_30 rfl (lv_at hl 1 rfl) ?_
  refine dz_get hx hb hts (fun _ h => List.mem_cons_of_mem _ (List.mem_append_left _ (List.mem_append_left _ (List.mem_append_right _ h)))) hown hE hG ha hco rfl 5 (by decide) (hts _ (List.mem_of_getElem? (i := 3) rfl)) (fun _ h9 => h9) rfl dX8_dispute_31 ?_
  refine lv_iconst (v := 1) hx hb dX8_dispute_34 (by decide) ?_
  refine dz_kRi (va_runV (As := [_]) ⟨hx, hb, hml, hown, hts⟩ (c_X1_growthBy l Z _ _ _ 1 _ _ _ rfl hbo hgr (by decide)) (cwV 1 hts gX8_dispute_X1_growthBy rfl rfl rfl (by decide +kernel) ⟨Nat.le_of_ble_eq_true rfl, Nat.le_of_ble_eq_true rfl⟩) (dz_P.preV hE hS hG hbo rfl rfl) rfl rfl hl.1 rfl (lv_room (Nat.le_of_ble_eq_true rfl)) dX8_dispute_35 ⟨Nat.le_of_ble_eq_true rfl, Nat.le_of_ble_eq_true rfl⟩) ?_
  refine lv_topi (fun v_3 ev_3 => ?_)
  obtain rfl : v_3 = gr 1 := ev_3
  refine lv_istore_n (lv' := [(2, .int (gr 1)), (1, .int (gr 0)), (0, .ref aX)]) hx hb dX8_dispute_38 rfl hl (by decide) rfl (fun ls hl => ?_)
  refine lv_iload_n hx hb dX8_dispute_39 rfl (lv_at hl 1 rfl) ?_
  refine lv_iconst (v := (-1)) hx hb dX8_dispute_40 (by decide) ?_
  refine lv_icmp_eq (tgt := 49) hx hb dX8_dispute_41 (by decide) (fun c_41 => ?_) (fun c_41 => ?_)
  · refine lv_iconst (v := (-1)) hx hb dX8_dispute_49 (by decide) ?_
    refine lv_goto (tgt := 59) hx hb dX8_dispute_50 (by decide) ?_
    refine W.iret hx hb hrt (fun t ht hW => ⟨congrArg (fun x => Outcome.returned (some (Value.int x))) ?_, ht⟩) (fun _ h => by cases h) dX8_dispute_59
    first | exact (if_pos (Or.inl c_41)).symm | exact (if_pos (Or.inr c_46)).symm | exact (if_neg (fun z => z.elim c_41 c_46)).symm
  · refine lv_iload_n hx hb dX8_dispute_44 rfl (lv_at hl 0 rfl) ?_
    refine lv_iconst (v := (-1)) hx hb dX8_dispute_45 (by decide) ?_
    refine lv_icmp_ne (tgt := 53) hx hb dX8_dispute_46 (by decide) (fun c_46 => ?_) (fun c_46 => ?_)
    · refine lv_iload_n hx hb dX8_dispute_53 rfl (lv_at hl 1 rfl) ?_
      refine lv_iload_n hx hb dX8_dispute_54 rfl (lv_at hl 0 rfl) ?_
      refine lv_isub hx hb dX8_dispute_55 ?_
      refine va_mabs hx hb (hml.trans hl.1.symm) hown (hts _ (List.mem_of_getElem? (i := 4) rfl)) (hts _ (List.mem_of_getElem? (i := 5) rfl)) (hts _ (List.mem_of_getElem? (i := 6) rfl)) (hts _ (List.mem_of_getElem? (i := 7) rfl)) (Nat.le_of_ble_eq_true rfl) (Nat.le_of_ble_eq_true rfl) (Nat.le_of_ble_eq_true rfl) (Nat.le_of_ble_eq_true rfl) dX8_dispute_56 ?_
      refine W.iret hx hb hrt (fun t ht hW => ⟨congrArg (fun x => Outcome.returned (some (Value.int x))) ?_, ht⟩) (fun _ h => by cases h) dX8_dispute_59
      first | exact (if_pos (Or.inl c_41)).symm | exact (if_pos (Or.inr c_46)).symm | exact (if_neg (fun z => z.elim c_41 c_46)).symm
    · refine lv_iconst (v := (-1)) hx hb dX8_dispute_49 (by decide) ?_
      refine lv_goto (tgt := 59) hx hb dX8_dispute_50 (by decide) ?_
      refine W.iret hx hb hrt (fun t ht hW => ⟨congrArg (fun x => Outcome.returned (some (Value.int x))) ?_, ht⟩) (fun _ h => by cases h) dX8_dispute_59
      first | exact (if_pos (Or.inl c_41)).symm | exact (if_pos (Or.inr c_46)).symm | exact (if_neg (fun z => z.elim c_41 c_46)).symm

set_option maxHeartbeats 4000000 in
set_option maxRecDepth 100000 in
theorem c_D_isFresh_ok (l : Launch) (Z : dzG) (G : dzW) (ad : dzA) (aX nl nx : Nat) (dy ssf sst cfr grw : Int32) (bkk iop : Int32) (nm : Nat) (sh co ro st : Nat → Int32) (k : Nat) (ma : Nat → Int32) (ha : ad (1, 0) = aX) (hco : G (1, 0) = some (eO 9 [.ref (ad (2, 0)), .ref (ad (9, 0)), .int (nI nl), .int (nI nx), .ref (ad (19, 0)), .ref (ad (26, 0)), .int dy, .int ssf, .int sst, .int cfr, .int grw])) (hbo : G (26, 0) = some (eO 2 [.ref (ad (27, 0)), .ref (ad (28, 0)), .int bkk, .ref (ad (29, 0)), .int iop])) (hma : G (28, 0) = some (eI Z 2 ma)) (hR : dz_Rm Z G ad nm sh co ro st) (hN : nm ≤ 6) (hk : k < 2) (hi : ¬ ma k = -1) : dzRd l yX8_isFresh wsX8_isFresh 3 63 Z G ad [.ref aX, .int (nI k)] (some (.int (dz_b (ma k = nI nm)))) := by
  refine Met.ofW (cc := cX8_isFresh) (maxL := 2) (ret := (some .boolean)) (by decide) rfl ?_
  intro p e s m args below meth c s₁ B hml hv
  obtain ⟨rfl, hG, hE⟩ := hv
  have hx := B.exec
  have hb := B.bytes
  have hrt := B.returns
  have hts := atoms_spec (ws := wsX8_isFresh) B.pre
  have hown : s.vm.findClass RX8 = some m.cls := findClass_of_methodNamed B.named
  have hlocks := B.notSynchronized
  have hS : va_S (dz_A Z) s.heap s.heap [] := va_S.rf
  have hl := lv_entry ([.ref aX, .int (nI k)]) (n := 2) (Nat.le_of_ble_eq_true rfl)
  rw [lg_entry_eq]
  generalize (lg_sl ([.ref aX, .int (nI k)]) ++ List.replicate (2 - (lg_sl ([.ref aX, .int (nI k)])).length) Slot.unset).toArray = ls at hl ⊢
  have hl : lv_has ls 2 [(0, .ref aX), (1, .int (nI k))] := hl
  refine lv_aload_n hx hb dX8_isFresh_0 rfl (lv_at hl 0 rfl) ?_
  refine dz_get hx hb hts (fun _ h => List.mem_cons_of_mem _ (List.mem_append_left _ (List.mem_append_left _ (List.mem_append_left _ (List.mem_append_left _ (List.mem_append_left _ (List.mem_append_right _ h))))))) hown hE hG ha hco rfl 5 (by decide) (hts _ (List.mem_of_getElem? (i := 5) rfl)) (fun _ h9 => h9) rfl dX8_isFresh_1 ?_
  refine lv_iload_n hx hb dX8_isFresh_4 rfl (lv_at hl 1 rfl) ?_
  refine dz_kRi (va_runV (As := [_]) ⟨hx, hb, hml, hown, hts⟩ (c_X1_hasHouse l Z _ _ _ _ _ _ rfl hbo) (cwV 1 hts gX8_isFresh_X1_hasHouse rfl rfl rfl (by decide +kernel) ⟨Nat.le_of_ble_eq_true rfl, Nat.le_of_ble_eq_true rfl⟩) (dz_P.preV hE hS hG hbo rfl rfl) rfl rfl hl.1 rfl (lv_room (Nat.le_of_ble_eq_true rfl)) dX8_isFresh_5 ⟨Nat.le_of_ble_eq_true rfl, Nat.le_of_ble_eq_true rfl⟩) ?_
  refine lv_topi (fun v_1 ev_1 => ?_)
  obtain rfl : v_1 = 1 := ev_1.trans (dz_b1 ⟨nI_pos' (by omega), nI_lt hk (by decide)⟩)
  refine lv_if_ne (tgt := 22) hx hb dX8_isFresh_8 (by decide) (fun c_8 => ?_) (fun c_8 => absurd c_8 (by decide))
  refine lv_aload_n hx hb dX8_isFresh_22 rfl (lv_at hl 0 rfl) ?_
  refine dz_get hx hb hts (fun _ h => List.mem_cons_of_mem _ (List.mem_append_left _ (List.mem_append_left _ (List.mem_append_left _ (List.mem_append_left _ (List.mem_append_left _ (List.mem_append_right _ h))))))) hown hE hG ha hco rfl 5 (by decide) (hts _ (List.mem_of_getElem? (i := 5) rfl)) (fun _ h9 => h9) rfl dX8_isFresh_23 ?_
  refine lv_iload_n hx hb dX8_isFresh_26 rfl (lv_at hl 1 rfl) ?_
  refine dz_kRi (va_runV (As := [_]) ⟨hx, hb, hml, hown, hts⟩ (c_X1_hasBooking l Z _ _ _ _ _ _ _ rfl hbo hma hk) (cwV 1 hts gX8_isFresh_X1_hasBooking rfl rfl rfl (by decide +kernel) ⟨Nat.le_of_ble_eq_true rfl, Nat.le_of_ble_eq_true rfl⟩) (dz_P.preV hE hS hG hbo rfl rfl) rfl rfl hl.1 rfl (lv_room (Nat.le_of_ble_eq_true rfl)) dX8_isFresh_27 ⟨Nat.le_of_ble_eq_true rfl, Nat.le_of_ble_eq_true rfl⟩) ?_
  refine lv_topi (fun v_2 ev_2 => ?_)
  obtain rfl : v_2 = 1 := ev_2.trans (dz_b1 hi)
  refine lv_if_ne (tgt := 44) hx hb dX8_isFresh_30 (by decide) (fun c_30 => ?_) (fun c_30 => absurd c_30 (by decide))
  refine lv_aload_n hx hb dX8_isFresh_44 rfl (lv_at hl 0 rfl) ?_
  refine dz_get hx hb hts (fun _ h => List.mem_cons_of_mem _ (List.mem_append_left _ (List.mem_append_left _ (List.mem_append_left _ (List.mem_append_left _ (List.mem_append_left _ (List.mem_append_right _ h))))))) hown hE hG ha hco rfl 5 (by decide) (hts _ (List.mem_of_getElem? (i := 5) rfl)) (fun _ h9 => h9) rfl dX8_isFresh_45 ?_
  refine lv_iload_n hx hb dX8_isFresh_48 rfl (lv_at hl 1 rfl) ?_
  refine dz_kRi (va_runV (As := [_]) ⟨hx, hb, hml, hown, hts⟩ (c_X1_massesThen l Z _ _ _ _ _ _ _ rfl hbo hma hk) (cwV 1 hts gX8_isFresh_X1_massesThen rfl rfl rfl (by decide +kernel) ⟨Nat.le_of_ble_eq_true rfl, Nat.le_of_ble_eq_true rfl⟩) (dz_P.preV hE hS hG hbo rfl rfl) rfl rfl hl.1 rfl (lv_room (Nat.le_of_ble_eq_true rfl)) dX8_isFresh_49 ⟨Nat.le_of_ble_eq_true rfl, Nat.le_of_ble_eq_true rfl⟩) ?_
  refine lv_topi (fun v_3 ev_3 => ?_)
  obtain rfl : v_3 = ma k := ev_3
  refine lv_aload_n hx hb dX8_isFresh_52 rfl (lv_at hl 0 rfl) ?_
  refine dz_get hx hb hts (fun _ h => List.mem_cons_of_mem _ (List.mem_append_left _ (List.mem_append_left _ (List.mem_append_left _ (List.mem_append_left _ (List.mem_append_left _ (List.mem_append_right _ h))))))) hown hE hG ha hco rfl 0 (by decide) (hts _ (List.mem_of_getElem? (i := 6) rfl)) (fun _ h9 => h9) rfl dX8_isFresh_53 ?_
  refine dz_kRi (va_runV (As := []) ⟨hx, hb, hml, hown, hts⟩ (c_X5_count l Z _ _ _ _ _ _ _ _ rfl hR hN) (cwV 0 hts gX8_isFresh_X5_count rfl rfl rfl (by decide +kernel) ⟨Nat.le_of_ble_eq_true rfl, Nat.le_of_ble_eq_true rfl⟩) (dz_P.preV hE hS hG hR.1 rfl rfl) rfl rfl hl.1 rfl (lv_room (Nat.le_of_ble_eq_true rfl)) dX8_isFresh_56 ⟨Nat.le_of_ble_eq_true rfl, Nat.le_of_ble_eq_true rfl⟩) ?_
  refine lv_topi (fun v_4 ev_4 => ?_)
  obtain rfl : v_4 = nI nm := ev_4
  refine lv_icmp_ne (tgt := 66) hx hb dX8_isFresh_59 (by decide) (fun c_59 => ?_) (fun c_59 => ?_)
  · refine lv_iconst (v := 0) hx hb dX8_isFresh_66 (by decide) ?_
    refine W.zret hx hb hrt (by decide) (fun t ht hW => ⟨congrArg (fun x => Outcome.returned (some (Value.int x))) ?_, ht⟩) (fun _ h => by cases h) dX8_isFresh_67
    first | exact (dz_b0 c_59).symm | exact (dz_b1 c_59).symm
  · refine lv_iconst (v := 1) hx hb dX8_isFresh_62 (by decide) ?_
    refine lv_goto (tgt := 67) hx hb dX8_isFresh_63 (by decide) ?_
    refine W.zret hx hb hrt (by decide) (fun t ht hW => ⟨congrArg (fun x => Outcome.returned (some (Value.int x))) ?_, ht⟩) (fun _ h => by cases h) dX8_isFresh_67
    first | exact (dz_b0 c_59).symm | exact (dz_b1 c_59).symm

set_option maxHeartbeats 4000000 in
set_option maxRecDepth 100000 in
theorem c_D_two_no (l : Launch) (hst : l.stackTraces = false) (Z : dzG) (G : dzW) (ad : dzA) (aX nl nx : Nat) (dy ssf sst cfr grw : Int32) (nm : Nat) (sh co ro st : Nat → Int32) (v1 v2 v3 : Int32) (ha : ad (1, 0) = aX) (hco : G (1, 0) = some (eO 9 [.ref (ad (2, 0)), .ref (ad (9, 0)), .int (nI nl), .int (nI nx), .ref (ad (19, 0)), .ref (ad (26, 0)), .int dy, .int ssf, .int sst, .int cfr, .int grw])) (hR : dz_Rm Z G ad nm sh co ro st) (hN : nm ≤ 6) (hv : v1 < 0 ∨ nI nm ≤ v1) : vx_Met l yX8_two wsX8_two (dz_rm 6 82 1 6) (dz_P Z G ad [.ref aX, .int v1, .int v2, .int v3]) (fun _ _ _ _ => False) (dz_XC Z G ad (fun E => E = "java/lang/IndexOutOfBoundsException")) 1 6 (dz_A Z) := by
  refine vx_ofW (cc := cX8_two) (maxL := 6) (ret := (some .int)) (by decide) rfl ?_
  intro p e s m args below meth c s₁ B hml hxt hv
  obtain ⟨rfl, hG, hE⟩ := hv
  have hx := B.exec
  have hb := B.bytes
  have hrt := B.returns
  have hts := atoms_spec (ws := wsX8_two) B.pre
  have hown : s.vm.findClass RX8 = some m.cls := findClass_of_methodNamed B.named
  have hlocks := B.notSynchronized
  have hS : va_S (dz_A Z) s.heap s.heap [] := va_S.rf
  have hl := lv_entry ([.ref aX, .int v1, .int v2, .int v3]) (n := 6) (Nat.le_of_ble_eq_true rfl)
  rw [lg_entry_eq]
  generalize (lg_sl ([.ref aX, .int v1, .int v2, .int v3]) ++ List.replicate (6 - (lg_sl ([.ref aX, .int v1, .int v2, .int v3])).length) Slot.unset).toArray = ls at hl ⊢
  have hl : lv_has ls 6 [(0, .ref aX), (1, .int v1), (2, .int v2), (3, .int v3)] := hl
  refine lv_aload_n hx hb dX8_two_0 rfl (lv_at hl 0 rfl) ?_
  refine dz_get hx hb hts (fun _ h => List.mem_cons_of_mem _ (List.mem_append_left _ (List.mem_append_left _ (List.mem_append_left _ (List.mem_append_left _ (List.mem_append_left _ (List.mem_append_left _ (List.mem_append_left _ (List.mem_append_left _ (List.mem_append_right _ h)))))))))) hown hE hG ha hco rfl 0 (by decide) (hts _ (List.mem_of_getElem? (i := 7) rfl)) (fun _ h9 => h9) rfl dX8_two_1 ?_
  refine lv_iload_n hx hb dX8_two_4 rfl (lv_at hl 1 rfl) ?_
  refine dz_kRn (va_runV (As := [_]) ⟨hx, hb, hml, hown, hts⟩ (c_massOut l Z _ _ _ _ _ _ _ _ _ rfl hR hN hv) (cwV 1 hts gX8_two_X5_massAt rfl rfl rfl (by decide +kernel) ⟨Nat.le_of_ble_eq_true rfl, Nat.le_of_ble_eq_true rfl⟩) (dz_P.preV hE hS hG hR.1 rfl rfl) rfl rfl hl.1 rfl (lv_room (Nat.le_of_ble_eq_true rfl)) dX8_two_5 ⟨Nat.le_of_ble_eq_true rfl, Nat.le_of_ble_eq_true rfl⟩) ?_
  refine lv_astoreN (lv' := [(4, .null), (0, .ref aX), (1, .int v1), (2, .int v2), (3, .int v3)]) hx hb dX8_two_8 hl (by decide) rfl (fun ls hl => ?_)
  refine lv_aloadN hx hb dX8_two_10 (lv_at hl 0 rfl) ?_
  refine lv_ifnonnullN hx hb dX8_two_12 ?_
  obtain ⟨sa9, hstr9⟩ := hE.2.2.2.2.2.2.2.2.1 (101, "no such mass") (by decide +kernel)
  refine vx_throwS (own := RX8) (cls := "java/lang/IndexOutOfBoundsException") (text := "no such mass") (names := ["java/lang/RuntimeException", "java/lang/Exception"]) (ik := 99) (is := 101) (ic := 103) (sa := sa9) (A := dz_A Z) hx hb hst hown (by decide +kernel) (by decide +kernel) (hts _ (List.mem_of_getElem? (i := 1) rfl)) (hts _ (List.mem_of_getElem? (i := 2) rfl)) hstr9 (vx_hat (B := [.castable "java/lang/IndexOutOfBoundsException" "java/lang/IndexOutOfBoundsException", .declares (Bundle.initS "java/lang/RuntimeException"), .declares (Bundle.initS "java/lang/Exception"), .declares (Bundle.initS Bundle.tN)]) (fun w h => hts w (List.mem_cons_of_mem _ (List.mem_append_left _ (List.mem_append_left _ (List.mem_append_right _ h))))) (by decide +kernel) (vx_c (va_Nw.use rfl (hE.2.2.2.2.2.2.1 ("java/lang/IndexOutOfBoundsException", "java/lang/IndexOutOfBoundsException") (by decide +kernel))) (vx_c (va_Nw.use rfl (hE.2.2.2.2.2.2.2.2.2.2.2.2 _ (List.mem_cons_self))) (vx_c (va_Nw.use rfl (hE.2.2.2.2.2.2.2.2.2.2.2.2 _ (List.mem_cons_of_mem _ List.mem_cons_self))) (vx_c (va_Nw.use rfl (hE.2.2.2.2.2.2.2.2.2.2.2.2 _ (List.mem_cons_of_mem _ (List.mem_cons_of_mem _ List.mem_cons_self)))) vx_n))))) (by decide +kernel) hE.2.2.2.2.1.1 hE.2.2.2.2.1.2 hS (hl.1.trans hml.symm) dX8_two_15 dX8_two_18 dX8_two_19 dX8_two_21 dX8_two_24 (fun x h => (hxt x h).elim) (Nat.le_of_ble_eq_true rfl) (Nat.le_of_ble_eq_true rfl) (Nat.le_of_ble_eq_true rfl) (Nat.le_of_ble_eq_true rfl) hlocks (fun t _ h1 h2 => dz_xc hG hS h1 h2) (fun z h => hS.2.2 z h) (Nat.le_of_ble_eq_true rfl) (Nat.le_of_ble_eq_true rfl)

set_option maxHeartbeats 4000000 in
set_option maxRecDepth 100000 in
theorem c_D_two_bad (l : Launch) (hst : l.stackTraces = false) (Z : dzG) (G : dzW) (ad : dzA) (aX nl nx : Nat) (dy ssf sst cfr grw : Int32) (nm : Nat) (sh co ro st : Nat → Int32) (k : Nat) (v2 v3 : Int32) (ha : ad (1, 0) = aX) (hco : G (1, 0) = some (eO 9 [.ref (ad (2, 0)), .ref (ad (9, 0)), .int (nI nl), .int (nI nx), .ref (ad (19, 0)), .ref (ad (26, 0)), .int dy, .int ssf, .int sst, .int cfr, .int grw])) (hR : dz_Rm Z G ad nm sh co ro st) (hN : nm ≤ 6) (hk : k < nm) (hbad : ¬ ((((-10) : Int32) ≤ v2 ∧ v2 ≤ 10) ∧ ((-10) ≤ v3 ∧ v3 ≤ 10))) : vx_Met l yX8_two wsX8_two (dz_rm 6 85 1 6) (dz_P Z G ad [.ref aX, .int (nI k), .int v2, .int v3]) (fun _ _ _ _ => False) (dz_XC Z G ad (fun E => E = "java/lang/IllegalArgumentException")) 1 6 (dz_A Z) := by
  refine vx_ofW (cc := cX8_two) (maxL := 6) (ret := (some .int)) (by decide) rfl ?_
  intro p e s m args below meth c s₁ B hml hxt hv
  obtain ⟨rfl, hG, hE⟩ := hv
  have hx := B.exec
  have hb := B.bytes
  have hrt := B.returns
  have hts := atoms_spec (ws := wsX8_two) B.pre
  have hown : s.vm.findClass RX8 = some m.cls := findClass_of_methodNamed B.named
  have hlocks := B.notSynchronized
  have hS : va_S (dz_A Z) s.heap s.heap [] := va_S.rf
  have hl := lv_entry ([.ref aX, .int (nI k), .int v2, .int v3]) (n := 6) (Nat.le_of_ble_eq_true rfl)
  rw [lg_entry_eq]
  generalize (lg_sl ([.ref aX, .int (nI k), .int v2, .int v3]) ++ List.replicate (6 - (lg_sl ([.ref aX, .int (nI k), .int v2, .int v3])).length) Slot.unset).toArray = ls at hl ⊢
  have hl : lv_has ls 6 [(0, .ref aX), (1, .int (nI k)), (2, .int v2), (3, .int v3)] := hl
  refine lv_aload_n hx hb dX8_two_0 rfl (lv_at hl 0 rfl) ?_
  refine dz_get hx hb hts (fun _ h => List.mem_cons_of_mem _ (List.mem_append_left _ (List.mem_append_left _ (List.mem_append_left _ (List.mem_append_left _ (List.mem_append_left _ (List.mem_append_left _ (List.mem_append_left _ (List.mem_append_left _ (List.mem_append_right _ h)))))))))) hown hE hG ha hco rfl 0 (by decide) (hts _ (List.mem_of_getElem? (i := 7) rfl)) (fun _ h9 => h9) rfl dX8_two_1 ?_
  refine lv_iload_n hx hb dX8_two_4 rfl (lv_at hl 1 rfl) ?_
  refine dz_kRr (va_runV (As := [_]) ⟨hx, hb, hml, hown, hts⟩ (c_massIn l Z _ _ _ _ _ _ _ _ _ rfl hR hN hk) (cwV 1 hts gX8_two_X5_massAt rfl rfl rfl (by decide +kernel) ⟨Nat.le_of_ble_eq_true rfl, Nat.le_of_ble_eq_true rfl⟩) (dz_P.preV hE hS hG hR.1 rfl rfl) rfl rfl hl.1 rfl (lv_room (Nat.le_of_ble_eq_true rfl)) dX8_two_5 ⟨Nat.le_of_ble_eq_true rfl, Nat.le_of_ble_eq_true rfl⟩) ?_
  refine lv_astore (lv' := [(4, .ref (ad (8, k))), (0, .ref aX), (1, .int (nI k)), (2, .int v2), (3, .int v3)]) hx hb dX8_two_8 hl (by decide) rfl (fun ls hl => ?_)
  refine lv_aload hx hb dX8_two_10 (lv_at hl 0 rfl) ?_
  refine lv_ifnonnull (tgt := 25) hx hb dX8_two_12 (by decide) ?_
  refine lv_iload_n hx hb dX8_two_25 rfl (lv_at hl 3 rfl) ?_
  refine lv_iload_n hx hb dX8_two_26 rfl (lv_at hl 4 rfl) ?_
  refine dz_kRi (va_runS (As := [_, _]) ⟨hx, hb, hml, hown, hts⟩ (c_X8_isInField l Z _ _ _ _ ) (va_cwS 2 hts gX8_two_X8_isInField rfl rfl rfl (by decide +kernel) ⟨Nat.le_of_ble_eq_true rfl, Nat.le_of_ble_eq_true rfl⟩) (dz_P.pre hE hS hG) rfl rfl hl.1 rfl (lv_room (Nat.le_of_ble_eq_true rfl)) dX8_two_27 ⟨Nat.le_of_ble_eq_true rfl, Nat.le_of_ble_eq_true rfl⟩) ?_
  refine lv_topi (fun v_1 ev_1 => ?_)
  obtain rfl : v_1 = 0 := ev_1.trans (dz_b0 hbad)
  refine lv_if_ne (tgt := 43) hx hb dX8_two_30 (by decide) (fun c_30 => absurd (by decide) c_30) (fun c_30 => ?_)
  obtain ⟨sa9, hstr9⟩ := hE.2.2.2.2.2.2.2.2.1 (104, "no cell of the field") (by decide +kernel)
  refine vx_throwS (own := RX8) (cls := "java/lang/IllegalArgumentException") (text := "no cell of the field") (names := ["java/lang/RuntimeException", "java/lang/Exception"]) (ik := 67) (is := 104) (ic := 71) (sa := sa9) (A := dz_A Z) hx hb hst hown (by decide +kernel) (by decide +kernel) (hts _ (List.mem_of_getElem? (i := 3) rfl)) (hts _ (List.mem_of_getElem? (i := 4) rfl)) hstr9 (vx_hat (B := [.castable "java/lang/IllegalArgumentException" "java/lang/IllegalArgumentException", .declares (Bundle.initS "java/lang/RuntimeException"), .declares (Bundle.initS "java/lang/Exception"), .declares (Bundle.initS Bundle.tN)]) (fun w h => hts w (List.mem_cons_of_mem _ (List.mem_append_left _ (List.mem_append_right _ h)))) (by decide +kernel) (vx_c (va_Nw.use rfl (hE.2.2.2.2.2.2.1 ("java/lang/IllegalArgumentException", "java/lang/IllegalArgumentException") (by decide +kernel))) (vx_c (va_Nw.use rfl (hE.2.2.2.2.2.2.2.2.2.2.2.2 _ (List.mem_cons_self))) (vx_c (va_Nw.use rfl (hE.2.2.2.2.2.2.2.2.2.2.2.2 _ (List.mem_cons_of_mem _ List.mem_cons_self))) (vx_c (va_Nw.use rfl (hE.2.2.2.2.2.2.2.2.2.2.2.2 _ (List.mem_cons_of_mem _ (List.mem_cons_of_mem _ List.mem_cons_self)))) vx_n))))) (by decide +kernel) hE.2.2.2.2.1.1 hE.2.2.2.2.1.2 hS (hl.1.trans hml.symm) dX8_two_33 dX8_two_36 dX8_two_37 dX8_two_39 dX8_two_42 (fun x h => (hxt x h).elim) (Nat.le_of_ble_eq_true rfl) (Nat.le_of_ble_eq_true rfl) (Nat.le_of_ble_eq_true rfl) (Nat.le_of_ble_eq_true rfl) hlocks (fun t _ h1 h2 => dz_xc hG hS h1 h2) (fun z h => hS.2.2 z h) (Nat.le_of_ble_eq_true rfl) (Nat.le_of_ble_eq_true rfl)

set_option maxHeartbeats 4000000 in
set_option maxRecDepth 100000 in
theorem c_D_two_cant (l : Launch) (hst : l.stackTraces = false) (Z : dzG) (G : dzW) (ad : dzA) (aX nl nx : Nat) (dy ssf sst cfr grw : Int32) (nm : Nat) (sh co ro st : Nat → Int32) (k : Nat) (v2 v3 : Int32) (ha : ad (1, 0) = aX) (hco : G (1, 0) = some (eO 9 [.ref (ad (2, 0)), .ref (ad (9, 0)), .int (nI nl), .int (nI nx), .ref (ad (19, 0)), .ref (ad (26, 0)), .int dy, .int ssf, .int sst, .int cfr, .int grw])) (hR : dz_Rm Z G ad nm sh co ro st) (hN : nm ≤ 6) (hk : k < nm) (hf : ((((-10) : Int32) ≤ v2 ∧ v2 ≤ 10) ∧ ((-10) ≤ v3 ∧ v3 ≤ 10))) (hc : st k ≤ 1 ∨ nm = 6) : vx_Met l yX8_two wsX8_two (dz_rm 6 85 1 6) (dz_P Z G ad [.ref aX, .int (nI k), .int v2, .int v3]) (fun _ _ _ _ => False) (dz_XC Z G ad (fun E => E = "java/lang/IllegalStateException")) 1 6 (dz_A Z) := by
  refine vx_ofW (cc := cX8_two) (maxL := 6) (ret := (some .int)) (by decide) rfl ?_
  intro p e s m args below meth c s₁ B hml hxt hv
  obtain ⟨rfl, hG, hE⟩ := hv
  have hx := B.exec
  have hb := B.bytes
  have hrt := B.returns
  have hts := atoms_spec (ws := wsX8_two) B.pre
  have hown : s.vm.findClass RX8 = some m.cls := findClass_of_methodNamed B.named
  have hlocks := B.notSynchronized
  have hS : va_S (dz_A Z) s.heap s.heap [] := va_S.rf
  have hl := lv_entry ([.ref aX, .int (nI k), .int v2, .int v3]) (n := 6) (Nat.le_of_ble_eq_true rfl)
  rw [lg_entry_eq]
  generalize (lg_sl ([.ref aX, .int (nI k), .int v2, .int v3]) ++ List.replicate (6 - (lg_sl ([.ref aX, .int (nI k), .int v2, .int v3])).length) Slot.unset).toArray = ls at hl ⊢
  have hl : lv_has ls 6 [(0, .ref aX), (1, .int (nI k)), (2, .int v2), (3, .int v3)] := hl
  refine lv_aload_n hx hb dX8_two_0 rfl (lv_at hl 0 rfl) ?_
  refine dz_get hx hb hts (fun _ h => List.mem_cons_of_mem _ (List.mem_append_left _ (List.mem_append_left _ (List.mem_append_left _ (List.mem_append_left _ (List.mem_append_left _ (List.mem_append_left _ (List.mem_append_left _ (List.mem_append_left _ (List.mem_append_right _ h)))))))))) hown hE hG ha hco rfl 0 (by decide) (hts _ (List.mem_of_getElem? (i := 7) rfl)) (fun _ h9 => h9) rfl dX8_two_1 ?_
  refine lv_iload_n hx hb dX8_two_4 rfl (lv_at hl 1 rfl) ?_
  refine dz_kRr (va_runV (As := [_]) ⟨hx, hb, hml, hown, hts⟩ (c_massIn l Z _ _ _ _ _ _ _ _ _ rfl hR hN hk) (cwV 1 hts gX8_two_X5_massAt rfl rfl rfl (by decide +kernel) ⟨Nat.le_of_ble_eq_true rfl, Nat.le_of_ble_eq_true rfl⟩) (dz_P.preV hE hS hG hR.1 rfl rfl) rfl rfl hl.1 rfl (lv_room (Nat.le_of_ble_eq_true rfl)) dX8_two_5 ⟨Nat.le_of_ble_eq_true rfl, Nat.le_of_ble_eq_true rfl⟩) ?_
  refine lv_astore (lv' := [(4, .ref (ad (8, k))), (0, .ref aX), (1, .int (nI k)), (2, .int v2), (3, .int v3)]) hx hb dX8_two_8 hl (by decide) rfl (fun ls hl => ?_)
  refine lv_aload hx hb dX8_two_10 (lv_at hl 0 rfl) ?_
  refine lv_ifnonnull (tgt := 25) hx hb dX8_two_12 (by decide) ?_
  refine lv_iload_n hx hb dX8_two_25 rfl (lv_at hl 3 rfl) ?_
  refine lv_iload_n hx hb dX8_two_26 rfl (lv_at hl 4 rfl) ?_
  refine dz_kRi (va_runS (As := [_, _]) ⟨hx, hb, hml, hown, hts⟩ (c_X8_isInField l Z _ _ _ _ ) (va_cwS 2 hts gX8_two_X8_isInField rfl rfl rfl (by decide +kernel) ⟨Nat.le_of_ble_eq_true rfl, Nat.le_of_ble_eq_true rfl⟩) (dz_P.pre hE hS hG) rfl rfl hl.1 rfl (lv_room (Nat.le_of_ble_eq_true rfl)) dX8_two_27 ⟨Nat.le_of_ble_eq_true rfl, Nat.le_of_ble_eq_true rfl⟩) ?_
  refine lv_topi (fun v_1 ev_1 => ?_)
  obtain rfl : v_1 = 1 := ev_1.trans (dz_b1 hf)
  refine lv_if_ne (tgt := 43) hx hb dX8_two_30 (by decide) (fun c_30 => ?_) (fun c_30 => absurd c_30 (by decide))
  refine lv_aload hx hb dX8_two_43 (lv_at hl 0 rfl) ?_
  refine dz_kRi (va_runV (As := []) ⟨hx, hb, hml, hown, hts⟩ (c_X4_isWhole l Z _ _ _ _ _ _ _ _ rfl (hR.2.2 k hk)) (cwV 0 hts gX8_two_X4_isWhole rfl rfl rfl (by decide +kernel) ⟨Nat.le_of_ble_eq_true rfl, Nat.le_of_ble_eq_true rfl⟩) (dz_P.preV hE hS hG (hR.2.2 k hk) rfl rfl) rfl rfl hl.1 rfl (lv_room (Nat.le_of_ble_eq_true rfl)) dX8_two_45 ⟨Nat.le_of_ble_eq_true rfl, Nat.le_of_ble_eq_true rfl⟩) ?_
  refine lv_topi (fun v_2 ev_2 => ?_)
  obtain rfl : v_2 = dz_b (st k ≤ 1) := ev_2
  refine lv_if_ne (tgt := 61) hx hb dX8_two_48 (by decide) (fun c_48 => ?_) (fun c_48 => ?_)
  · obtain ⟨sa9, hstr9⟩ := hE.2.2.2.2.2.2.2.2.1 (109, "the mass cannot be two") (by decide +kernel)
    refine vx_throwS (own := RX8) (cls := "java/lang/IllegalStateException") (text := "the mass cannot be two") (names := ["java/lang/RuntimeException", "java/lang/Exception"]) (ik := 78) (is := 109) (ic := 82) (sa := sa9) (A := dz_A Z) hx hb hst hown (by decide +kernel) (by decide +kernel) (hts _ (List.mem_of_getElem? (i := 5) rfl)) (hts _ (List.mem_of_getElem? (i := 6) rfl)) hstr9 (vx_hat (B := [.castable "java/lang/IllegalStateException" "java/lang/IllegalStateException", .declares (Bundle.initS "java/lang/RuntimeException"), .declares (Bundle.initS "java/lang/Exception"), .declares (Bundle.initS Bundle.tN)]) (fun w h => hts w (List.mem_cons_of_mem _ (List.mem_append_right _ h))) (by decide +kernel) (vx_c (va_Nw.use rfl (hE.2.2.2.2.2.2.1 ("java/lang/IllegalStateException", "java/lang/IllegalStateException") (by decide +kernel))) (vx_c (va_Nw.use rfl (hE.2.2.2.2.2.2.2.2.2.2.2.2 _ (List.mem_cons_self))) (vx_c (va_Nw.use rfl (hE.2.2.2.2.2.2.2.2.2.2.2.2 _ (List.mem_cons_of_mem _ List.mem_cons_self))) (vx_c (va_Nw.use rfl (hE.2.2.2.2.2.2.2.2.2.2.2.2 _ (List.mem_cons_of_mem _ (List.mem_cons_of_mem _ List.mem_cons_self)))) vx_n))))) (by decide +kernel) hE.2.2.2.2.1.1 hE.2.2.2.2.1.2 hS (hl.1.trans hml.symm) dX8_two_61 dX8_two_64 dX8_two_65 dX8_two_67 dX8_two_70 (fun x h => (hxt x h).elim) (Nat.le_of_ble_eq_true rfl) (Nat.le_of_ble_eq_true rfl) (Nat.le_of_ble_eq_true rfl) (Nat.le_of_ble_eq_true rfl) hlocks (fun t _ h1 h2 => dz_xc hG hS h1 h2) (fun z h => hS.2.2 z h) (Nat.le_of_ble_eq_true rfl) (Nat.le_of_ble_eq_true rfl)
  · have h6 : nm = 6 := hc.resolve_left (dz_bx c_48)
    refine lv_aload_n hx hb dX8_two_51 rfl (lv_at hl 1 rfl) ?_
    refine dz_get hx hb hts (fun _ h => List.mem_cons_of_mem _ (List.mem_append_left _ (List.mem_append_left _ (List.mem_append_left _ (List.mem_append_left _ (List.mem_append_left _ (List.mem_append_left _ (List.mem_append_left _ (List.mem_append_left _ (List.mem_append_right _ h)))))))))) hown hE hG ha hco rfl 0 (by decide) (hts _ (List.mem_of_getElem? (i := 7) rfl)) (fun _ h9 => h9) rfl dX8_two_52 ?_
    refine dz_kRi (va_runV (As := []) ⟨hx, hb, hml, hown, hts⟩ (c_X5_isFull l Z _ _ _ _ _ _ _ _ rfl hR hN) (cwV 0 hts gX8_two_X5_isFull rfl rfl rfl (by decide +kernel) ⟨Nat.le_of_ble_eq_true rfl, Nat.le_of_ble_eq_true rfl⟩) (dz_P.preV hE hS hG hR.1 rfl rfl) rfl rfl hl.1 rfl (lv_room (Nat.le_of_ble_eq_true rfl)) dX8_two_55 ⟨Nat.le_of_ble_eq_true rfl, Nat.le_of_ble_eq_true rfl⟩) ?_
    refine lv_topi (fun v_3 ev_3 => ?_)
    obtain rfl : v_3 = 1 := ev_3.trans (dz_b1 (by omega))
    refine lv_if_eq (tgt := 71) hx hb dX8_two_58 (by decide) (fun c_58 => absurd c_58 (by decide)) (fun c_58 => ?_)
    obtain ⟨sa9, hstr9⟩ := hE.2.2.2.2.2.2.2.2.1 (109, "the mass cannot be two") (by decide +kernel)
    refine vx_throwS (own := RX8) (cls := "java/lang/IllegalStateException") (text := "the mass cannot be two") (names := ["java/lang/RuntimeException", "java/lang/Exception"]) (ik := 78) (is := 109) (ic := 82) (sa := sa9) (A := dz_A Z) hx hb hst hown (by decide +kernel) (by decide +kernel) (hts _ (List.mem_of_getElem? (i := 5) rfl)) (hts _ (List.mem_of_getElem? (i := 6) rfl)) hstr9 (vx_hat (B := [.castable "java/lang/IllegalStateException" "java/lang/IllegalStateException", .declares (Bundle.initS "java/lang/RuntimeException"), .declares (Bundle.initS "java/lang/Exception"), .declares (Bundle.initS Bundle.tN)]) (fun w h => hts w (List.mem_cons_of_mem _ (List.mem_append_right _ h))) (by decide +kernel) (vx_c (va_Nw.use rfl (hE.2.2.2.2.2.2.1 ("java/lang/IllegalStateException", "java/lang/IllegalStateException") (by decide +kernel))) (vx_c (va_Nw.use rfl (hE.2.2.2.2.2.2.2.2.2.2.2.2 _ (List.mem_cons_self))) (vx_c (va_Nw.use rfl (hE.2.2.2.2.2.2.2.2.2.2.2.2 _ (List.mem_cons_of_mem _ List.mem_cons_self))) (vx_c (va_Nw.use rfl (hE.2.2.2.2.2.2.2.2.2.2.2.2 _ (List.mem_cons_of_mem _ (List.mem_cons_of_mem _ List.mem_cons_self)))) vx_n))))) (by decide +kernel) hE.2.2.2.2.1.1 hE.2.2.2.2.1.2 hS (hl.1.trans hml.symm) dX8_two_61 dX8_two_64 dX8_two_65 dX8_two_67 dX8_two_70 (fun x h => (hxt x h).elim) (Nat.le_of_ble_eq_true rfl) (Nat.le_of_ble_eq_true rfl) (Nat.le_of_ble_eq_true rfl) (Nat.le_of_ble_eq_true rfl) hlocks (fun t _ h1 h2 => dz_xc hG hS h1 h2) (fun z h => hS.2.2 z h) (Nat.le_of_ble_eq_true rfl) (Nat.le_of_ble_eq_true rfl)

set_option maxHeartbeats 4000000 in
set_option maxRecDepth 100000 in
theorem c_D_frame_noE (l : Launch) (hst : l.stackTraces = false) (Z : dzG) (G : dzW) (ad : dzA) (aX nl nx : Nat) (dy ssf sst cfr grw : Int32) (nf : Nat) (fdy : Nat → Int32) (lg : Nat → Nat → Int32) (ha : ad (1, 0) = aX) (hco : G (1, 0) = some (eO 9 [.ref (ad (2, 0)), .ref (ad (9, 0)), .int (nI nl), .int (nI nx), .ref (ad (19, 0)), .ref (ad (26, 0)), .int dy, .int ssf, .int sst, .int cfr, .int grw])) (hF : dz_Fr Z G ad nf fdy lg) (hnf : nf ≤ 60) (h0 : nf = 0) (hbad : ¬ ((ssf ≤ dy - dy / 100 * 100 ∧ dy - dy / 100 * 100 ≤ sst) ∧ ¬ dy < cfr)) : vx_Met l yX8_frame wsX8_frame (dz_rm 6 82 1 6) (dz_P Z G ad [.ref aX]) (fun _ _ _ _ => False) (dz_XC Z G ad (fun E => E = "java/lang/IllegalStateException")) 1 6 (dz_A Z) := by
  refine vx_ofW (cc := cX8_frame) (maxL := 1) (ret := (some .int)) (by decide) rfl ?_
  intro p e s m args below meth c s₁ B hml hxt hv
  obtain ⟨rfl, hG, hE⟩ := hv
  have hx := B.exec
  have hb := B.bytes
  have hrt := B.returns
  have hts := atoms_spec (ws := wsX8_frame) B.pre
  have hown : s.vm.findClass RX8 = some m.cls := findClass_of_methodNamed B.named
  have hlocks := B.notSynchronized
  have hS : va_S (dz_A Z) s.heap s.heap [] := va_S.rf
  have hl := lv_entry ([.ref aX]) (n := 1) (Nat.le_of_ble_eq_true rfl)
  rw [lg_entry_eq]
  generalize (lg_sl ([.ref aX]) ++ List.replicate (1 - (lg_sl ([.ref aX])).length) Slot.unset).toArray = ls at hl ⊢
  have hl : lv_has ls 1 [(0, .ref aX)] := hl
  refine lv_aload_n hx hb dX8_frame_0 rfl (lv_at hl 0 rfl) ?_
  refine dz_kRi (va_runV (As := []) ⟨hx, hb, hml, hown, hts⟩ (c_X8_isSeason l Z _ _ _ _ _ _ _ _ _ _ ha hco) (cwV 0 hts gX8_frame_X8_isSeason rfl rfl rfl (by decide +kernel) ⟨Nat.le_of_ble_eq_true rfl, Nat.le_of_ble_eq_true rfl⟩) (dz_P.preV hE hS hG hco rfl ha) rfl rfl hl.1 rfl (lv_room (Nat.le_of_ble_eq_true rfl)) dX8_frame_1 ⟨Nat.le_of_ble_eq_true rfl, Nat.le_of_ble_eq_true rfl⟩) ?_
  refine lv_if_eq (tgt := 42) hx hb dX8_frame_4 (by decide) (fun c_4 => ?_) (fun c_4 => ?_)
  · obtain ⟨sa9, hstr9⟩ := hE.2.2.2.2.2.2.2.2.1 (196, "no frame can be taken") (by decide +kernel)
    refine vx_throwS (own := RX8) (cls := "java/lang/IllegalStateException") (text := "no frame can be taken") (names := ["java/lang/RuntimeException", "java/lang/Exception"]) (ik := 78) (is := 196) (ic := 82) (sa := sa9) (A := dz_A Z) hx hb hst hown (by decide +kernel) (by decide +kernel) (hts _ (List.mem_of_getElem? (i := 1) rfl)) (hts _ (List.mem_of_getElem? (i := 2) rfl)) hstr9 (vx_hat (B := [.castable "java/lang/IllegalStateException" "java/lang/IllegalStateException", .declares (Bundle.initS "java/lang/RuntimeException"), .declares (Bundle.initS "java/lang/Exception"), .declares (Bundle.initS Bundle.tN)]) (fun w h => hts w (List.mem_cons_of_mem _ (List.mem_append_right _ h))) (by decide +kernel) (vx_c (va_Nw.use rfl (hE.2.2.2.2.2.2.1 ("java/lang/IllegalStateException", "java/lang/IllegalStateException") (by decide +kernel))) (vx_c (va_Nw.use rfl (hE.2.2.2.2.2.2.2.2.2.2.2.2 _ (List.mem_cons_self))) (vx_c (va_Nw.use rfl (hE.2.2.2.2.2.2.2.2.2.2.2.2 _ (List.mem_cons_of_mem _ List.mem_cons_self))) (vx_c (va_Nw.use rfl (hE.2.2.2.2.2.2.2.2.2.2.2.2 _ (List.mem_cons_of_mem _ (List.mem_cons_of_mem _ List.mem_cons_self)))) vx_n))))) (by decide +kernel) hE.2.2.2.2.1.1 hE.2.2.2.2.1.2 hS (hl.1.trans hml.symm) dX8_frame_42 dX8_frame_45 dX8_frame_46 dX8_frame_48 dX8_frame_51 (fun x h => (hxt x h).elim) (Nat.le_of_ble_eq_true rfl) (Nat.le_of_ble_eq_true rfl) (Nat.le_of_ble_eq_true rfl) (Nat.le_of_ble_eq_true rfl) hlocks (fun t _ h1 h2 => dz_xc hG hS h1 h2) (fun z h => hS.2.2 z h) (Nat.le_of_ble_eq_true rfl) (Nat.le_of_ble_eq_true rfl)
  · refine lv_aload_n hx hb dX8_frame_7 rfl (lv_at hl 0 rfl) ?_
    refine dz_get hx hb hts (fun _ h => List.mem_cons_of_mem _ (List.mem_append_left _ (List.mem_append_left _ (List.mem_append_left _ (List.mem_append_left _ (List.mem_append_left _ (List.mem_append_left _ (List.mem_append_left _ (List.mem_append_left _ (List.mem_append_right _ h)))))))))) hown hE hG ha hco rfl 6 (by decide) (hts _ (List.mem_of_getElem? (i := 3) rfl)) (fun _ h9 => h9) rfl dX8_frame_8 ?_
    refine lv_aload_n hx hb dX8_frame_11 rfl (lv_at hl 0 rfl) ?_
    refine dz_get hx hb hts (fun _ h => List.mem_cons_of_mem _ (List.mem_append_left _ (List.mem_append_left _ (List.mem_append_left _ (List.mem_append_left _ (List.mem_append_left _ (List.mem_append_left _ (List.mem_append_left _ (List.mem_append_left _ (List.mem_append_right _ h)))))))))) hown hE hG ha hco rfl 9 (by decide) (hts _ (List.mem_of_getElem? (i := 4) rfl)) (fun _ h9 => h9) rfl dX8_frame_12 ?_
    refine lv_icmp_lt (tgt := 42) hx hb dX8_frame_15 (by decide) (fun c_15 => ?_) (fun c_15 => ?_)
    · obtain ⟨sa9, hstr9⟩ := hE.2.2.2.2.2.2.2.2.1 (196, "no frame can be taken") (by decide +kernel)
      refine vx_throwS (own := RX8) (cls := "java/lang/IllegalStateException") (text := "no frame can be taken") (names := ["java/lang/RuntimeException", "java/lang/Exception"]) (ik := 78) (is := 196) (ic := 82) (sa := sa9) (A := dz_A Z) hx hb hst hown (by decide +kernel) (by decide +kernel) (hts _ (List.mem_of_getElem? (i := 1) rfl)) (hts _ (List.mem_of_getElem? (i := 2) rfl)) hstr9 (vx_hat (B := [.castable "java/lang/IllegalStateException" "java/lang/IllegalStateException", .declares (Bundle.initS "java/lang/RuntimeException"), .declares (Bundle.initS "java/lang/Exception"), .declares (Bundle.initS Bundle.tN)]) (fun w h => hts w (List.mem_cons_of_mem _ (List.mem_append_right _ h))) (by decide +kernel) (vx_c (va_Nw.use rfl (hE.2.2.2.2.2.2.1 ("java/lang/IllegalStateException", "java/lang/IllegalStateException") (by decide +kernel))) (vx_c (va_Nw.use rfl (hE.2.2.2.2.2.2.2.2.2.2.2.2 _ (List.mem_cons_self))) (vx_c (va_Nw.use rfl (hE.2.2.2.2.2.2.2.2.2.2.2.2 _ (List.mem_cons_of_mem _ List.mem_cons_self))) (vx_c (va_Nw.use rfl (hE.2.2.2.2.2.2.2.2.2.2.2.2 _ (List.mem_cons_of_mem _ (List.mem_cons_of_mem _ List.mem_cons_self)))) vx_n))))) (by decide +kernel) hE.2.2.2.2.1.1 hE.2.2.2.2.1.2 hS (hl.1.trans hml.symm) dX8_frame_42 dX8_frame_45 dX8_frame_46 dX8_frame_48 dX8_frame_51 (fun x h => (hxt x h).elim) (Nat.le_of_ble_eq_true rfl) (Nat.le_of_ble_eq_true rfl) (Nat.le_of_ble_eq_true rfl) (Nat.le_of_ble_eq_true rfl) hlocks (fun t _ h1 h2 => dz_xc hG hS h1 h2) (fun z h => hS.2.2 z h) (Nat.le_of_ble_eq_true rfl) (Nat.le_of_ble_eq_true rfl)
    · exact absurd ⟨dz_by c_4, c_15⟩ hbad

set_option maxHeartbeats 4000000 in
set_option maxRecDepth 100000 in
theorem c_D_frame_noN (l : Launch) (hst : l.stackTraces = false) (Z : dzG) (G : dzW) (ad : dzA) (aX nl nx : Nat) (dy ssf sst cfr grw : Int32) (nf : Nat) (fdy : Nat → Int32) (lg : Nat → Nat → Int32) (ha : ad (1, 0) = aX) (hco : G (1, 0) = some (eO 9 [.ref (ad (2, 0)), .ref (ad (9, 0)), .int (nI nl), .int (nI nx), .ref (ad (19, 0)), .ref (ad (26, 0)), .int dy, .int ssf, .int sst, .int cfr, .int grw])) (hF : dz_Fr Z G ad nf fdy lg) (hnf : nf ≤ 60) (h0 : 0 < nf) (hbad : ¬ (((ssf ≤ dy - dy / 100 * 100 ∧ dy - dy / 100 * 100 ≤ sst) ∧ ¬ dy < cfr) ∧ ¬ fdy (nf - 1) = dy ∧ ¬ 60 ≤ nf)) : vx_Met l yX8_frame wsX8_frame (dz_rm 6 107 1 6) (dz_P Z G ad [.ref aX]) (fun _ _ _ _ => False) (dz_XC Z G ad (fun E => E = "java/lang/IllegalStateException")) 1 6 (dz_A Z) := by
  refine vx_ofW (cc := cX8_frame) (maxL := 1) (ret := (some .int)) (by decide) rfl ?_
  intro p e s m args below meth c s₁ B hml hxt hv
  obtain ⟨rfl, hG, hE⟩ := hv
  have hx := B.exec
  have hb := B.bytes
  have hrt := B.returns
  have hts := atoms_spec (ws := wsX8_frame) B.pre
  have hown : s.vm.findClass RX8 = some m.cls := findClass_of_methodNamed B.named
  have hlocks := B.notSynchronized
  have hS : va_S (dz_A Z) s.heap s.heap [] := va_S.rf
  have hl := lv_entry ([.ref aX]) (n := 1) (Nat.le_of_ble_eq_true rfl)
  rw [lg_entry_eq]
  generalize (lg_sl ([.ref aX]) ++ List.replicate (1 - (lg_sl ([.ref aX])).length) Slot.unset).toArray = ls at hl ⊢
  have hl : lv_has ls 1 [(0, .ref aX)] := hl
  refine lv_aload_n hx hb dX8_frame_0 rfl (lv_at hl 0 rfl) ?_
  refine dz_kRi (va_runV (As := []) ⟨hx, hb, hml, hown, hts⟩ (c_X8_isSeason l Z _ _ _ _ _ _ _ _ _ _ ha hco) (cwV 0 hts gX8_frame_X8_isSeason rfl rfl rfl (by decide +kernel) ⟨Nat.le_of_ble_eq_true rfl, Nat.le_of_ble_eq_true rfl⟩) (dz_P.preV hE hS hG hco rfl ha) rfl rfl hl.1 rfl (lv_room (Nat.le_of_ble_eq_true rfl)) dX8_frame_1 ⟨Nat.le_of_ble_eq_true rfl, Nat.le_of_ble_eq_true rfl⟩) ?_
  refine lv_if_eq (tgt := 42) hx hb dX8_frame_4 (by decide) (fun c_4 => ?_) (fun c_4 => ?_)
  · obtain ⟨sa9, hstr9⟩ := hE.2.2.2.2.2.2.2.2.1 (196, "no frame can be taken") (by decide +kernel)
    refine vx_throwS (own := RX8) (cls := "java/lang/IllegalStateException") (text := "no frame can be taken") (names := ["java/lang/RuntimeException", "java/lang/Exception"]) (ik := 78) (is := 196) (ic := 82) (sa := sa9) (A := dz_A Z) hx hb hst hown (by decide +kernel) (by decide +kernel) (hts _ (List.mem_of_getElem? (i := 1) rfl)) (hts _ (List.mem_of_getElem? (i := 2) rfl)) hstr9 (vx_hat (B := [.castable "java/lang/IllegalStateException" "java/lang/IllegalStateException", .declares (Bundle.initS "java/lang/RuntimeException"), .declares (Bundle.initS "java/lang/Exception"), .declares (Bundle.initS Bundle.tN)]) (fun w h => hts w (List.mem_cons_of_mem _ (List.mem_append_right _ h))) (by decide +kernel) (vx_c (va_Nw.use rfl (hE.2.2.2.2.2.2.1 ("java/lang/IllegalStateException", "java/lang/IllegalStateException") (by decide +kernel))) (vx_c (va_Nw.use rfl (hE.2.2.2.2.2.2.2.2.2.2.2.2 _ (List.mem_cons_self))) (vx_c (va_Nw.use rfl (hE.2.2.2.2.2.2.2.2.2.2.2.2 _ (List.mem_cons_of_mem _ List.mem_cons_self))) (vx_c (va_Nw.use rfl (hE.2.2.2.2.2.2.2.2.2.2.2.2 _ (List.mem_cons_of_mem _ (List.mem_cons_of_mem _ List.mem_cons_self)))) vx_n))))) (by decide +kernel) hE.2.2.2.2.1.1 hE.2.2.2.2.1.2 hS (hl.1.trans hml.symm) dX8_frame_42 dX8_frame_45 dX8_frame_46 dX8_frame_48 dX8_frame_51 (fun x h => (hxt x h).elim) (Nat.le_of_ble_eq_true rfl) (Nat.le_of_ble_eq_true rfl) (Nat.le_of_ble_eq_true rfl) (Nat.le_of_ble_eq_true rfl) hlocks (fun t _ h1 h2 => dz_xc hG hS h1 h2) (fun z h => hS.2.2 z h) (Nat.le_of_ble_eq_true rfl) (Nat.le_of_ble_eq_true rfl)
  · refine lv_aload_n hx hb dX8_frame_7 rfl (lv_at hl 0 rfl) ?_
    refine dz_get hx hb hts (fun _ h => List.mem_cons_of_mem _ (List.mem_append_left _ (List.mem_append_left _ (List.mem_append_left _ (List.mem_append_left _ (List.mem_append_left _ (List.mem_append_left _ (List.mem_append_left _ (List.mem_append_left _ (List.mem_append_right _ h)))))))))) hown hE hG ha hco rfl 6 (by decide) (hts _ (List.mem_of_getElem? (i := 3) rfl)) (fun _ h9 => h9) rfl dX8_frame_8 ?_
    refine lv_aload_n hx hb dX8_frame_11 rfl (lv_at hl 0 rfl) ?_
    refine dz_get hx hb hts (fun _ h => List.mem_cons_of_mem _ (List.mem_append_left _ (List.mem_append_left _ (List.mem_append_left _ (List.mem_append_left _ (List.mem_append_left _ (List.mem_append_left _ (List.mem_append_left _ (List.mem_append_left _ (List.mem_append_right _ h)))))))))) hown hE hG ha hco rfl 9 (by decide) (hts _ (List.mem_of_getElem? (i := 4) rfl)) (fun _ h9 => h9) rfl dX8_frame_12 ?_
    refine lv_icmp_lt (tgt := 42) hx hb dX8_frame_15 (by decide) (fun c_15 => ?_) (fun c_15 => ?_)
    · obtain ⟨sa9, hstr9⟩ := hE.2.2.2.2.2.2.2.2.1 (196, "no frame can be taken") (by decide +kernel)
      refine vx_throwS (own := RX8) (cls := "java/lang/IllegalStateException") (text := "no frame can be taken") (names := ["java/lang/RuntimeException", "java/lang/Exception"]) (ik := 78) (is := 196) (ic := 82) (sa := sa9) (A := dz_A Z) hx hb hst hown (by decide +kernel) (by decide +kernel) (hts _ (List.mem_of_getElem? (i := 1) rfl)) (hts _ (List.mem_of_getElem? (i := 2) rfl)) hstr9 (vx_hat (B := [.castable "java/lang/IllegalStateException" "java/lang/IllegalStateException", .declares (Bundle.initS "java/lang/RuntimeException"), .declares (Bundle.initS "java/lang/Exception"), .declares (Bundle.initS Bundle.tN)]) (fun w h => hts w (List.mem_cons_of_mem _ (List.mem_append_right _ h))) (by decide +kernel) (vx_c (va_Nw.use rfl (hE.2.2.2.2.2.2.1 ("java/lang/IllegalStateException", "java/lang/IllegalStateException") (by decide +kernel))) (vx_c (va_Nw.use rfl (hE.2.2.2.2.2.2.2.2.2.2.2.2 _ (List.mem_cons_self))) (vx_c (va_Nw.use rfl (hE.2.2.2.2.2.2.2.2.2.2.2.2 _ (List.mem_cons_of_mem _ List.mem_cons_self))) (vx_c (va_Nw.use rfl (hE.2.2.2.2.2.2.2.2.2.2.2.2 _ (List.mem_cons_of_mem _ (List.mem_cons_of_mem _ List.mem_cons_self)))) vx_n))))) (by decide +kernel) hE.2.2.2.2.1.1 hE.2.2.2.2.1.2 hS (hl.1.trans hml.symm) dX8_frame_42 dX8_frame_45 dX8_frame_46 dX8_frame_48 dX8_frame_51 (fun x h => (hxt x h).elim) (Nat.le_of_ble_eq_true rfl) (Nat.le_of_ble_eq_true rfl) (Nat.le_of_ble_eq_true rfl) (Nat.le_of_ble_eq_true rfl) hlocks (fun t _ h1 h2 => dz_xc hG hS h1 h2) (fun z h => hS.2.2 z h) (Nat.le_of_ble_eq_true rfl) (Nat.le_of_ble_eq_true rfl)
    · refine lv_aload_n hx hb dX8_frame_18 rfl (lv_at hl 0 rfl) ?_
      refine dz_get hx hb hts (fun _ h => List.mem_cons_of_mem _ (List.mem_append_left _ (List.mem_append_left _ (List.mem_append_left _ (List.mem_append_left _ (List.mem_append_left _ (List.mem_append_left _ (List.mem_append_left _ (List.mem_append_left _ (List.mem_append_right _ h)))))))))) hown hE hG ha hco rfl 4 (by decide) (hts _ (List.mem_of_getElem? (i := 5) rfl)) (fun _ h9 => h9) rfl dX8_frame_19 ?_
      refine lv_aload_n hx hb dX8_frame_22 rfl (lv_at hl 0 rfl) ?_
      refine dz_get hx hb hts (fun _ h => List.mem_cons_of_mem _ (List.mem_append_left _ (List.mem_append_left _ (List.mem_append_left _ (List.mem_append_left _ (List.mem_append_left _ (List.mem_append_left _ (List.mem_append_left _ (List.mem_append_left _ (List.mem_append_right _ h)))))))))) hown hE hG ha hco rfl 6 (by decide) (hts _ (List.mem_of_getElem? (i := 3) rfl)) (fun _ h9 => h9) rfl dX8_frame_23 ?_
      refine dz_kRi (va_runV (As := [_]) ⟨hx, hb, hml, hown, hts⟩ (c_hfN l Z _ _ _ _ _ _ _ rfl hF hnf h0) (cwV 1 hts gX8_frame_X0_hasFrameOf rfl rfl rfl (by decide +kernel) ⟨Nat.le_of_ble_eq_true rfl, Nat.le_of_ble_eq_true rfl⟩) (dz_P.preV hE hS hG hF.1 rfl rfl) rfl rfl hl.1 rfl (lv_room (Nat.le_of_ble_eq_true rfl)) dX8_frame_26 ⟨Nat.le_of_ble_eq_true rfl, Nat.le_of_ble_eq_true rfl⟩) ?_
      refine lv_if_ne (tgt := 42) hx hb dX8_frame_29 (by decide) (fun c_29 => ?_) (fun c_29 => ?_)
      · obtain ⟨sa9, hstr9⟩ := hE.2.2.2.2.2.2.2.2.1 (196, "no frame can be taken") (by decide +kernel)
        refine vx_throwS (own := RX8) (cls := "java/lang/IllegalStateException") (text := "no frame can be taken") (names := ["java/lang/RuntimeException", "java/lang/Exception"]) (ik := 78) (is := 196) (ic := 82) (sa := sa9) (A := dz_A Z) hx hb hst hown (by decide +kernel) (by decide +kernel) (hts _ (List.mem_of_getElem? (i := 1) rfl)) (hts _ (List.mem_of_getElem? (i := 2) rfl)) hstr9 (vx_hat (B := [.castable "java/lang/IllegalStateException" "java/lang/IllegalStateException", .declares (Bundle.initS "java/lang/RuntimeException"), .declares (Bundle.initS "java/lang/Exception"), .declares (Bundle.initS Bundle.tN)]) (fun w h => hts w (List.mem_cons_of_mem _ (List.mem_append_right _ h))) (by decide +kernel) (vx_c (va_Nw.use rfl (hE.2.2.2.2.2.2.1 ("java/lang/IllegalStateException", "java/lang/IllegalStateException") (by decide +kernel))) (vx_c (va_Nw.use rfl (hE.2.2.2.2.2.2.2.2.2.2.2.2 _ (List.mem_cons_self))) (vx_c (va_Nw.use rfl (hE.2.2.2.2.2.2.2.2.2.2.2.2 _ (List.mem_cons_of_mem _ List.mem_cons_self))) (vx_c (va_Nw.use rfl (hE.2.2.2.2.2.2.2.2.2.2.2.2 _ (List.mem_cons_of_mem _ (List.mem_cons_of_mem _ List.mem_cons_self)))) vx_n))))) (by decide +kernel) hE.2.2.2.2.1.1 hE.2.2.2.2.1.2 hS (hl.1.trans hml.symm) dX8_frame_42 dX8_frame_45 dX8_frame_46 dX8_frame_48 dX8_frame_51 (fun x h => (hxt x h).elim) (Nat.le_of_ble_eq_true rfl) (Nat.le_of_ble_eq_true rfl) (Nat.le_of_ble_eq_true rfl) (Nat.le_of_ble_eq_true rfl) hlocks (fun t _ h1 h2 => dz_xc hG hS h1 h2) (fun z h => hS.2.2 z h) (Nat.le_of_ble_eq_true rfl) (Nat.le_of_ble_eq_true rfl)
      · refine lv_aload_n hx hb dX8_frame_32 rfl (lv_at hl 0 rfl) ?_
        refine dz_get hx hb hts (fun _ h => List.mem_cons_of_mem _ (List.mem_append_left _ (List.mem_append_left _ (List.mem_append_left _ (List.mem_append_left _ (List.mem_append_left _ (List.mem_append_left _ (List.mem_append_left _ (List.mem_append_left _ (List.mem_append_right _ h)))))))))) hown hE hG ha hco rfl 4 (by decide) (hts _ (List.mem_of_getElem? (i := 5) rfl)) (fun _ h9 => h9) rfl dX8_frame_33 ?_
        refine dz_kRi (va_runV (As := []) ⟨hx, hb, hml, hown, hts⟩ (c_X0_isFull l Z _ _ _ _ _ _ rfl hF hnf) (cwV 0 hts gX8_frame_X0_isFull rfl rfl rfl (by decide +kernel) ⟨Nat.le_of_ble_eq_true rfl, Nat.le_of_ble_eq_true rfl⟩) (dz_P.preV hE hS hG hF.1 rfl rfl) rfl rfl hl.1 rfl (lv_room (Nat.le_of_ble_eq_true rfl)) dX8_frame_36 ⟨Nat.le_of_ble_eq_true rfl, Nat.le_of_ble_eq_true rfl⟩) ?_
        refine lv_if_eq (tgt := 52) hx hb dX8_frame_39 (by decide) (fun c_39 => ?_) (fun c_39 => ?_)
        · exact absurd ⟨⟨dz_by c_4, c_15⟩, dz_bx c_29, dz_bx c_39⟩ hbad
        · obtain ⟨sa9, hstr9⟩ := hE.2.2.2.2.2.2.2.2.1 (196, "no frame can be taken") (by decide +kernel)
          refine vx_throwS (own := RX8) (cls := "java/lang/IllegalStateException") (text := "no frame can be taken") (names := ["java/lang/RuntimeException", "java/lang/Exception"]) (ik := 78) (is := 196) (ic := 82) (sa := sa9) (A := dz_A Z) hx hb hst hown (by decide +kernel) (by decide +kernel) (hts _ (List.mem_of_getElem? (i := 1) rfl)) (hts _ (List.mem_of_getElem? (i := 2) rfl)) hstr9 (vx_hat (B := [.castable "java/lang/IllegalStateException" "java/lang/IllegalStateException", .declares (Bundle.initS "java/lang/RuntimeException"), .declares (Bundle.initS "java/lang/Exception"), .declares (Bundle.initS Bundle.tN)]) (fun w h => hts w (List.mem_cons_of_mem _ (List.mem_append_right _ h))) (by decide +kernel) (vx_c (va_Nw.use rfl (hE.2.2.2.2.2.2.1 ("java/lang/IllegalStateException", "java/lang/IllegalStateException") (by decide +kernel))) (vx_c (va_Nw.use rfl (hE.2.2.2.2.2.2.2.2.2.2.2.2 _ (List.mem_cons_self))) (vx_c (va_Nw.use rfl (hE.2.2.2.2.2.2.2.2.2.2.2.2 _ (List.mem_cons_of_mem _ List.mem_cons_self))) (vx_c (va_Nw.use rfl (hE.2.2.2.2.2.2.2.2.2.2.2.2 _ (List.mem_cons_of_mem _ (List.mem_cons_of_mem _ List.mem_cons_self)))) vx_n))))) (by decide +kernel) hE.2.2.2.2.1.1 hE.2.2.2.2.1.2 hS (hl.1.trans hml.symm) dX8_frame_42 dX8_frame_45 dX8_frame_46 dX8_frame_48 dX8_frame_51 (fun x h => (hxt x h).elim) (Nat.le_of_ble_eq_true rfl) (Nat.le_of_ble_eq_true rfl) (Nat.le_of_ble_eq_true rfl) (Nat.le_of_ble_eq_true rfl) hlocks (fun t _ h1 h2 => dz_xc hG hS h1 h2) (fun z h => hS.2.2 z h) (Nat.le_of_ble_eq_true rfl) (Nat.le_of_ble_eq_true rfl)

set_option maxHeartbeats 4000000 in
set_option maxRecDepth 100000 in
theorem c_D_seen_no1 (l : Launch) (hst : l.stackTraces = false) (Z : dzG) (G : dzW) (ad : dzA) (aX nl nx : Nat) (dy ssf sst cfr grw : Int32) (nf : Nat) (fdy : Nat → Int32) (lg : Nat → Nat → Int32) (v1 v2 v3 : Int32) (ha : ad (1, 0) = aX) (hco : G (1, 0) = some (eO 9 [.ref (ad (2, 0)), .ref (ad (9, 0)), .int (nI nl), .int (nI nx), .ref (ad (19, 0)), .ref (ad (26, 0)), .int dy, .int ssf, .int sst, .int cfr, .int grw])) (hF : dz_Fr Z G ad nf fdy lg) (hnf : nf ≤ 60) (hv : v1 < 0 ∨ nI nf ≤ v1) : vx_Met l yX8_seen wsX8_seen (dz_rm 6 82 1 6) (dz_P Z G ad [.ref aX, .int v1, .int v2, .int v3]) (fun _ _ _ _ => False) (dz_XC Z G ad (fun E => E = "java/lang/IndexOutOfBoundsException")) 1 6 (dz_A Z) := by
  refine vx_ofW (cc := cX8_seen) (maxL := 5) (ret := (some .int)) (by decide) rfl ?_
  intro p e s m args below meth c s₁ B hml hxt hv
  obtain ⟨rfl, hG, hE⟩ := hv
  have hx := B.exec
  have hb := B.bytes
  have hrt := B.returns
  have hts := atoms_spec (ws := wsX8_seen) B.pre
  have hown : s.vm.findClass RX8 = some m.cls := findClass_of_methodNamed B.named
  have hlocks := B.notSynchronized
  have hS : va_S (dz_A Z) s.heap s.heap [] := va_S.rf
  have hl := lv_entry ([.ref aX, .int v1, .int v2, .int v3]) (n := 5) (Nat.le_of_ble_eq_true rfl)
  rw [lg_entry_eq]
  generalize (lg_sl ([.ref aX, .int v1, .int v2, .int v3]) ++ List.replicate (5 - (lg_sl ([.ref aX, .int v1, .int v2, .int v3])).length) Slot.unset).toArray = ls at hl ⊢
  have hl : lv_has ls 5 [(0, .ref aX), (1, .int v1), (2, .int v2), (3, .int v3)] := hl
  refine lv_aload_n hx hb dX8_seen_0 rfl (lv_at hl 0 rfl) ?_
  refine dz_get hx hb hts (fun _ h => List.mem_cons_of_mem _ (List.mem_append_left _ (List.mem_append_left _ (List.mem_append_left _ (List.mem_append_left _ (List.mem_append_left _ (List.mem_append_right _ h))))))) hown hE hG ha hco rfl 4 (by decide) (hts _ (List.mem_of_getElem? (i := 5) rfl)) (fun _ h9 => h9) rfl dX8_seen_1 ?_
  refine lv_iload_n hx hb dX8_seen_4 rfl (lv_at hl 1 rfl) ?_
  refine dz_kRn (va_runV (As := [_]) ⟨hx, hb, hml, hown, hts⟩ (c_frameOut l Z _ _ _ _ _ _ _ rfl hF hnf hv) (cwV 1 hts gX8_seen_X0_frameAt rfl rfl rfl (by decide +kernel) ⟨Nat.le_of_ble_eq_true rfl, Nat.le_of_ble_eq_true rfl⟩) (dz_P.preV hE hS hG hF.1 rfl rfl) rfl rfl hl.1 rfl (lv_room (Nat.le_of_ble_eq_true rfl)) dX8_seen_5 ⟨Nat.le_of_ble_eq_true rfl, Nat.le_of_ble_eq_true rfl⟩) ?_
  refine lv_astoreN (lv' := [(4, .null), (0, .ref aX), (1, .int v1), (2, .int v2), (3, .int v3)]) hx hb dX8_seen_8 hl (by decide) rfl (fun ls hl => ?_)
  refine lv_aloadN hx hb dX8_seen_10 (lv_at hl 0 rfl) ?_
  refine lv_ifnullN (tgt := 23) hx hb dX8_seen_12 (by decide) ?_
  obtain ⟨sa9, hstr9⟩ := hE.2.2.2.2.2.2.2.2.1 (293, "no such frame or source") (by decide +kernel)
  refine vx_throwSW (own := RX8) (cls := "java/lang/IndexOutOfBoundsException") (text := "no such frame or source") (names := ["java/lang/RuntimeException", "java/lang/Exception"]) (ik := 99) (is := 293) (ic := 103) (sa := sa9) (A := dz_A Z) hx hb hst hown (by decide +kernel) (by decide +kernel) (hts _ (List.mem_of_getElem? (i := 1) rfl)) (hts _ (List.mem_of_getElem? (i := 2) rfl)) hstr9 (vx_hat (B := [.castable "java/lang/IndexOutOfBoundsException" "java/lang/IndexOutOfBoundsException", .declares (Bundle.initS "java/lang/RuntimeException"), .declares (Bundle.initS "java/lang/Exception"), .declares (Bundle.initS Bundle.tN)]) (fun w h => hts w (List.mem_cons_of_mem _ (List.mem_append_left _ (List.mem_append_right _ h)))) (by decide +kernel) (vx_c (va_Nw.use rfl (hE.2.2.2.2.2.2.1 ("java/lang/IndexOutOfBoundsException", "java/lang/IndexOutOfBoundsException") (by decide +kernel))) (vx_c (va_Nw.use rfl (hE.2.2.2.2.2.2.2.2.2.2.2.2 _ (List.mem_cons_self))) (vx_c (va_Nw.use rfl (hE.2.2.2.2.2.2.2.2.2.2.2.2 _ (List.mem_cons_of_mem _ List.mem_cons_self))) (vx_c (va_Nw.use rfl (hE.2.2.2.2.2.2.2.2.2.2.2.2 _ (List.mem_cons_of_mem _ (List.mem_cons_of_mem _ List.mem_cons_self)))) vx_n))))) (by decide +kernel) hE.2.2.2.2.1.1 hE.2.2.2.2.1.2 hS (hl.1.trans hml.symm) dX8_seen_23 dX8_seen_26 dX8_seen_27 dX8_seen_30 dX8_seen_33 (fun x h => (hxt x h).elim) (Nat.le_of_ble_eq_true rfl) (Nat.le_of_ble_eq_true rfl) (Nat.le_of_ble_eq_true rfl) (Nat.le_of_ble_eq_true rfl) hlocks (fun t _ h1 h2 => dz_xc hG hS h1 h2) (fun z h => hS.2.2 z h) (Nat.le_of_ble_eq_true rfl) (Nat.le_of_ble_eq_true rfl)

set_option maxHeartbeats 4000000 in
set_option maxRecDepth 100000 in
theorem c_D_seen_no2 (l : Launch) (hst : l.stackTraces = false) (Z : dzG) (G : dzW) (ad : dzA) (aX nl nx : Nat) (dy ssf sst cfr grw : Int32) (nf : Nat) (fdy : Nat → Int32) (lg : Nat → Nat → Int32) (ns : Nat) (i : Nat) (v2 v3 : Int32) (ha : ad (1, 0) = aX) (hco : G (1, 0) = some (eO 9 [.ref (ad (2, 0)), .ref (ad (9, 0)), .int (nI nl), .int (nI nx), .ref (ad (19, 0)), .ref (ad (26, 0)), .int dy, .int ssf, .int sst, .int cfr, .int grw])) (hF : dz_Fr Z G ad nf fdy lg) (hnf : nf ≤ 60) (hls : dz_L Z G ad (9, 0) (10, 0) ns (fun i => ad (11, i))) (hi : i < nf) (hv : v2 < 0 ∨ nI ns ≤ v2) : vx_Met l yX8_seen wsX8_seen (dz_rm 6 85 1 6) (dz_P Z G ad [.ref aX, .int (nI i), .int v2, .int v3]) (fun _ _ _ _ => False) (dz_XC Z G ad (fun E => E = "java/lang/IndexOutOfBoundsException")) 1 6 (dz_A Z) := by
  refine vx_ofW (cc := cX8_seen) (maxL := 5) (ret := (some .int)) (by decide) rfl ?_
  intro p e s m args below meth c s₁ B hml hxt hv
  obtain ⟨rfl, hG, hE⟩ := hv
  have hx := B.exec
  have hb := B.bytes
  have hrt := B.returns
  have hts := atoms_spec (ws := wsX8_seen) B.pre
  have hown : s.vm.findClass RX8 = some m.cls := findClass_of_methodNamed B.named
  have hlocks := B.notSynchronized
  have hS : va_S (dz_A Z) s.heap s.heap [] := va_S.rf
  have hl := lv_entry ([.ref aX, .int (nI i), .int v2, .int v3]) (n := 5) (Nat.le_of_ble_eq_true rfl)
  rw [lg_entry_eq]
  generalize (lg_sl ([.ref aX, .int (nI i), .int v2, .int v3]) ++ List.replicate (5 - (lg_sl ([.ref aX, .int (nI i), .int v2, .int v3])).length) Slot.unset).toArray = ls at hl ⊢
  have hl : lv_has ls 5 [(0, .ref aX), (1, .int (nI i)), (2, .int v2), (3, .int v3)] := hl
  refine lv_aload_n hx hb dX8_seen_0 rfl (lv_at hl 0 rfl) ?_
  refine dz_get hx hb hts (fun _ h => List.mem_cons_of_mem _ (List.mem_append_left _ (List.mem_append_left _ (List.mem_append_left _ (List.mem_append_left _ (List.mem_append_left _ (List.mem_append_right _ h))))))) hown hE hG ha hco rfl 4 (by decide) (hts _ (List.mem_of_getElem? (i := 5) rfl)) (fun _ h9 => h9) rfl dX8_seen_1 ?_
  refine lv_iload_n hx hb dX8_seen_4 rfl (lv_at hl 1 rfl) ?_
  refine dz_kRr (va_runV (As := [_]) ⟨hx, hb, hml, hown, hts⟩ (c_frameIn l Z _ _ _ _ _ _ _ rfl hF hnf hi) (cwV 1 hts gX8_seen_X0_frameAt rfl rfl rfl (by decide +kernel) ⟨Nat.le_of_ble_eq_true rfl, Nat.le_of_ble_eq_true rfl⟩) (dz_P.preV hE hS hG hF.1 rfl rfl) rfl rfl hl.1 rfl (lv_room (Nat.le_of_ble_eq_true rfl)) dX8_seen_5 ⟨Nat.le_of_ble_eq_true rfl, Nat.le_of_ble_eq_true rfl⟩) ?_
  refine lv_astore (lv' := [(4, .ref (ad (24, i))), (0, .ref aX), (1, .int (nI i)), (2, .int v2), (3, .int v3)]) hx hb dX8_seen_8 hl (by decide) rfl (fun ls hl => ?_)
  refine lv_aload hx hb dX8_seen_10 (lv_at hl 0 rfl) ?_
  refine lv_ifnull hx hb dX8_seen_12 ?_
  refine lv_aload_n hx hb dX8_seen_15 rfl (lv_at hl 1 rfl) ?_
  refine lv_iload_n hx hb dX8_seen_16 rfl (lv_at hl 3 rfl) ?_
  refine dz_kRn (va_runV (As := [_]) ⟨hx, hb, hml, hown, hts⟩ (c_sourceOut l Z _ _ _ _ _ _ _ _ _ _ _ _ ha hco hls hv) (cwV 1 hts gX8_seen_X8_sourceAt rfl rfl rfl (by decide +kernel) ⟨Nat.le_of_ble_eq_true rfl, Nat.le_of_ble_eq_true rfl⟩) (dz_P.preV hE hS hG hco rfl ha) rfl rfl hl.1 rfl (lv_room (Nat.le_of_ble_eq_true rfl)) dX8_seen_17 ⟨Nat.le_of_ble_eq_true rfl, Nat.le_of_ble_eq_true rfl⟩) ?_
  refine lv_ifnonnullN hx hb dX8_seen_20 ?_
  obtain ⟨sa9, hstr9⟩ := hE.2.2.2.2.2.2.2.2.1 (293, "no such frame or source") (by decide +kernel)
  refine vx_throwSW (own := RX8) (cls := "java/lang/IndexOutOfBoundsException") (text := "no such frame or source") (names := ["java/lang/RuntimeException", "java/lang/Exception"]) (ik := 99) (is := 293) (ic := 103) (sa := sa9) (A := dz_A Z) hx hb hst hown (by decide +kernel) (by decide +kernel) (hts _ (List.mem_of_getElem? (i := 1) rfl)) (hts _ (List.mem_of_getElem? (i := 2) rfl)) hstr9 (vx_hat (B := [.castable "java/lang/IndexOutOfBoundsException" "java/lang/IndexOutOfBoundsException", .declares (Bundle.initS "java/lang/RuntimeException"), .declares (Bundle.initS "java/lang/Exception"), .declares (Bundle.initS Bundle.tN)]) (fun w h => hts w (List.mem_cons_of_mem _ (List.mem_append_left _ (List.mem_append_right _ h)))) (by decide +kernel) (vx_c (va_Nw.use rfl (hE.2.2.2.2.2.2.1 ("java/lang/IndexOutOfBoundsException", "java/lang/IndexOutOfBoundsException") (by decide +kernel))) (vx_c (va_Nw.use rfl (hE.2.2.2.2.2.2.2.2.2.2.2.2 _ (List.mem_cons_self))) (vx_c (va_Nw.use rfl (hE.2.2.2.2.2.2.2.2.2.2.2.2 _ (List.mem_cons_of_mem _ List.mem_cons_self))) (vx_c (va_Nw.use rfl (hE.2.2.2.2.2.2.2.2.2.2.2.2 _ (List.mem_cons_of_mem _ (List.mem_cons_of_mem _ List.mem_cons_self)))) vx_n))))) (by decide +kernel) hE.2.2.2.2.1.1 hE.2.2.2.2.1.2 hS (hl.1.trans hml.symm) dX8_seen_23 dX8_seen_26 dX8_seen_27 dX8_seen_30 dX8_seen_33 (fun x h => (hxt x h).elim) (Nat.le_of_ble_eq_true rfl) (Nat.le_of_ble_eq_true rfl) (Nat.le_of_ble_eq_true rfl) (Nat.le_of_ble_eq_true rfl) hlocks (fun t _ h1 h2 => dz_xc hG hS h1 h2) (fun z h => hS.2.2 z h) (Nat.le_of_ble_eq_true rfl) (Nat.le_of_ble_eq_true rfl)

set_option maxHeartbeats 4000000 in
set_option maxRecDepth 100000 in
theorem c_D_seen_bad (l : Launch) (hst : l.stackTraces = false) (Z : dzG) (G : dzW) (ad : dzA) (aX nl nx : Nat) (dy ssf sst cfr grw : Int32) (nf : Nat) (fdy : Nat → Int32) (lg : Nat → Nat → Int32) (ns sc : Nat) (cnt : Nat → Nat) (col row fl : Nat → Int32) (i : Nat) (v3 : Int32) (ha : ad (1, 0) = aX) (hco : G (1, 0) = some (eO 9 [.ref (ad (2, 0)), .ref (ad (9, 0)), .int (nI nl), .int (nI nx), .ref (ad (19, 0)), .ref (ad (26, 0)), .int dy, .int ssf, .int sst, .int cfr, .int grw])) (hF : dz_Fr Z G ad nf fdy lg) (hnf : nf ≤ 60) (hls : dz_L Z G ad (9, 0) (10, 0) ns (fun i => ad (11, i))) (hi : i < nf) (hsc : sc < ns) (hns : ns ≤ 5) (hso : G (11, sc) = some (eO 7 [.int (col sc), .int (row sc), .int (fl sc), .ref (ad (12, sc)), .int (nI (cnt sc)), .ref (ad (13, sc)), .ref (ad (15, sc))])) (hbad : ¬ ((0 : Int32) ≤ v3 ∧ v3 ≤ 5)) : vx_Met l yX8_seen wsX8_seen (dz_rm 6 85 1 6) (dz_P Z G ad [.ref aX, .int (nI i), .int (nI sc), .int v3]) (fun _ _ _ _ => False) (dz_XC Z G ad (fun E => E = "java/lang/IllegalArgumentException")) 1 6 (dz_A Z) := by
  refine vx_ofW (cc := cX8_seen) (maxL := 5) (ret := (some .int)) (by decide) rfl ?_
  intro p e s m args below meth c s₁ B hml hxt hv
  obtain ⟨rfl, hG, hE⟩ := hv
  have hx := B.exec
  have hb := B.bytes
  have hrt := B.returns
  have hts := atoms_spec (ws := wsX8_seen) B.pre
  have hown : s.vm.findClass RX8 = some m.cls := findClass_of_methodNamed B.named
  have hlocks := B.notSynchronized
  have hS : va_S (dz_A Z) s.heap s.heap [] := va_S.rf
  have hl := lv_entry ([.ref aX, .int (nI i), .int (nI sc), .int v3]) (n := 5) (Nat.le_of_ble_eq_true rfl)
  rw [lg_entry_eq]
  generalize (lg_sl ([.ref aX, .int (nI i), .int (nI sc), .int v3]) ++ List.replicate (5 - (lg_sl ([.ref aX, .int (nI i), .int (nI sc), .int v3])).length) Slot.unset).toArray = ls at hl ⊢
  have hl : lv_has ls 5 [(0, .ref aX), (1, .int (nI i)), (2, .int (nI sc)), (3, .int v3)] := hl
  refine lv_aload_n hx hb dX8_seen_0 rfl (lv_at hl 0 rfl) ?_
  refine dz_get hx hb hts (fun _ h => List.mem_cons_of_mem _ (List.mem_append_left _ (List.mem_append_left _ (List.mem_append_left _ (List.mem_append_left _ (List.mem_append_left _ (List.mem_append_right _ h))))))) hown hE hG ha hco rfl 4 (by decide) (hts _ (List.mem_of_getElem? (i := 5) rfl)) (fun _ h9 => h9) rfl dX8_seen_1 ?_
  refine lv_iload_n hx hb dX8_seen_4 rfl (lv_at hl 1 rfl) ?_
  refine dz_kRr (va_runV (As := [_]) ⟨hx, hb, hml, hown, hts⟩ (c_frameIn l Z _ _ _ _ _ _ _ rfl hF hnf hi) (cwV 1 hts gX8_seen_X0_frameAt rfl rfl rfl (by decide +kernel) ⟨Nat.le_of_ble_eq_true rfl, Nat.le_of_ble_eq_true rfl⟩) (dz_P.preV hE hS hG hF.1 rfl rfl) rfl rfl hl.1 rfl (lv_room (Nat.le_of_ble_eq_true rfl)) dX8_seen_5 ⟨Nat.le_of_ble_eq_true rfl, Nat.le_of_ble_eq_true rfl⟩) ?_
  refine lv_astore (lv' := [(4, .ref (ad (24, i))), (0, .ref aX), (1, .int (nI i)), (2, .int (nI sc)), (3, .int v3)]) hx hb dX8_seen_8 hl (by decide) rfl (fun ls hl => ?_)
  refine lv_aload hx hb dX8_seen_10 (lv_at hl 0 rfl) ?_
  refine lv_ifnull hx hb dX8_seen_12 ?_
  refine lv_aload_n hx hb dX8_seen_15 rfl (lv_at hl 1 rfl) ?_
  refine lv_iload_n hx hb dX8_seen_16 rfl (lv_at hl 3 rfl) ?_
  refine dz_kRr (va_runV (As := [_]) ⟨hx, hb, hml, hown, hts⟩ (c_sourceIn l Z _ _ _ _ _ _ _ _ _ _ _ _ _ _ _ _ ha hco hls hsc hns hso) (cwV 1 hts gX8_seen_X8_sourceAt rfl rfl rfl (by decide +kernel) ⟨Nat.le_of_ble_eq_true rfl, Nat.le_of_ble_eq_true rfl⟩) (dz_P.preV hE hS hG hco rfl ha) rfl rfl hl.1 rfl (lv_room (Nat.le_of_ble_eq_true rfl)) dX8_seen_17 ⟨Nat.le_of_ble_eq_true rfl, Nat.le_of_ble_eq_true rfl⟩) ?_
  refine lv_ifnonnull (tgt := 34) hx hb dX8_seen_20 (by decide) ?_
  refine lv_iload_n hx hb dX8_seen_34 rfl (lv_at hl 4 rfl) ?_
  refine lv_iconst (v := 0) hx hb dX8_seen_35 (by decide) ?_
  refine lv_iconst (v := 5) hx hb dX8_seen_36 (by decide) ?_
  refine dz_kRi (va_runS (As := [_, _, _]) ⟨hx, hb, hml, hown, hts⟩ (c_X8_isWithin l Z _ _ _ _ _ ) (va_cwS 3 hts gX8_seen_X8_isWithin rfl rfl rfl (by decide +kernel) ⟨Nat.le_of_ble_eq_true rfl, Nat.le_of_ble_eq_true rfl⟩) (dz_P.pre hE hS hG) rfl rfl hl.1 rfl (lv_room (Nat.le_of_ble_eq_true rfl)) dX8_seen_37 ⟨Nat.le_of_ble_eq_true rfl, Nat.le_of_ble_eq_true rfl⟩) ?_
  refine lv_topi (fun v_1 ev_1 => ?_)
  obtain rfl : v_1 = 0 := ev_1.trans (dz_b0 hbad)
  refine lv_if_ne (tgt := 54) hx hb dX8_seen_40 (by decide) (fun c_40 => absurd (by decide) c_40) (fun c_40 => ?_)
  obtain ⟨sa9, hstr9⟩ := hE.2.2.2.2.2.2.2.2.1 (295, "a frame has 6 images of a source") (by decide +kernel)
  refine vx_throwSW (own := RX8) (cls := "java/lang/IllegalArgumentException") (text := "a frame has 6 images of a source") (names := ["java/lang/RuntimeException", "java/lang/Exception"]) (ik := 67) (is := 295) (ic := 71) (sa := sa9) (A := dz_A Z) hx hb hst hown (by decide +kernel) (by decide +kernel) (hts _ (List.mem_of_getElem? (i := 3) rfl)) (hts _ (List.mem_of_getElem? (i := 4) rfl)) hstr9 (vx_hat (B := [.castable "java/lang/IllegalArgumentException" "java/lang/IllegalArgumentException", .declares (Bundle.initS "java/lang/RuntimeException"), .declares (Bundle.initS "java/lang/Exception"), .declares (Bundle.initS Bundle.tN)]) (fun w h => hts w (List.mem_cons_of_mem _ (List.mem_append_right _ h))) (by decide +kernel) (vx_c (va_Nw.use rfl (hE.2.2.2.2.2.2.1 ("java/lang/IllegalArgumentException", "java/lang/IllegalArgumentException") (by decide +kernel))) (vx_c (va_Nw.use rfl (hE.2.2.2.2.2.2.2.2.2.2.2.2 _ (List.mem_cons_self))) (vx_c (va_Nw.use rfl (hE.2.2.2.2.2.2.2.2.2.2.2.2 _ (List.mem_cons_of_mem _ List.mem_cons_self))) (vx_c (va_Nw.use rfl (hE.2.2.2.2.2.2.2.2.2.2.2.2 _ (List.mem_cons_of_mem _ (List.mem_cons_of_mem _ List.mem_cons_self)))) vx_n))))) (by decide +kernel) hE.2.2.2.2.1.1 hE.2.2.2.2.1.2 hS (hl.1.trans hml.symm) dX8_seen_43 dX8_seen_46 dX8_seen_47 dX8_seen_50 dX8_seen_53 (fun x h => (hxt x h).elim) (Nat.le_of_ble_eq_true rfl) (Nat.le_of_ble_eq_true rfl) (Nat.le_of_ble_eq_true rfl) (Nat.le_of_ble_eq_true rfl) hlocks (fun t _ h1 h2 => dz_xc hG hS h1 h2) (fun z h => hS.2.2 z h) (Nat.le_of_ble_eq_true rfl) (Nat.le_of_ble_eq_true rfl)

set_option maxHeartbeats 4000000 in
set_option maxRecDepth 100000 in
theorem c_D_seen_ok (l : Launch) (Z : dzG) (G : dzW) (ad : dzA) (aX nl nx : Nat) (dy ssf sst cfr grw : Int32) (nf : Nat) (fdy : Nat → Int32) (lg : Nat → Nat → Int32) (ns sc : Nat) (cnt : Nat → Nat) (col row fl : Nat → Int32) (i rk : Nat) (ha : ad (1, 0) = aX) (hco : G (1, 0) = some (eO 9 [.ref (ad (2, 0)), .ref (ad (9, 0)), .int (nI nl), .int (nI nx), .ref (ad (19, 0)), .ref (ad (26, 0)), .int dy, .int ssf, .int sst, .int cfr, .int grw])) (hF : dz_Fr Z G ad nf fdy lg) (hnf : nf ≤ 60) (hls : dz_L Z G ad (9, 0) (10, 0) ns (fun i => ad (11, i))) (hi : i < nf) (hsc : sc < ns) (hns : ns ≤ 5) (hso : G (11, sc) = some (eO 7 [.int (col sc), .int (row sc), .int (fl sc), .ref (ad (12, sc)), .int (nI (cnt sc)), .ref (ad (13, sc)), .ref (ad (15, sc))])) (hrk : rk < 6) : dzRd l yX8_seen wsX8_seen 4 85 Z G ad [.ref aX, .int (nI i), .int (nI sc), .int (nI rk)] (some (.int (lg i (6 * sc + rk)))) := by
  refine Met.ofW (cc := cX8_seen) (maxL := 5) (ret := (some .int)) (by decide) rfl ?_
  intro p e s m args below meth c s₁ B hml hv
  obtain ⟨rfl, hG, hE⟩ := hv
  have hx := B.exec
  have hb := B.bytes
  have hrt := B.returns
  have hts := atoms_spec (ws := wsX8_seen) B.pre
  have hown : s.vm.findClass RX8 = some m.cls := findClass_of_methodNamed B.named
  have hlocks := B.notSynchronized
  have hS : va_S (dz_A Z) s.heap s.heap [] := va_S.rf
  have hl := lv_entry ([.ref aX, .int (nI i), .int (nI sc), .int (nI rk)]) (n := 5) (Nat.le_of_ble_eq_true rfl)
  rw [lg_entry_eq]
  generalize (lg_sl ([.ref aX, .int (nI i), .int (nI sc), .int (nI rk)]) ++ List.replicate (5 - (lg_sl ([.ref aX, .int (nI i), .int (nI sc), .int (nI rk)])).length) Slot.unset).toArray = ls at hl ⊢
  have hl : lv_has ls 5 [(0, .ref aX), (1, .int (nI i)), (2, .int (nI sc)), (3, .int (nI rk))] := hl
  refine lv_aload_n hx hb dX8_seen_0 rfl (lv_at hl 0 rfl) ?_
  refine dz_get hx hb hts (fun _ h => List.mem_cons_of_mem _ (List.mem_append_left _ (List.mem_append_left _ (List.mem_append_left _ (List.mem_append_left _ (List.mem_append_left _ (List.mem_append_right _ h))))))) hown hE hG ha hco rfl 4 (by decide) (hts _ (List.mem_of_getElem? (i := 5) rfl)) (fun _ h9 => h9) rfl dX8_seen_1 ?_
  refine lv_iload_n hx hb dX8_seen_4 rfl (lv_at hl 1 rfl) ?_
  refine dz_kRr (va_runV (As := [_]) ⟨hx, hb, hml, hown, hts⟩ (c_frameIn l Z _ _ _ _ _ _ _ rfl hF hnf hi) (cwV 1 hts gX8_seen_X0_frameAt rfl rfl rfl (by decide +kernel) ⟨Nat.le_of_ble_eq_true rfl, Nat.le_of_ble_eq_true rfl⟩) (dz_P.preV hE hS hG hF.1 rfl rfl) rfl rfl hl.1 rfl (lv_room (Nat.le_of_ble_eq_true rfl)) dX8_seen_5 ⟨Nat.le_of_ble_eq_true rfl, Nat.le_of_ble_eq_true rfl⟩) ?_
  refine lv_astore (lv' := [(4, .ref (ad (24, i))), (0, .ref aX), (1, .int (nI i)), (2, .int (nI sc)), (3, .int (nI rk))]) hx hb dX8_seen_8 hl (by decide) rfl (fun ls hl => ?_)
  refine lv_aload hx hb dX8_seen_10 (lv_at hl 0 rfl) ?_
  refine lv_ifnull hx hb dX8_seen_12 ?_
  refine lv_aload_n hx hb dX8_seen_15 rfl (lv_at hl 1 rfl) ?_
  refine lv_iload_n hx hb dX8_seen_16 rfl (lv_at hl 3 rfl) ?_
  refine dz_kRr (va_runV (As := [_]) ⟨hx, hb, hml, hown, hts⟩ (c_sourceIn l Z _ _ _ _ _ _ _ _ _ _ _ _ _ _ _ _ ha hco hls hsc hns hso) (cwV 1 hts gX8_seen_X8_sourceAt rfl rfl rfl (by decide +kernel) ⟨Nat.le_of_ble_eq_true rfl, Nat.le_of_ble_eq_true rfl⟩) (dz_P.preV hE hS hG hco rfl ha) rfl rfl hl.1 rfl (lv_room (Nat.le_of_ble_eq_true rfl)) dX8_seen_17 ⟨Nat.le_of_ble_eq_true rfl, Nat.le_of_ble_eq_true rfl⟩) ?_
  refine lv_ifnonnull (tgt := 34) hx hb dX8_seen_20 (by decide) ?_
  refine lv_iload_n hx hb dX8_seen_34 rfl (lv_at hl 4 rfl) ?_
  refine lv_iconst (v := 0) hx hb dX8_seen_35 (by decide) ?_
  refine lv_iconst (v := 5) hx hb dX8_seen_36 (by decide) ?_
  refine dz_kRi (va_runS (As := [_, _, _]) ⟨hx, hb, hml, hown, hts⟩ (c_X8_isWithin l Z _ _ _ _ _ ) (va_cwS 3 hts gX8_seen_X8_isWithin rfl rfl rfl (by decide +kernel) ⟨Nat.le_of_ble_eq_true rfl, Nat.le_of_ble_eq_true rfl⟩) (dz_P.pre hE hS hG) rfl rfl hl.1 rfl (lv_room (Nat.le_of_ble_eq_true rfl)) dX8_seen_37 ⟨Nat.le_of_ble_eq_true rfl, Nat.le_of_ble_eq_true rfl⟩) ?_
  refine lv_topi (fun v_1 ev_1 => ?_)
  obtain rfl : v_1 = 1 := ev_1.trans (dz_b1 (m_ix5 hrk))
  refine lv_if_ne (tgt := 54) hx hb dX8_seen_40 (by decide) (fun c_40 => ?_) (fun c_40 => absurd c_40 (by decide))
  refine lv_aload hx hb dX8_seen_54 (lv_at hl 0 rfl) ?_
  refine lv_iload_n hx hb dX8_seen_56 rfl (lv_at hl 3 rfl) ?_
  refine lv_iload_n hx hb dX8_seen_57 rfl (lv_at hl 4 rfl) ?_
  refine dz_kRi (va_runV (As := [_, _]) ⟨hx, hb, hml, hown, hts⟩ (c_X3_lightAt l Z _ _ _ _ _ _ _ _ rfl (hF.2.2 i hi).1 (hF.2.2 i hi).2 (by omega) hrk) (cwV 2 hts gX8_seen_X3_lightAt rfl rfl rfl (by decide +kernel) ⟨Nat.le_of_ble_eq_true rfl, Nat.le_of_ble_eq_true rfl⟩) (dz_P.preV hE hS hG (hF.2.2 i hi).1 rfl rfl) rfl rfl hl.1 rfl (lv_room (Nat.le_of_ble_eq_true rfl)) dX8_seen_58 ⟨Nat.le_of_ble_eq_true rfl, Nat.le_of_ble_eq_true rfl⟩) ?_
  refine W.iret hx hb hrt (fun t ht hW => ⟨congrArg (fun x => Outcome.returned (some (Value.int x))) ?_, ht⟩) (fun _ h => by cases h) dX8_seen_61
  rfl

set_option maxHeartbeats 4000000 in
set_option maxRecDepth 100000 in
theorem c_D_anew_ok (l : Launch) (Z : dzG) (G : dzW) (ad : dzA) (aX nl nx : Nat) (dy ssf sst cfr grw : Int32) (ns sc : Nat) (cnt : Nat → Nat) (col row fl : Nat → Int32) (nm : Nat) (sh co ro st : Nat → Int32) (ha : ad (1, 0) = aX) (hco : G (1, 0) = some (eO 9 [.ref (ad (2, 0)), .ref (ad (9, 0)), .int (nI nl), .int (nI nx), .ref (ad (19, 0)), .ref (ad (26, 0)), .int dy, .int ssf, .int sst, .int cfr, .int grw])) (hls : dz_L Z G ad (9, 0) (10, 0) ns (fun i => ad (11, i))) (hsc : sc < ns) (hns : ns ≤ 5) (hso : G (11, sc) = some (eO 7 [.int (col sc), .int (row sc), .int (fl sc), .ref (ad (12, sc)), .int (nI (cnt sc)), .ref (ad (13, sc)), .ref (ad (15, sc))])) (hR : dz_Rm Z G ad nm sh co ro st) (hN : nm ≤ 6) (hok : m_ok nm co ro) : dzRd l yX8_imagesAnew wsX8_imagesAnew 5 115 Z G ad [.ref aX, .int (nI sc)] (some (.int (m_all (fun j => dz_b (m_pc j - m_bcol sh co ro st (m_pc j) (m_pr j) nm = col sc ∧ m_pr j - m_brow sh co ro st (m_pc j) (m_pr j) nm = row sc)) 21))) := by
  refine Met.ofW (cc := cX8_imagesAnew) (maxL := 3) (ret := (some .int)) (by decide) rfl ?_
  intro p e s m args below meth c s₁ B hml hv
  obtain ⟨rfl, hG, hE⟩ := hv
  have hx := B.exec
  have hb := B.bytes
  have hrt := B.returns
  have hts := atoms_spec (ws := wsX8_imagesAnew) B.pre
  have hown : s.vm.findClass RX8 = some m.cls := findClass_of_methodNamed B.named
  have hlocks := B.notSynchronized
  have hS : va_S (dz_A Z) s.heap s.heap [] := va_S.rf
  have hl := lv_entry ([.ref aX, .int (nI sc)]) (n := 3) (Nat.le_of_ble_eq_true rfl)
  rw [lg_entry_eq]
  generalize (lg_sl ([.ref aX, .int (nI sc)]) ++ List.replicate (3 - (lg_sl ([.ref aX, .int (nI sc)])).length) Slot.unset).toArray = ls at hl ⊢
  have hl : lv_has ls 3 [(0, .ref aX), (1, .int (nI sc))] := hl
  refine lv_aload_n hx hb dX8_imagesAnew_0 rfl (lv_at hl 0 rfl) ?_
  refine lv_iload_n hx hb dX8_imagesAnew_1 rfl (lv_at hl 1 rfl) ?_
  refine dz_kRr (va_runV (As := [_]) ⟨hx, hb, hml, hown, hts⟩ (c_sourceIn l Z _ _ _ _ _ _ _ _ _ _ _ _ _ _ _ _ ha hco hls hsc hns hso) (cwV 1 hts gX8_imagesAnew_X8_sourceAt rfl rfl rfl (by decide +kernel) ⟨Nat.le_of_ble_eq_true rfl, Nat.le_of_ble_eq_true rfl⟩) (dz_P.preV hE hS hG hco rfl ha) rfl rfl hl.1 rfl (lv_room (Nat.le_of_ble_eq_true rfl)) dX8_imagesAnew_2 ⟨Nat.le_of_ble_eq_true rfl, Nat.le_of_ble_eq_true rfl⟩) ?_
  refine lv_astore_n (lv' := [(2, .ref (ad (11, sc))), (0, .ref aX), (1, .int (nI sc))]) hx hb dX8_imagesAnew_5 rfl hl (by decide) rfl (fun ls hl => ?_)
  refine lv_aload_n hx hb dX8_imagesAnew_6 rfl (lv_at hl 0 rfl) ?_
  refine lv_ifnonnull (tgt := 20) hx hb dX8_imagesAnew_7 (by decide) ?_
  refine lv_aload_n hx hb dX8_imagesAnew_20 rfl (lv_at hl 1 rfl) ?_
  refine dz_get hx hb hts (fun _ h => List.mem_cons_of_mem _ (List.mem_append_left _ (List.mem_append_left _ (List.mem_append_left _ (List.mem_append_left _ (List.mem_append_left _ (List.mem_append_right _ h))))))) hown hE hG ha hco rfl 0 (by decide) (hts _ (List.mem_of_getElem? (i := 3) rfl)) (fun _ h9 => h9) rfl dX8_imagesAnew_21 ?_
  refine lv_aload_n hx hb dX8_imagesAnew_24 rfl (lv_at hl 0 rfl) ?_
  refine dz_getN (host := "Delaylens") hx hb hts (fun _ h => List.mem_cons_of_mem _ (List.mem_append_left _ (List.mem_append_left _ (List.mem_append_left _ (List.mem_append_left _ (List.mem_append_right _ h)))))) hown hE hG rfl hso rfl 0 (by decide) (by decide +kernel) (fun _ h9 => h9) rfl dX8_imagesAnew_25 ?_
  refine lv_aload_n hx hb dX8_imagesAnew_28 rfl (lv_at hl 0 rfl) ?_
  refine dz_getN (host := "Delaylens") hx hb hts (fun _ h => List.mem_cons_of_mem _ (List.mem_append_left _ (List.mem_append_left _ (List.mem_append_left _ (List.mem_append_left _ (List.mem_append_right _ h)))))) hown hE hG rfl hso rfl 1 (by decide) (by decide +kernel) (fun _ h9 => h9) rfl dX8_imagesAnew_29 ?_
  refine dz_kRi (va_runV (As := [_, _]) ⟨hx, hb, hml, hown, hts⟩ (c_X5_shotFrom l Z _ _ _ _ _ _ _ _ _ _ rfl hR hN hok) (cwV 2 hts gX8_imagesAnew_X5_shotFrom rfl rfl rfl (by decide +kernel) ⟨Nat.le_of_ble_eq_true rfl, Nat.le_of_ble_eq_true rfl⟩) (dz_P.preV hE hS hG hR.1 rfl rfl) rfl rfl hl.1 rfl (lv_room (Nat.le_of_ble_eq_true rfl)) dX8_imagesAnew_32 ⟨Nat.le_of_ble_eq_true rfl, Nat.le_of_ble_eq_true rfl⟩) ?_
  refine W.iret hx hb hrt (fun t ht hW => ⟨congrArg (fun x => Outcome.returned (some (Value.int x))) ?_, ht⟩) (fun _ h => by cases h) dX8_imagesAnew_35
  rfl
