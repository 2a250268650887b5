theorem m_nin {v : Int32} (h : ¬ ((0 : Int32) ≤ v ∧ v ≤ 4)) : v.toInt < 0 ∨ 4 < v.toInt := by
  rcases Int.lt_or_le v.toInt 0 with c | c
  · exact Or.inl c
  · refine Or.inr (Int.lt_of_not_ge (fun z => h ⟨?_, ?_⟩))
    · exact Jvm.Kit.i32_nonneg.mpr c
    · exact Int32.le_iff_toInt_le.mpr z
set_option maxHeartbeats 4000000 in
set_option maxRecDepth 100000 in
theorem c_D_imageOf_bad2 (l : Launch) (hst : l.stackTraces = false) (Z : dzG) (G : dzW) (ad : dzA) (aX nl nx : Nat) (dy ssf sst cfr grw : Int32) (ns sc : Nat) (cnt : Nat → Nat) (col row fl : Nat → Int32) (rk : Nat) (v3 : Int32) (ha : ad (1, 0) = aX) (hco : G (1, 0) = some (eO 9 [.ref (ad (2, 0)), .ref (ad (9, 0)), .int (nI nl), .int (nI nx), .ref (ad (19, 0)), .ref (ad (26, 0)), .int dy, .int ssf, .int sst, .int cfr, .int grw])) (hls : dz_L Z G ad (9, 0) (10, 0) ns (fun i => ad (11, i))) (hsc : sc < ns) (hns : ns ≤ 5) (hso : G (11, sc) = some (eO 7 [.int (col sc), .int (row sc), .int (fl sc), .ref (ad (12, sc)), .int (nI (cnt sc)), .ref (ad (13, sc)), .ref (ad (15, sc))])) (hrk : rk < cnt sc) (hcn : cnt sc ≤ 441) (hbad : ¬ ((0 : Int32) ≤ v3 ∧ v3 ≤ 4)) : vx_Met l yX8_imageOf wsX8_imageOf (dz_rm 6 85 1 6) (dz_P Z G ad [.ref aX, .int (nI sc), .int (nI rk), .int v3]) (fun _ _ _ _ => False) (dz_XC Z G ad (fun E => E = "java/lang/IllegalArgumentException")) 1 6 (dz_A Z) := by
  refine vx_ofW (cc := cX8_imageOf) (maxL := 5) (ret := (some .int)) (by decide) rfl ?_
  intro p e s m args below meth c s₁ B hml hxt hv
  obtain ⟨rfl, hG, hE⟩ := hv
  have hx := B.exec
  have hb := B.bytes
  have hrt := B.returns
  have hts := atoms_spec (ws := wsX8_imageOf) B.pre
  have hown : s.vm.findClass RX8 = some m.cls := findClass_of_methodNamed B.named
  have hlocks := B.notSynchronized
  have hS : va_S (dz_A Z) s.heap s.heap [] := va_S.rf
  have hl := lv_entry ([.ref aX, .int (nI sc), .int (nI rk), .int v3]) (n := 5) (Nat.le_of_ble_eq_true rfl)
  rw [lg_entry_eq]
  generalize (lg_sl ([.ref aX, .int (nI sc), .int (nI rk), .int v3]) ++ List.replicate (5 - (lg_sl ([.ref aX, .int (nI sc), .int (nI rk), .int v3])).length) Slot.unset).toArray = ls at hl ⊢
  have hl : lv_has ls 5 [(0, .ref aX), (1, .int (nI sc)), (2, .int (nI rk)), (3, .int v3)] := hl
  refine lv_aload_n hx hb dX8_imageOf_0 rfl (lv_at hl 0 rfl) ?_
  refine lv_iload_n hx hb dX8_imageOf_1 rfl (lv_at hl 1 rfl) ?_
  refine dz_kRr (va_runV (As := [_]) ⟨hx, hb, hml, hown, hts⟩ (c_sourceIn l Z _ _ _ _ _ _ _ _ _ _ _ _ _ _ _ _ ha hco hls hsc hns hso) (cwV 1 hts gX8_imageOf_X8_sourceAt rfl rfl rfl (by decide +kernel) ⟨Nat.le_of_ble_eq_true rfl, Nat.le_of_ble_eq_true rfl⟩) (dz_P.preV hE hS hG hco rfl ha) rfl rfl hl.1 rfl (lv_room (Nat.le_of_ble_eq_true rfl)) dX8_imageOf_2 ⟨Nat.le_of_ble_eq_true rfl, Nat.le_of_ble_eq_true rfl⟩) ?_
  refine lv_astore (lv' := [(4, .ref (ad (11, sc))), (0, .ref aX), (1, .int (nI sc)), (2, .int (nI rk)), (3, .int v3)]) hx hb dX8_imageOf_5 hl (by decide) rfl (fun ls hl => ?_)
  refine lv_aload hx hb dX8_imageOf_7 (lv_at hl 0 rfl) ?_
  refine lv_ifnull hx hb dX8_imageOf_9 ?_
  refine lv_aload hx hb dX8_imageOf_12 (lv_at hl 0 rfl) ?_
  refine lv_iload_n hx hb dX8_imageOf_14 rfl (lv_at hl 3 rfl) ?_
  refine dz_kRi (va_runV (As := [_]) ⟨hx, hb, hml, hown, hts⟩ (c_X6_hasImage l Z _ _ _ _ _ _ _ _ _ _ _ rfl hso) (cwV 1 hts gX8_imageOf_X6_hasImage rfl rfl rfl (by decide +kernel) ⟨Nat.le_of_ble_eq_true rfl, Nat.le_of_ble_eq_true rfl⟩) (dz_P.preV hE hS hG hso rfl rfl) rfl rfl hl.1 rfl (lv_room (Nat.le_of_ble_eq_true rfl)) dX8_imageOf_15 ⟨Nat.le_of_ble_eq_true rfl, Nat.le_of_ble_eq_true rfl⟩) ?_
  refine lv_topi (fun v_1 ev_1 => ?_)
  obtain rfl : v_1 = 1 := ev_1.trans (dz_b1 ⟨nI_pos' (by omega), nI_lt hrk (by omega)⟩)
  refine lv_if_ne (tgt := 31) hx hb dX8_imageOf_18 (by decide) (fun c_18 => ?_) (fun c_18 => absurd c_18 (by decide))
  refine lv_iload_n hx hb dX8_imageOf_31 rfl (lv_at hl 4 rfl) ?_
  refine lv_tableOut (tgt := 112) hx hb dX8_imageOf_32 (m_nin hbad) (by decide) ?_
  obtain ⟨sa9, hstr9⟩ := hE.2.2.2.2.2.2.2.2.1 (278, "no such thing is told of an image") (by decide +kernel)
  refine vx_throwSW (own := RX8) (cls := "java/lang/IllegalArgumentException") (text := "no such thing is told of an image") (names := ["java/lang/RuntimeException", "java/lang/Exception"]) (ik := 67) (is := 278) (ic := 71) (sa := sa9) (A := dz_A Z) hx hb hst hown (by decide +kernel) (by decide +kernel) (hts _ (List.mem_of_getElem? (i := 3) rfl)) (hts _ (List.mem_of_getElem? (i := 4) rfl)) hstr9 (vx_hat (B := [.castable "java/lang/IllegalArgumentException" "java/lang/IllegalArgumentException", .declares (Bundle.initS "java/lang/RuntimeException"), .declares (Bundle.initS "java/lang/Exception"), .declares (Bundle.initS Bundle.tN)]) (fun w h => hts w (List.mem_cons_of_mem _ (List.mem_append_right _ h))) (by decide +kernel) (vx_c (va_Nw.use rfl (hE.2.2.2.2.2.2.1 ("java/lang/IllegalArgumentException", "java/lang/IllegalArgumentException") (by decide +kernel))) (vx_c (va_Nw.use rfl (hE.2.2.2.2.2.2.2.2.2.2.2.2 _ (List.mem_cons_self))) (vx_c (va_Nw.use rfl (hE.2.2.2.2.2.2.2.2.2.2.2.2 _ (List.mem_cons_of_mem _ List.mem_cons_self))) (vx_c (va_Nw.use rfl (hE.2.2.2.2.2.2.2.2.2.2.2.2 _ (List.mem_cons_of_mem _ (List.mem_cons_of_mem _ List.mem_cons_self)))) vx_n))))) (by decide +kernel) hE.2.2.2.2.1.1 hE.2.2.2.2.1.2 hS (hl.1.trans hml.symm) dX8_imageOf_112 dX8_imageOf_115 dX8_imageOf_116 dX8_imageOf_119 dX8_imageOf_122 (fun x h => (hxt x h).elim) (Nat.le_of_ble_eq_true rfl) (Nat.le_of_ble_eq_true rfl) (Nat.le_of_ble_eq_true rfl) (Nat.le_of_ble_eq_true rfl) hlocks (fun t _ h1 h2 => dz_xc hG hS h1 h2) (fun z h => hS.2.2 z h) (Nat.le_of_ble_eq_true rfl) (Nat.le_of_ble_eq_true rfl)
