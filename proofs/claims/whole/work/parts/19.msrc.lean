set_option maxHeartbeats 4000000 in
set_option maxRecDepth 100000 in
theorem c_M_source_bad (l : Launch) (Z : dzG) (G : dzW) (ad : dzA) (aM nm ns nl nx nf my : Nat) (th dy td ssf sst cfr grw bkk iop : Int32) (f12 f13 : Nat → Int32) (v1 v2 v3 : Int32) (ha : ad (39, 0) = aM) (ho : G (39, 0) = some (eO 10 [.int th, .int dy, .int (nI nm), .ref (ad (40, 3)), .ref (ad (40, 4)), .ref (ad (40, 5)), .ref (ad (40, 6)), .int td, .ref (ad (40, 8)), .ref (ad (40, 9)), .ref (ad (40, 10)), .int (nI ns), .ref (ad (40, 12)), .ref (ad (40, 13)), .ref (ad (40, 14)), .int (nI nl), .ref (ad (40, 16)), .ref (ad (40, 17)), .ref (ad (40, 18)), .int (nI nx), .ref (ad (40, 20)), .ref (ad (40, 21)), .ref (ad (40, 22)), .ref (ad (40, 23)), .ref (ad (40, 24)), .int ssf, .int sst, .int cfr, .int grw, .int (nI nf), .ref (ad (40, 30)), .ref (ad (40, 31)), .int bkk, .ref (ad (40, 33)), .ref (ad (40, 34)), .ref (ad (40, 35)), .int iop, .ref (ad (40, 37)), .int (nI my)])) (h12 : G (40, 12) = some (eI Z 5 f12)) (h13 : G (40, 13) = some (eI Z 5 f13)) (hns : ns ≤ 5) (hbad : ¬ (((((-10) : Int32) ≤ v1 ∧ v1 ≤ 10) ∧ ((-10) ≤ v2 ∧ v2 ≤ 10)) ∧ ((1 : Int32) ≤ v3 ∧ v3 ≤ 100))) : dzWr l yX9_source wsX9_source 2 42 0 0 Z G ad [.ref aM, .int v1, .int v2, .int v3] rv_i (fun (x : Int32) G1 ad1 => (∀ r9 : dzR, r9 ≠ (39, 0) → G1 r9 = G r9 ∧ ad1 r9 = ad r9) ∧ ad = ad1 ∧ x = 0 ∧ G1 (39, 0) = some (eO 10 [.int 1, .int dy, .int (nI nm), .ref (ad (40, 3)), .ref (ad (40, 4)), .ref (ad (40, 5)), .ref (ad (40, 6)), .int td, .ref (ad (40, 8)), .ref (ad (40, 9)), .ref (ad (40, 10)), .int (nI ns), .ref (ad (40, 12)), .ref (ad (40, 13)), .ref (ad (40, 14)), .int (nI nl), .ref (ad (40, 16)), .ref (ad (40, 17)), .ref (ad (40, 18)), .int (nI nx), .ref (ad (40, 20)), .ref (ad (40, 21)), .ref (ad (40, 22)), .ref (ad (40, 23)), .ref (ad (40, 24)), .int ssf, .int sst, .int cfr, .int grw, .int (nI nf), .ref (ad (40, 30)), .ref (ad (40, 31)), .int bkk, .ref (ad (40, 33)), .ref (ad (40, 34)), .ref (ad (40, 35)), .int iop, .ref (ad (40, 37)), .int (nI my)])) := by
  refine Met.ofW (cc := cX9_source) (maxL := 8) (ret := (some .int)) (by decide) rfl ?_
  intro p e s m args below meth c s₁ B hml hv
  obtain ⟨rfl, hG, hE⟩ := hv
  have hx := B.exec
  have hb := B.bytes
  have hrt := B.returns
  have hts := atoms_spec (ws := wsX9_source) B.pre
  have hown : s.vm.findClass RX9 = some m.cls := findClass_of_methodNamed B.named
  have hlocks := B.notSynchronized
  have hS : va_S (dz_A Z) s.heap s.heap [] := va_S.rf
  have hl := lv_entry ([.ref aM, .int v1, .int v2, .int v3]) (n := 8) (Nat.le_of_ble_eq_true rfl)
  rw [lg_entry_eq]
  generalize (lg_sl ([.ref aM, .int v1, .int v2, .int v3]) ++ List.replicate (8 - (lg_sl ([.ref aM, .int v1, .int v2, .int v3])).length) Slot.unset).toArray = ls at hl ⊢
  have hl : lv_has ls 8 [(0, .ref aM), (1, .int v1), (2, .int v2), (3, .int v3)] := hl
  refine lv_iload_n hx hb dX9_source_0 rfl (lv_at hl 1 rfl) ?_
  refine dz_kRi (va_runS (As := [_]) ⟨hx, hb, hml, hown, hts⟩ (c_X9_isOn l Z _ _ _ ) (va_cwS 1 hts gX9_source_X9_isOn rfl rfl rfl (by decide +kernel) ⟨Nat.le_of_ble_eq_true rfl, Nat.le_of_ble_eq_true rfl⟩) (dz_P.pre hE hS hG) rfl rfl hl.1 rfl (lv_room (Nat.le_of_ble_eq_true rfl)) dX9_source_1 ⟨Nat.le_of_ble_eq_true rfl, Nat.le_of_ble_eq_true rfl⟩) ?_
  refine lv_if_eq (tgt := 28) hx hb dX9_source_4 (by decide) (fun c_4 => ?_) (fun c_4 => ?_)
  · refine lv_iconst (v := 0) hx hb dX9_source_28 (by decide) ?_
    refine lv_istore (lv' := [(4, .int 0), (0, .ref aM), (1, .int v1), (2, .int v2), (3, .int v3)]) hx hb dX9_source_29 hl (by decide) rfl (fun ls hl => ?_)
    refine lv_aload_n hx hb dX9_source_31 rfl (lv_at hl 1 rfl) ?_
    refine dz_get hx hb hts (fun _ h => List.mem_cons_of_mem _ (List.mem_append_right _ h)) hown hE hG ha ho rfl 11 (by decide) (hts _ (List.mem_of_getElem? (i := 1) rfl)) (fun _ h9 => h9) rfl dX9_source_32 ?_
    refine lv_iconst (v := 5) hx hb dX9_source_35 (by decide) ?_
    refine lv_icmp_ne (tgt := 43) hx hb dX9_source_36 (by decide) (fun c_36 => ?_) (fun c_36 => ?_)
    · refine lv_iconst (v := 0) hx hb dX9_source_43 (by decide) ?_
      refine lv_topi (fun v_1 ev_1 => ?_)
      obtain rfl : v_1 = dz_b (ns = 5) := ev_1.trans (by first | exact (dz_b1 ((nI_e (b := 5) (by omega) (by omega)).mp c_36)).symm | exact (dz_b0 (fun z => c_36 (by rw [z]; rfl))).symm)
      refine lv_istore (lv' := [(5, .int (dz_b (ns = 5))), (4, .int 0), (0, .ref aM), (1, .int v1), (2, .int v2), (3, .int v3)]) hx hb dX9_source_44 hl (by decide) rfl (fun ls hl => ?_)
      refine lv_iconst (v := 0) hx hb dX9_source_46 (by decide) ?_
      refine lv_istore (lv' := [(6, .int 0), (5, .int (dz_b (ns = 5))), (4, .int 0), (0, .ref aM), (1, .int v1), (2, .int v2), (3, .int v3)]) hx hb dX9_source_47 hl (by decide) rfl (fun ls hl => ?_)
      refine dz_lp (α := Nat × Array Slot) (fun a9 => (fun (k : Nat) (ls : Array Slot) => ns - k) a9.1 a9.2) (fun a9 => (fun (k : Nat) (ls : Array Slot) => (k ≤ ns) ∧ lv_has ls 8 [(6, .int (nI k)), (5, .int (m_tk (dz_b (ns = 5)) f12 f13 v1 v2 k)), (4, .int 0), (0, .ref aM), (1, .int v1), (2, .int v2), (3, .int v3)]) a9.1 a9.2) (fun a9 => F0 m 49 a9.2 []) (fun a9 hI ih_49 => ?_) (0, ls) ⟨(Nat.zero_le _), lv_sub hl [0, 1, 2, 3, 4, 5, 6] rfl⟩
      obtain ⟨k, ls⟩ := a9
      obtain ⟨hk, hl⟩ := hI
      have hk : k ≤ ns := hk
      have hl : lv_has ls 8 [(6, .int (nI k)), (5, .int (m_tk (dz_b (ns = 5)) f12 f13 v1 v2 k)), (4, .int 0), (0, .ref aM), (1, .int v1), (2, .int v2), (3, .int v3)] := hl
      refine lv_iload hx hb dX9_source_49 (lv_at hl 0 rfl) ?_
      refine lv_aload_n hx hb dX9_source_51 rfl (lv_at hl 3 rfl) ?_
      refine dz_get hx hb hts (fun _ h => List.mem_cons_of_mem _ (List.mem_append_right _ h)) hown hE hG ha ho rfl 11 (by decide) (hts _ (List.mem_of_getElem? (i := 1) rfl)) (fun _ h9 => h9) rfl dX9_source_52 ?_
      refine lv_icmp_ge (tgt := 98) hx hb dX9_source_55 (by decide) (fun c_55 => ?_) (fun c_55 => ?_)
      · have hk9 : k = ns := by have := (nI_leI (by omega) (by omega)).mp c_55; omega
        refine lv_aload_n hx hb dX9_source_98 rfl (lv_at hl 3 rfl) ?_
        refine lv_iload hx hb dX9_source_99 (lv_at hl 2 rfl) ?_
        refine lv_if_ne (tgt := 108) hx hb dX9_source_101 (by decide) (fun c_101 => absurd (by decide) c_101) (fun c_101 => ?_)
        refine lv_iconst (v := 1) hx hb dX9_source_104 (by decide) ?_
        refine lv_goto (tgt := 118) hx hb dX9_source_105 (by decide) ?_
        refine dz_kMi (va_runV (As := [_]) ⟨hx, hb, hml, hown, hts⟩ (c_X9_refused l Z _ _ _ _ _ _ _ _ _ _ _ _ _ _ _ _ _ _ _ ha ho) (cwV 1 hts gX9_source_X9_refused rfl rfl rfl (by decide +kernel) ⟨Nat.le_of_ble_eq_true rfl, Nat.le_of_ble_eq_true rfl⟩) (dz_P.preV hE hS hG ho rfl ha) rfl rfl hl.1 rfl (lv_room (Nat.le_of_ble_eq_true rfl)) dX9_source_118 ⟨Nat.le_of_ble_eq_true rfl, Nat.le_of_ble_eq_true rfl⟩) hS (fun x_118_1 G_118_1 ad_118_1 H locs hp_118_1 hG hS => ?_)
        obtain ⟨fr_118_1, rfl, x9_118_1, g_118_1⟩ := hp_118_1
        obtain rfl : x_118_1 = 1 := x9_118_1.trans (by decide)
        refine lv_if_eq (tgt := 126) hx hb dX9_source_121 (by decide) (fun c_121 => absurd c_121 (by decide)) (fun c_121 => ?_)
        refine lv_iconst (v := 0) hx hb dX9_source_124 (by decide) ?_
        refine W.widen (k := 0) (n := 0) (by first | omega | decide) (by first | omega | decide) ?_
        refine W.iret hx hb hrt (fun t ht hW => dz_endM (f := rv_i) _ hE hS hG ?_ ht hW) (fun q h => hS.2.2 q h) dX9_source_125
        refine ⟨fun r9 n_0 => (fr_118_1 r9 n_0), rfl, ?_⟩
        exact ⟨rfl, g_118_1⟩
      · have hltk : k < ns := by
          rcases Nat.lt_or_ge k (ns) with q | q
          · exact q
          · exact absurd ((nI_leI (by omega) (by omega)).mpr q) c_55
        refine lv_iload hx hb dX9_source_58 (lv_at hl 1 rfl) ?_
        refine lv_if_ne (tgt := 85) hx hb dX9_source_60 (by decide) (fun c_60 => ?_) (fun c_60 => ?_)
        · have hst : m_tk (dz_b (ns = 5)) f12 f13 v1 v2 (k + 1) = 1 := if_pos c_60
          refine lv_iconst (v := 1) hx hb dX9_source_85 (by decide) ?_
          refine lv_goto (tgt := 90) hx hb dX9_source_86 (by decide) ?_
          refine lv_topi (fun v_2 ev_2 => ?_)
          obtain rfl : v_2 = m_tk (dz_b (ns = 5)) f12 f13 v1 v2 (k + 1) := ev_2.trans hst.symm
          refine lv_istore (lv' := [(5, .int (m_tk (dz_b (ns = 5)) f12 f13 v1 v2 (k + 1))), (6, .int (nI k)), (4, .int 0), (0, .ref aM), (1, .int v1), (2, .int v2), (3, .int v3)]) hx hb dX9_source_90 hl (by decide) rfl (fun ls hl => ?_)
          obtain ⟨v_3, ev_3⟩ : ∃ y : Int32, y = (nI k) + 1 := ⟨_, rfl⟩
          refine lv_iinc (v := v_3) (lv' := [(6, .int v_3), (5, .int (m_tk (dz_b (ns = 5)) f12 f13 v1 v2 (k + 1))), (4, .int 0), (0, .ref aM), (1, .int v1), (2, .int v2), (3, .int v3)]) hx hb dX9_source_92 hl (k := 1) rfl (by rw [ev_3]; rfl) (by decide) rfl (fun ls hl => ?_)
          refine lv_goto (tgt := 49) hx hb dX9_source_95 (by decide) ?_
          obtain rfl : v_3 = nI (k + 1) := ev_3.trans (nI_1 k)
          exact ih_49 (k + 1, ls) (by first | (dsimp only; omega) | omega) ⟨(by omega), lv_sub hl [0, 1, 2, 3, 4, 5, 6] rfl⟩
        · refine lv_aload_n hx hb dX9_source_63 rfl (lv_at hl 3 rfl) ?_
          refine dz_get hx hb hts (fun _ h => List.mem_cons_of_mem _ (List.mem_append_right _ h)) hown hE hG ha ho rfl 12 (by decide) (hts _ (List.mem_of_getElem? (i := 2) rfl)) (fun _ h9 => h9) rfl dX9_source_64 ?_
          refine lv_iload hx hb dX9_source_67 (lv_at hl 0 rfl) ?_
          refine dz_iald hx hb hE hG rfl h12 (vp_in_nI (by omega) (by decide)) dX9_source_69 ?_
          refine lv_topi (fun v_4 ev_4 => ?_)
          obtain rfl : v_4 = f12 k := ev_4.trans (by rw [nI_clamp (by omega)])
          refine lv_iload_n hx hb dX9_source_70 rfl (lv_at hl 4 rfl) ?_
          refine lv_icmp_ne (tgt := 89) hx hb dX9_source_71 (by decide) (fun c_71 => ?_) (fun c_71 => ?_)
          · have hst : m_tk (dz_b (ns = 5)) f12 f13 v1 v2 (k + 1) = 0 := (if_neg (fun z => z c_60)).trans (if_neg (fun z => c_71 z.1))
            refine lv_iconst (v := 0) hx hb dX9_source_89 (by decide) ?_
            refine lv_topi (fun v_5 ev_5 => ?_)
            obtain rfl : v_5 = m_tk (dz_b (ns = 5)) f12 f13 v1 v2 (k + 1) := ev_5.trans hst.symm
            refine lv_istore (lv' := [(5, .int (m_tk (dz_b (ns = 5)) f12 f13 v1 v2 (k + 1))), (6, .int (nI k)), (4, .int 0), (0, .ref aM), (1, .int v1), (2, .int v2), (3, .int v3)]) hx hb dX9_source_90 hl (by decide) rfl (fun ls hl => ?_)
            obtain ⟨v_6, ev_6⟩ : ∃ y : Int32, y = (nI k) + 1 := ⟨_, rfl⟩
            refine lv_iinc (v := v_6) (lv' := [(6, .int v_6), (5, .int (m_tk (dz_b (ns = 5)) f12 f13 v1 v2 (k + 1))), (4, .int 0), (0, .ref aM), (1, .int v1), (2, .int v2), (3, .int v3)]) hx hb dX9_source_92 hl (k := 1) rfl (by rw [ev_6]; rfl) (by decide) rfl (fun ls hl => ?_)
            refine lv_goto (tgt := 49) hx hb dX9_source_95 (by decide) ?_
            obtain rfl : v_6 = nI (k + 1) := ev_6.trans (nI_1 k)
            exact ih_49 (k + 1, ls) (by first | (dsimp only; omega) | omega) ⟨(by omega), lv_sub hl [0, 1, 2, 3, 4, 5, 6] rfl⟩
          · refine lv_aload_n hx hb dX9_source_74 rfl (lv_at hl 3 rfl) ?_
            refine dz_get hx hb hts (fun _ h => List.mem_cons_of_mem _ (List.mem_append_right _ h)) hown hE hG ha ho rfl 13 (by decide) (hts _ (List.mem_of_getElem? (i := 3) rfl)) (fun _ h9 => h9) rfl dX9_source_75 ?_
            refine lv_iload hx hb dX9_source_78 (lv_at hl 0 rfl) ?_
            refine dz_iald hx hb hE hG rfl h13 (vp_in_nI (by omega) (by decide)) dX9_source_80 ?_
            refine lv_topi (fun v_7 ev_7 => ?_)
            obtain rfl : v_7 = f13 k := ev_7.trans (by rw [nI_clamp (by omega)])
            refine lv_iload_n hx hb dX9_source_81 rfl (lv_at hl 5 rfl) ?_
            refine lv_icmp_ne (tgt := 89) hx hb dX9_source_82 (by decide) (fun c_82 => ?_) (fun c_82 => ?_)
            · have hst : m_tk (dz_b (ns = 5)) f12 f13 v1 v2 (k + 1) = 0 := (if_neg (fun z => z c_60)).trans (if_neg (fun z => c_82 z.2))
              refine lv_iconst (v := 0) hx hb dX9_source_89 (by decide) ?_
              refine lv_topi (fun v_8 ev_8 => ?_)
              obtain rfl : v_8 = m_tk (dz_b (ns = 5)) f12 f13 v1 v2 (k + 1) := ev_8.trans hst.symm
              refine lv_istore (lv' := [(5, .int (m_tk (dz_b (ns = 5)) f12 f13 v1 v2 (k + 1))), (6, .int (nI k)), (4, .int 0), (0, .ref aM), (1, .int v1), (2, .int v2), (3, .int v3)]) hx hb dX9_source_90 hl (by decide) rfl (fun ls hl => ?_)
              obtain ⟨v_9, ev_9⟩ : ∃ y : Int32, y = (nI k) + 1 := ⟨_, rfl⟩
              refine lv_iinc (v := v_9) (lv' := [(6, .int v_9), (5, .int (m_tk (dz_b (ns = 5)) f12 f13 v1 v2 (k + 1))), (4, .int 0), (0, .ref aM), (1, .int v1), (2, .int v2), (3, .int v3)]) hx hb dX9_source_92 hl (k := 1) rfl (by rw [ev_9]; rfl) (by decide) rfl (fun ls hl => ?_)
              refine lv_goto (tgt := 49) hx hb dX9_source_95 (by decide) ?_
              obtain rfl : v_9 = nI (k + 1) := ev_9.trans (nI_1 k)
              exact ih_49 (k + 1, ls) (by first | (dsimp only; omega) | omega) ⟨(by omega), lv_sub hl [0, 1, 2, 3, 4, 5, 6] rfl⟩
            · have hst : m_tk (dz_b (ns = 5)) f12 f13 v1 v2 (k + 1) = 1 := (if_neg (fun z => z c_60)).trans (if_pos ⟨c_71, c_82⟩)
              refine lv_iconst (v := 1) hx hb dX9_source_85 (by decide) ?_
              refine lv_goto (tgt := 90) hx hb dX9_source_86 (by decide) ?_
              refine lv_topi (fun v_10 ev_10 => ?_)
              obtain rfl : v_10 = m_tk (dz_b (ns = 5)) f12 f13 v1 v2 (k + 1) := ev_10.trans hst.symm
              refine lv_istore (lv' := [(5, .int (m_tk (dz_b (ns = 5)) f12 f13 v1 v2 (k + 1))), (6, .int (nI k)), (4, .int 0), (0, .ref aM), (1, .int v1), (2, .int v2), (3, .int v3)]) hx hb dX9_source_90 hl (by decide) rfl (fun ls hl => ?_)
              obtain ⟨v_11, ev_11⟩ : ∃ y : Int32, y = (nI k) + 1 := ⟨_, rfl⟩
              refine lv_iinc (v := v_11) (lv' := [(6, .int v_11), (5, .int (m_tk (dz_b (ns = 5)) f12 f13 v1 v2 (k + 1))), (4, .int 0), (0, .ref aM), (1, .int v1), (2, .int v2), (3, .int v3)]) hx hb dX9_source_92 hl (k := 1) rfl (by rw [ev_11]; rfl) (by decide) rfl (fun ls hl => ?_)
              refine lv_goto (tgt := 49) hx hb dX9_source_95 (by decide) ?_
              obtain rfl : v_11 = nI (k + 1) := ev_11.trans (nI_1 k)
              exact ih_49 (k + 1, ls) (by first | (dsimp only; omega) | omega) ⟨(by omega), lv_sub hl [0, 1, 2, 3, 4, 5, 6] rfl⟩
    · refine lv_iconst (v := 1) hx hb dX9_source_39 (by decide) ?_
      refine lv_goto (tgt := 44) hx hb dX9_source_40 (by decide) ?_
      refine lv_topi (fun v_12 ev_12 => ?_)
      obtain rfl : v_12 = dz_b (ns = 5) := ev_12.trans (by first | exact (dz_b1 ((nI_e (b := 5) (by omega) (by omega)).mp c_36)).symm | exact (dz_b0 (fun z => c_36 (by rw [z]; rfl))).symm)
      refine lv_istore (lv' := [(5, .int (dz_b (ns = 5))), (4, .int 0), (0, .ref aM), (1, .int v1), (2, .int v2), (3, .int v3)]) hx hb dX9_source_44 hl (by decide) rfl (fun ls hl => ?_)
      refine lv_iconst (v := 0) hx hb dX9_source_46 (by decide) ?_
      refine lv_istore (lv' := [(6, .int 0), (5, .int (dz_b (ns = 5))), (4, .int 0), (0, .ref aM), (1, .int v1), (2, .int v2), (3, .int v3)]) hx hb dX9_source_47 hl (by decide) rfl (fun ls hl => ?_)
      refine dz_lp (α := Nat × Array Slot) (fun a9 => (fun (k : Nat) (ls : Array Slot) => ns - k) a9.1 a9.2) (fun a9 => (fun (k : Nat) (ls : Array Slot) => (k ≤ ns) ∧ lv_has ls 8 [(6, .int (nI k)), (5, .int (m_tk (dz_b (ns = 5)) f12 f13 v1 v2 k)), (4, .int 0), (0, .ref aM), (1, .int v1), (2, .int v2), (3, .int v3)]) a9.1 a9.2) (fun a9 => F0 m 49 a9.2 []) (fun a9 hI ih_49 => ?_) (0, ls) ⟨(Nat.zero_le _), lv_sub hl [0, 1, 2, 3, 4, 5, 6] rfl⟩
      obtain ⟨k, ls⟩ := a9
      obtain ⟨hk, hl⟩ := hI
      have hk : k ≤ ns := hk
      have hl : lv_has ls 8 [(6, .int (nI k)), (5, .int (m_tk (dz_b (ns = 5)) f12 f13 v1 v2 k)), (4, .int 0), (0, .ref aM), (1, .int v1), (2, .int v2), (3, .int v3)] := hl
      refine lv_iload hx hb dX9_source_49 (lv_at hl 0 rfl) ?_
      refine lv_aload_n hx hb dX9_source_51 rfl (lv_at hl 3 rfl) ?_
      refine dz_get hx hb hts (fun _ h => List.mem_cons_of_mem _ (List.mem_append_right _ h)) hown hE hG ha ho rfl 11 (by decide) (hts _ (List.mem_of_getElem? (i := 1) rfl)) (fun _ h9 => h9) rfl dX9_source_52 ?_
      refine lv_icmp_ge (tgt := 98) hx hb dX9_source_55 (by decide) (fun c_55 => ?_) (fun c_55 => ?_)
      · have hk9 : k = ns := by have := (nI_leI (by omega) (by omega)).mp c_55; omega
        refine lv_aload_n hx hb dX9_source_98 rfl (lv_at hl 3 rfl) ?_
        refine lv_iload hx hb dX9_source_99 (lv_at hl 2 rfl) ?_
        refine lv_if_ne (tgt := 108) hx hb dX9_source_101 (by decide) (fun c_101 => absurd (by decide) c_101) (fun c_101 => ?_)
        refine lv_iconst (v := 1) hx hb dX9_source_104 (by decide) ?_
        refine lv_goto (tgt := 118) hx hb dX9_source_105 (by decide) ?_
        refine dz_kMi (va_runV (As := [_]) ⟨hx, hb, hml, hown, hts⟩ (c_X9_refused l Z _ _ _ _ _ _ _ _ _ _ _ _ _ _ _ _ _ _ _ ha ho) (cwV 1 hts gX9_source_X9_refused rfl rfl rfl (by decide +kernel) ⟨Nat.le_of_ble_eq_true rfl, Nat.le_of_ble_eq_true rfl⟩) (dz_P.preV hE hS hG ho rfl ha) rfl rfl hl.1 rfl (lv_room (Nat.le_of_ble_eq_true rfl)) dX9_source_118 ⟨Nat.le_of_ble_eq_true rfl, Nat.le_of_ble_eq_true rfl⟩) hS (fun x_118_2 G_118_2 ad_118_2 H locs hp_118_2 hG hS => ?_)
        obtain ⟨fr_118_2, rfl, x9_118_2, g_118_2⟩ := hp_118_2
        obtain rfl : x_118_2 = 1 := x9_118_2.trans (by decide)
        refine lv_if_eq (tgt := 126) hx hb dX9_source_121 (by decide) (fun c_121 => absurd c_121 (by decide)) (fun c_121 => ?_)
        refine lv_iconst (v := 0) hx hb dX9_source_124 (by decide) ?_
        refine W.widen (k := 0) (n := 0) (by first | omega | decide) (by first | omega | decide) ?_
        refine W.iret hx hb hrt (fun t ht hW => dz_endM (f := rv_i) _ hE hS hG ?_ ht hW) (fun q h => hS.2.2 q h) dX9_source_125
        refine ⟨fun r9 n_0 => (fr_118_2 r9 n_0), rfl, ?_⟩
        exact ⟨rfl, g_118_2⟩
      · have hltk : k < ns := by
          rcases Nat.lt_or_ge k (ns) with q | q
          · exact q
          · exact absurd ((nI_leI (by omega) (by omega)).mpr q) c_55
        refine lv_iload hx hb dX9_source_58 (lv_at hl 1 rfl) ?_
        refine lv_if_ne (tgt := 85) hx hb dX9_source_60 (by decide) (fun c_60 => ?_) (fun c_60 => ?_)
        · have hst : m_tk (dz_b (ns = 5)) f12 f13 v1 v2 (k + 1) = 1 := if_pos c_60
          refine lv_iconst (v := 1) hx hb dX9_source_85 (by decide) ?_
          refine lv_goto (tgt := 90) hx hb dX9_source_86 (by decide) ?_
          refine lv_topi (fun v_13 ev_13 => ?_)
          obtain rfl : v_13 = m_tk (dz_b (ns = 5)) f12 f13 v1 v2 (k + 1) := ev_13.trans hst.symm
          refine lv_istore (lv' := [(5, .int (m_tk (dz_b (ns = 5)) f12 f13 v1 v2 (k + 1))), (6, .int (nI k)), (4, .int 0), (0, .ref aM), (1, .int v1), (2, .int v2), (3, .int v3)]) hx hb dX9_source_90 hl (by decide) rfl (fun ls hl => ?_)
          obtain ⟨v_14, ev_14⟩ : ∃ y : Int32, y = (nI k) + 1 := ⟨_, rfl⟩
          refine lv_iinc (v := v_14) (lv' := [(6, .int v_14), (5, .int (m_tk (dz_b (ns = 5)) f12 f13 v1 v2 (k + 1))), (4, .int 0), (0, .ref aM), (1, .int v1), (2, .int v2), (3, .int v3)]) hx hb dX9_source_92 hl (k := 1) rfl (by rw [ev_14]; rfl) (by decide) rfl (fun ls hl => ?_)
          refine lv_goto (tgt := 49) hx hb dX9_source_95 (by decide) ?_
          obtain rfl : v_14 = nI (k + 1) := ev_14.trans (nI_1 k)
          exact ih_49 (k + 1, ls) (by first | (dsimp only; omega) | omega) ⟨(by omega), lv_sub hl [0, 1, 2, 3, 4, 5, 6] rfl⟩
        · refine lv_aload_n hx hb dX9_source_63 rfl (lv_at hl 3 rfl) ?_
          refine dz_get hx hb hts (fun _ h => List.mem_cons_of_mem _ (List.mem_append_right _ h)) hown hE hG ha ho rfl 12 (by decide) (hts _ (List.mem_of_getElem? (i := 2) rfl)) (fun _ h9 => h9) rfl dX9_source_64 ?_
          refine lv_iload hx hb dX9_source_67 (lv_at hl 0 rfl) ?_
          refine dz_iald hx hb hE hG rfl h12 (vp_in_nI (by omega) (by decide)) dX9_source_69 ?_
          refine lv_topi (fun v_15 ev_15 => ?_)
          obtain rfl : v_15 = f12 k := ev_15.trans (by rw [nI_clamp (by omega)])
          refine lv_iload_n hx hb dX9_source_70 rfl (lv_at hl 4 rfl) ?_
          refine lv_icmp_ne (tgt := 89) hx hb dX9_source_71 (by decide) (fun c_71 => ?_) (fun c_71 => ?_)
          · have hst : m_tk (dz_b (ns = 5)) f12 f13 v1 v2 (k + 1) = 0 := (if_neg (fun z => z c_60)).trans (if_neg (fun z => c_71 z.1))
            refine lv_iconst (v := 0) hx hb dX9_source_89 (by decide) ?_
            refine lv_topi (fun v_16 ev_16 => ?_)
            obtain rfl : v_16 = m_tk (dz_b (ns = 5)) f12 f13 v1 v2 (k + 1) := ev_16.trans hst.symm
            refine lv_istore (lv' := [(5, .int (m_tk (dz_b (ns = 5)) f12 f13 v1 v2 (k + 1))), (6, .int (nI k)), (4, .int 0), (0, .ref aM), (1, .int v1), (2, .int v2), (3, .int v3)]) hx hb dX9_source_90 hl (by decide) rfl (fun ls hl => ?_)
            obtain ⟨v_17, ev_17⟩ : ∃ y : Int32, y = (nI k) + 1 := ⟨_, rfl⟩
            refine lv_iinc (v := v_17) (lv' := [(6, .int v_17), (5, .int (m_tk (dz_b (ns = 5)) f12 f13 v1 v2 (k + 1))), (4, .int 0), (0, .ref aM), (1, .int v1), (2, .int v2), (3, .int v3)]) hx hb dX9_source_92 hl (k := 1) rfl (by rw [ev_17]; rfl) (by decide) rfl (fun ls hl => ?_)
            refine lv_goto (tgt := 49) hx hb dX9_source_95 (by decide) ?_
            obtain rfl : v_17 = nI (k + 1) := ev_17.trans (nI_1 k)
            exact ih_49 (k + 1, ls) (by first | (dsimp only; omega) | omega) ⟨(by omega), lv_sub hl [0, 1, 2, 3, 4, 5, 6] rfl⟩
          · refine lv_aload_n hx hb dX9_source_74 rfl (lv_at hl 3 rfl) ?_
            refine dz_get hx hb hts (fun _ h => List.mem_cons_of_mem _ (List.mem_append_right _ h)) hown hE hG ha ho rfl 13 (by decide) (hts _ (List.mem_of_getElem? (i := 3) rfl)) (fun _ h9 => h9) rfl dX9_source_75 ?_
            refine lv_iload hx hb dX9_source_78 (lv_at hl 0 rfl) ?_
            refine dz_iald hx hb hE hG rfl h13 (vp_in_nI (by omega) (by decide)) dX9_source_80 ?_
            refine lv_topi (fun v_18 ev_18 => ?_)
            obtain rfl : v_18 = f13 k := ev_18.trans (by rw [nI_clamp (by omega)])
            refine lv_iload_n hx hb dX9_source_81 rfl (lv_at hl 5 rfl) ?_
            refine lv_icmp_ne (tgt := 89) hx hb dX9_source_82 (by decide) (fun c_82 => ?_) (fun c_82 => ?_)
            · have hst : m_tk (dz_b (ns = 5)) f12 f13 v1 v2 (k + 1) = 0 := (if_neg (fun z => z c_60)).trans (if_neg (fun z => c_82 z.2))
              refine lv_iconst (v := 0) hx hb dX9_source_89 (by decide) ?_
              refine lv_topi (fun v_19 ev_19 => ?_)
              obtain rfl : v_19 = m_tk (dz_b (ns = 5)) f12 f13 v1 v2 (k + 1) := ev_19.trans hst.symm
              refine lv_istore (lv' := [(5, .int (m_tk (dz_b (ns = 5)) f12 f13 v1 v2 (k + 1))), (6, .int (nI k)), (4, .int 0), (0, .ref aM), (1, .int v1), (2, .int v2), (3, .int v3)]) hx hb dX9_source_90 hl (by decide) rfl (fun ls hl => ?_)
              obtain ⟨v_20, ev_20⟩ : ∃ y : Int32, y = (nI k) + 1 := ⟨_, rfl⟩
              refine lv_iinc (v := v_20) (lv' := [(6, .int v_20), (5, .int (m_tk (dz_b (ns = 5)) f12 f13 v1 v2 (k + 1))), (4, .int 0), (0, .ref aM), (1, .int v1), (2, .int v2), (3, .int v3)]) hx hb dX9_source_92 hl (k := 1) rfl (by rw [ev_20]; rfl) (by decide) rfl (fun ls hl => ?_)
              refine lv_goto (tgt := 49) hx hb dX9_source_95 (by decide) ?_
              obtain rfl : v_20 = nI (k + 1) := ev_20.trans (nI_1 k)
              exact ih_49 (k + 1, ls) (by first | (dsimp only; omega) | omega) ⟨(by omega), lv_sub hl [0, 1, 2, 3, 4, 5, 6] rfl⟩
            · have hst : m_tk (dz_b (ns = 5)) f12 f13 v1 v2 (k + 1) = 1 := (if_neg (fun z => z c_60)).trans (if_pos ⟨c_71, c_82⟩)
              refine lv_iconst (v := 1) hx hb dX9_source_85 (by decide) ?_
              refine lv_goto (tgt := 90) hx hb dX9_source_86 (by decide) ?_
              refine lv_topi (fun v_21 ev_21 => ?_)
              obtain rfl : v_21 = m_tk (dz_b (ns = 5)) f12 f13 v1 v2 (k + 1) := ev_21.trans hst.symm
              refine lv_istore (lv' := [(5, .int (m_tk (dz_b (ns = 5)) f12 f13 v1 v2 (k + 1))), (6, .int (nI k)), (4, .int 0), (0, .ref aM), (1, .int v1), (2, .int v2), (3, .int v3)]) hx hb dX9_source_90 hl (by decide) rfl (fun ls hl => ?_)
              obtain ⟨v_22, ev_22⟩ : ∃ y : Int32, y = (nI k) + 1 := ⟨_, rfl⟩
              refine lv_iinc (v := v_22) (lv' := [(6, .int v_22), (5, .int (m_tk (dz_b (ns = 5)) f12 f13 v1 v2 (k + 1))), (4, .int 0), (0, .ref aM), (1, .int v1), (2, .int v2), (3, .int v3)]) hx hb dX9_source_92 hl (k := 1) rfl (by rw [ev_22]; rfl) (by decide) rfl (fun ls hl => ?_)
              refine lv_goto (tgt := 49) hx hb dX9_source_95 (by decide) ?_
              obtain rfl : v_22 = nI (k + 1) := ev_22.trans (nI_1 k)
              exact ih_49 (k + 1, ls) (by first | (dsimp only; omega) | omega) ⟨(by omega), lv_sub hl [0, 1, 2, 3, 4, 5, 6] rfl⟩
  · refine lv_iload_n hx hb dX9_source_7 rfl (lv_at hl 2 rfl) ?_
    refine dz_kRi (va_runS (As := [_]) ⟨hx, hb, hml, hown, hts⟩ (c_X9_isOn l Z _ _ _ ) (va_cwS 1 hts gX9_source_X9_isOn rfl rfl rfl (by decide +kernel) ⟨Nat.le_of_ble_eq_true rfl, Nat.le_of_ble_eq_true rfl⟩) (dz_P.pre hE hS hG) rfl rfl hl.1 rfl (lv_room (Nat.le_of_ble_eq_true rfl)) dX9_source_8 ⟨Nat.le_of_ble_eq_true rfl, Nat.le_of_ble_eq_true rfl⟩) ?_
    refine lv_if_eq (tgt := 28) hx hb dX9_source_11 (by decide) (fun c_11 => ?_) (fun c_11 => ?_)
    · refine lv_iconst (v := 0) hx hb dX9_source_28 (by decide) ?_
      refine lv_istore (lv' := [(4, .int 0), (0, .ref aM), (1, .int v1), (2, .int v2), (3, .int v3)]) hx hb dX9_source_29 hl (by decide) rfl (fun ls hl => ?_)
      refine lv_aload_n hx hb dX9_source_31 rfl (lv_at hl 1 rfl) ?_
      refine dz_get hx hb hts (fun _ h => List.mem_cons_of_mem _ (List.mem_append_right _ h)) hown hE hG ha ho rfl 11 (by decide) (hts _ (List.mem_of_getElem? (i := 1) rfl)) (fun _ h9 => h9) rfl dX9_source_32 ?_
      refine lv_iconst (v := 5) hx hb dX9_source_35 (by decide) ?_
      refine lv_icmp_ne (tgt := 43) hx hb dX9_source_36 (by decide) (fun c_36 => ?_) (fun c_36 => ?_)
      · refine lv_iconst (v := 0) hx hb dX9_source_43 (by decide) ?_
        refine lv_topi (fun v_23 ev_23 => ?_)
        obtain rfl : v_23 = dz_b (ns = 5) := ev_23.trans (by first | exact (dz_b1 ((nI_e (b := 5) (by omega) (by omega)).mp c_36)).symm | exact (dz_b0 (fun z => c_36 (by rw [z]; rfl))).symm)
        refine lv_istore (lv' := [(5, .int (dz_b (ns = 5))), (4, .int 0), (0, .ref aM), (1, .int v1), (2, .int v2), (3, .int v3)]) hx hb dX9_source_44 hl (by decide) rfl (fun ls hl => ?_)
        refine lv_iconst (v := 0) hx hb dX9_source_46 (by decide) ?_
        refine lv_istore (lv' := [(6, .int 0), (5, .int (dz_b (ns = 5))), (4, .int 0), (0, .ref aM), (1, .int v1), (2, .int v2), (3, .int v3)]) hx hb dX9_source_47 hl (by decide) rfl (fun ls hl => ?_)
        refine dz_lp (α := Nat × Array Slot) (fun a9 => (fun (k : Nat) (ls : Array Slot) => ns - k) a9.1 a9.2) (fun a9 => (fun (k : Nat) (ls : Array Slot) => (k ≤ ns) ∧ lv_has ls 8 [(6, .int (nI k)), (5, .int (m_tk (dz_b (ns = 5)) f12 f13 v1 v2 k)), (4, .int 0), (0, .ref aM), (1, .int v1), (2, .int v2), (3, .int v3)]) a9.1 a9.2) (fun a9 => F0 m 49 a9.2 []) (fun a9 hI ih_49 => ?_) (0, ls) ⟨(Nat.zero_le _), lv_sub hl [0, 1, 2, 3, 4, 5, 6] rfl⟩
        obtain ⟨k, ls⟩ := a9
        obtain ⟨hk, hl⟩ := hI
        have hk : k ≤ ns := hk
        have hl : lv_has ls 8 [(6, .int (nI k)), (5, .int (m_tk (dz_b (ns = 5)) f12 f13 v1 v2 k)), (4, .int 0), (0, .ref aM), (1, .int v1), (2, .int v2), (3, .int v3)] := hl
        refine lv_iload hx hb dX9_source_49 (lv_at hl 0 rfl) ?_
        refine lv_aload_n hx hb dX9_source_51 rfl (lv_at hl 3 rfl) ?_
        refine dz_get hx hb hts (fun _ h => List.mem_cons_of_mem _ (List.mem_append_right _ h)) hown hE hG ha ho rfl 11 (by decide) (hts _ (List.mem_of_getElem? (i := 1) rfl)) (fun _ h9 => h9) rfl dX9_source_52 ?_
        refine lv_icmp_ge (tgt := 98) hx hb dX9_source_55 (by decide) (fun c_55 => ?_) (fun c_55 => ?_)
        · have hk9 : k = ns := by have := (nI_leI (by omega) (by omega)).mp c_55; omega
          refine lv_aload_n hx hb dX9_source_98 rfl (lv_at hl 3 rfl) ?_
          refine lv_iload hx hb dX9_source_99 (lv_at hl 2 rfl) ?_
          refine lv_if_ne (tgt := 108) hx hb dX9_source_101 (by decide) (fun c_101 => absurd (by decide) c_101) (fun c_101 => ?_)
          refine lv_iconst (v := 1) hx hb dX9_source_104 (by decide) ?_
          refine lv_goto (tgt := 118) hx hb dX9_source_105 (by decide) ?_
          refine dz_kMi (va_runV (As := [_]) ⟨hx, hb, hml, hown, hts⟩ (c_X9_refused l Z _ _ _ _ _ _ _ _ _ _ _ _ _ _ _ _ _ _ _ ha ho) (cwV 1 hts gX9_source_X9_refused rfl rfl rfl (by decide +kernel) ⟨Nat.le_of_ble_eq_true rfl, Nat.le_of_ble_eq_true rfl⟩) (dz_P.preV hE hS hG ho rfl ha) rfl rfl hl.1 rfl (lv_room (Nat.le_of_ble_eq_true rfl)) dX9_source_118 ⟨Nat.le_of_ble_eq_true rfl, Nat.le_of_ble_eq_true rfl⟩) hS (fun x_118_3 G_118_3 ad_118_3 H locs hp_118_3 hG hS => ?_)
          obtain ⟨fr_118_3, rfl, x9_118_3, g_118_3⟩ := hp_118_3
          obtain rfl : x_118_3 = 1 := x9_118_3.trans (by decide)
          refine lv_if_eq (tgt := 126) hx hb dX9_source_121 (by decide) (fun c_121 => absurd c_121 (by decide)) (fun c_121 => ?_)
          refine lv_iconst (v := 0) hx hb dX9_source_124 (by decide) ?_
          refine W.widen (k := 0) (n := 0) (by first | omega | decide) (by first | omega | decide) ?_
          refine W.iret hx hb hrt (fun t ht hW => dz_endM (f := rv_i) _ hE hS hG ?_ ht hW) (fun q h => hS.2.2 q h) dX9_source_125
          refine ⟨fun r9 n_0 => (fr_118_3 r9 n_0), rfl, ?_⟩
          exact ⟨rfl, g_118_3⟩
        · have hltk : k < ns := by
            rcases Nat.lt_or_ge k (ns) with q | q
            · exact q
            · exact absurd ((nI_leI (by omega) (by omega)).mpr q) c_55
          refine lv_iload hx hb dX9_source_58 (lv_at hl 1 rfl) ?_
          refine lv_if_ne (tgt := 85) hx hb dX9_source_60 (by decide) (fun c_60 => ?_) (fun c_60 => ?_)
          · have hst : m_tk (dz_b (ns = 5)) f12 f13 v1 v2 (k + 1) = 1 := if_pos c_60
            refine lv_iconst (v := 1) hx hb dX9_source_85 (by decide) ?_
            refine lv_goto (tgt := 90) hx hb dX9_source_86 (by decide) ?_
            refine lv_topi (fun v_24 ev_24 => ?_)
            obtain rfl : v_24 = m_tk (dz_b (ns = 5)) f12 f13 v1 v2 (k + 1) := ev_24.trans hst.symm
            refine lv_istore (lv' := [(5, .int (m_tk (dz_b (ns = 5)) f12 f13 v1 v2 (k + 1))), (6, .int (nI k)), (4, .int 0), (0, .ref aM), (1, .int v1), (2, .int v2), (3, .int v3)]) hx hb dX9_source_90 hl (by decide) rfl (fun ls hl => ?_)
            obtain ⟨v_25, ev_25⟩ : ∃ y : Int32, y = (nI k) + 1 := ⟨_, rfl⟩
            refine lv_iinc (v := v_25) (lv' := [(6, .int v_25), (5, .int (m_tk (dz_b (ns = 5)) f12 f13 v1 v2 (k + 1))), (4, .int 0), (0, .ref aM), (1, .int v1), (2, .int v2), (3, .int v3)]) hx hb dX9_source_92 hl (k := 1) rfl (by rw [ev_25]; rfl) (by decide) rfl (fun ls hl => ?_)
            refine lv_goto (tgt := 49) hx hb dX9_source_95 (by decide) ?_
            obtain rfl : v_25 = nI (k + 1) := ev_25.trans (nI_1 k)
            exact ih_49 (k + 1, ls) (by first | (dsimp only; omega) | omega) ⟨(by omega), lv_sub hl [0, 1, 2, 3, 4, 5, 6] rfl⟩
          · refine lv_aload_n hx hb dX9_source_63 rfl (lv_at hl 3 rfl) ?_
            refine dz_get hx hb hts (fun _ h => List.mem_cons_of_mem _ (List.mem_append_right _ h)) hown hE hG ha ho rfl 12 (by decide) (hts _ (List.mem_of_getElem? (i := 2) rfl)) (fun _ h9 => h9) rfl dX9_source_64 ?_
            refine lv_iload hx hb dX9_source_67 (lv_at hl 0 rfl) ?_
            refine dz_iald hx hb hE hG rfl h12 (vp_in_nI (by omega) (by decide)) dX9_source_69 ?_
            refine lv_topi (fun v_26 ev_26 => ?_)
            obtain rfl : v_26 = f12 k := ev_26.trans (by rw [nI_clamp (by omega)])
            refine lv_iload_n hx hb dX9_source_70 rfl (lv_at hl 4 rfl) ?_
            refine lv_icmp_ne (tgt := 89) hx hb dX9_source_71 (by decide) (fun c_71 => ?_) (fun c_71 => ?_)
            · have hst : m_tk (dz_b (ns = 5)) f12 f13 v1 v2 (k + 1) = 0 := (if_neg (fun z => z c_60)).trans (if_neg (fun z => c_71 z.1))
              refine lv_iconst (v := 0) hx hb dX9_source_89 (by decide) ?_
              refine lv_topi (fun v_27 ev_27 => ?_)
              obtain rfl : v_27 = m_tk (dz_b (ns = 5)) f12 f13 v1 v2 (k + 1) := ev_27.trans hst.symm
              refine lv_istore (lv' := [(5, .int (m_tk (dz_b (ns = 5)) f12 f13 v1 v2 (k + 1))), (6, .int (nI k)), (4, .int 0), (0, .ref aM), (1, .int v1), (2, .int v2), (3, .int v3)]) hx hb dX9_source_90 hl (by decide) rfl (fun ls hl => ?_)
              obtain ⟨v_28, ev_28⟩ : ∃ y : Int32, y = (nI k) + 1 := ⟨_, rfl⟩
              refine lv_iinc (v := v_28) (lv' := [(6, .int v_28), (5, .int (m_tk (dz_b (ns = 5)) f12 f13 v1 v2 (k + 1))), (4, .int 0), (0, .ref aM), (1, .int v1), (2, .int v2), (3, .int v3)]) hx hb dX9_source_92 hl (k := 1) rfl (by rw [ev_28]; rfl) (by decide) rfl (fun ls hl => ?_)
              refine lv_goto (tgt := 49) hx hb dX9_source_95 (by decide) ?_
              obtain rfl : v_28 = nI (k + 1) := ev_28.trans (nI_1 k)
              exact ih_49 (k + 1, ls) (by first | (dsimp only; omega) | omega) ⟨(by omega), lv_sub hl [0, 1, 2, 3, 4, 5, 6] rfl⟩
            · refine lv_aload_n hx hb dX9_source_74 rfl (lv_at hl 3 rfl) ?_
              refine dz_get hx hb hts (fun _ h => List.mem_cons_of_mem _ (List.mem_append_right _ h)) hown hE hG ha ho rfl 13 (by decide) (hts _ (List.mem_of_getElem? (i := 3) rfl)) (fun _ h9 => h9) rfl dX9_source_75 ?_
              refine lv_iload hx hb dX9_source_78 (lv_at hl 0 rfl) ?_
              refine dz_iald hx hb hE hG rfl h13 (vp_in_nI (by omega) (by decide)) dX9_source_80 ?_
              refine lv_topi (fun v_29 ev_29 => ?_)
              obtain rfl : v_29 = f13 k := ev_29.trans (by rw [nI_clamp (by omega)])
              refine lv_iload_n hx hb dX9_source_81 rfl (lv_at hl 5 rfl) ?_
              refine lv_icmp_ne (tgt := 89) hx hb dX9_source_82 (by decide) (fun c_82 => ?_) (fun c_82 => ?_)
              · have hst : m_tk (dz_b (ns = 5)) f12 f13 v1 v2 (k + 1) = 0 := (if_neg (fun z => z c_60)).trans (if_neg (fun z => c_82 z.2))
                refine lv_iconst (v := 0) hx hb dX9_source_89 (by decide) ?_
                refine lv_topi (fun v_30 ev_30 => ?_)
                obtain rfl : v_30 = m_tk (dz_b (ns = 5)) f12 f13 v1 v2 (k + 1) := ev_30.trans hst.symm
                refine lv_istore (lv' := [(5, .int (m_tk (dz_b (ns = 5)) f12 f13 v1 v2 (k + 1))), (6, .int (nI k)), (4, .int 0), (0, .ref aM), (1, .int v1), (2, .int v2), (3, .int v3)]) hx hb dX9_source_90 hl (by decide) rfl (fun ls hl => ?_)
                obtain ⟨v_31, ev_31⟩ : ∃ y : Int32, y = (nI k) + 1 := ⟨_, rfl⟩
                refine lv_iinc (v := v_31) (lv' := [(6, .int v_31), (5, .int (m_tk (dz_b (ns = 5)) f12 f13 v1 v2 (k + 1))), (4, .int 0), (0, .ref aM), (1, .int v1), (2, .int v2), (3, .int v3)]) hx hb dX9_source_92 hl (k := 1) rfl (by rw [ev_31]; rfl) (by decide) rfl (fun ls hl => ?_)
                refine lv_goto (tgt := 49) hx hb dX9_source_95 (by decide) ?_
                obtain rfl : v_31 = nI (k + 1) := ev_31.trans (nI_1 k)
                exact ih_49 (k + 1, ls) (by first | (dsimp only; omega) | omega) ⟨(by omega), lv_sub hl [0, 1, 2, 3, 4, 5, 6] rfl⟩
              · have hst : m_tk (dz_b (ns = 5)) f12 f13 v1 v2 (k + 1) = 1 := (if_neg (fun z => z c_60)).trans (if_pos ⟨c_71, c_82⟩)
                refine lv_iconst (v := 1) hx hb dX9_source_85 (by decide) ?_
                refine lv_goto (tgt := 90) hx hb dX9_source_86 (by decide) ?_
                refine lv_topi (fun v_32 ev_32 => ?_)
                obtain rfl : v_32 = m_tk (dz_b (ns = 5)) f12 f13 v1 v2 (k + 1) := ev_32.trans hst.symm
                refine lv_istore (lv' := [(5, .int (m_tk (dz_b (ns = 5)) f12 f13 v1 v2 (k + 1))), (6, .int (nI k)), (4, .int 0), (0, .ref aM), (1, .int v1), (2, .int v2), (3, .int v3)]) hx hb dX9_source_90 hl (by decide) rfl (fun ls hl => ?_)
                obtain ⟨v_33, ev_33⟩ : ∃ y : Int32, y = (nI k) + 1 := ⟨_, rfl⟩
                refine lv_iinc (v := v_33) (lv' := [(6, .int v_33), (5, .int (m_tk (dz_b (ns = 5)) f12 f13 v1 v2 (k + 1))), (4, .int 0), (0, .ref aM), (1, .int v1), (2, .int v2), (3, .int v3)]) hx hb dX9_source_92 hl (k := 1) rfl (by rw [ev_33]; rfl) (by decide) rfl (fun ls hl => ?_)
                refine lv_goto (tgt := 49) hx hb dX9_source_95 (by decide) ?_
                obtain rfl : v_33 = nI (k + 1) := ev_33.trans (nI_1 k)
                exact ih_49 (k + 1, ls) (by first | (dsimp only; omega) | omega) ⟨(by omega), lv_sub hl [0, 1, 2, 3, 4, 5, 6] rfl⟩
      · refine lv_iconst (v := 1) hx hb dX9_source_39 (by decide) ?_
        refine lv_goto (tgt := 44) hx hb dX9_source_40 (by decide) ?_
        refine lv_topi (fun v_34 ev_34 => ?_)
        obtain rfl : v_34 = dz_b (ns = 5) := ev_34.trans (by first | exact (dz_b1 ((nI_e (b := 5) (by omega) (by omega)).mp c_36)).symm | exact (dz_b0 (fun z => c_36 (by rw [z]; rfl))).symm)
        refine lv_istore (lv' := [(5, .int (dz_b (ns = 5))), (4, .int 0), (0, .ref aM), (1, .int v1), (2, .int v2), (3, .int v3)]) hx hb dX9_source_44 hl (by decide) rfl (fun ls hl => ?_)
        refine lv_iconst (v := 0) hx hb dX9_source_46 (by decide) ?_
        refine lv_istore (lv' := [(6, .int 0), (5, .int (dz_b (ns = 5))), (4, .int 0), (0, .ref aM), (1, .int v1), (2, .int v2), (3, .int v3)]) hx hb dX9_source_47 hl (by decide) rfl (fun ls hl => ?_)
        refine dz_lp (α := Nat × Array Slot) (fun a9 => (fun (k : Nat) (ls : Array Slot) => ns - k) a9.1 a9.2) (fun a9 => (fun (k : Nat) (ls : Array Slot) => (k ≤ ns) ∧ lv_has ls 8 [(6, .int (nI k)), (5, .int (m_tk (dz_b (ns = 5)) f12 f13 v1 v2 k)), (4, .int 0), (0, .ref aM), (1, .int v1), (2, .int v2), (3, .int v3)]) a9.1 a9.2) (fun a9 => F0 m 49 a9.2 []) (fun a9 hI ih_49 => ?_) (0, ls) ⟨(Nat.zero_le _), lv_sub hl [0, 1, 2, 3, 4, 5, 6] rfl⟩
        obtain ⟨k, ls⟩ := a9
        obtain ⟨hk, hl⟩ := hI
        have hk : k ≤ ns := hk
        have hl : lv_has ls 8 [(6, .int (nI k)), (5, .int (m_tk (dz_b (ns = 5)) f12 f13 v1 v2 k)), (4, .int 0), (0, .ref aM), (1, .int v1), (2, .int v2), (3, .int v3)] := hl
        refine lv_iload hx hb dX9_source_49 (lv_at hl 0 rfl) ?_
        refine lv_aload_n hx hb dX9_source_51 rfl (lv_at hl 3 rfl) ?_
        refine dz_get hx hb hts (fun _ h => List.mem_cons_of_mem _ (List.mem_append_right _ h)) hown hE hG ha ho rfl 11 (by decide) (hts _ (List.mem_of_getElem? (i := 1) rfl)) (fun _ h9 => h9) rfl dX9_source_52 ?_
        refine lv_icmp_ge (tgt := 98) hx hb dX9_source_55 (by decide) (fun c_55 => ?_) (fun c_55 => ?_)
        · have hk9 : k = ns := by have := (nI_leI (by omega) (by omega)).mp c_55; omega
          refine lv_aload_n hx hb dX9_source_98 rfl (lv_at hl 3 rfl) ?_
          refine lv_iload hx hb dX9_source_99 (lv_at hl 2 rfl) ?_
          refine lv_if_ne (tgt := 108) hx hb dX9_source_101 (by decide) (fun c_101 => absurd (by decide) c_101) (fun c_101 => ?_)
          refine lv_iconst (v := 1) hx hb dX9_source_104 (by decide) ?_
          refine lv_goto (tgt := 118) hx hb dX9_source_105 (by decide) ?_
          refine dz_kMi (va_runV (As := [_]) ⟨hx, hb, hml, hown, hts⟩ (c_X9_refused l Z _ _ _ _ _ _ _ _ _ _ _ _ _ _ _ _ _ _ _ ha ho) (cwV 1 hts gX9_source_X9_refused rfl rfl rfl (by decide +kernel) ⟨Nat.le_of_ble_eq_true rfl, Nat.le_of_ble_eq_true rfl⟩) (dz_P.preV hE hS hG ho rfl ha) rfl rfl hl.1 rfl (lv_room (Nat.le_of_ble_eq_true rfl)) dX9_source_118 ⟨Nat.le_of_ble_eq_true rfl, Nat.le_of_ble_eq_true rfl⟩) hS (fun x_118_4 G_118_4 ad_118_4 H locs hp_118_4 hG hS => ?_)
          obtain ⟨fr_118_4, rfl, x9_118_4, g_118_4⟩ := hp_118_4
          obtain rfl : x_118_4 = 1 := x9_118_4.trans (by decide)
          refine lv_if_eq (tgt := 126) hx hb dX9_source_121 (by decide) (fun c_121 => absurd c_121 (by decide)) (fun c_121 => ?_)
          refine lv_iconst (v := 0) hx hb dX9_source_124 (by decide) ?_
          refine W.widen (k := 0) (n := 0) (by first | omega | decide) (by first | omega | decide) ?_
          refine W.iret hx hb hrt (fun t ht hW => dz_endM (f := rv_i) _ hE hS hG ?_ ht hW) (fun q h => hS.2.2 q h) dX9_source_125
          refine ⟨fun r9 n_0 => (fr_118_4 r9 n_0), rfl, ?_⟩
          exact ⟨rfl, g_118_4⟩
        · have hltk : k < ns := by
            rcases Nat.lt_or_ge k (ns) with q | q
            · exact q
            · exact absurd ((nI_leI (by omega) (by omega)).mpr q) c_55
          refine lv_iload hx hb dX9_source_58 (lv_at hl 1 rfl) ?_
          refine lv_if_ne (tgt := 85) hx hb dX9_source_60 (by decide) (fun c_60 => ?_) (fun c_60 => ?_)
          · have hst : m_tk (dz_b (ns = 5)) f12 f13 v1 v2 (k + 1) = 1 := if_pos c_60
            refine lv_iconst (v := 1) hx hb dX9_source_85 (by decide) ?_
            refine lv_goto (tgt := 90) hx hb dX9_source_86 (by decide) ?_
            refine lv_topi (fun v_35 ev_35 => ?_)
            obtain rfl : v_35 = m_tk (dz_b (ns = 5)) f12 f13 v1 v2 (k + 1) := ev_35.trans hst.symm
            refine lv_istore (lv' := [(5, .int (m_tk (dz_b (ns = 5)) f12 f13 v1 v2 (k + 1))), (6, .int (nI k)), (4, .int 0), (0, .ref aM), (1, .int v1), (2, .int v2), (3, .int v3)]) hx hb dX9_source_90 hl (by decide) rfl (fun ls hl => ?_)
            obtain ⟨v_36, ev_36⟩ : ∃ y : Int32, y = (nI k) + 1 := ⟨_, rfl⟩
            refine lv_iinc (v := v_36) (lv' := [(6, .int v_36), (5, .int (m_tk (dz_b (ns = 5)) f12 f13 v1 v2 (k + 1))), (4, .int 0), (0, .ref aM), (1, .int v1), (2, .int v2), (3, .int v3)]) hx hb dX9_source_92 hl (k := 1) rfl (by rw [ev_36]; rfl) (by decide) rfl (fun ls hl => ?_)
            refine lv_goto (tgt := 49) hx hb dX9_source_95 (by decide) ?_
            obtain rfl : v_36 = nI (k + 1) := ev_36.trans (nI_1 k)
            exact ih_49 (k + 1, ls) (by first | (dsimp only; omega) | omega) ⟨(by omega), lv_sub hl [0, 1, 2, 3, 4, 5, 6] rfl⟩
          · refine lv_aload_n hx hb dX9_source_63 rfl (lv_at hl 3 rfl) ?_
            refine dz_get hx hb hts (fun _ h => List.mem_cons_of_mem _ (List.mem_append_right _ h)) hown hE hG ha ho rfl 12 (by decide) (hts _ (List.mem_of_getElem? (i := 2) rfl)) (fun _ h9 => h9) rfl dX9_source_64 ?_
            refine lv_iload hx hb dX9_source_67 (lv_at hl 0 rfl) ?_
            refine dz_iald hx hb hE hG rfl h12 (vp_in_nI (by omega) (by decide)) dX9_source_69 ?_
            refine lv_topi (fun v_37 ev_37 => ?_)
            obtain rfl : v_37 = f12 k := ev_37.trans (by rw [nI_clamp (by omega)])
            refine lv_iload_n hx hb dX9_source_70 rfl (lv_at hl 4 rfl) ?_
            refine lv_icmp_ne (tgt := 89) hx hb dX9_source_71 (by decide) (fun c_71 => ?_) (fun c_71 => ?_)
            · have hst : m_tk (dz_b (ns = 5)) f12 f13 v1 v2 (k + 1) = 0 := (if_neg (fun z => z c_60)).trans (if_neg (fun z => c_71 z.1))
              refine lv_iconst (v := 0) hx hb dX9_source_89 (by decide) ?_
              refine lv_topi (fun v_38 ev_38 => ?_)
              obtain rfl : v_38 = m_tk (dz_b (ns = 5)) f12 f13 v1 v2 (k + 1) := ev_38.trans hst.symm
              refine lv_istore (lv' := [(5, .int (m_tk (dz_b (ns = 5)) f12 f13 v1 v2 (k + 1))), (6, .int (nI k)), (4, .int 0), (0, .ref aM), (1, .int v1), (2, .int v2), (3, .int v3)]) hx hb dX9_source_90 hl (by decide) rfl (fun ls hl => ?_)
              obtain ⟨v_39, ev_39⟩ : ∃ y : Int32, y = (nI k) + 1 := ⟨_, rfl⟩
              refine lv_iinc (v := v_39) (lv' := [(6, .int v_39), (5, .int (m_tk (dz_b (ns = 5)) f12 f13 v1 v2 (k + 1))), (4, .int 0), (0, .ref aM), (1, .int v1), (2, .int v2), (3, .int v3)]) hx hb dX9_source_92 hl (k := 1) rfl (by rw [ev_39]; rfl) (by decide) rfl (fun ls hl => ?_)
              refine lv_goto (tgt := 49) hx hb dX9_source_95 (by decide) ?_
              obtain rfl : v_39 = nI (k + 1) := ev_39.trans (nI_1 k)
              exact ih_49 (k + 1, ls) (by first | (dsimp only; omega) | omega) ⟨(by omega), lv_sub hl [0, 1, 2, 3, 4, 5, 6] rfl⟩
            · refine lv_aload_n hx hb dX9_source_74 rfl (lv_at hl 3 rfl) ?_
              refine dz_get hx hb hts (fun _ h => List.mem_cons_of_mem _ (List.mem_append_right _ h)) hown hE hG ha ho rfl 13 (by decide) (hts _ (List.mem_of_getElem? (i := 3) rfl)) (fun _ h9 => h9) rfl dX9_source_75 ?_
              refine lv_iload hx hb dX9_source_78 (lv_at hl 0 rfl) ?_
              refine dz_iald hx hb hE hG rfl h13 (vp_in_nI (by omega) (by decide)) dX9_source_80 ?_
              refine lv_topi (fun v_40 ev_40 => ?_)
              obtain rfl : v_40 = f13 k := ev_40.trans (by rw [nI_clamp (by omega)])
              refine lv_iload_n hx hb dX9_source_81 rfl (lv_at hl 5 rfl) ?_
              refine lv_icmp_ne (tgt := 89) hx hb dX9_source_82 (by decide) (fun c_82 => ?_) (fun c_82 => ?_)
              · have hst : m_tk (dz_b (ns = 5)) f12 f13 v1 v2 (k + 1) = 0 := (if_neg (fun z => z c_60)).trans (if_neg (fun z => c_82 z.2))
                refine lv_iconst (v := 0) hx hb dX9_source_89 (by decide) ?_
                refine lv_topi (fun v_41 ev_41 => ?_)
                obtain rfl : v_41 = m_tk (dz_b (ns = 5)) f12 f13 v1 v2 (k + 1) := ev_41.trans hst.symm
                refine lv_istore (lv' := [(5, .int (m_tk (dz_b (ns = 5)) f12 f13 v1 v2 (k + 1))), (6, .int (nI k)), (4, .int 0), (0, .ref aM), (1, .int v1), (2, .int v2), (3, .int v3)]) hx hb dX9_source_90 hl (by decide) rfl (fun ls hl => ?_)
                obtain ⟨v_42, ev_42⟩ : ∃ y : Int32, y = (nI k) + 1 := ⟨_, rfl⟩
                refine lv_iinc (v := v_42) (lv' := [(6, .int v_42), (5, .int (m_tk (dz_b (ns = 5)) f12 f13 v1 v2 (k + 1))), (4, .int 0), (0, .ref aM), (1, .int v1), (2, .int v2), (3, .int v3)]) hx hb dX9_source_92 hl (k := 1) rfl (by rw [ev_42]; rfl) (by decide) rfl (fun ls hl => ?_)
                refine lv_goto (tgt := 49) hx hb dX9_source_95 (by decide) ?_
                obtain rfl : v_42 = nI (k + 1) := ev_42.trans (nI_1 k)
                exact ih_49 (k + 1, ls) (by first | (dsimp only; omega) | omega) ⟨(by omega), lv_sub hl [0, 1, 2, 3, 4, 5, 6] rfl⟩
              · have hst : m_tk (dz_b (ns = 5)) f12 f13 v1 v2 (k + 1) = 1 := (if_neg (fun z => z c_60)).trans (if_pos ⟨c_71, c_82⟩)
                refine lv_iconst (v := 1) hx hb dX9_source_85 (by decide) ?_
                refine lv_goto (tgt := 90) hx hb dX9_source_86 (by decide) ?_
                refine lv_topi (fun v_43 ev_43 => ?_)
                obtain rfl : v_43 = m_tk (dz_b (ns = 5)) f12 f13 v1 v2 (k + 1) := ev_43.trans hst.symm
                refine lv_istore (lv' := [(5, .int (m_tk (dz_b (ns = 5)) f12 f13 v1 v2 (k + 1))), (6, .int (nI k)), (4, .int 0), (0, .ref aM), (1, .int v1), (2, .int v2), (3, .int v3)]) hx hb dX9_source_90 hl (by decide) rfl (fun ls hl => ?_)
                obtain ⟨v_44, ev_44⟩ : ∃ y : Int32, y = (nI k) + 1 := ⟨_, rfl⟩
                refine lv_iinc (v := v_44) (lv' := [(6, .int v_44), (5, .int (m_tk (dz_b (ns = 5)) f12 f13 v1 v2 (k + 1))), (4, .int 0), (0, .ref aM), (1, .int v1), (2, .int v2), (3, .int v3)]) hx hb dX9_source_92 hl (k := 1) rfl (by rw [ev_44]; rfl) (by decide) rfl (fun ls hl => ?_)
                refine lv_goto (tgt := 49) hx hb dX9_source_95 (by decide) ?_
                obtain rfl : v_44 = nI (k + 1) := ev_44.trans (nI_1 k)
                exact ih_49 (k + 1, ls) (by first | (dsimp only; omega) | omega) ⟨(by omega), lv_sub hl [0, 1, 2, 3, 4, 5, 6] rfl⟩
    · refine lv_iload_n hx hb dX9_source_14 rfl (lv_at hl 3 rfl) ?_
      refine lv_iconst (v := 1) hx hb dX9_source_15 (by decide) ?_
      refine lv_bipush (v := 100) hx hb dX9_source_16 (by decide) ?_
      refine dz_kRi (va_runS (As := [_, _, _]) ⟨hx, hb, hml, hown, hts⟩ (c_X9_in l Z _ _ _ _ _ ) (va_cwS 3 hts gX9_source_X9_in rfl rfl rfl (by decide +kernel) ⟨Nat.le_of_ble_eq_true rfl, Nat.le_of_ble_eq_true rfl⟩) (dz_P.pre hE hS hG) rfl rfl hl.1 rfl (lv_room (Nat.le_of_ble_eq_true rfl)) dX9_source_18 ⟨Nat.le_of_ble_eq_true rfl, Nat.le_of_ble_eq_true rfl⟩) ?_
      refine lv_if_eq (tgt := 28) hx hb dX9_source_21 (by decide) (fun c_21 => ?_) (fun c_21 => ?_)
      · refine lv_iconst (v := 0) hx hb dX9_source_28 (by decide) ?_
        refine lv_istore (lv' := [(4, .int 0), (0, .ref aM), (1, .int v1), (2, .int v2), (3, .int v3)]) hx hb dX9_source_29 hl (by decide) rfl (fun ls hl => ?_)
        refine lv_aload_n hx hb dX9_source_31 rfl (lv_at hl 1 rfl) ?_
        refine dz_get hx hb hts (fun _ h => List.mem_cons_of_mem _ (List.mem_append_right _ h)) hown hE hG ha ho rfl 11 (by decide) (hts _ (List.mem_of_getElem? (i := 1) rfl)) (fun _ h9 => h9) rfl dX9_source_32 ?_
        refine lv_iconst (v := 5) hx hb dX9_source_35 (by decide) ?_
        refine lv_icmp_ne (tgt := 43) hx hb dX9_source_36 (by decide) (fun c_36 => ?_) (fun c_36 => ?_)
        · refine lv_iconst (v := 0) hx hb dX9_source_43 (by decide) ?_
          refine lv_topi (fun v_45 ev_45 => ?_)
          obtain rfl : v_45 = dz_b (ns = 5) := ev_45.trans (by first | exact (dz_b1 ((nI_e (b := 5) (by omega) (by omega)).mp c_36)).symm | exact (dz_b0 (fun z => c_36 (by rw [z]; rfl))).symm)
          refine lv_istore (lv' := [(5, .int (dz_b (ns = 5))), (4, .int 0), (0, .ref aM), (1, .int v1), (2, .int v2), (3, .int v3)]) hx hb dX9_source_44 hl (by decide) rfl (fun ls hl => ?_)
          refine lv_iconst (v := 0) hx hb dX9_source_46 (by decide) ?_
          refine lv_istore (lv' := [(6, .int 0), (5, .int (dz_b (ns = 5))), (4, .int 0), (0, .ref aM), (1, .int v1), (2, .int v2), (3, .int v3)]) hx hb dX9_source_47 hl (by decide) rfl (fun ls hl => ?_)
          refine dz_lp (α := Nat × Array Slot) (fun a9 => (fun (k : Nat) (ls : Array Slot) => ns - k) a9.1 a9.2) (fun a9 => (fun (k : Nat) (ls : Array Slot) => (k ≤ ns) ∧ lv_has ls 8 [(6, .int (nI k)), (5, .int (m_tk (dz_b (ns = 5)) f12 f13 v1 v2 k)), (4, .int 0), (0, .ref aM), (1, .int v1), (2, .int v2), (3, .int v3)]) a9.1 a9.2) (fun a9 => F0 m 49 a9.2 []) (fun a9 hI ih_49 => ?_) (0, ls) ⟨(Nat.zero_le _), lv_sub hl [0, 1, 2, 3, 4, 5, 6] rfl⟩
          obtain ⟨k, ls⟩ := a9
          obtain ⟨hk, hl⟩ := hI
          have hk : k ≤ ns := hk
          have hl : lv_has ls 8 [(6, .int (nI k)), (5, .int (m_tk (dz_b (ns = 5)) f12 f13 v1 v2 k)), (4, .int 0), (0, .ref aM), (1, .int v1), (2, .int v2), (3, .int v3)] := hl
          refine lv_iload hx hb dX9_source_49 (lv_at hl 0 rfl) ?_
          refine lv_aload_n hx hb dX9_source_51 rfl (lv_at hl 3 rfl) ?_
          refine dz_get hx hb hts (fun _ h => List.mem_cons_of_mem _ (List.mem_append_right _ h)) hown hE hG ha ho rfl 11 (by decide) (hts _ (List.mem_of_getElem? (i := 1) rfl)) (fun _ h9 => h9) rfl dX9_source_52 ?_
          refine lv_icmp_ge (tgt := 98) hx hb dX9_source_55 (by decide) (fun c_55 => ?_) (fun c_55 => ?_)
          · have hk9 : k = ns := by have := (nI_leI (by omega) (by omega)).mp c_55; omega
            refine lv_aload_n hx hb dX9_source_98 rfl (lv_at hl 3 rfl) ?_
            refine lv_iload hx hb dX9_source_99 (lv_at hl 2 rfl) ?_
            refine lv_if_ne (tgt := 108) hx hb dX9_source_101 (by decide) (fun c_101 => absurd (by decide) c_101) (fun c_101 => ?_)
            refine lv_iconst (v := 1) hx hb dX9_source_104 (by decide) ?_
            refine lv_goto (tgt := 118) hx hb dX9_source_105 (by decide) ?_
            refine dz_kMi (va_runV (As := [_]) ⟨hx, hb, hml, hown, hts⟩ (c_X9_refused l Z _ _ _ _ _ _ _ _ _ _ _ _ _ _ _ _ _ _ _ ha ho) (cwV 1 hts gX9_source_X9_refused rfl rfl rfl (by decide +kernel) ⟨Nat.le_of_ble_eq_true rfl, Nat.le_of_ble_eq_true rfl⟩) (dz_P.preV hE hS hG ho rfl ha) rfl rfl hl.1 rfl (lv_room (Nat.le_of_ble_eq_true rfl)) dX9_source_118 ⟨Nat.le_of_ble_eq_true rfl, Nat.le_of_ble_eq_true rfl⟩) hS (fun x_118_5 G_118_5 ad_118_5 H locs hp_118_5 hG hS => ?_)
            obtain ⟨fr_118_5, rfl, x9_118_5, g_118_5⟩ := hp_118_5
            obtain rfl : x_118_5 = 1 := x9_118_5.trans (by decide)
            refine lv_if_eq (tgt := 126) hx hb dX9_source_121 (by decide) (fun c_121 => absurd c_121 (by decide)) (fun c_121 => ?_)
            refine lv_iconst (v := 0) hx hb dX9_source_124 (by decide) ?_
            refine W.widen (k := 0) (n := 0) (by first | omega | decide) (by first | omega | decide) ?_
            refine W.iret hx hb hrt (fun t ht hW => dz_endM (f := rv_i) _ hE hS hG ?_ ht hW) (fun q h => hS.2.2 q h) dX9_source_125
            refine ⟨fun r9 n_0 => (fr_118_5 r9 n_0), rfl, ?_⟩
            exact ⟨rfl, g_118_5⟩
          · have hltk : k < ns := by
              rcases Nat.lt_or_ge k (ns) with q | q
              · exact q
              · exact absurd ((nI_leI (by omega) (by omega)).mpr q) c_55
            refine lv_iload hx hb dX9_source_58 (lv_at hl 1 rfl) ?_
            refine lv_if_ne (tgt := 85) hx hb dX9_source_60 (by decide) (fun c_60 => ?_) (fun c_60 => ?_)
            · have hst : m_tk (dz_b (ns = 5)) f12 f13 v1 v2 (k + 1) = 1 := if_pos c_60
              refine lv_iconst (v := 1) hx hb dX9_source_85 (by decide) ?_
              refine lv_goto (tgt := 90) hx hb dX9_source_86 (by decide) ?_
              refine lv_topi (fun v_46 ev_46 => ?_)
              obtain rfl : v_46 = m_tk (dz_b (ns = 5)) f12 f13 v1 v2 (k + 1) := ev_46.trans hst.symm
              refine lv_istore (lv' := [(5, .int (m_tk (dz_b (ns = 5)) f12 f13 v1 v2 (k + 1))), (6, .int (nI k)), (4, .int 0), (0, .ref aM), (1, .int v1), (2, .int v2), (3, .int v3)]) hx hb dX9_source_90 hl (by decide) rfl (fun ls hl => ?_)
              obtain ⟨v_47, ev_47⟩ : ∃ y : Int32, y = (nI k) + 1 := ⟨_, rfl⟩
              refine lv_iinc (v := v_47) (lv' := [(6, .int v_47), (5, .int (m_tk (dz_b (ns = 5)) f12 f13 v1 v2 (k + 1))), (4, .int 0), (0, .ref aM), (1, .int v1), (2, .int v2), (3, .int v3)]) hx hb dX9_source_92 hl (k := 1) rfl (by rw [ev_47]; rfl) (by decide) rfl (fun ls hl => ?_)
              refine lv_goto (tgt := 49) hx hb dX9_source_95 (by decide) ?_
              obtain rfl : v_47 = nI (k + 1) := ev_47.trans (nI_1 k)
              exact ih_49 (k + 1, ls) (by first | (dsimp only; omega) | omega) ⟨(by omega), lv_sub hl [0, 1, 2, 3, 4, 5, 6] rfl⟩
            · refine lv_aload_n hx hb dX9_source_63 rfl (lv_at hl 3 rfl) ?_
              refine dz_get hx hb hts (fun _ h => List.mem_cons_of_mem _ (List.mem_append_right _ h)) hown hE hG ha ho rfl 12 (by decide) (hts _ (List.mem_of_getElem? (i := 2) rfl)) (fun _ h9 => h9) rfl dX9_source_64 ?_
              refine lv_iload hx hb dX9_source_67 (lv_at hl 0 rfl) ?_
              refine dz_iald hx hb hE hG rfl h12 (vp_in_nI (by omega) (by decide)) dX9_source_69 ?_
              refine lv_topi (fun v_48 ev_48 => ?_)
              obtain rfl : v_48 = f12 k := ev_48.trans (by rw [nI_clamp (by omega)])
              refine lv_iload_n hx hb dX9_source_70 rfl (lv_at hl 4 rfl) ?_
              refine lv_icmp_ne (tgt := 89) hx hb dX9_source_71 (by decide) (fun c_71 => ?_) (fun c_71 => ?_)
              · have hst : m_tk (dz_b (ns = 5)) f12 f13 v1 v2 (k + 1) = 0 := (if_neg (fun z => z c_60)).trans (if_neg (fun z => c_71 z.1))
                refine lv_iconst (v := 0) hx hb dX9_source_89 (by decide) ?_
                refine lv_topi (fun v_49 ev_49 => ?_)
                obtain rfl : v_49 = m_tk (dz_b (ns = 5)) f12 f13 v1 v2 (k + 1) := ev_49.trans hst.symm
                refine lv_istore (lv' := [(5, .int (m_tk (dz_b (ns = 5)) f12 f13 v1 v2 (k + 1))), (6, .int (nI k)), (4, .int 0), (0, .ref aM), (1, .int v1), (2, .int v2), (3, .int v3)]) hx hb dX9_source_90 hl (by decide) rfl (fun ls hl => ?_)
                obtain ⟨v_50, ev_50⟩ : ∃ y : Int32, y = (nI k) + 1 := ⟨_, rfl⟩
                refine lv_iinc (v := v_50) (lv' := [(6, .int v_50), (5, .int (m_tk (dz_b (ns = 5)) f12 f13 v1 v2 (k + 1))), (4, .int 0), (0, .ref aM), (1, .int v1), (2, .int v2), (3, .int v3)]) hx hb dX9_source_92 hl (k := 1) rfl (by rw [ev_50]; rfl) (by decide) rfl (fun ls hl => ?_)
                refine lv_goto (tgt := 49) hx hb dX9_source_95 (by decide) ?_
                obtain rfl : v_50 = nI (k + 1) := ev_50.trans (nI_1 k)
                exact ih_49 (k + 1, ls) (by first | (dsimp only; omega) | omega) ⟨(by omega), lv_sub hl [0, 1, 2, 3, 4, 5, 6] rfl⟩
              · refine lv_aload_n hx hb dX9_source_74 rfl (lv_at hl 3 rfl) ?_
                refine dz_get hx hb hts (fun _ h => List.mem_cons_of_mem _ (List.mem_append_right _ h)) hown hE hG ha ho rfl 13 (by decide) (hts _ (List.mem_of_getElem? (i := 3) rfl)) (fun _ h9 => h9) rfl dX9_source_75 ?_
                refine lv_iload hx hb dX9_source_78 (lv_at hl 0 rfl) ?_
                refine dz_iald hx hb hE hG rfl h13 (vp_in_nI (by omega) (by decide)) dX9_source_80 ?_
                refine lv_topi (fun v_51 ev_51 => ?_)
                obtain rfl : v_51 = f13 k := ev_51.trans (by rw [nI_clamp (by omega)])
                refine lv_iload_n hx hb dX9_source_81 rfl (lv_at hl 5 rfl) ?_
                refine lv_icmp_ne (tgt := 89) hx hb dX9_source_82 (by decide) (fun c_82 => ?_) (fun c_82 => ?_)
                · have hst : m_tk (dz_b (ns = 5)) f12 f13 v1 v2 (k + 1) = 0 := (if_neg (fun z => z c_60)).trans (if_neg (fun z => c_82 z.2))
                  refine lv_iconst (v := 0) hx hb dX9_source_89 (by decide) ?_
                  refine lv_topi (fun v_52 ev_52 => ?_)
                  obtain rfl : v_52 = m_tk (dz_b (ns = 5)) f12 f13 v1 v2 (k + 1) := ev_52.trans hst.symm
                  refine lv_istore (lv' := [(5, .int (m_tk (dz_b (ns = 5)) f12 f13 v1 v2 (k + 1))), (6, .int (nI k)), (4, .int 0), (0, .ref aM), (1, .int v1), (2, .int v2), (3, .int v3)]) hx hb dX9_source_90 hl (by decide) rfl (fun ls hl => ?_)
                  obtain ⟨v_53, ev_53⟩ : ∃ y : Int32, y = (nI k) + 1 := ⟨_, rfl⟩
                  refine lv_iinc (v := v_53) (lv' := [(6, .int v_53), (5, .int (m_tk (dz_b (ns = 5)) f12 f13 v1 v2 (k + 1))), (4, .int 0), (0, .ref aM), (1, .int v1), (2, .int v2), (3, .int v3)]) hx hb dX9_source_92 hl (k := 1) rfl (by rw [ev_53]; rfl) (by decide) rfl (fun ls hl => ?_)
                  refine lv_goto (tgt := 49) hx hb dX9_source_95 (by decide) ?_
                  obtain rfl : v_53 = nI (k + 1) := ev_53.trans (nI_1 k)
                  exact ih_49 (k + 1, ls) (by first | (dsimp only; omega) | omega) ⟨(by omega), lv_sub hl [0, 1, 2, 3, 4, 5, 6] rfl⟩
                · have hst : m_tk (dz_b (ns = 5)) f12 f13 v1 v2 (k + 1) = 1 := (if_neg (fun z => z c_60)).trans (if_pos ⟨c_71, c_82⟩)
                  refine lv_iconst (v := 1) hx hb dX9_source_85 (by decide) ?_
                  refine lv_goto (tgt := 90) hx hb dX9_source_86 (by decide) ?_
                  refine lv_topi (fun v_54 ev_54 => ?_)
                  obtain rfl : v_54 = m_tk (dz_b (ns = 5)) f12 f13 v1 v2 (k + 1) := ev_54.trans hst.symm
                  refine lv_istore (lv' := [(5, .int (m_tk (dz_b (ns = 5)) f12 f13 v1 v2 (k + 1))), (6, .int (nI k)), (4, .int 0), (0, .ref aM), (1, .int v1), (2, .int v2), (3, .int v3)]) hx hb dX9_source_90 hl (by decide) rfl (fun ls hl => ?_)
                  obtain ⟨v_55, ev_55⟩ : ∃ y : Int32, y = (nI k) + 1 := ⟨_, rfl⟩
                  refine lv_iinc (v := v_55) (lv' := [(6, .int v_55), (5, .int (m_tk (dz_b (ns = 5)) f12 f13 v1 v2 (k + 1))), (4, .int 0), (0, .ref aM), (1, .int v1), (2, .int v2), (3, .int v3)]) hx hb dX9_source_92 hl (k := 1) rfl (by rw [ev_55]; rfl) (by decide) rfl (fun ls hl => ?_)
                  refine lv_goto (tgt := 49) hx hb dX9_source_95 (by decide) ?_
                  obtain rfl : v_55 = nI (k + 1) := ev_55.trans (nI_1 k)
                  exact ih_49 (k + 1, ls) (by first | (dsimp only; omega) | omega) ⟨(by omega), lv_sub hl [0, 1, 2, 3, 4, 5, 6] rfl⟩
        · refine lv_iconst (v := 1) hx hb dX9_source_39 (by decide) ?_
          refine lv_goto (tgt := 44) hx hb dX9_source_40 (by decide) ?_
          refine lv_topi (fun v_56 ev_56 => ?_)
          obtain rfl : v_56 = dz_b (ns = 5) := ev_56.trans (by first | exact (dz_b1 ((nI_e (b := 5) (by omega) (by omega)).mp c_36)).symm | exact (dz_b0 (fun z => c_36 (by rw [z]; rfl))).symm)
          refine lv_istore (lv' := [(5, .int (dz_b (ns = 5))), (4, .int 0), (0, .ref aM), (1, .int v1), (2, .int v2), (3, .int v3)]) hx hb dX9_source_44 hl (by decide) rfl (fun ls hl => ?_)
          refine lv_iconst (v := 0) hx hb dX9_source_46 (by decide) ?_
          refine lv_istore (lv' := [(6, .int 0), (5, .int (dz_b (ns = 5))), (4, .int 0), (0, .ref aM), (1, .int v1), (2, .int v2), (3, .int v3)]) hx hb dX9_source_47 hl (by decide) rfl (fun ls hl => ?_)
          refine dz_lp (α := Nat × Array Slot) (fun a9 => (fun (k : Nat) (ls : Array Slot) => ns - k) a9.1 a9.2) (fun a9 => (fun (k : Nat) (ls : Array Slot) => (k ≤ ns) ∧ lv_has ls 8 [(6, .int (nI k)), (5, .int (m_tk (dz_b (ns = 5)) f12 f13 v1 v2 k)), (4, .int 0), (0, .ref aM), (1, .int v1), (2, .int v2), (3, .int v3)]) a9.1 a9.2) (fun a9 => F0 m 49 a9.2 []) (fun a9 hI ih_49 => ?_) (0, ls) ⟨(Nat.zero_le _), lv_sub hl [0, 1, 2, 3, 4, 5, 6] rfl⟩
          obtain ⟨k, ls⟩ := a9
          obtain ⟨hk, hl⟩ := hI
          have hk : k ≤ ns := hk
          have hl : lv_has ls 8 [(6, .int (nI k)), (5, .int (m_tk (dz_b (ns = 5)) f12 f13 v1 v2 k)), (4, .int 0), (0, .ref aM), (1, .int v1), (2, .int v2), (3, .int v3)] := hl
          refine lv_iload hx hb dX9_source_49 (lv_at hl 0 rfl) ?_
          refine lv_aload_n hx hb dX9_source_51 rfl (lv_at hl 3 rfl) ?_
          refine dz_get hx hb hts (fun _ h => List.mem_cons_of_mem _ (List.mem_append_right _ h)) hown hE hG ha ho rfl 11 (by decide) (hts _ (List.mem_of_getElem? (i := 1) rfl)) (fun _ h9 => h9) rfl dX9_source_52 ?_
          refine lv_icmp_ge (tgt := 98) hx hb dX9_source_55 (by decide) (fun c_55 => ?_) (fun c_55 => ?_)
          · have hk9 : k = ns := by have := (nI_leI (by omega) (by omega)).mp c_55; omega
            refine lv_aload_n hx hb dX9_source_98 rfl (lv_at hl 3 rfl) ?_
            refine lv_iload hx hb dX9_source_99 (lv_at hl 2 rfl) ?_
            refine lv_if_ne (tgt := 108) hx hb dX9_source_101 (by decide) (fun c_101 => absurd (by decide) c_101) (fun c_101 => ?_)
            refine lv_iconst (v := 1) hx hb dX9_source_104 (by decide) ?_
            refine lv_goto (tgt := 118) hx hb dX9_source_105 (by decide) ?_
            refine dz_kMi (va_runV (As := [_]) ⟨hx, hb, hml, hown, hts⟩ (c_X9_refused l Z _ _ _ _ _ _ _ _ _ _ _ _ _ _ _ _ _ _ _ ha ho) (cwV 1 hts gX9_source_X9_refused rfl rfl rfl (by decide +kernel) ⟨Nat.le_of_ble_eq_true rfl, Nat.le_of_ble_eq_true rfl⟩) (dz_P.preV hE hS hG ho rfl ha) rfl rfl hl.1 rfl (lv_room (Nat.le_of_ble_eq_true rfl)) dX9_source_118 ⟨Nat.le_of_ble_eq_true rfl, Nat.le_of_ble_eq_true rfl⟩) hS (fun x_118_6 G_118_6 ad_118_6 H locs hp_118_6 hG hS => ?_)
            obtain ⟨fr_118_6, rfl, x9_118_6, g_118_6⟩ := hp_118_6
            obtain rfl : x_118_6 = 1 := x9_118_6.trans (by decide)
            refine lv_if_eq (tgt := 126) hx hb dX9_source_121 (by decide) (fun c_121 => absurd c_121 (by decide)) (fun c_121 => ?_)
            refine lv_iconst (v := 0) hx hb dX9_source_124 (by decide) ?_
            refine W.widen (k := 0) (n := 0) (by first | omega | decide) (by first | omega | decide) ?_
            refine W.iret hx hb hrt (fun t ht hW => dz_endM (f := rv_i) _ hE hS hG ?_ ht hW) (fun q h => hS.2.2 q h) dX9_source_125
            refine ⟨fun r9 n_0 => (fr_118_6 r9 n_0), rfl, ?_⟩
            exact ⟨rfl, g_118_6⟩
          · have hltk : k < ns := by
              rcases Nat.lt_or_ge k (ns) with q | q
              · exact q
              · exact absurd ((nI_leI (by omega) (by omega)).mpr q) c_55
            refine lv_iload hx hb dX9_source_58 (lv_at hl 1 rfl) ?_
            refine lv_if_ne (tgt := 85) hx hb dX9_source_60 (by decide) (fun c_60 => ?_) (fun c_60 => ?_)
            · have hst : m_tk (dz_b (ns = 5)) f12 f13 v1 v2 (k + 1) = 1 := if_pos c_60
              refine lv_iconst (v := 1) hx hb dX9_source_85 (by decide) ?_
              refine lv_goto (tgt := 90) hx hb dX9_source_86 (by decide) ?_
              refine lv_topi (fun v_57 ev_57 => ?_)
              obtain rfl : v_57 = m_tk (dz_b (ns = 5)) f12 f13 v1 v2 (k + 1) := ev_57.trans hst.symm
              refine lv_istore (lv' := [(5, .int (m_tk (dz_b (ns = 5)) f12 f13 v1 v2 (k + 1))), (6, .int (nI k)), (4, .int 0), (0, .ref aM), (1, .int v1), (2, .int v2), (3, .int v3)]) hx hb dX9_source_90 hl (by decide) rfl (fun ls hl => ?_)
              obtain ⟨v_58, ev_58⟩ : ∃ y : Int32, y = (nI k) + 1 := ⟨_, rfl⟩
              refine lv_iinc (v := v_58) (lv' := [(6, .int v_58), (5, .int (m_tk (dz_b (ns = 5)) f12 f13 v1 v2 (k + 1))), (4, .int 0), (0, .ref aM), (1, .int v1), (2, .int v2), (3, .int v3)]) hx hb dX9_source_92 hl (k := 1) rfl (by rw [ev_58]; rfl) (by decide) rfl (fun ls hl => ?_)
              refine lv_goto (tgt := 49) hx hb dX9_source_95 (by decide) ?_
              obtain rfl : v_58 = nI (k + 1) := ev_58.trans (nI_1 k)
              exact ih_49 (k + 1, ls) (by first | (dsimp only; omega) | omega) ⟨(by omega), lv_sub hl [0, 1, 2, 3, 4, 5, 6] rfl⟩
            · refine lv_aload_n hx hb dX9_source_63 rfl (lv_at hl 3 rfl) ?_
              refine dz_get hx hb hts (fun _ h => List.mem_cons_of_mem _ (List.mem_append_right _ h)) hown hE hG ha ho rfl 12 (by decide) (hts _ (List.mem_of_getElem? (i := 2) rfl)) (fun _ h9 => h9) rfl dX9_source_64 ?_
              refine lv_iload hx hb dX9_source_67 (lv_at hl 0 rfl) ?_
              refine dz_iald hx hb hE hG rfl h12 (vp_in_nI (by omega) (by decide)) dX9_source_69 ?_
              refine lv_topi (fun v_59 ev_59 => ?_)
              obtain rfl : v_59 = f12 k := ev_59.trans (by rw [nI_clamp (by omega)])
              refine lv_iload_n hx hb dX9_source_70 rfl (lv_at hl 4 rfl) ?_
              refine lv_icmp_ne (tgt := 89) hx hb dX9_source_71 (by decide) (fun c_71 => ?_) (fun c_71 => ?_)
              · have hst : m_tk (dz_b (ns = 5)) f12 f13 v1 v2 (k + 1) = 0 := (if_neg (fun z => z c_60)).trans (if_neg (fun z => c_71 z.1))
                refine lv_iconst (v := 0) hx hb dX9_source_89 (by decide) ?_
                refine lv_topi (fun v_60 ev_60 => ?_)
                obtain rfl : v_60 = m_tk (dz_b (ns = 5)) f12 f13 v1 v2 (k + 1) := ev_60.trans hst.symm
                refine lv_istore (lv' := [(5, .int (m_tk (dz_b (ns = 5)) f12 f13 v1 v2 (k + 1))), (6, .int (nI k)), (4, .int 0), (0, .ref aM), (1, .int v1), (2, .int v2), (3, .int v3)]) hx hb dX9_source_90 hl (by decide) rfl (fun ls hl => ?_)
                obtain ⟨v_61, ev_61⟩ : ∃ y : Int32, y = (nI k) + 1 := ⟨_, rfl⟩
                refine lv_iinc (v := v_61) (lv' := [(6, .int v_61), (5, .int (m_tk (dz_b (ns = 5)) f12 f13 v1 v2 (k + 1))), (4, .int 0), (0, .ref aM), (1, .int v1), (2, .int v2), (3, .int v3)]) hx hb dX9_source_92 hl (k := 1) rfl (by rw [ev_61]; rfl) (by decide) rfl (fun ls hl => ?_)
                refine lv_goto (tgt := 49) hx hb dX9_source_95 (by decide) ?_
                obtain rfl : v_61 = nI (k + 1) := ev_61.trans (nI_1 k)
                exact ih_49 (k + 1, ls) (by first | (dsimp only; omega) | omega) ⟨(by omega), lv_sub hl [0, 1, 2, 3, 4, 5, 6] rfl⟩
              · refine lv_aload_n hx hb dX9_source_74 rfl (lv_at hl 3 rfl) ?_
                refine dz_get hx hb hts (fun _ h => List.mem_cons_of_mem _ (List.mem_append_right _ h)) hown hE hG ha ho rfl 13 (by decide) (hts _ (List.mem_of_getElem? (i := 3) rfl)) (fun _ h9 => h9) rfl dX9_source_75 ?_
                refine lv_iload hx hb dX9_source_78 (lv_at hl 0 rfl) ?_
                refine dz_iald hx hb hE hG rfl h13 (vp_in_nI (by omega) (by decide)) dX9_source_80 ?_
                refine lv_topi (fun v_62 ev_62 => ?_)
                obtain rfl : v_62 = f13 k := ev_62.trans (by rw [nI_clamp (by omega)])
                refine lv_iload_n hx hb dX9_source_81 rfl (lv_at hl 5 rfl) ?_
                refine lv_icmp_ne (tgt := 89) hx hb dX9_source_82 (by decide) (fun c_82 => ?_) (fun c_82 => ?_)
                · have hst : m_tk (dz_b (ns = 5)) f12 f13 v1 v2 (k + 1) = 0 := (if_neg (fun z => z c_60)).trans (if_neg (fun z => c_82 z.2))
                  refine lv_iconst (v := 0) hx hb dX9_source_89 (by decide) ?_
                  refine lv_topi (fun v_63 ev_63 => ?_)
                  obtain rfl : v_63 = m_tk (dz_b (ns = 5)) f12 f13 v1 v2 (k + 1) := ev_63.trans hst.symm
                  refine lv_istore (lv' := [(5, .int (m_tk (dz_b (ns = 5)) f12 f13 v1 v2 (k + 1))), (6, .int (nI k)), (4, .int 0), (0, .ref aM), (1, .int v1), (2, .int v2), (3, .int v3)]) hx hb dX9_source_90 hl (by decide) rfl (fun ls hl => ?_)
                  obtain ⟨v_64, ev_64⟩ : ∃ y : Int32, y = (nI k) + 1 := ⟨_, rfl⟩
                  refine lv_iinc (v := v_64) (lv' := [(6, .int v_64), (5, .int (m_tk (dz_b (ns = 5)) f12 f13 v1 v2 (k + 1))), (4, .int 0), (0, .ref aM), (1, .int v1), (2, .int v2), (3, .int v3)]) hx hb dX9_source_92 hl (k := 1) rfl (by rw [ev_64]; rfl) (by decide) rfl (fun ls hl => ?_)
                  refine lv_goto (tgt := 49) hx hb dX9_source_95 (by decide) ?_
                  obtain rfl : v_64 = nI (k + 1) := ev_64.trans (nI_1 k)
                  exact ih_49 (k + 1, ls) (by first | (dsimp only; omega) | omega) ⟨(by omega), lv_sub hl [0, 1, 2, 3, 4, 5, 6] rfl⟩
                · have hst : m_tk (dz_b (ns = 5)) f12 f13 v1 v2 (k + 1) = 1 := (if_neg (fun z => z c_60)).trans (if_pos ⟨c_71, c_82⟩)
                  refine lv_iconst (v := 1) hx hb dX9_source_85 (by decide) ?_
                  refine lv_goto (tgt := 90) hx hb dX9_source_86 (by decide) ?_
                  refine lv_topi (fun v_65 ev_65 => ?_)
                  obtain rfl : v_65 = m_tk (dz_b (ns = 5)) f12 f13 v1 v2 (k + 1) := ev_65.trans hst.symm
                  refine lv_istore (lv' := [(5, .int (m_tk (dz_b (ns = 5)) f12 f13 v1 v2 (k + 1))), (6, .int (nI k)), (4, .int 0), (0, .ref aM), (1, .int v1), (2, .int v2), (3, .int v3)]) hx hb dX9_source_90 hl (by decide) rfl (fun ls hl => ?_)
                  obtain ⟨v_66, ev_66⟩ : ∃ y : Int32, y = (nI k) + 1 := ⟨_, rfl⟩
                  refine lv_iinc (v := v_66) (lv' := [(6, .int v_66), (5, .int (m_tk (dz_b (ns = 5)) f12 f13 v1 v2 (k + 1))), (4, .int 0), (0, .ref aM), (1, .int v1), (2, .int v2), (3, .int v3)]) hx hb dX9_source_92 hl (k := 1) rfl (by rw [ev_66]; rfl) (by decide) rfl (fun ls hl => ?_)
                  refine lv_goto (tgt := 49) hx hb dX9_source_95 (by decide) ?_
                  obtain rfl : v_66 = nI (k + 1) := ev_66.trans (nI_1 k)
                  exact ih_49 (k + 1, ls) (by first | (dsimp only; omega) | omega) ⟨(by omega), lv_sub hl [0, 1, 2, 3, 4, 5, 6] rfl⟩
      · exact absurd ⟨⟨dz_by c_4, dz_by c_11⟩, dz_by c_21⟩ hbad

set_option maxHeartbeats 4000000 in
set_option maxRecDepth 100000 in
theorem c_M_source_full (l : Launch) (Z : dzG) (G : dzW) (ad : dzA) (aM nm ns nl nx nf my : Nat) (th dy td ssf sst cfr grw bkk iop : Int32) (f12 f13 : Nat → Int32) (v1 v2 v3 : Int32) (ha : ad (39, 0) = aM) (ho : G (39, 0) = some (eO 10 [.int th, .int dy, .int (nI nm), .ref (ad (40, 3)), .ref (ad (40, 4)), .ref (ad (40, 5)), .ref (ad (40, 6)), .int td, .ref (ad (40, 8)), .ref (ad (40, 9)), .ref (ad (40, 10)), .int (nI ns), .ref (ad (40, 12)), .ref (ad (40, 13)), .ref (ad (40, 14)), .int (nI nl), .ref (ad (40, 16)), .ref (ad (40, 17)), .ref (ad (40, 18)), .int (nI nx), .ref (ad (40, 20)), .ref (ad (40, 21)), .ref (ad (40, 22)), .ref (ad (40, 23)), .ref (ad (40, 24)), .int ssf, .int sst, .int cfr, .int grw, .int (nI nf), .ref (ad (40, 30)), .ref (ad (40, 31)), .int bkk, .ref (ad (40, 33)), .ref (ad (40, 34)), .ref (ad (40, 35)), .int iop, .ref (ad (40, 37)), .int (nI my)])) (h12 : G (40, 12) = some (eI Z 5 f12)) (h13 : G (40, 13) = some (eI Z 5 f13)) (hns : ns ≤ 5) (hg : (((((-10) : Int32) ≤ v1 ∧ v1 ≤ 10) ∧ ((-10) ≤ v2 ∧ v2 ≤ 10)) ∧ ((1 : Int32) ≤ v3 ∧ v3 ≤ 100))) (htk : ¬ m_tk (dz_b (ns = 5)) f12 f13 v1 v2 ns = 0) : dzWr l yX9_source wsX9_source 2 42 0 0 Z G ad [.ref aM, .int v1, .int v2, .int v3] rv_i (fun (x : Int32) G1 ad1 => (∀ r9 : dzR, r9 ≠ (39, 0) → G1 r9 = G r9 ∧ ad1 r9 = ad r9) ∧ ad = ad1 ∧ x = 0 ∧ G1 (39, 0) = some (eO 10 [.int 2, .int dy, .int (nI nm), .ref (ad (40, 3)), .ref (ad (40, 4)), .ref (ad (40, 5)), .ref (ad (40, 6)), .int td, .ref (ad (40, 8)), .ref (ad (40, 9)), .ref (ad (40, 10)), .int (nI ns), .ref (ad (40, 12)), .ref (ad (40, 13)), .ref (ad (40, 14)), .int (nI nl), .ref (ad (40, 16)), .ref (ad (40, 17)), .ref (ad (40, 18)), .int (nI nx), .ref (ad (40, 20)), .ref (ad (40, 21)), .ref (ad (40, 22)), .ref (ad (40, 23)), .ref (ad (40, 24)), .int ssf, .int sst, .int cfr, .int grw, .int (nI nf), .ref (ad (40, 30)), .ref (ad (40, 31)), .int bkk, .ref (ad (40, 33)), .ref (ad (40, 34)), .ref (ad (40, 35)), .int iop, .ref (ad (40, 37)), .int (nI my)])) := by
  refine Met.ofW (cc := cX9_source) (maxL := 8) (ret := (some .int)) (by decide) rfl ?_
  intro p e s m args below meth c s₁ B hml hv
  obtain ⟨rfl, hG, hE⟩ := hv
  have hx := B.exec
  have hb := B.bytes
  have hrt := B.returns
  have hts := atoms_spec (ws := wsX9_source) B.pre
  have hown : s.vm.findClass RX9 = some m.cls := findClass_of_methodNamed B.named
  have hlocks := B.notSynchronized
  have hS : va_S (dz_A Z) s.heap s.heap [] := va_S.rf
  have hl := lv_entry ([.ref aM, .int v1, .int v2, .int v3]) (n := 8) (Nat.le_of_ble_eq_true rfl)
  rw [lg_entry_eq]
  generalize (lg_sl ([.ref aM, .int v1, .int v2, .int v3]) ++ List.replicate (8 - (lg_sl ([.ref aM, .int v1, .int v2, .int v3])).length) Slot.unset).toArray = ls at hl ⊢
  have hl : lv_has ls 8 [(0, .ref aM), (1, .int v1), (2, .int v2), (3, .int v3)] := hl
  refine lv_iload_n hx hb dX9_source_0 rfl (lv_at hl 1 rfl) ?_
  refine dz_kRi (va_runS (As := [_]) ⟨hx, hb, hml, hown, hts⟩ (c_X9_isOn l Z _ _ _ ) (va_cwS 1 hts gX9_source_X9_isOn rfl rfl rfl (by decide +kernel) ⟨Nat.le_of_ble_eq_true rfl, Nat.le_of_ble_eq_true rfl⟩) (dz_P.pre hE hS hG) rfl rfl hl.1 rfl (lv_room (Nat.le_of_ble_eq_true rfl)) dX9_source_1 ⟨Nat.le_of_ble_eq_true rfl, Nat.le_of_ble_eq_true rfl⟩) ?_
  refine lv_topi (fun v_1 ev_1 => ?_)
  obtain rfl : v_1 = 1 := ev_1.trans (dz_b1 hg.1.1)
  refine lv_if_eq (tgt := 28) hx hb dX9_source_4 (by decide) (fun c_4 => absurd c_4 (by decide)) (fun c_4 => ?_)
  refine lv_iload_n hx hb dX9_source_7 rfl (lv_at hl 2 rfl) ?_
  refine dz_kRi (va_runS (As := [_]) ⟨hx, hb, hml, hown, hts⟩ (c_X9_isOn l Z _ _ _ ) (va_cwS 1 hts gX9_source_X9_isOn rfl rfl rfl (by decide +kernel) ⟨Nat.le_of_ble_eq_true rfl, Nat.le_of_ble_eq_true rfl⟩) (dz_P.pre hE hS hG) rfl rfl hl.1 rfl (lv_room (Nat.le_of_ble_eq_true rfl)) dX9_source_8 ⟨Nat.le_of_ble_eq_true rfl, Nat.le_of_ble_eq_true rfl⟩) ?_
  refine lv_topi (fun v_2 ev_2 => ?_)
  obtain rfl : v_2 = 1 := ev_2.trans (dz_b1 hg.1.2)
  refine lv_if_eq (tgt := 28) hx hb dX9_source_11 (by decide) (fun c_11 => absurd c_11 (by decide)) (fun c_11 => ?_)
  refine lv_iload_n hx hb dX9_source_14 rfl (lv_at hl 3 rfl) ?_
  refine lv_iconst (v := 1) hx hb dX9_source_15 (by decide) ?_
  refine lv_bipush (v := 100) hx hb dX9_source_16 (by decide) ?_
  refine dz_kRi (va_runS (As := [_, _, _]) ⟨hx, hb, hml, hown, hts⟩ (c_X9_in l Z _ _ _ _ _ ) (va_cwS 3 hts gX9_source_X9_in rfl rfl rfl (by decide +kernel) ⟨Nat.le_of_ble_eq_true rfl, Nat.le_of_ble_eq_true rfl⟩) (dz_P.pre hE hS hG) rfl rfl hl.1 rfl (lv_room (Nat.le_of_ble_eq_true rfl)) dX9_source_18 ⟨Nat.le_of_ble_eq_true rfl, Nat.le_of_ble_eq_true rfl⟩) ?_
  refine lv_topi (fun v_3 ev_3 => ?_)
  obtain rfl : v_3 = 1 := ev_3.trans (dz_b1 hg.2)
  refine lv_if_eq (tgt := 28) hx hb dX9_source_21 (by decide) (fun c_21 => absurd c_21 (by decide)) (fun c_21 => ?_)
  refine lv_iconst (v := 1) hx hb dX9_source_24 (by decide) ?_
  refine lv_goto (tgt := 29) hx hb dX9_source_25 (by decide) ?_
  refine lv_istore (lv' := [(4, .int 1), (0, .ref aM), (1, .int v1), (2, .int v2), (3, .int v3)]) hx hb dX9_source_29 hl (by decide) rfl (fun ls hl => ?_)
  refine lv_aload_n hx hb dX9_source_31 rfl (lv_at hl 1 rfl) ?_
  refine dz_get hx hb hts (fun _ h => List.mem_cons_of_mem _ (List.mem_append_right _ h)) hown hE hG ha ho rfl 11 (by decide) (hts _ (List.mem_of_getElem? (i := 1) rfl)) (fun _ h9 => h9) rfl dX9_source_32 ?_
  refine lv_iconst (v := 5) hx hb dX9_source_35 (by decide) ?_
  refine lv_icmp_ne (tgt := 43) hx hb dX9_source_36 (by decide) (fun c_36 => ?_) (fun c_36 => ?_)
  · refine lv_iconst (v := 0) hx hb dX9_source_43 (by decide) ?_
    refine lv_topi (fun v_4 ev_4 => ?_)
    obtain rfl : v_4 = dz_b (ns = 5) := ev_4.trans (by first | exact (dz_b1 ((nI_e (b := 5) (by omega) (by omega)).mp c_36)).symm | exact (dz_b0 (fun z => c_36 (by rw [z]; rfl))).symm)
    refine lv_istore (lv' := [(5, .int (dz_b (ns = 5))), (4, .int 1), (0, .ref aM), (1, .int v1), (2, .int v2), (3, .int v3)]) hx hb dX9_source_44 hl (by decide) rfl (fun ls hl => ?_)
    refine lv_iconst (v := 0) hx hb dX9_source_46 (by decide) ?_
    refine lv_istore (lv' := [(6, .int 0), (5, .int (dz_b (ns = 5))), (4, .int 1), (0, .ref aM), (1, .int v1), (2, .int v2), (3, .int v3)]) hx hb dX9_source_47 hl (by decide) rfl (fun ls hl => ?_)
    refine dz_lp (α := Nat × Array Slot) (fun a9 => (fun (k : Nat) (ls : Array Slot) => ns - k) a9.1 a9.2) (fun a9 => (fun (k : Nat) (ls : Array Slot) => (k ≤ ns) ∧ lv_has ls 8 [(6, .int (nI k)), (5, .int (m_tk (dz_b (ns = 5)) f12 f13 v1 v2 k)), (4, .int 1), (0, .ref aM), (1, .int v1), (2, .int v2), (3, .int v3)]) a9.1 a9.2) (fun a9 => F0 m 49 a9.2 []) (fun a9 hI ih_49 => ?_) (0, ls) ⟨(Nat.zero_le _), lv_sub hl [0, 1, 2, 3, 4, 5, 6] rfl⟩
    obtain ⟨k, ls⟩ := a9
    obtain ⟨hk, hl⟩ := hI
    have hk : k ≤ ns := hk
    have hl : lv_has ls 8 [(6, .int (nI k)), (5, .int (m_tk (dz_b (ns = 5)) f12 f13 v1 v2 k)), (4, .int 1), (0, .ref aM), (1, .int v1), (2, .int v2), (3, .int v3)] := hl
    refine lv_iload hx hb dX9_source_49 (lv_at hl 0 rfl) ?_
    refine lv_aload_n hx hb dX9_source_51 rfl (lv_at hl 3 rfl) ?_
    refine dz_get hx hb hts (fun _ h => List.mem_cons_of_mem _ (List.mem_append_right _ h)) hown hE hG ha ho rfl 11 (by decide) (hts _ (List.mem_of_getElem? (i := 1) rfl)) (fun _ h9 => h9) rfl dX9_source_52 ?_
    refine lv_icmp_ge (tgt := 98) hx hb dX9_source_55 (by decide) (fun c_55 => ?_) (fun c_55 => ?_)
    · have hk9 : k = ns := by have := (nI_leI (by omega) (by omega)).mp c_55; omega
      refine lv_aload_n hx hb dX9_source_98 rfl (lv_at hl 3 rfl) ?_
      refine lv_iload hx hb dX9_source_99 (lv_at hl 2 rfl) ?_
      refine lv_if_ne (tgt := 108) hx hb dX9_source_101 (by decide) (fun c_101 => ?_) (fun c_101 => absurd c_101 (by decide))
      refine lv_iload hx hb dX9_source_108 (lv_at hl 1 rfl) ?_
      refine lv_if_eq (tgt := 117) hx hb dX9_source_110 (by decide) (fun c_110 => absurd c_110 (by rw [hk9]; exact htk)) (fun c_110 => ?_)
      refine lv_iconst (v := 2) hx hb dX9_source_113 (by decide) ?_
      refine lv_goto (tgt := 118) hx hb dX9_source_114 (by decide) ?_
      refine dz_kMi (va_runV (As := [_]) ⟨hx, hb, hml, hown, hts⟩ (c_X9_refused l Z _ _ _ _ _ _ _ _ _ _ _ _ _ _ _ _ _ _ _ ha ho) (cwV 1 hts gX9_source_X9_refused rfl rfl rfl (by decide +kernel) ⟨Nat.le_of_ble_eq_true rfl, Nat.le_of_ble_eq_true rfl⟩) (dz_P.preV hE hS hG ho rfl ha) rfl rfl hl.1 rfl (lv_room (Nat.le_of_ble_eq_true rfl)) dX9_source_118 ⟨Nat.le_of_ble_eq_true rfl, Nat.le_of_ble_eq_true rfl⟩) hS (fun x_118_1 G_118_1 ad_118_1 H locs hp_118_1 hG hS => ?_)
      obtain ⟨fr_118_1, rfl, x9_118_1, g_118_1⟩ := hp_118_1
      obtain rfl : x_118_1 = 1 := x9_118_1.trans (by decide)
      refine lv_if_eq (tgt := 126) hx hb dX9_source_121 (by decide) (fun c_121 => absurd c_121 (by decide)) (fun c_121 => ?_)
      refine lv_iconst (v := 0) hx hb dX9_source_124 (by decide) ?_
      refine W.widen (k := 0) (n := 0) (by first | omega | decide) (by first | omega | decide) ?_
      refine W.iret hx hb hrt (fun t ht hW => dz_endM (f := rv_i) _ hE hS hG ?_ ht hW) (fun q h => hS.2.2 q h) dX9_source_125
      refine ⟨fun r9 n_0 => (fr_118_1 r9 n_0), rfl, ?_⟩
      exact ⟨rfl, g_118_1⟩
    · have hltk : k < ns := by
        rcases Nat.lt_or_ge k (ns) with q | q
        · exact q
        · exact absurd ((nI_leI (by omega) (by omega)).mpr q) c_55
      refine lv_iload hx hb dX9_source_58 (lv_at hl 1 rfl) ?_
      refine lv_if_ne (tgt := 85) hx hb dX9_source_60 (by decide) (fun c_60 => ?_) (fun c_60 => ?_)
      · have hst : m_tk (dz_b (ns = 5)) f12 f13 v1 v2 (k + 1) = 1 := if_pos c_60
        refine lv_iconst (v := 1) hx hb dX9_source_85 (by decide) ?_
        refine lv_goto (tgt := 90) hx hb dX9_source_86 (by decide) ?_
        refine lv_topi (fun v_5 ev_5 => ?_)
        obtain rfl : v_5 = m_tk (dz_b (ns = 5)) f12 f13 v1 v2 (k + 1) := ev_5.trans hst.symm
        refine lv_istore (lv' := [(5, .int (m_tk (dz_b (ns = 5)) f12 f13 v1 v2 (k + 1))), (6, .int (nI k)), (4, .int 1), (0, .ref aM), (1, .int v1), (2, .int v2), (3, .int v3)]) hx hb dX9_source_90 hl (by decide) rfl (fun ls hl => ?_)
        obtain ⟨v_6, ev_6⟩ : ∃ y : Int32, y = (nI k) + 1 := ⟨_, rfl⟩
        refine lv_iinc (v := v_6) (lv' := [(6, .int v_6), (5, .int (m_tk (dz_b (ns = 5)) f12 f13 v1 v2 (k + 1))), (4, .int 1), (0, .ref aM), (1, .int v1), (2, .int v2), (3, .int v3)]) hx hb dX9_source_92 hl (k := 1) rfl (by rw [ev_6]; rfl) (by decide) rfl (fun ls hl => ?_)
        refine lv_goto (tgt := 49) hx hb dX9_source_95 (by decide) ?_
        obtain rfl : v_6 = nI (k + 1) := ev_6.trans (nI_1 k)
        exact ih_49 (k + 1, ls) (by first | (dsimp only; omega) | omega) ⟨(by omega), lv_sub hl [0, 1, 2, 3, 4, 5, 6] rfl⟩
      · refine lv_aload_n hx hb dX9_source_63 rfl (lv_at hl 3 rfl) ?_
        refine dz_get hx hb hts (fun _ h => List.mem_cons_of_mem _ (List.mem_append_right _ h)) hown hE hG ha ho rfl 12 (by decide) (hts _ (List.mem_of_getElem? (i := 2) rfl)) (fun _ h9 => h9) rfl dX9_source_64 ?_
        refine lv_iload hx hb dX9_source_67 (lv_at hl 0 rfl) ?_
        refine dz_iald hx hb hE hG rfl h12 (vp_in_nI (by omega) (by decide)) dX9_source_69 ?_
        refine lv_topi (fun v_7 ev_7 => ?_)
        obtain rfl : v_7 = f12 k := ev_7.trans (by rw [nI_clamp (by omega)])
        refine lv_iload_n hx hb dX9_source_70 rfl (lv_at hl 4 rfl) ?_
        refine lv_icmp_ne (tgt := 89) hx hb dX9_source_71 (by decide) (fun c_71 => ?_) (fun c_71 => ?_)
        · have hst : m_tk (dz_b (ns = 5)) f12 f13 v1 v2 (k + 1) = 0 := (if_neg (fun z => z c_60)).trans (if_neg (fun z => c_71 z.1))
          refine lv_iconst (v := 0) hx hb dX9_source_89 (by decide) ?_
          refine lv_topi (fun v_8 ev_8 => ?_)
          obtain rfl : v_8 = m_tk (dz_b (ns = 5)) f12 f13 v1 v2 (k + 1) := ev_8.trans hst.symm
          refine lv_istore (lv' := [(5, .int (m_tk (dz_b (ns = 5)) f12 f13 v1 v2 (k + 1))), (6, .int (nI k)), (4, .int 1), (0, .ref aM), (1, .int v1), (2, .int v2), (3, .int v3)]) hx hb dX9_source_90 hl (by decide) rfl (fun ls hl => ?_)
          obtain ⟨v_9, ev_9⟩ : ∃ y : Int32, y = (nI k) + 1 := ⟨_, rfl⟩
          refine lv_iinc (v := v_9) (lv' := [(6, .int v_9), (5, .int (m_tk (dz_b (ns = 5)) f12 f13 v1 v2 (k + 1))), (4, .int 1), (0, .ref aM), (1, .int v1), (2, .int v2), (3, .int v3)]) hx hb dX9_source_92 hl (k := 1) rfl (by rw [ev_9]; rfl) (by decide) rfl (fun ls hl => ?_)
          refine lv_goto (tgt := 49) hx hb dX9_source_95 (by decide) ?_
          obtain rfl : v_9 = nI (k + 1) := ev_9.trans (nI_1 k)
          exact ih_49 (k + 1, ls) (by first | (dsimp only; omega) | omega) ⟨(by omega), lv_sub hl [0, 1, 2, 3, 4, 5, 6] rfl⟩
        · refine lv_aload_n hx hb dX9_source_74 rfl (lv_at hl 3 rfl) ?_
          refine dz_get hx hb hts (fun _ h => List.mem_cons_of_mem _ (List.mem_append_right _ h)) hown hE hG ha ho rfl 13 (by decide) (hts _ (List.mem_of_getElem? (i := 3) rfl)) (fun _ h9 => h9) rfl dX9_source_75 ?_
          refine lv_iload hx hb dX9_source_78 (lv_at hl 0 rfl) ?_
          refine dz_iald hx hb hE hG rfl h13 (vp_in_nI (by omega) (by decide)) dX9_source_80 ?_
          refine lv_topi (fun v_10 ev_10 => ?_)
          obtain rfl : v_10 = f13 k := ev_10.trans (by rw [nI_clamp (by omega)])
          refine lv_iload_n hx hb dX9_source_81 rfl (lv_at hl 5 rfl) ?_
          refine lv_icmp_ne (tgt := 89) hx hb dX9_source_82 (by decide) (fun c_82 => ?_) (fun c_82 => ?_)
          · have hst : m_tk (dz_b (ns = 5)) f12 f13 v1 v2 (k + 1) = 0 := (if_neg (fun z => z c_60)).trans (if_neg (fun z => c_82 z.2))
            refine lv_iconst (v := 0) hx hb dX9_source_89 (by decide) ?_
            refine lv_topi (fun v_11 ev_11 => ?_)
            obtain rfl : v_11 = m_tk (dz_b (ns = 5)) f12 f13 v1 v2 (k + 1) := ev_11.trans hst.symm
            refine lv_istore (lv' := [(5, .int (m_tk (dz_b (ns = 5)) f12 f13 v1 v2 (k + 1))), (6, .int (nI k)), (4, .int 1), (0, .ref aM), (1, .int v1), (2, .int v2), (3, .int v3)]) hx hb dX9_source_90 hl (by decide) rfl (fun ls hl => ?_)
            obtain ⟨v_12, ev_12⟩ : ∃ y : Int32, y = (nI k) + 1 := ⟨_, rfl⟩
            refine lv_iinc (v := v_12) (lv' := [(6, .int v_12), (5, .int (m_tk (dz_b (ns = 5)) f12 f13 v1 v2 (k + 1))), (4, .int 1), (0, .ref aM), (1, .int v1), (2, .int v2), (3, .int v3)]) hx hb dX9_source_92 hl (k := 1) rfl (by rw [ev_12]; rfl) (by decide) rfl (fun ls hl => ?_)
            refine lv_goto (tgt := 49) hx hb dX9_source_95 (by decide) ?_
            obtain rfl : v_12 = nI (k + 1) := ev_12.trans (nI_1 k)
            exact ih_49 (k + 1, ls) (by first | (dsimp only; omega) | omega) ⟨(by omega), lv_sub hl [0, 1, 2, 3, 4, 5, 6] rfl⟩
          · have hst : m_tk (dz_b (ns = 5)) f12 f13 v1 v2 (k + 1) = 1 := (if_neg (fun z => z c_60)).trans (if_pos ⟨c_71, c_82⟩)
            refine lv_iconst (v := 1) hx hb dX9_source_85 (by decide) ?_
            refine lv_goto (tgt := 90) hx hb dX9_source_86 (by decide) ?_
            refine lv_topi (fun v_13 ev_13 => ?_)
            obtain rfl : v_13 = m_tk (dz_b (ns = 5)) f12 f13 v1 v2 (k + 1) := ev_13.trans hst.symm
            refine lv_istore (lv' := [(5, .int (m_tk (dz_b (ns = 5)) f12 f13 v1 v2 (k + 1))), (6, .int (nI k)), (4, .int 1), (0, .ref aM), (1, .int v1), (2, .int v2), (3, .int v3)]) hx hb dX9_source_90 hl (by decide) rfl (fun ls hl => ?_)
            obtain ⟨v_14, ev_14⟩ : ∃ y : Int32, y = (nI k) + 1 := ⟨_, rfl⟩
            refine lv_iinc (v := v_14) (lv' := [(6, .int v_14), (5, .int (m_tk (dz_b (ns = 5)) f12 f13 v1 v2 (k + 1))), (4, .int 1), (0, .ref aM), (1, .int v1), (2, .int v2), (3, .int v3)]) hx hb dX9_source_92 hl (k := 1) rfl (by rw [ev_14]; rfl) (by decide) rfl (fun ls hl => ?_)
            refine lv_goto (tgt := 49) hx hb dX9_source_95 (by decide) ?_
            obtain rfl : v_14 = nI (k + 1) := ev_14.trans (nI_1 k)
            exact ih_49 (k + 1, ls) (by first | (dsimp only; omega) | omega) ⟨(by omega), lv_sub hl [0, 1, 2, 3, 4, 5, 6] rfl⟩
  · refine lv_iconst (v := 1) hx hb dX9_source_39 (by decide) ?_
    refine lv_goto (tgt := 44) hx hb dX9_source_40 (by decide) ?_
    refine lv_topi (fun v_15 ev_15 => ?_)
    obtain rfl : v_15 = dz_b (ns = 5) := ev_15.trans (by first | exact (dz_b1 ((nI_e (b := 5) (by omega) (by omega)).mp c_36)).symm | exact (dz_b0 (fun z => c_36 (by rw [z]; rfl))).symm)
    refine lv_istore (lv' := [(5, .int (dz_b (ns = 5))), (4, .int 1), (0, .ref aM), (1, .int v1), (2, .int v2), (3, .int v3)]) hx hb dX9_source_44 hl (by decide) rfl (fun ls hl => ?_)
    refine lv_iconst (v := 0) hx hb dX9_source_46 (by decide) ?_
    refine lv_istore (lv' := [(6, .int 0), (5, .int (dz_b (ns = 5))), (4, .int 1), (0, .ref aM), (1, .int v1), (2, .int v2), (3, .int v3)]) hx hb dX9_source_47 hl (by decide) rfl (fun ls hl => ?_)
    refine dz_lp (α := Nat × Array Slot) (fun a9 => (fun (k : Nat) (ls : Array Slot) => ns - k) a9.1 a9.2) (fun a9 => (fun (k : Nat) (ls : Array Slot) => (k ≤ ns) ∧ lv_has ls 8 [(6, .int (nI k)), (5, .int (m_tk (dz_b (ns = 5)) f12 f13 v1 v2 k)), (4, .int 1), (0, .ref aM), (1, .int v1), (2, .int v2), (3, .int v3)]) a9.1 a9.2) (fun a9 => F0 m 49 a9.2 []) (fun a9 hI ih_49 => ?_) (0, ls) ⟨(Nat.zero_le _), lv_sub hl [0, 1, 2, 3, 4, 5, 6] rfl⟩
    obtain ⟨k, ls⟩ := a9
    obtain ⟨hk, hl⟩ := hI
    have hk : k ≤ ns := hk
    have hl : lv_has ls 8 [(6, .int (nI k)), (5, .int (m_tk (dz_b (ns = 5)) f12 f13 v1 v2 k)), (4, .int 1), (0, .ref aM), (1, .int v1), (2, .int v2), (3, .int v3)] := hl
    refine lv_iload hx hb dX9_source_49 (lv_at hl 0 rfl) ?_
    refine lv_aload_n hx hb dX9_source_51 rfl (lv_at hl 3 rfl) ?_
    refine dz_get hx hb hts (fun _ h => List.mem_cons_of_mem _ (List.mem_append_right _ h)) hown hE hG ha ho rfl 11 (by decide) (hts _ (List.mem_of_getElem? (i := 1) rfl)) (fun _ h9 => h9) rfl dX9_source_52 ?_
    refine lv_icmp_ge (tgt := 98) hx hb dX9_source_55 (by decide) (fun c_55 => ?_) (fun c_55 => ?_)
    · have hk9 : k = ns := by have := (nI_leI (by omega) (by omega)).mp c_55; omega
      refine lv_aload_n hx hb dX9_source_98 rfl (lv_at hl 3 rfl) ?_
      refine lv_iload hx hb dX9_source_99 (lv_at hl 2 rfl) ?_
      refine lv_if_ne (tgt := 108) hx hb dX9_source_101 (by decide) (fun c_101 => ?_) (fun c_101 => absurd c_101 (by decide))
      refine lv_iload hx hb dX9_source_108 (lv_at hl 1 rfl) ?_
      refine lv_if_eq (tgt := 117) hx hb dX9_source_110 (by decide) (fun c_110 => absurd c_110 (by rw [hk9]; exact htk)) (fun c_110 => ?_)
      refine lv_iconst (v := 2) hx hb dX9_source_113 (by decide) ?_
      refine lv_goto (tgt := 118) hx hb dX9_source_114 (by decide) ?_
      refine dz_kMi (va_runV (As := [_]) ⟨hx, hb, hml, hown, hts⟩ (c_X9_refused l Z _ _ _ _ _ _ _ _ _ _ _ _ _ _ _ _ _ _ _ ha ho) (cwV 1 hts gX9_source_X9_refused rfl rfl rfl (by decide +kernel) ⟨Nat.le_of_ble_eq_true rfl, Nat.le_of_ble_eq_true rfl⟩) (dz_P.preV hE hS hG ho rfl ha) rfl rfl hl.1 rfl (lv_room (Nat.le_of_ble_eq_true rfl)) dX9_source_118 ⟨Nat.le_of_ble_eq_true rfl, Nat.le_of_ble_eq_true rfl⟩) hS (fun x_118_2 G_118_2 ad_118_2 H locs hp_118_2 hG hS => ?_)
      obtain ⟨fr_118_2, rfl, x9_118_2, g_118_2⟩ := hp_118_2
      obtain rfl : x_118_2 = 1 := x9_118_2.trans (by decide)
      refine lv_if_eq (tgt := 126) hx hb dX9_source_121 (by decide) (fun c_121 => absurd c_121 (by decide)) (fun c_121 => ?_)
      refine lv_iconst (v := 0) hx hb dX9_source_124 (by decide) ?_
      refine W.widen (k := 0) (n := 0) (by first | omega | decide) (by first | omega | decide) ?_
      refine W.iret hx hb hrt (fun t ht hW => dz_endM (f := rv_i) _ hE hS hG ?_ ht hW) (fun q h => hS.2.2 q h) dX9_source_125
      refine ⟨fun r9 n_0 => (fr_118_2 r9 n_0), rfl, ?_⟩
      exact ⟨rfl, g_118_2⟩
    · have hltk : k < ns := by
        rcases Nat.lt_or_ge k (ns) with q | q
        · exact q
        · exact absurd ((nI_leI (by omega) (by omega)).mpr q) c_55
      refine lv_iload hx hb dX9_source_58 (lv_at hl 1 rfl) ?_
      refine lv_if_ne (tgt := 85) hx hb dX9_source_60 (by decide) (fun c_60 => ?_) (fun c_60 => ?_)
      · have hst : m_tk (dz_b (ns = 5)) f12 f13 v1 v2 (k + 1) = 1 := if_pos c_60
        refine lv_iconst (v := 1) hx hb dX9_source_85 (by decide) ?_
        refine lv_goto (tgt := 90) hx hb dX9_source_86 (by decide) ?_
        refine lv_topi (fun v_16 ev_16 => ?_)
        obtain rfl : v_16 = m_tk (dz_b (ns = 5)) f12 f13 v1 v2 (k + 1) := ev_16.trans hst.symm
        refine lv_istore (lv' := [(5, .int (m_tk (dz_b (ns = 5)) f12 f13 v1 v2 (k + 1))), (6, .int (nI k)), (4, .int 1), (0, .ref aM), (1, .int v1), (2, .int v2), (3, .int v3)]) hx hb dX9_source_90 hl (by decide) rfl (fun ls hl => ?_)
        obtain ⟨v_17, ev_17⟩ : ∃ y : Int32, y = (nI k) + 1 := ⟨_, rfl⟩
        refine lv_iinc (v := v_17) (lv' := [(6, .int v_17), (5, .int (m_tk (dz_b (ns = 5)) f12 f13 v1 v2 (k + 1))), (4, .int 1), (0, .ref aM), (1, .int v1), (2, .int v2), (3, .int v3)]) hx hb dX9_source_92 hl (k := 1) rfl (by rw [ev_17]; rfl) (by decide) rfl (fun ls hl => ?_)
        refine lv_goto (tgt := 49) hx hb dX9_source_95 (by decide) ?_
        obtain rfl : v_17 = nI (k + 1) := ev_17.trans (nI_1 k)
        exact ih_49 (k + 1, ls) (by first | (dsimp only; omega) | omega) ⟨(by omega), lv_sub hl [0, 1, 2, 3, 4, 5, 6] rfl⟩
      · refine lv_aload_n hx hb dX9_source_63 rfl (lv_at hl 3 rfl) ?_
        refine dz_get hx hb hts (fun _ h => List.mem_cons_of_mem _ (List.mem_append_right _ h)) hown hE hG ha ho rfl 12 (by decide) (hts _ (List.mem_of_getElem? (i := 2) rfl)) (fun _ h9 => h9) rfl dX9_source_64 ?_
        refine lv_iload hx hb dX9_source_67 (lv_at hl 0 rfl) ?_
        refine dz_iald hx hb hE hG rfl h12 (vp_in_nI (by omega) (by decide)) dX9_source_69 ?_
        refine lv_topi (fun v_18 ev_18 => ?_)
        obtain rfl : v_18 = f12 k := ev_18.trans (by rw [nI_clamp (by omega)])
        refine lv_iload_n hx hb dX9_source_70 rfl (lv_at hl 4 rfl) ?_
        refine lv_icmp_ne (tgt := 89) hx hb dX9_source_71 (by decide) (fun c_71 => ?_) (fun c_71 => ?_)
        · have hst : m_tk (dz_b (ns = 5)) f12 f13 v1 v2 (k + 1) = 0 := (if_neg (fun z => z c_60)).trans (if_neg (fun z => c_71 z.1))
          refine lv_iconst (v := 0) hx hb dX9_source_89 (by decide) ?_
          refine lv_topi (fun v_19 ev_19 => ?_)
          obtain rfl : v_19 = m_tk (dz_b (ns = 5)) f12 f13 v1 v2 (k + 1) := ev_19.trans hst.symm
          refine lv_istore (lv' := [(5, .int (m_tk (dz_b (ns = 5)) f12 f13 v1 v2 (k + 1))), (6, .int (nI k)), (4, .int 1), (0, .ref aM), (1, .int v1), (2, .int v2), (3, .int v3)]) hx hb dX9_source_90 hl (by decide) rfl (fun ls hl => ?_)
          obtain ⟨v_20, ev_20⟩ : ∃ y : Int32, y = (nI k) + 1 := ⟨_, rfl⟩
          refine lv_iinc (v := v_20) (lv' := [(6, .int v_20), (5, .int (m_tk (dz_b (ns = 5)) f12 f13 v1 v2 (k + 1))), (4, .int 1), (0, .ref aM), (1, .int v1), (2, .int v2), (3, .int v3)]) hx hb dX9_source_92 hl (k := 1) rfl (by rw [ev_20]; rfl) (by decide) rfl (fun ls hl => ?_)
          refine lv_goto (tgt := 49) hx hb dX9_source_95 (by decide) ?_
          obtain rfl : v_20 = nI (k + 1) := ev_20.trans (nI_1 k)
          exact ih_49 (k + 1, ls) (by first | (dsimp only; omega) | omega) ⟨(by omega), lv_sub hl [0, 1, 2, 3, 4, 5, 6] rfl⟩
        · refine lv_aload_n hx hb dX9_source_74 rfl (lv_at hl 3 rfl) ?_
          refine dz_get hx hb hts (fun _ h => List.mem_cons_of_mem _ (List.mem_append_right _ h)) hown hE hG ha ho rfl 13 (by decide) (hts _ (List.mem_of_getElem? (i := 3) rfl)) (fun _ h9 => h9) rfl dX9_source_75 ?_
          refine lv_iload hx hb dX9_source_78 (lv_at hl 0 rfl) ?_
          refine dz_iald hx hb hE hG rfl h13 (vp_in_nI (by omega) (by decide)) dX9_source_80 ?_
          refine lv_topi (fun v_21 ev_21 => ?_)
          obtain rfl : v_21 = f13 k := ev_21.trans (by rw [nI_clamp (by omega)])
          refine lv_iload_n hx hb dX9_source_81 rfl (lv_at hl 5 rfl) ?_
          refine lv_icmp_ne (tgt := 89) hx hb dX9_source_82 (by decide) (fun c_82 => ?_) (fun c_82 => ?_)
          · have hst : m_tk (dz_b (ns = 5)) f12 f13 v1 v2 (k + 1) = 0 := (if_neg (fun z => z c_60)).trans (if_neg (fun z => c_82 z.2))
            refine lv_iconst (v := 0) hx hb dX9_source_89 (by decide) ?_
            refine lv_topi (fun v_22 ev_22 => ?_)
            obtain rfl : v_22 = m_tk (dz_b (ns = 5)) f12 f13 v1 v2 (k + 1) := ev_22.trans hst.symm
            refine lv_istore (lv' := [(5, .int (m_tk (dz_b (ns = 5)) f12 f13 v1 v2 (k + 1))), (6, .int (nI k)), (4, .int 1), (0, .ref aM), (1, .int v1), (2, .int v2), (3, .int v3)]) hx hb dX9_source_90 hl (by decide) rfl (fun ls hl => ?_)
            obtain ⟨v_23, ev_23⟩ : ∃ y : Int32, y = (nI k) + 1 := ⟨_, rfl⟩
            refine lv_iinc (v := v_23) (lv' := [(6, .int v_23), (5, .int (m_tk (dz_b (ns = 5)) f12 f13 v1 v2 (k + 1))), (4, .int 1), (0, .ref aM), (1, .int v1), (2, .int v2), (3, .int v3)]) hx hb dX9_source_92 hl (k := 1) rfl (by rw [ev_23]; rfl) (by decide) rfl (fun ls hl => ?_)
            refine lv_goto (tgt := 49) hx hb dX9_source_95 (by decide) ?_
            obtain rfl : v_23 = nI (k + 1) := ev_23.trans (nI_1 k)
            exact ih_49 (k + 1, ls) (by first | (dsimp only; omega) | omega) ⟨(by omega), lv_sub hl [0, 1, 2, 3, 4, 5, 6] rfl⟩
          · have hst : m_tk (dz_b (ns = 5)) f12 f13 v1 v2 (k + 1) = 1 := (if_neg (fun z => z c_60)).trans (if_pos ⟨c_71, c_82⟩)
            refine lv_iconst (v := 1) hx hb dX9_source_85 (by decide) ?_
            refine lv_goto (tgt := 90) hx hb dX9_source_86 (by decide) ?_
            refine lv_topi (fun v_24 ev_24 => ?_)
            obtain rfl : v_24 = m_tk (dz_b (ns = 5)) f12 f13 v1 v2 (k + 1) := ev_24.trans hst.symm
            refine lv_istore (lv' := [(5, .int (m_tk (dz_b (ns = 5)) f12 f13 v1 v2 (k + 1))), (6, .int (nI k)), (4, .int 1), (0, .ref aM), (1, .int v1), (2, .int v2), (3, .int v3)]) hx hb dX9_source_90 hl (by decide) rfl (fun ls hl => ?_)
            obtain ⟨v_25, ev_25⟩ : ∃ y : Int32, y = (nI k) + 1 := ⟨_, rfl⟩
            refine lv_iinc (v := v_25) (lv' := [(6, .int v_25), (5, .int (m_tk (dz_b (ns = 5)) f12 f13 v1 v2 (k + 1))), (4, .int 1), (0, .ref aM), (1, .int v1), (2, .int v2), (3, .int v3)]) hx hb dX9_source_92 hl (k := 1) rfl (by rw [ev_25]; rfl) (by decide) rfl (fun ls hl => ?_)
            refine lv_goto (tgt := 49) hx hb dX9_source_95 (by decide) ?_
            obtain rfl : v_25 = nI (k + 1) := ev_25.trans (nI_1 k)
            exact ih_49 (k + 1, ls) (by first | (dsimp only; omega) | omega) ⟨(by omega), lv_sub hl [0, 1, 2, 3, 4, 5, 6] rfl⟩

set_option maxHeartbeats 4000000 in
set_option maxRecDepth 100000 in
theorem c_M_source_ok (l : Launch) (Z : dzG) (G : dzW) (ad : dzA) (aM nm ns nl nx nf my : Nat) (th dy td ssf sst cfr grw bkk iop : Int32) (f12 f13 f14 f31 : Nat → Int32) (v1 v2 v3 : Int32) (ha : ad (39, 0) = aM) (ho : G (39, 0) = some (eO 10 [.int th, .int dy, .int (nI nm), .ref (ad (40, 3)), .ref (ad (40, 4)), .ref (ad (40, 5)), .ref (ad (40, 6)), .int td, .ref (ad (40, 8)), .ref (ad (40, 9)), .ref (ad (40, 10)), .int (nI ns), .ref (ad (40, 12)), .ref (ad (40, 13)), .ref (ad (40, 14)), .int (nI nl), .ref (ad (40, 16)), .ref (ad (40, 17)), .ref (ad (40, 18)), .int (nI nx), .ref (ad (40, 20)), .ref (ad (40, 21)), .ref (ad (40, 22)), .ref (ad (40, 23)), .ref (ad (40, 24)), .int ssf, .int sst, .int cfr, .int grw, .int (nI nf), .ref (ad (40, 30)), .ref (ad (40, 31)), .int bkk, .ref (ad (40, 33)), .ref (ad (40, 34)), .ref (ad (40, 35)), .int iop, .ref (ad (40, 37)), .int (nI my)])) (h12 : G (40, 12) = some (eI Z 5 f12)) (h13 : G (40, 13) = some (eI Z 5 f13)) (h14 : G (40, 14) = some (eI Z 5 f14)) (h31 : G (40, 31) = some (eI Z 1800 f31)) (hns : ns ≤ 4) (hnf : nf ≤ 60) (hg : (((((-10) : Int32) ≤ v1 ∧ v1 ≤ 10) ∧ ((-10) ≤ v2 ∧ v2 ≤ 10)) ∧ ((1 : Int32) ≤ v3 ∧ v3 ≤ 100))) (htk : m_tk (dz_b (ns = 5)) f12 f13 v1 v2 ns = 0) : dzWr l yX9_source wsX9_source 2 42 0 0 Z G ad [.ref aM, .int v1, .int v2, .int v3] rv_i (fun (x : Int32) G1 ad1 => (∀ r9 : dzR, r9 ≠ (39, 0) → r9 ≠ (40, 12) → r9 ≠ (40, 13) → r9 ≠ (40, 14) → r9 ≠ (40, 31) → G1 r9 = G r9 ∧ ad1 r9 = ad r9) ∧ ad = ad1 ∧ x = nI ns ∧ G1 (39, 0) = some (eO 10 [.int 0, .int dy, .int (nI nm), .ref (ad (40, 3)), .ref (ad (40, 4)), .ref (ad (40, 5)), .ref (ad (40, 6)), .int td, .ref (ad (40, 8)), .ref (ad (40, 9)), .ref (ad (40, 10)), .int (nI (ns + 1)), .ref (ad (40, 12)), .ref (ad (40, 13)), .ref (ad (40, 14)), .int (nI nl), .ref (ad (40, 16)), .ref (ad (40, 17)), .ref (ad (40, 18)), .int (nI nx), .ref (ad (40, 20)), .ref (ad (40, 21)), .ref (ad (40, 22)), .ref (ad (40, 23)), .ref (ad (40, 24)), .int ssf, .int sst, .int cfr, .int grw, .int (nI nf), .ref (ad (40, 30)), .ref (ad (40, 31)), .int bkk, .ref (ad (40, 33)), .ref (ad (40, 34)), .ref (ad (40, 35)), .int iop, .ref (ad (40, 37)), .int (nI my)]) ∧ G1 (40, 12) = some (eI Z 5 (upd f12 ns v1)) ∧ G1 (40, 13) = some (eI Z 5 (upd f13 ns v2)) ∧ G1 (40, 14) = some (eI Z 5 (upd f14 ns v3)) ∧ G1 (40, 31) = some (eI Z 1800 (m_cl ns f31 nf 0))) := by
  refine Met.ofW (cc := cX9_source) (maxL := 8) (ret := (some .int)) (by decide) rfl ?_
  intro p e s m args below meth c s₁ B hml hv
  obtain ⟨rfl, hG, hE⟩ := hv
  have hx := B.exec
  have hb := B.bytes
  have hrt := B.returns
  have hts := atoms_spec (ws := wsX9_source) B.pre
  have hown : s.vm.findClass RX9 = some m.cls := findClass_of_methodNamed B.named
  have hlocks := B.notSynchronized
  have hS : va_S (dz_A Z) s.heap s.heap [] := va_S.rf
  have hl := lv_entry ([.ref aM, .int v1, .int v2, .int v3]) (n := 8) (Nat.le_of_ble_eq_true rfl)
  rw [lg_entry_eq]
  generalize (lg_sl ([.ref aM, .int v1, .int v2, .int v3]) ++ List.replicate (8 - (lg_sl ([.ref aM, .int v1, .int v2, .int v3])).length) Slot.unset).toArray = ls at hl ⊢
  have hl : lv_has ls 8 [(0, .ref aM), (1, .int v1), (2, .int v2), (3, .int v3)] := hl
  refine lv_iload_n hx hb dX9_source_0 rfl (lv_at hl 1 rfl) ?_
  refine dz_kRi (va_runS (As := [_]) ⟨hx, hb, hml, hown, hts⟩ (c_X9_isOn l Z _ _ _ ) (va_cwS 1 hts gX9_source_X9_isOn rfl rfl rfl (by decide +kernel) ⟨Nat.le_of_ble_eq_true rfl, Nat.le_of_ble_eq_true rfl⟩) (dz_P.pre hE hS hG) rfl rfl hl.1 rfl (lv_room (Nat.le_of_ble_eq_true rfl)) dX9_source_1 ⟨Nat.le_of_ble_eq_true rfl, Nat.le_of_ble_eq_true rfl⟩) ?_
  refine lv_topi (fun v_1 ev_1 => ?_)
  obtain rfl : v_1 = 1 := ev_1.trans (dz_b1 hg.1.1)
  refine lv_if_eq (tgt := 28) hx hb dX9_source_4 (by decide) (fun c_4 => absurd c_4 (by decide)) (fun c_4 => ?_)
  refine lv_iload_n hx hb dX9_source_7 rfl (lv_at hl 2 rfl) ?_
  refine dz_kRi (va_runS (As := [_]) ⟨hx, hb, hml, hown, hts⟩ (c_X9_isOn l Z _ _ _ ) (va_cwS 1 hts gX9_source_X9_isOn rfl rfl rfl (by decide +kernel) ⟨Nat.le_of_ble_eq_true rfl, Nat.le_of_ble_eq_true rfl⟩) (dz_P.pre hE hS hG) rfl rfl hl.1 rfl (lv_room (Nat.le_of_ble_eq_true rfl)) dX9_source_8 ⟨Nat.le_of_ble_eq_true rfl, Nat.le_of_ble_eq_true rfl⟩) ?_
  refine lv_topi (fun v_2 ev_2 => ?_)
  obtain rfl : v_2 = 1 := ev_2.trans (dz_b1 hg.1.2)
  refine lv_if_eq (tgt := 28) hx hb dX9_source_11 (by decide) (fun c_11 => absurd c_11 (by decide)) (fun c_11 => ?_)
  refine lv_iload_n hx hb dX9_source_14 rfl (lv_at hl 3 rfl) ?_
  refine lv_iconst (v := 1) hx hb dX9_source_15 (by decide) ?_
  refine lv_bipush (v := 100) hx hb dX9_source_16 (by decide) ?_
  refine dz_kRi (va_runS (As := [_, _, _]) ⟨hx, hb, hml, hown, hts⟩ (c_X9_in l Z _ _ _ _ _ ) (va_cwS 3 hts gX9_source_X9_in rfl rfl rfl (by decide +kernel) ⟨Nat.le_of_ble_eq_true rfl, Nat.le_of_ble_eq_true rfl⟩) (dz_P.pre hE hS hG) rfl rfl hl.1 rfl (lv_room (Nat.le_of_ble_eq_true rfl)) dX9_source_18 ⟨Nat.le_of_ble_eq_true rfl, Nat.le_of_ble_eq_true rfl⟩) ?_
  refine lv_topi (fun v_3 ev_3 => ?_)
  obtain rfl : v_3 = 1 := ev_3.trans (dz_b1 hg.2)
  refine lv_if_eq (tgt := 28) hx hb dX9_source_21 (by decide) (fun c_21 => absurd c_21 (by decide)) (fun c_21 => ?_)
  refine lv_iconst (v := 1) hx hb dX9_source_24 (by decide) ?_
  refine lv_goto (tgt := 29) hx hb dX9_source_25 (by decide) ?_
  refine lv_istore (lv' := [(4, .int 1), (0, .ref aM), (1, .int v1), (2, .int v2), (3, .int v3)]) hx hb dX9_source_29 hl (by decide) rfl (fun ls hl => ?_)
  refine lv_aload_n hx hb dX9_source_31 rfl (lv_at hl 1 rfl) ?_
  refine dz_get hx hb hts (fun _ h => List.mem_cons_of_mem _ (List.mem_append_right _ h)) hown hE hG ha ho rfl 11 (by decide) (hts _ (List.mem_of_getElem? (i := 1) rfl)) (fun _ h9 => h9) rfl dX9_source_32 ?_
  refine lv_iconst (v := 5) hx hb dX9_source_35 (by decide) ?_
  refine lv_icmp_ne (tgt := 43) hx hb dX9_source_36 (by decide) (fun c_36 => ?_) (fun c_36 => ?_)
  · refine lv_iconst (v := 0) hx hb dX9_source_43 (by decide) ?_
    refine lv_topi (fun v_4 ev_4 => ?_)
    obtain rfl : v_4 = dz_b (ns = 5) := ev_4.trans (by first | exact (dz_b1 ((nI_e (b := 5) (by omega) (by omega)).mp c_36)).symm | exact (dz_b0 (fun z => c_36 (by rw [z]; rfl))).symm)
    refine lv_istore (lv' := [(5, .int (dz_b (ns = 5))), (4, .int 1), (0, .ref aM), (1, .int v1), (2, .int v2), (3, .int v3)]) hx hb dX9_source_44 hl (by decide) rfl (fun ls hl => ?_)
    refine lv_iconst (v := 0) hx hb dX9_source_46 (by decide) ?_
    refine lv_istore (lv' := [(6, .int 0), (5, .int (dz_b (ns = 5))), (4, .int 1), (0, .ref aM), (1, .int v1), (2, .int v2), (3, .int v3)]) hx hb dX9_source_47 hl (by decide) rfl (fun ls hl => ?_)
    refine dz_lp (α := Nat × Array Slot) (fun a9 => (fun (k : Nat) (ls : Array Slot) => ns - k) a9.1 a9.2) (fun a9 => (fun (k : Nat) (ls : Array Slot) => (k ≤ ns) ∧ lv_has ls 8 [(6, .int (nI k)), (5, .int (m_tk (dz_b (ns = 5)) f12 f13 v1 v2 k)), (4, .int 1), (0, .ref aM), (1, .int v1), (2, .int v2), (3, .int v3)]) a9.1 a9.2) (fun a9 => F0 m 49 a9.2 []) (fun a9 hI ih_49 => ?_) (0, ls) ⟨(Nat.zero_le _), lv_sub hl [0, 1, 2, 3, 4, 5, 6] rfl⟩
    obtain ⟨k, ls⟩ := a9
    obtain ⟨hk, hl⟩ := hI
    have hk : k ≤ ns := hk
    have hl : lv_has ls 8 [(6, .int (nI k)), (5, .int (m_tk (dz_b (ns = 5)) f12 f13 v1 v2 k)), (4, .int 1), (0, .ref aM), (1, .int v1), (2, .int v2), (3, .int v3)] := hl
    refine lv_iload hx hb dX9_source_49 (lv_at hl 0 rfl) ?_
    refine lv_aload_n hx hb dX9_source_51 rfl (lv_at hl 3 rfl) ?_
    refine dz_get hx hb hts (fun _ h => List.mem_cons_of_mem _ (List.mem_append_right _ h)) hown hE hG ha ho rfl 11 (by decide) (hts _ (List.mem_of_getElem? (i := 1) rfl)) (fun _ h9 => h9) rfl dX9_source_52 ?_
    refine lv_icmp_ge (tgt := 98) hx hb dX9_source_55 (by decide) (fun c_55 => ?_) (fun c_55 => ?_)
    · have hk9 : k = ns := by have := (nI_leI (by omega) (by omega)).mp c_55; omega
      refine lv_aload_n hx hb dX9_source_98 rfl (lv_at hl 3 rfl) ?_
      refine lv_iload hx hb dX9_source_99 (lv_at hl 2 rfl) ?_
      refine lv_if_ne (tgt := 108) hx hb dX9_source_101 (by decide) (fun c_101 => ?_) (fun c_101 => absurd c_101 (by decide))
      refine lv_iload hx hb dX9_source_108 (lv_at hl 1 rfl) ?_
      refine lv_if_eq (tgt := 117) hx hb dX9_source_110 (by decide) (fun c_110 => ?_) (fun c_110 => absurd (by rw [hk9]; exact htk) c_110)
      refine lv_iconst (v := 0) hx hb dX9_source_117 (by decide) ?_
      refine dz_kMi (va_runV (As := [_]) ⟨hx, hb, hml, hown, hts⟩ (c_X9_refused l Z _ _ _ _ _ _ _ _ _ _ _ _ _ _ _ _ _ _ _ ha ho) (cwV 1 hts gX9_source_X9_refused rfl rfl rfl (by decide +kernel) ⟨Nat.le_of_ble_eq_true rfl, Nat.le_of_ble_eq_true rfl⟩) (dz_P.preV hE hS hG ho rfl ha) rfl rfl hl.1 rfl (lv_room (Nat.le_of_ble_eq_true rfl)) dX9_source_118 ⟨Nat.le_of_ble_eq_true rfl, Nat.le_of_ble_eq_true rfl⟩) hS (fun x_118_1 G_118_1 ad_118_1 H locs hp_118_1 hG hS => ?_)
      obtain ⟨fr_118_1, rfl, x9_118_1, g_118_1⟩ := hp_118_1
      obtain rfl : x_118_1 = 0 := x9_118_1.trans (by decide)
      refine lv_if_eq (tgt := 126) hx hb dX9_source_121 (by decide) (fun c_121 => ?_) (fun c_121 => absurd (by decide) c_121)
      refine lv_aload_n hx hb dX9_source_126 rfl (lv_at hl 3 rfl) ?_
      refine dz_get hx hb hts (fun _ h => List.mem_cons_of_mem _ (List.mem_append_right _ h)) hown hE hG ha g_118_1 rfl 12 (by decide) (hts _ (List.mem_of_getElem? (i := 2) rfl)) (fun _ h9 => h9) rfl dX9_source_127 ?_
      refine lv_aload_n hx hb dX9_source_130 rfl (lv_at hl 3 rfl) ?_
      refine dz_get hx hb hts (fun _ h => List.mem_cons_of_mem _ (List.mem_append_right _ h)) hown hE hG ha g_118_1 rfl 11 (by decide) (hts _ (List.mem_of_getElem? (i := 1) rfl)) (fun _ h9 => h9) rfl dX9_source_131 ?_
      refine lv_iload_n hx hb dX9_source_134 rfl (lv_at hl 4 rfl) ?_
      refine dz_iast hx hb hE hG ((fr_118_1 _ (dz_n rfl)).2.trans rfl) hS ((fr_118_1 _ (dz_n rfl)).1.trans h12) (vp_in_nI (by omega) (by decide)) dX9_source_135 (fun H locs hG hS => ?_)
      rw [nI_clamp (show ns < 2 ^ 31 by omega)] at hG
      obtain ⟨G_1, hG, w_1, o_1⟩ := dz_nm hG
      refine lv_aload_n hx hb dX9_source_136 rfl (lv_at hl 3 rfl) ?_
      refine dz_get hx hb hts (fun _ h => List.mem_cons_of_mem _ (List.mem_append_right _ h)) hown hE hG ((o_1 _ (dz_n rfl)).2.trans ha) ((o_1 _ (dz_n rfl)).1.trans g_118_1) rfl 13 (by decide) (hts _ (List.mem_of_getElem? (i := 3) rfl)) (fun _ h9 => h9) rfl dX9_source_137 ?_
      refine lv_aload_n hx hb dX9_source_140 rfl (lv_at hl 3 rfl) ?_
      refine dz_get hx hb hts (fun _ h => List.mem_cons_of_mem _ (List.mem_append_right _ h)) hown hE hG ((o_1 _ (dz_n rfl)).2.trans ha) ((o_1 _ (dz_n rfl)).1.trans g_118_1) rfl 11 (by decide) (hts _ (List.mem_of_getElem? (i := 1) rfl)) (fun _ h9 => h9) rfl dX9_source_141 ?_
      refine lv_iload_n hx hb dX9_source_144 rfl (lv_at hl 5 rfl) ?_
      refine dz_iast hx hb hE hG ((o_1 _ (dz_n2 (by decide))).2.trans ((fr_118_1 _ (dz_n rfl)).2.trans rfl)) hS ((o_1 _ (dz_n2 (by decide))).1.trans ((fr_118_1 _ (dz_n rfl)).1.trans h13)) (vp_in_nI (by omega) (by decide)) dX9_source_145 (fun H locs hG hS => ?_)
      rw [nI_clamp (show ns < 2 ^ 31 by omega)] at hG
      obtain ⟨G_2, hG, w_2, o_2⟩ := dz_nm hG
      refine lv_aload_n hx hb dX9_source_146 rfl (lv_at hl 3 rfl) ?_
      refine dz_get hx hb hts (fun _ h => List.mem_cons_of_mem _ (List.mem_append_right _ h)) hown hE hG ((o_2 _ (dz_n rfl)).2.trans ((o_1 _ (dz_n rfl)).2.trans ha)) ((o_2 _ (dz_n rfl)).1.trans ((o_1 _ (dz_n rfl)).1.trans g_118_1)) rfl 14 (by decide) (hts _ (List.mem_of_getElem? (i := 4) rfl)) (fun _ h9 => h9) rfl dX9_source_147 ?_
      refine lv_aload_n hx hb dX9_source_150 rfl (lv_at hl 3 rfl) ?_
      refine dz_get hx hb hts (fun _ h => List.mem_cons_of_mem _ (List.mem_append_right _ h)) hown hE hG ((o_2 _ (dz_n rfl)).2.trans ((o_1 _ (dz_n rfl)).2.trans ha)) ((o_2 _ (dz_n rfl)).1.trans ((o_1 _ (dz_n rfl)).1.trans g_118_1)) rfl 11 (by decide) (hts _ (List.mem_of_getElem? (i := 1) rfl)) (fun _ h9 => h9) rfl dX9_source_151 ?_
      refine lv_iload_n hx hb dX9_source_154 rfl (lv_at hl 6 rfl) ?_
      refine dz_iast hx hb hE hG ((o_2 _ (dz_n2 (by decide))).2.trans ((o_1 _ (dz_n2 (by decide))).2.trans ((fr_118_1 _ (dz_n rfl)).2.trans rfl))) hS ((o_2 _ (dz_n2 (by decide))).1.trans ((o_1 _ (dz_n2 (by decide))).1.trans ((fr_118_1 _ (dz_n rfl)).1.trans h14))) (vp_in_nI (by omega) (by decide)) dX9_source_155 (fun H locs hG hS => ?_)
      rw [nI_clamp (show ns < 2 ^ 31 by omega)] at hG
      obtain ⟨G_3, hG, w_3, o_3⟩ := dz_nm hG
      refine lv_iconst (v := 0) hx hb dX9_source_156 (by decide) ?_
      refine lv_istore (lv' := [(6, .int 0), (5, .int (m_tk (dz_b (ns = 5)) f12 f13 v1 v2 k)), (4, .int 1), (0, .ref aM), (1, .int v1), (2, .int v2), (3, .int v3)]) hx hb dX9_source_157 hl (by decide) rfl (fun ls hl => ?_)
      obtain ⟨G_4, hG, w_4, o_4⟩ := dz_re (m_cl ns f31 0 0) hG ((o_3 _ (dz_n2 (by decide))).1.trans ((o_2 _ (dz_n2 (by decide))).1.trans ((o_1 _ (dz_n2 (by decide))).1.trans ((fr_118_1 _ (dz_n rfl)).1.trans h31)))) (fun j hj => m_cl_0 j)
      refine dz_lw (α := Nat × dzW × Array Slot) (fun a9 => (fun (a : Nat) (G_L159 : dzW) (ls : Array Slot) => nf - a) a9.1 a9.2.1 a9.2.2) (fun a9 H locs => (fun (a : Nat) (G_L159 : dzW) (ls : Array Slot) => (a ≤ nf) ∧ (∀ r9 : dzR, r9 ≠ (40, 31) → G_L159 r9 = G_4 r9 ∧ ad r9 = ad r9) ∧ (G_L159 (40, 31) = some (eI Z 1800 (m_cl ns f31 a 0))) ∧ dz_w Z G_L159 ad H ∧ va_S (dz_A Z) s.heap H locs ∧ lv_has ls 8 [(6, .int (nI a)), (5, .int (m_tk (dz_b (ns = 5)) f12 f13 v1 v2 k)), (4, .int 1), (0, .ref aM), (1, .int v1), (2, .int v2), (3, .int v3)]) a9.1 a9.2.1 a9.2.2) (fun a9 => F0 m 159 a9.2.2 []) (fun a9 H locs hI ih_159 => ?_) (0, G_4, ls) ⟨(Nat.zero_le _), (fun r9 _ => ⟨rfl, rfl⟩), w_4, hG, hS, lv_sub hl [0, 1, 2, 3, 4, 5, 6] rfl⟩
      obtain ⟨a, G_L159, ls⟩ := a9
      obtain ⟨hal, fr_L159, wl1, hG, hS, hl⟩ := hI
      have hal : a ≤ nf := hal
      have fr_L159 : ∀ r9 : dzR, r9 ≠ (40, 31) → G_L159 r9 = G_4 r9 ∧ ad r9 = ad r9 := fr_L159
      have wl1 : G_L159 (40, 31) = some (eI Z 1800 (m_cl ns f31 a 0)) := wl1
      have hG : dz_w Z G_L159 ad H := hG
      have hS : va_S (dz_A Z) s.heap H locs := hS
      have hl : lv_has ls 8 [(6, .int (nI a)), (5, .int (m_tk (dz_b (ns = 5)) f12 f13 v1 v2 k)), (4, .int 1), (0, .ref aM), (1, .int v1), (2, .int v2), (3, .int v3)] := hl
      refine lv_iload hx hb dX9_source_159 (lv_at hl 0 rfl) ?_
      refine lv_aload_n hx hb dX9_source_161 rfl (lv_at hl 3 rfl) ?_
      refine dz_get hx hb hts (fun _ h => List.mem_cons_of_mem _ (List.mem_append_right _ h)) hown hE hG ((fr_L159 _ (dz_n rfl)).2.trans ((o_4 _ (dz_n rfl)).2.trans ((o_3 _ (dz_n rfl)).2.trans ((o_2 _ (dz_n rfl)).2.trans ((o_1 _ (dz_n rfl)).2.trans ha))))) ((fr_L159 _ (dz_n rfl)).1.trans ((o_4 _ (dz_n rfl)).1.trans ((o_3 _ (dz_n rfl)).1.trans ((o_2 _ (dz_n rfl)).1.trans ((o_1 _ (dz_n rfl)).1.trans g_118_1))))) rfl 29 (by decide) (hts _ (List.mem_of_getElem? (i := 5) rfl)) (fun _ h9 => h9) rfl dX9_source_162 ?_
      refine lv_icmp_ge (tgt := 211) hx hb dX9_source_165 (by decide) (fun c_165 => ?_) (fun c_165 => ?_)
      · have ha9 : a = nf := by have := (nI_leI (by omega) (by omega)).mp c_165; omega
        refine lv_aload_n hx hb dX9_source_211 rfl (lv_at hl 3 rfl) ?_
        refine lv_dup hx hb dX9_source_212 rfl ?_
        refine dz_get hx hb hts (fun _ h => List.mem_cons_of_mem _ (List.mem_append_right _ h)) hown hE hG ((fr_L159 _ (dz_n rfl)).2.trans ((o_4 _ (dz_n rfl)).2.trans ((o_3 _ (dz_n rfl)).2.trans ((o_2 _ (dz_n rfl)).2.trans ((o_1 _ (dz_n rfl)).2.trans ha))))) ((fr_L159 _ (dz_n rfl)).1.trans ((o_4 _ (dz_n rfl)).1.trans ((o_3 _ (dz_n rfl)).1.trans ((o_2 _ (dz_n rfl)).1.trans ((o_1 _ (dz_n rfl)).1.trans g_118_1))))) rfl 11 (by decide) (hts _ (List.mem_of_getElem? (i := 1) rfl)) (fun _ h9 => h9) rfl dX9_source_213 ?_
        refine lv_iconst (v := 1) hx hb dX9_source_216 (by decide) ?_
        refine lv_iadd hx hb dX9_source_217 ?_
        refine lv_topi (fun v_5 ev_5 => ?_)
        obtain rfl : v_5 = nI (ns + 1) := ev_5.trans (nI_1 ns)
        refine dz_put hx hb hts (fun _ h => List.mem_cons_of_mem _ (List.mem_append_right _ h)) tyX9 tyX9_ok nmX9 hown hE hG ((fr_L159 _ (dz_n rfl)).2.trans ((o_4 _ (dz_n rfl)).2.trans ((o_3 _ (dz_n rfl)).2.trans ((o_2 _ (dz_n rfl)).2.trans ((o_1 _ (dz_n rfl)).2.trans ha))))) hS ((fr_L159 _ (dz_n rfl)).1.trans ((o_4 _ (dz_n rfl)).1.trans ((o_3 _ (dz_n rfl)).1.trans ((o_2 _ (dz_n rfl)).1.trans ((o_1 _ (dz_n rfl)).1.trans g_118_1))))) rfl 11 (by decide) (hts _ (List.mem_of_getElem? (i := 1) rfl)) (fun _ h9 => h9) rfl (ty := .int) (by decide +kernel) rfl rfl (fs' := [.int 0, .int dy, .int (nI nm), .ref (ad (40, 3)), .ref (ad (40, 4)), .ref (ad (40, 5)), .ref (ad (40, 6)), .int td, .ref (ad (40, 8)), .ref (ad (40, 9)), .ref (ad (40, 10)), .int (nI (ns + 1)), .ref (ad (40, 12)), .ref (ad (40, 13)), .ref (ad (40, 14)), .int (nI nl), .ref (ad (40, 16)), .ref (ad (40, 17)), .ref (ad (40, 18)), .int (nI nx), .ref (ad (40, 20)), .ref (ad (40, 21)), .ref (ad (40, 22)), .ref (ad (40, 23)), .ref (ad (40, 24)), .int ssf, .int sst, .int cfr, .int grw, .int (nI nf), .ref (ad (40, 30)), .ref (ad (40, 31)), .int bkk, .ref (ad (40, 33)), .ref (ad (40, 34)), .ref (ad (40, 35)), .int iop, .ref (ad (40, 37)), .int (nI my)]) rfl (Nat.le_of_ble_eq_true rfl) dX9_source_218 (fun H locs hG hS => ?_)
        obtain ⟨G_5, hG, w_5, o_5⟩ := dz_nm hG
        refine lv_aload_n hx hb dX9_source_221 rfl (lv_at hl 3 rfl) ?_
        refine dz_get hx hb hts (fun _ h => List.mem_cons_of_mem _ (List.mem_append_right _ h)) hown hE hG ((fr_L159 _ (dz_n rfl)).2.trans ((o_4 _ (dz_n rfl)).2.trans ((o_3 _ (dz_n rfl)).2.trans ((o_2 _ (dz_n rfl)).2.trans ((o_1 _ (dz_n rfl)).2.trans ha))))) w_5 rfl 11 (by decide) (hts _ (List.mem_of_getElem? (i := 1) rfl)) (fun _ h9 => h9) rfl dX9_source_222 ?_
        refine lv_iconst (v := 1) hx hb dX9_source_225 (by decide) ?_
        refine lv_isub hx hb dX9_source_226 ?_
        refine lv_topi (fun v_6 ev_6 => ?_)
        obtain rfl : v_6 = nI ns := ev_6.trans ((pk_sub (a := ns + 1) (b := 1) (by omega)).trans (by rw [Nat.add_sub_cancel]))
        refine W.widen (k := 0) (n := 0) (by first | omega | decide) (by first | omega | decide) ?_
        refine W.iret hx hb hrt (fun t ht hW => dz_endM (f := rv_i) _ hE hS hG ?_ ht hW) (fun q h => hS.2.2 q h) dX9_source_227
        refine ⟨fun r9 n_0 n_1 n_2 n_3 n_4 => (dz_tr (o_5 r9 n_0) (dz_tr (fr_L159 r9 n_4) (dz_tr (o_4 r9 n_4) (dz_tr (o_3 r9 n_3) (dz_tr (o_2 r9 n_2) (dz_tr (o_1 r9 n_1) (fr_118_1 r9 n_0))))))), rfl, ?_⟩
        have z := ((o_5 _ (dz_n rfl)).1.trans wl1)
        rw [ha9] at z
        exact ⟨rfl, w_5, ((o_5 _ (dz_n rfl)).1.trans ((fr_L159 _ (dz_n2 (by decide))).1.trans ((o_4 _ (dz_n2 (by decide))).1.trans ((o_3 _ (dz_n2 (by decide))).1.trans ((o_2 _ (dz_n2 (by decide))).1.trans w_1))))), ((o_5 _ (dz_n rfl)).1.trans ((fr_L159 _ (dz_n2 (by decide))).1.trans ((o_4 _ (dz_n2 (by decide))).1.trans ((o_3 _ (dz_n2 (by decide))).1.trans w_2)))), ((o_5 _ (dz_n rfl)).1.trans ((fr_L159 _ (dz_n2 (by decide))).1.trans ((o_4 _ (dz_n2 (by decide))).1.trans w_3))), z⟩
      · have hlta : a < nf := by
          rcases Nat.lt_or_ge a (nf) with q | q
          · exact q
          · exact absurd ((nI_leI (by omega) (by omega)).mpr q) c_165
        refine lv_iconst (v := 0) hx hb dX9_source_168 (by decide) ?_
        refine lv_istore (lv' := [(7, .int 0), (6, .int (nI a)), (5, .int (m_tk (dz_b (ns = 5)) f12 f13 v1 v2 k)), (4, .int 1), (0, .ref aM), (1, .int v1), (2, .int v2), (3, .int v3)]) hx hb dX9_source_169 hl (by decide) rfl (fun ls hl => ?_)
        refine dz_lw (α := Nat × dzW × Array Slot) (fun a9 => (fun (b : Nat) (G_L171 : dzW) (ls : Array Slot) => 6 - b) a9.1 a9.2.1 a9.2.2) (fun a9 H locs => (fun (b : Nat) (G_L171 : dzW) (ls : Array Slot) => (b ≤ 6) ∧ (∀ r9 : dzR, r9 ≠ (40, 31) → G_L171 r9 = G_L159 r9 ∧ ad r9 = ad r9) ∧ (G_L171 (40, 31) = some (eI Z 1800 (m_cl ns f31 a b))) ∧ dz_w Z G_L171 ad H ∧ va_S (dz_A Z) s.heap H locs ∧ lv_has ls 8 [(7, .int (nI b)), (6, .int (nI a)), (5, .int (m_tk (dz_b (ns = 5)) f12 f13 v1 v2 k)), (4, .int 1), (0, .ref aM), (1, .int v1), (2, .int v2), (3, .int v3)]) a9.1 a9.2.1 a9.2.2) (fun a9 => F0 m 171 a9.2.2 []) (fun a9 H locs hI ih_171 => ?_) (0, G_L159, ls) ⟨(Nat.zero_le _), (fun r9 _ => ⟨rfl, rfl⟩), wl1, hG, hS, lv_sub hl [0, 1, 2, 3, 4, 5, 6, 7] rfl⟩
        obtain ⟨b, G_L171, ls⟩ := a9
        obtain ⟨hbl, fr_L171, wl2, hG, hS, hl⟩ := hI
        have hbl : b ≤ 6 := hbl
        have fr_L171 : ∀ r9 : dzR, r9 ≠ (40, 31) → G_L171 r9 = G_L159 r9 ∧ ad r9 = ad r9 := fr_L171
        have wl2 : G_L171 (40, 31) = some (eI Z 1800 (m_cl ns f31 a b)) := wl2
        have hG : dz_w Z G_L171 ad H := hG
        have hS : va_S (dz_A Z) s.heap H locs := hS
        have hl : lv_has ls 8 [(7, .int (nI b)), (6, .int (nI a)), (5, .int (m_tk (dz_b (ns = 5)) f12 f13 v1 v2 k)), (4, .int 1), (0, .ref aM), (1, .int v1), (2, .int v2), (3, .int v3)] := hl
        refine lv_iload hx hb dX9_source_171 (lv_at hl 0 rfl) ?_
        refine lv_bipush (v := 6) hx hb dX9_source_173 (by decide) ?_
        refine lv_icmp_ge (tgt := 205) hx hb dX9_source_175 (by decide) (fun c_175 => ?_) (fun c_175 => ?_)
        · have hb69 : b = 6 := by have := (nI_leI (a := 6) (by omega) (by omega)).mp c_175; omega
          obtain ⟨v_7, ev_7⟩ : ∃ y : Int32, y = (nI a) + 1 := ⟨_, rfl⟩
          refine lv_iinc (v := v_7) (lv' := [(6, .int v_7), (7, .int (nI b)), (5, .int (m_tk (dz_b (ns = 5)) f12 f13 v1 v2 k)), (4, .int 1), (0, .ref aM), (1, .int v1), (2, .int v2), (3, .int v3)]) hx hb dX9_source_205 hl (k := 1) rfl (by rw [ev_7]; rfl) (by decide) rfl (fun ls hl => ?_)
          refine lv_goto (tgt := 159) hx hb dX9_source_208 (by decide) ?_
          obtain rfl : v_7 = nI (a + 1) := ev_7.trans (nI_1 a)
          exact ih_159 (a + 1, G_L171, ls) _ _ (by first | (dsimp only; omega) | omega) ⟨(by omega), (fun r9 n_0 => (dz_tr (fr_L171 r9 n_0) (fr_L159 r9 n_0))), (by have z := wl2; rw [hb69, m_cl_6] at z; exact z), hG, hS, lv_sub hl [0, 2, 3, 4, 5, 6, 7] rfl⟩
        · have hltb : b < 6 := by
            rcases Nat.lt_or_ge b (6) with q | q
            · exact q
            · exact absurd ((nI_leI (a := 6) (by omega) (by omega)).mpr q) c_175
          refine lv_aload_n hx hb dX9_source_178 rfl (lv_at hl 4 rfl) ?_
          refine dz_get hx hb hts (fun _ h => List.mem_cons_of_mem _ (List.mem_append_right _ h)) hown hE hG ((fr_L171 _ (dz_n rfl)).2.trans ((fr_L159 _ (dz_n rfl)).2.trans ((o_4 _ (dz_n rfl)).2.trans ((o_3 _ (dz_n rfl)).2.trans ((o_2 _ (dz_n rfl)).2.trans ((o_1 _ (dz_n rfl)).2.trans ha)))))) ((fr_L171 _ (dz_n rfl)).1.trans ((fr_L159 _ (dz_n rfl)).1.trans ((o_4 _ (dz_n rfl)).1.trans ((o_3 _ (dz_n rfl)).1.trans ((o_2 _ (dz_n rfl)).1.trans ((o_1 _ (dz_n rfl)).1.trans g_118_1)))))) rfl 31 (by decide) (hts _ (List.mem_of_getElem? (i := 6) rfl)) (fun _ h9 => h9) rfl dX9_source_179 ?_
          refine lv_bipush (v := 6) hx hb dX9_source_182 (by decide) ?_
          refine lv_iconst (v := 5) hx hb dX9_source_184 (by decide) ?_
          refine lv_iload hx hb dX9_source_185 (lv_at hl 1 rfl) ?_
          refine lv_imul hx hb dX9_source_187 ?_
          refine lv_aload_n hx hb dX9_source_188 rfl (lv_at hl 4 rfl) ?_
          refine dz_get hx hb hts (fun _ h => List.mem_cons_of_mem _ (List.mem_append_right _ h)) hown hE hG ((fr_L171 _ (dz_n rfl)).2.trans ((fr_L159 _ (dz_n rfl)).2.trans ((o_4 _ (dz_n rfl)).2.trans ((o_3 _ (dz_n rfl)).2.trans ((o_2 _ (dz_n rfl)).2.trans ((o_1 _ (dz_n rfl)).2.trans ha)))))) ((fr_L171 _ (dz_n rfl)).1.trans ((fr_L159 _ (dz_n rfl)).1.trans ((o_4 _ (dz_n rfl)).1.trans ((o_3 _ (dz_n rfl)).1.trans ((o_2 _ (dz_n rfl)).1.trans ((o_1 _ (dz_n rfl)).1.trans g_118_1)))))) rfl 11 (by decide) (hts _ (List.mem_of_getElem? (i := 1) rfl)) (fun _ h9 => h9) rfl dX9_source_189 ?_
          refine lv_iadd hx hb dX9_source_192 ?_
          refine lv_imul hx hb dX9_source_193 ?_
          refine lv_iload hx hb dX9_source_194 (lv_at hl 0 rfl) ?_
          refine lv_iadd hx hb dX9_source_196 ?_
          refine lv_topi (fun v_8 ev_8 => ?_)
          obtain rfl : v_8 = nI (30 * a + 6 * ns + b) := ev_8.trans (fl_sh a (by omega) ns (by omega) b (by omega))
          refine lv_iconst (v := (-1)) hx hb dX9_source_197 (by decide) ?_
          refine dz_iast hx hb hE hG ((o_3 _ (dz_n2 (by decide))).2.trans ((o_2 _ (dz_n2 (by decide))).2.trans ((o_1 _ (dz_n2 (by decide))).2.trans ((fr_118_1 _ (dz_n rfl)).2.trans rfl)))) hS wl2 (vp_in_nI (by omega) (by decide)) dX9_source_198 (fun H locs hG hS => ?_)
          rw [nI_clamp (show 30 * a + 6 * ns + b < 2 ^ 31 by omega)] at hG
          obtain ⟨G_6, hG, w_6, o_6⟩ := dz_nm hG
          obtain ⟨v_9, ev_9⟩ : ∃ y : Int32, y = (nI b) + 1 := ⟨_, rfl⟩
          refine lv_iinc (v := v_9) (lv' := [(7, .int v_9), (6, .int (nI a)), (5, .int (m_tk (dz_b (ns = 5)) f12 f13 v1 v2 k)), (4, .int 1), (0, .ref aM), (1, .int v1), (2, .int v2), (3, .int v3)]) hx hb dX9_source_199 hl (k := 0) rfl (by rw [ev_9]; rfl) (by decide) rfl (fun ls hl => ?_)
          refine lv_goto (tgt := 171) hx hb dX9_source_202 (by decide) ?_
          obtain rfl : v_9 = nI (b + 1) := ev_9.trans (nI_1 b)
          exact ih_171 (b + 1, G_6, ls) _ _ (by first | (dsimp only; omega) | omega) ⟨(by omega), (fun r9 n_0 => (dz_tr (o_6 r9 n_0) (fr_L171 r9 n_0))), (by have z := w_6; rw [m_cl_s (by omega) (by omega)] at z; exact z), hG, hS, lv_sub hl [0, 1, 2, 3, 4, 5, 6, 7] rfl⟩
    · have hltk : k < ns := by
        rcases Nat.lt_or_ge k (ns) with q | q
        · exact q
        · exact absurd ((nI_leI (by omega) (by omega)).mpr q) c_55
      refine lv_iload hx hb dX9_source_58 (lv_at hl 1 rfl) ?_
      refine lv_if_ne (tgt := 85) hx hb dX9_source_60 (by decide) (fun c_60 => ?_) (fun c_60 => ?_)
      · have hst : m_tk (dz_b (ns = 5)) f12 f13 v1 v2 (k + 1) = 1 := if_pos c_60
        refine lv_iconst (v := 1) hx hb dX9_source_85 (by decide) ?_
        refine lv_goto (tgt := 90) hx hb dX9_source_86 (by decide) ?_
        refine lv_topi (fun v_10 ev_10 => ?_)
        obtain rfl : v_10 = m_tk (dz_b (ns = 5)) f12 f13 v1 v2 (k + 1) := ev_10.trans hst.symm
        refine lv_istore (lv' := [(5, .int (m_tk (dz_b (ns = 5)) f12 f13 v1 v2 (k + 1))), (6, .int (nI k)), (4, .int 1), (0, .ref aM), (1, .int v1), (2, .int v2), (3, .int v3)]) hx hb dX9_source_90 hl (by decide) rfl (fun ls hl => ?_)
        obtain ⟨v_11, ev_11⟩ : ∃ y : Int32, y = (nI k) + 1 := ⟨_, rfl⟩
        refine lv_iinc (v := v_11) (lv' := [(6, .int v_11), (5, .int (m_tk (dz_b (ns = 5)) f12 f13 v1 v2 (k + 1))), (4, .int 1), (0, .ref aM), (1, .int v1), (2, .int v2), (3, .int v3)]) hx hb dX9_source_92 hl (k := 1) rfl (by rw [ev_11]; rfl) (by decide) rfl (fun ls hl => ?_)
        refine lv_goto (tgt := 49) hx hb dX9_source_95 (by decide) ?_
        obtain rfl : v_11 = nI (k + 1) := ev_11.trans (nI_1 k)
        exact ih_49 (k + 1, ls) (by first | (dsimp only; omega) | omega) ⟨(by omega), lv_sub hl [0, 1, 2, 3, 4, 5, 6] rfl⟩
      · refine lv_aload_n hx hb dX9_source_63 rfl (lv_at hl 3 rfl) ?_
        refine dz_get hx hb hts (fun _ h => List.mem_cons_of_mem _ (List.mem_append_right _ h)) hown hE hG ha ho rfl 12 (by decide) (hts _ (List.mem_of_getElem? (i := 2) rfl)) (fun _ h9 => h9) rfl dX9_source_64 ?_
        refine lv_iload hx hb dX9_source_67 (lv_at hl 0 rfl) ?_
        refine dz_iald hx hb hE hG rfl h12 (vp_in_nI (by omega) (by decide)) dX9_source_69 ?_
        refine lv_topi (fun v_12 ev_12 => ?_)
        obtain rfl : v_12 = f12 k := ev_12.trans (by rw [nI_clamp (by omega)])
        refine lv_iload_n hx hb dX9_source_70 rfl (lv_at hl 4 rfl) ?_
        refine lv_icmp_ne (tgt := 89) hx hb dX9_source_71 (by decide) (fun c_71 => ?_) (fun c_71 => ?_)
        · have hst : m_tk (dz_b (ns = 5)) f12 f13 v1 v2 (k + 1) = 0 := (if_neg (fun z => z c_60)).trans (if_neg (fun z => c_71 z.1))
          refine lv_iconst (v := 0) hx hb dX9_source_89 (by decide) ?_
          refine lv_topi (fun v_13 ev_13 => ?_)
          obtain rfl : v_13 = m_tk (dz_b (ns = 5)) f12 f13 v1 v2 (k + 1) := ev_13.trans hst.symm
          refine lv_istore (lv' := [(5, .int (m_tk (dz_b (ns = 5)) f12 f13 v1 v2 (k + 1))), (6, .int (nI k)), (4, .int 1), (0, .ref aM), (1, .int v1), (2, .int v2), (3, .int v3)]) hx hb dX9_source_90 hl (by decide) rfl (fun ls hl => ?_)
          obtain ⟨v_14, ev_14⟩ : ∃ y : Int32, y = (nI k) + 1 := ⟨_, rfl⟩
          refine lv_iinc (v := v_14) (lv' := [(6, .int v_14), (5, .int (m_tk (dz_b (ns = 5)) f12 f13 v1 v2 (k + 1))), (4, .int 1), (0, .ref aM), (1, .int v1), (2, .int v2), (3, .int v3)]) hx hb dX9_source_92 hl (k := 1) rfl (by rw [ev_14]; rfl) (by decide) rfl (fun ls hl => ?_)
          refine lv_goto (tgt := 49) hx hb dX9_source_95 (by decide) ?_
          obtain rfl : v_14 = nI (k + 1) := ev_14.trans (nI_1 k)
          exact ih_49 (k + 1, ls) (by first | (dsimp only; omega) | omega) ⟨(by omega), lv_sub hl [0, 1, 2, 3, 4, 5, 6] rfl⟩
        · refine lv_aload_n hx hb dX9_source_74 rfl (lv_at hl 3 rfl) ?_
          refine dz_get hx hb hts (fun _ h => List.mem_cons_of_mem _ (List.mem_append_right _ h)) hown hE hG ha ho rfl 13 (by decide) (hts _ (List.mem_of_getElem? (i := 3) rfl)) (fun _ h9 => h9) rfl dX9_source_75 ?_
          refine lv_iload hx hb dX9_source_78 (lv_at hl 0 rfl) ?_
          refine dz_iald hx hb hE hG rfl h13 (vp_in_nI (by omega) (by decide)) dX9_source_80 ?_
          refine lv_topi (fun v_15 ev_15 => ?_)
          obtain rfl : v_15 = f13 k := ev_15.trans (by rw [nI_clamp (by omega)])
          refine lv_iload_n hx hb dX9_source_81 rfl (lv_at hl 5 rfl) ?_
          refine lv_icmp_ne (tgt := 89) hx hb dX9_source_82 (by decide) (fun c_82 => ?_) (fun c_82 => ?_)
          · have hst : m_tk (dz_b (ns = 5)) f12 f13 v1 v2 (k + 1) = 0 := (if_neg (fun z => z c_60)).trans (if_neg (fun z => c_82 z.2))
            refine lv_iconst (v := 0) hx hb dX9_source_89 (by decide) ?_
            refine lv_topi (fun v_16 ev_16 => ?_)
            obtain rfl : v_16 = m_tk (dz_b (ns = 5)) f12 f13 v1 v2 (k + 1) := ev_16.trans hst.symm
            refine lv_istore (lv' := [(5, .int (m_tk (dz_b (ns = 5)) f12 f13 v1 v2 (k + 1))), (6, .int (nI k)), (4, .int 1), (0, .ref aM), (1, .int v1), (2, .int v2), (3, .int v3)]) hx hb dX9_source_90 hl (by decide) rfl (fun ls hl => ?_)
            obtain ⟨v_17, ev_17⟩ : ∃ y : Int32, y = (nI k) + 1 := ⟨_, rfl⟩
            refine lv_iinc (v := v_17) (lv' := [(6, .int v_17), (5, .int (m_tk (dz_b (ns = 5)) f12 f13 v1 v2 (k + 1))), (4, .int 1), (0, .ref aM), (1, .int v1), (2, .int v2), (3, .int v3)]) hx hb dX9_source_92 hl (k := 1) rfl (by rw [ev_17]; rfl) (by decide) rfl (fun ls hl => ?_)
            refine lv_goto (tgt := 49) hx hb dX9_source_95 (by decide) ?_
            obtain rfl : v_17 = nI (k + 1) := ev_17.trans (nI_1 k)
            exact ih_49 (k + 1, ls) (by first | (dsimp only; omega) | omega) ⟨(by omega), lv_sub hl [0, 1, 2, 3, 4, 5, 6] rfl⟩
          · have hst : m_tk (dz_b (ns = 5)) f12 f13 v1 v2 (k + 1) = 1 := (if_neg (fun z => z c_60)).trans (if_pos ⟨c_71, c_82⟩)
            refine lv_iconst (v := 1) hx hb dX9_source_85 (by decide) ?_
            refine lv_goto (tgt := 90) hx hb dX9_source_86 (by decide) ?_
            refine lv_topi (fun v_18 ev_18 => ?_)
            obtain rfl : v_18 = m_tk (dz_b (ns = 5)) f12 f13 v1 v2 (k + 1) := ev_18.trans hst.symm
            refine lv_istore (lv' := [(5, .int (m_tk (dz_b (ns = 5)) f12 f13 v1 v2 (k + 1))), (6, .int (nI k)), (4, .int 1), (0, .ref aM), (1, .int v1), (2, .int v2), (3, .int v3)]) hx hb dX9_source_90 hl (by decide) rfl (fun ls hl => ?_)
            obtain ⟨v_19, ev_19⟩ : ∃ y : Int32, y = (nI k) + 1 := ⟨_, rfl⟩
            refine lv_iinc (v := v_19) (lv' := [(6, .int v_19), (5, .int (m_tk (dz_b (ns = 5)) f12 f13 v1 v2 (k + 1))), (4, .int 1), (0, .ref aM), (1, .int v1), (2, .int v2), (3, .int v3)]) hx hb dX9_source_92 hl (k := 1) rfl (by rw [ev_19]; rfl) (by decide) rfl (fun ls hl => ?_)
            refine lv_goto (tgt := 49) hx hb dX9_source_95 (by decide) ?_
            obtain rfl : v_19 = nI (k + 1) := ev_19.trans (nI_1 k)
            exact ih_49 (k + 1, ls) (by first | (dsimp only; omega) | omega) ⟨(by omega), lv_sub hl [0, 1, 2, 3, 4, 5, 6] rfl⟩
  · refine lv_iconst (v := 1) hx hb dX9_source_39 (by decide) ?_
    refine lv_goto (tgt := 44) hx hb dX9_source_40 (by decide) ?_
    refine lv_topi (fun v_20 ev_20 => ?_)
    obtain rfl : v_20 = dz_b (ns = 5) := ev_20.trans (by first | exact (dz_b1 ((nI_e (b := 5) (by omega) (by omega)).mp c_36)).symm | exact (dz_b0 (fun z => c_36 (by rw [z]; rfl))).symm)
    refine lv_istore (lv' := [(5, .int (dz_b (ns = 5))), (4, .int 1), (0, .ref aM), (1, .int v1), (2, .int v2), (3, .int v3)]) hx hb dX9_source_44 hl (by decide) rfl (fun ls hl => ?_)
    refine lv_iconst (v := 0) hx hb dX9_source_46 (by decide) ?_
    refine lv_istore (lv' := [(6, .int 0), (5, .int (dz_b (ns = 5))), (4, .int 1), (0, .ref aM), (1, .int v1), (2, .int v2), (3, .int v3)]) hx hb dX9_source_47 hl (by decide) rfl (fun ls hl => ?_)
    refine dz_lp (α := Nat × Array Slot) (fun a9 => (fun (k : Nat) (ls : Array Slot) => ns - k) a9.1 a9.2) (fun a9 => (fun (k : Nat) (ls : Array Slot) => (k ≤ ns) ∧ lv_has ls 8 [(6, .int (nI k)), (5, .int (m_tk (dz_b (ns = 5)) f12 f13 v1 v2 k)), (4, .int 1), (0, .ref aM), (1, .int v1), (2, .int v2), (3, .int v3)]) a9.1 a9.2) (fun a9 => F0 m 49 a9.2 []) (fun a9 hI ih_49 => ?_) (0, ls) ⟨(Nat.zero_le _), lv_sub hl [0, 1, 2, 3, 4, 5, 6] rfl⟩
    obtain ⟨k, ls⟩ := a9
    obtain ⟨hk, hl⟩ := hI
    have hk : k ≤ ns := hk
    have hl : lv_has ls 8 [(6, .int (nI k)), (5, .int (m_tk (dz_b (ns = 5)) f12 f13 v1 v2 k)), (4, .int 1), (0, .ref aM), (1, .int v1), (2, .int v2), (3, .int v3)] := hl
    refine lv_iload hx hb dX9_source_49 (lv_at hl 0 rfl) ?_
    refine lv_aload_n hx hb dX9_source_51 rfl (lv_at hl 3 rfl) ?_
    refine dz_get hx hb hts (fun _ h => List.mem_cons_of_mem _ (List.mem_append_right _ h)) hown hE hG ha ho rfl 11 (by decide) (hts _ (List.mem_of_getElem? (i := 1) rfl)) (fun _ h9 => h9) rfl dX9_source_52 ?_
    refine lv_icmp_ge (tgt := 98) hx hb dX9_source_55 (by decide) (fun c_55 => ?_) (fun c_55 => ?_)
    · have hk9 : k = ns := by have := (nI_leI (by omega) (by omega)).mp c_55; omega
      refine lv_aload_n hx hb dX9_source_98 rfl (lv_at hl 3 rfl) ?_
      refine lv_iload hx hb dX9_source_99 (lv_at hl 2 rfl) ?_
      refine lv_if_ne (tgt := 108) hx hb dX9_source_101 (by decide) (fun c_101 => ?_) (fun c_101 => absurd c_101 (by decide))
      refine lv_iload hx hb dX9_source_108 (lv_at hl 1 rfl) ?_
      refine lv_if_eq (tgt := 117) hx hb dX9_source_110 (by decide) (fun c_110 => ?_) (fun c_110 => absurd (by rw [hk9]; exact htk) c_110)
      refine lv_iconst (v := 0) hx hb dX9_source_117 (by decide) ?_
      refine dz_kMi (va_runV (As := [_]) ⟨hx, hb, hml, hown, hts⟩ (c_X9_refused l Z _ _ _ _ _ _ _ _ _ _ _ _ _ _ _ _ _ _ _ ha ho) (cwV 1 hts gX9_source_X9_refused rfl rfl rfl (by decide +kernel) ⟨Nat.le_of_ble_eq_true rfl, Nat.le_of_ble_eq_true rfl⟩) (dz_P.preV hE hS hG ho rfl ha) rfl rfl hl.1 rfl (lv_room (Nat.le_of_ble_eq_true rfl)) dX9_source_118 ⟨Nat.le_of_ble_eq_true rfl, Nat.le_of_ble_eq_true rfl⟩) hS (fun x_118_2 G_118_2 ad_118_2 H locs hp_118_2 hG hS => ?_)
      obtain ⟨fr_118_2, rfl, x9_118_2, g_118_2⟩ := hp_118_2
      obtain rfl : x_118_2 = 0 := x9_118_2.trans (by decide)
      refine lv_if_eq (tgt := 126) hx hb dX9_source_121 (by decide) (fun c_121 => ?_) (fun c_121 => absurd (by decide) c_121)
      refine lv_aload_n hx hb dX9_source_126 rfl (lv_at hl 3 rfl) ?_
      refine dz_get hx hb hts (fun _ h => List.mem_cons_of_mem _ (List.mem_append_right _ h)) hown hE hG ha g_118_2 rfl 12 (by decide) (hts _ (List.mem_of_getElem? (i := 2) rfl)) (fun _ h9 => h9) rfl dX9_source_127 ?_
      refine lv_aload_n hx hb dX9_source_130 rfl (lv_at hl 3 rfl) ?_
      refine dz_get hx hb hts (fun _ h => List.mem_cons_of_mem _ (List.mem_append_right _ h)) hown hE hG ha g_118_2 rfl 11 (by decide) (hts _ (List.mem_of_getElem? (i := 1) rfl)) (fun _ h9 => h9) rfl dX9_source_131 ?_
      refine lv_iload_n hx hb dX9_source_134 rfl (lv_at hl 4 rfl) ?_
      refine dz_iast hx hb hE hG ((fr_118_2 _ (dz_n rfl)).2.trans rfl) hS ((fr_118_2 _ (dz_n rfl)).1.trans h12) (vp_in_nI (by omega) (by decide)) dX9_source_135 (fun H locs hG hS => ?_)
      rw [nI_clamp (show ns < 2 ^ 31 by omega)] at hG
      obtain ⟨G_7, hG, w_7, o_7⟩ := dz_nm hG
      refine lv_aload_n hx hb dX9_source_136 rfl (lv_at hl 3 rfl) ?_
      refine dz_get hx hb hts (fun _ h => List.mem_cons_of_mem _ (List.mem_append_right _ h)) hown hE hG ((o_7 _ (dz_n rfl)).2.trans ha) ((o_7 _ (dz_n rfl)).1.trans g_118_2) rfl 13 (by decide) (hts _ (List.mem_of_getElem? (i := 3) rfl)) (fun _ h9 => h9) rfl dX9_source_137 ?_
      refine lv_aload_n hx hb dX9_source_140 rfl (lv_at hl 3 rfl) ?_
      refine dz_get hx hb hts (fun _ h => List.mem_cons_of_mem _ (List.mem_append_right _ h)) hown hE hG ((o_7 _ (dz_n rfl)).2.trans ha) ((o_7 _ (dz_n rfl)).1.trans g_118_2) rfl 11 (by decide) (hts _ (List.mem_of_getElem? (i := 1) rfl)) (fun _ h9 => h9) rfl dX9_source_141 ?_
      refine lv_iload_n hx hb dX9_source_144 rfl (lv_at hl 5 rfl) ?_
      refine dz_iast hx hb hE hG ((o_7 _ (dz_n2 (by decide))).2.trans ((fr_118_2 _ (dz_n rfl)).2.trans rfl)) hS ((o_7 _ (dz_n2 (by decide))).1.trans ((fr_118_2 _ (dz_n rfl)).1.trans h13)) (vp_in_nI (by omega) (by decide)) dX9_source_145 (fun H locs hG hS => ?_)
      rw [nI_clamp (show ns < 2 ^ 31 by omega)] at hG
      obtain ⟨G_8, hG, w_8, o_8⟩ := dz_nm hG
      refine lv_aload_n hx hb dX9_source_146 rfl (lv_at hl 3 rfl) ?_
      refine dz_get hx hb hts (fun _ h => List.mem_cons_of_mem _ (List.mem_append_right _ h)) hown hE hG ((o_8 _ (dz_n rfl)).2.trans ((o_7 _ (dz_n rfl)).2.trans ha)) ((o_8 _ (dz_n rfl)).1.trans ((o_7 _ (dz_n rfl)).1.trans g_118_2)) rfl 14 (by decide) (hts _ (List.mem_of_getElem? (i := 4) rfl)) (fun _ h9 => h9) rfl dX9_source_147 ?_
      refine lv_aload_n hx hb dX9_source_150 rfl (lv_at hl 3 rfl) ?_
      refine dz_get hx hb hts (fun _ h => List.mem_cons_of_mem _ (List.mem_append_right _ h)) hown hE hG ((o_8 _ (dz_n rfl)).2.trans ((o_7 _ (dz_n rfl)).2.trans ha)) ((o_8 _ (dz_n rfl)).1.trans ((o_7 _ (dz_n rfl)).1.trans g_118_2)) rfl 11 (by decide) (hts _ (List.mem_of_getElem? (i := 1) rfl)) (fun _ h9 => h9) rfl dX9_source_151 ?_
      refine lv_iload_n hx hb dX9_source_154 rfl (lv_at hl 6 rfl) ?_
      refine dz_iast hx hb hE hG ((o_8 _ (dz_n2 (by decide))).2.trans ((o_7 _ (dz_n2 (by decide))).2.trans ((fr_118_2 _ (dz_n rfl)).2.trans rfl))) hS ((o_8 _ (dz_n2 (by decide))).1.trans ((o_7 _ (dz_n2 (by decide))).1.trans ((fr_118_2 _ (dz_n rfl)).1.trans h14))) (vp_in_nI (by omega) (by decide)) dX9_source_155 (fun H locs hG hS => ?_)
      rw [nI_clamp (show ns < 2 ^ 31 by omega)] at hG
      obtain ⟨G_9, hG, w_9, o_9⟩ := dz_nm hG
      refine lv_iconst (v := 0) hx hb dX9_source_156 (by decide) ?_
      refine lv_istore (lv' := [(6, .int 0), (5, .int (m_tk (dz_b (ns = 5)) f12 f13 v1 v2 k)), (4, .int 1), (0, .ref aM), (1, .int v1), (2, .int v2), (3, .int v3)]) hx hb dX9_source_157 hl (by decide) rfl (fun ls hl => ?_)
      obtain ⟨G_10, hG, w_10, o_10⟩ := dz_re (m_cl ns f31 0 0) hG ((o_9 _ (dz_n2 (by decide))).1.trans ((o_8 _ (dz_n2 (by decide))).1.trans ((o_7 _ (dz_n2 (by decide))).1.trans ((fr_118_2 _ (dz_n rfl)).1.trans h31)))) (fun j hj => m_cl_0 j)
      refine dz_lw (α := Nat × dzW × Array Slot) (fun a9 => (fun (a : Nat) (G_L159 : dzW) (ls : Array Slot) => nf - a) a9.1 a9.2.1 a9.2.2) (fun a9 H locs => (fun (a : Nat) (G_L159 : dzW) (ls : Array Slot) => (a ≤ nf) ∧ (∀ r9 : dzR, r9 ≠ (40, 31) → G_L159 r9 = G_10 r9 ∧ ad r9 = ad r9) ∧ (G_L159 (40, 31) = some (eI Z 1800 (m_cl ns f31 a 0))) ∧ dz_w Z G_L159 ad H ∧ va_S (dz_A Z) s.heap H locs ∧ lv_has ls 8 [(6, .int (nI a)), (5, .int (m_tk (dz_b (ns = 5)) f12 f13 v1 v2 k)), (4, .int 1), (0, .ref aM), (1, .int v1), (2, .int v2), (3, .int v3)]) a9.1 a9.2.1 a9.2.2) (fun a9 => F0 m 159 a9.2.2 []) (fun a9 H locs hI ih_159 => ?_) (0, G_10, ls) ⟨(Nat.zero_le _), (fun r9 _ => ⟨rfl, rfl⟩), w_10, hG, hS, lv_sub hl [0, 1, 2, 3, 4, 5, 6] rfl⟩
      obtain ⟨a, G_L159, ls⟩ := a9
      obtain ⟨hal, fr_L159, wl1, hG, hS, hl⟩ := hI
      have hal : a ≤ nf := hal
      have fr_L159 : ∀ r9 : dzR, r9 ≠ (40, 31) → G_L159 r9 = G_10 r9 ∧ ad r9 = ad r9 := fr_L159
      have wl1 : G_L159 (40, 31) = some (eI Z 1800 (m_cl ns f31 a 0)) := wl1
      have hG : dz_w Z G_L159 ad H := hG
      have hS : va_S (dz_A Z) s.heap H locs := hS
      have hl : lv_has ls 8 [(6, .int (nI a)), (5, .int (m_tk (dz_b (ns = 5)) f12 f13 v1 v2 k)), (4, .int 1), (0, .ref aM), (1, .int v1), (2, .int v2), (3, .int v3)] := hl
      refine lv_iload hx hb dX9_source_159 (lv_at hl 0 rfl) ?_
      refine lv_aload_n hx hb dX9_source_161 rfl (lv_at hl 3 rfl) ?_
      refine dz_get hx hb hts (fun _ h => List.mem_cons_of_mem _ (List.mem_append_right _ h)) hown hE hG ((fr_L159 _ (dz_n rfl)).2.trans ((o_10 _ (dz_n rfl)).2.trans ((o_9 _ (dz_n rfl)).2.trans ((o_8 _ (dz_n rfl)).2.trans ((o_7 _ (dz_n rfl)).2.trans ha))))) ((fr_L159 _ (dz_n rfl)).1.trans ((o_10 _ (dz_n rfl)).1.trans ((o_9 _ (dz_n rfl)).1.trans ((o_8 _ (dz_n rfl)).1.trans ((o_7 _ (dz_n rfl)).1.trans g_118_2))))) rfl 29 (by decide) (hts _ (List.mem_of_getElem? (i := 5) rfl)) (fun _ h9 => h9) rfl dX9_source_162 ?_
      refine lv_icmp_ge (tgt := 211) hx hb dX9_source_165 (by decide) (fun c_165 => ?_) (fun c_165 => ?_)
      · have ha9 : a = nf := by have := (nI_leI (by omega) (by omega)).mp c_165; omega
        refine lv_aload_n hx hb dX9_source_211 rfl (lv_at hl 3 rfl) ?_
        refine lv_dup hx hb dX9_source_212 rfl ?_
        refine dz_get hx hb hts (fun _ h => List.mem_cons_of_mem _ (List.mem_append_right _ h)) hown hE hG ((fr_L159 _ (dz_n rfl)).2.trans ((o_10 _ (dz_n rfl)).2.trans ((o_9 _ (dz_n rfl)).2.trans ((o_8 _ (dz_n rfl)).2.trans ((o_7 _ (dz_n rfl)).2.trans ha))))) ((fr_L159 _ (dz_n rfl)).1.trans ((o_10 _ (dz_n rfl)).1.trans ((o_9 _ (dz_n rfl)).1.trans ((o_8 _ (dz_n rfl)).1.trans ((o_7 _ (dz_n rfl)).1.trans g_118_2))))) rfl 11 (by decide) (hts _ (List.mem_of_getElem? (i := 1) rfl)) (fun _ h9 => h9) rfl dX9_source_213 ?_
        refine lv_iconst (v := 1) hx hb dX9_source_216 (by decide) ?_
        refine lv_iadd hx hb dX9_source_217 ?_
        refine lv_topi (fun v_21 ev_21 => ?_)
        obtain rfl : v_21 = nI (ns + 1) := ev_21.trans (nI_1 ns)
        refine dz_put hx hb hts (fun _ h => List.mem_cons_of_mem _ (List.mem_append_right _ h)) tyX9 tyX9_ok nmX9 hown hE hG ((fr_L159 _ (dz_n rfl)).2.trans ((o_10 _ (dz_n rfl)).2.trans ((o_9 _ (dz_n rfl)).2.trans ((o_8 _ (dz_n rfl)).2.trans ((o_7 _ (dz_n rfl)).2.trans ha))))) hS ((fr_L159 _ (dz_n rfl)).1.trans ((o_10 _ (dz_n rfl)).1.trans ((o_9 _ (dz_n rfl)).1.trans ((o_8 _ (dz_n rfl)).1.trans ((o_7 _ (dz_n rfl)).1.trans g_118_2))))) rfl 11 (by decide) (hts _ (List.mem_of_getElem? (i := 1) rfl)) (fun _ h9 => h9) rfl (ty := .int) (by decide +kernel) rfl rfl (fs' := [.int 0, .int dy, .int (nI nm), .ref (ad (40, 3)), .ref (ad (40, 4)), .ref (ad (40, 5)), .ref (ad (40, 6)), .int td, .ref (ad (40, 8)), .ref (ad (40, 9)), .ref (ad (40, 10)), .int (nI (ns + 1)), .ref (ad (40, 12)), .ref (ad (40, 13)), .ref (ad (40, 14)), .int (nI nl), .ref (ad (40, 16)), .ref (ad (40, 17)), .ref (ad (40, 18)), .int (nI nx), .ref (ad (40, 20)), .ref (ad (40, 21)), .ref (ad (40, 22)), .ref (ad (40, 23)), .ref (ad (40, 24)), .int ssf, .int sst, .int cfr, .int grw, .int (nI nf), .ref (ad (40, 30)), .ref (ad (40, 31)), .int bkk, .ref (ad (40, 33)), .ref (ad (40, 34)), .ref (ad (40, 35)), .int iop, .ref (ad (40, 37)), .int (nI my)]) rfl (Nat.le_of_ble_eq_true rfl) dX9_source_218 (fun H locs hG hS => ?_)
        obtain ⟨G_11, hG, w_11, o_11⟩ := dz_nm hG
        refine lv_aload_n hx hb dX9_source_221 rfl (lv_at hl 3 rfl) ?_
        refine dz_get hx hb hts (fun _ h => List.mem_cons_of_mem _ (List.mem_append_right _ h)) hown hE hG ((fr_L159 _ (dz_n rfl)).2.trans ((o_10 _ (dz_n rfl)).2.trans ((o_9 _ (dz_n rfl)).2.trans ((o_8 _ (dz_n rfl)).2.trans ((o_7 _ (dz_n rfl)).2.trans ha))))) w_11 rfl 11 (by decide) (hts _ (List.mem_of_getElem? (i := 1) rfl)) (fun _ h9 => h9) rfl dX9_source_222 ?_
        refine lv_iconst (v := 1) hx hb dX9_source_225 (by decide) ?_
        refine lv_isub hx hb dX9_source_226 ?_
        refine lv_topi (fun v_22 ev_22 => ?_)
        obtain rfl : v_22 = nI ns := ev_22.trans ((pk_sub (a := ns + 1) (b := 1) (by omega)).trans (by rw [Nat.add_sub_cancel]))
        refine W.widen (k := 0) (n := 0) (by first | omega | decide) (by first | omega | decide) ?_
        refine W.iret hx hb hrt (fun t ht hW => dz_endM (f := rv_i) _ hE hS hG ?_ ht hW) (fun q h => hS.2.2 q h) dX9_source_227
        refine ⟨fun r9 n_0 n_1 n_2 n_3 n_4 => (dz_tr (o_11 r9 n_0) (dz_tr (fr_L159 r9 n_4) (dz_tr (o_10 r9 n_4) (dz_tr (o_9 r9 n_3) (dz_tr (o_8 r9 n_2) (dz_tr (o_7 r9 n_1) (fr_118_2 r9 n_0))))))), rfl, ?_⟩
        have z := ((o_11 _ (dz_n rfl)).1.trans wl1)
        rw [ha9] at z
        exact ⟨rfl, w_11, ((o_11 _ (dz_n rfl)).1.trans ((fr_L159 _ (dz_n2 (by decide))).1.trans ((o_10 _ (dz_n2 (by decide))).1.trans ((o_9 _ (dz_n2 (by decide))).1.trans ((o_8 _ (dz_n2 (by decide))).1.trans w_7))))), ((o_11 _ (dz_n rfl)).1.trans ((fr_L159 _ (dz_n2 (by decide))).1.trans ((o_10 _ (dz_n2 (by decide))).1.trans ((o_9 _ (dz_n2 (by decide))).1.trans w_8)))), ((o_11 _ (dz_n rfl)).1.trans ((fr_L159 _ (dz_n2 (by decide))).1.trans ((o_10 _ (dz_n2 (by decide))).1.trans w_9))), z⟩
      · have hlta : a < nf := by
          rcases Nat.lt_or_ge a (nf) with q | q
          · exact q
          · exact absurd ((nI_leI (by omega) (by omega)).mpr q) c_165
        refine lv_iconst (v := 0) hx hb dX9_source_168 (by decide) ?_
        refine lv_istore (lv' := [(7, .int 0), (6, .int (nI a)), (5, .int (m_tk (dz_b (ns = 5)) f12 f13 v1 v2 k)), (4, .int 1), (0, .ref aM), (1, .int v1), (2, .int v2), (3, .int v3)]) hx hb dX9_source_169 hl (by decide) rfl (fun ls hl => ?_)
        refine dz_lw (α := Nat × dzW × Array Slot) (fun a9 => (fun (b : Nat) (G_L171 : dzW) (ls : Array Slot) => 6 - b) a9.1 a9.2.1 a9.2.2) (fun a9 H locs => (fun (b : Nat) (G_L171 : dzW) (ls : Array Slot) => (b ≤ 6) ∧ (∀ r9 : dzR, r9 ≠ (40, 31) → G_L171 r9 = G_L159 r9 ∧ ad r9 = ad r9) ∧ (G_L171 (40, 31) = some (eI Z 1800 (m_cl ns f31 a b))) ∧ dz_w Z G_L171 ad H ∧ va_S (dz_A Z) s.heap H locs ∧ lv_has ls 8 [(7, .int (nI b)), (6, .int (nI a)), (5, .int (m_tk (dz_b (ns = 5)) f12 f13 v1 v2 k)), (4, .int 1), (0, .ref aM), (1, .int v1), (2, .int v2), (3, .int v3)]) a9.1 a9.2.1 a9.2.2) (fun a9 => F0 m 171 a9.2.2 []) (fun a9 H locs hI ih_171 => ?_) (0, G_L159, ls) ⟨(Nat.zero_le _), (fun r9 _ => ⟨rfl, rfl⟩), wl1, hG, hS, lv_sub hl [0, 1, 2, 3, 4, 5, 6, 7] rfl⟩
        obtain ⟨b, G_L171, ls⟩ := a9
        obtain ⟨hbl, fr_L171, wl2, hG, hS, hl⟩ := hI
        have hbl : b ≤ 6 := hbl
        have fr_L171 : ∀ r9 : dzR, r9 ≠ (40, 31) → G_L171 r9 = G_L159 r9 ∧ ad r9 = ad r9 := fr_L171
        have wl2 : G_L171 (40, 31) = some (eI Z 1800 (m_cl ns f31 a b)) := wl2
        have hG : dz_w Z G_L171 ad H := hG
        have hS : va_S (dz_A Z) s.heap H locs := hS
        have hl : lv_has ls 8 [(7, .int (nI b)), (6, .int (nI a)), (5, .int (m_tk (dz_b (ns = 5)) f12 f13 v1 v2 k)), (4, .int 1), (0, .ref aM), (1, .int v1), (2, .int v2), (3, .int v3)] := hl
        refine lv_iload hx hb dX9_source_171 (lv_at hl 0 rfl) ?_
        refine lv_bipush (v := 6) hx hb dX9_source_173 (by decide) ?_
        refine lv_icmp_ge (tgt := 205) hx hb dX9_source_175 (by decide) (fun c_175 => ?_) (fun c_175 => ?_)
        · have hb69 : b = 6 := by have := (nI_leI (a := 6) (by omega) (by omega)).mp c_175; omega
          obtain ⟨v_23, ev_23⟩ : ∃ y : Int32, y = (nI a) + 1 := ⟨_, rfl⟩
          refine lv_iinc (v := v_23) (lv' := [(6, .int v_23), (7, .int (nI b)), (5, .int (m_tk (dz_b (ns = 5)) f12 f13 v1 v2 k)), (4, .int 1), (0, .ref aM), (1, .int v1), (2, .int v2), (3, .int v3)]) hx hb dX9_source_205 hl (k := 1) rfl (by rw [ev_23]; rfl) (by decide) rfl (fun ls hl => ?_)
          refine lv_goto (tgt := 159) hx hb dX9_source_208 (by decide) ?_
          obtain rfl : v_23 = nI (a + 1) := ev_23.trans (nI_1 a)
          exact ih_159 (a + 1, G_L171, ls) _ _ (by first | (dsimp only; omega) | omega) ⟨(by omega), (fun r9 n_0 => (dz_tr (fr_L171 r9 n_0) (fr_L159 r9 n_0))), (by have z := wl2; rw [hb69, m_cl_6] at z; exact z), hG, hS, lv_sub hl [0, 2, 3, 4, 5, 6, 7] rfl⟩
        · have hltb : b < 6 := by
            rcases Nat.lt_or_ge b (6) with q | q
            · exact q
            · exact absurd ((nI_leI (a := 6) (by omega) (by omega)).mpr q) c_175
          refine lv_aload_n hx hb dX9_source_178 rfl (lv_at hl 4 rfl) ?_
          refine dz_get hx hb hts (fun _ h => List.mem_cons_of_mem _ (List.mem_append_right _ h)) hown hE hG ((fr_L171 _ (dz_n rfl)).2.trans ((fr_L159 _ (dz_n rfl)).2.trans ((o_10 _ (dz_n rfl)).2.trans ((o_9 _ (dz_n rfl)).2.trans ((o_8 _ (dz_n rfl)).2.trans ((o_7 _ (dz_n rfl)).2.trans ha)))))) ((fr_L171 _ (dz_n rfl)).1.trans ((fr_L159 _ (dz_n rfl)).1.trans ((o_10 _ (dz_n rfl)).1.trans ((o_9 _ (dz_n rfl)).1.trans ((o_8 _ (dz_n rfl)).1.trans ((o_7 _ (dz_n rfl)).1.trans g_118_2)))))) rfl 31 (by decide) (hts _ (List.mem_of_getElem? (i := 6) rfl)) (fun _ h9 => h9) rfl dX9_source_179 ?_
          refine lv_bipush (v := 6) hx hb dX9_source_182 (by decide) ?_
          refine lv_iconst (v := 5) hx hb dX9_source_184 (by decide) ?_
          refine lv_iload hx hb dX9_source_185 (lv_at hl 1 rfl) ?_
          refine lv_imul hx hb dX9_source_187 ?_
          refine lv_aload_n hx hb dX9_source_188 rfl (lv_at hl 4 rfl) ?_
          refine dz_get hx hb hts (fun _ h => List.mem_cons_of_mem _ (List.mem_append_right _ h)) hown hE hG ((fr_L171 _ (dz_n rfl)).2.trans ((fr_L159 _ (dz_n rfl)).2.trans ((o_10 _ (dz_n rfl)).2.trans ((o_9 _ (dz_n rfl)).2.trans ((o_8 _ (dz_n rfl)).2.trans ((o_7 _ (dz_n rfl)).2.trans ha)))))) ((fr_L171 _ (dz_n rfl)).1.trans ((fr_L159 _ (dz_n rfl)).1.trans ((o_10 _ (dz_n rfl)).1.trans ((o_9 _ (dz_n rfl)).1.trans ((o_8 _ (dz_n rfl)).1.trans ((o_7 _ (dz_n rfl)).1.trans g_118_2)))))) rfl 11 (by decide) (hts _ (List.mem_of_getElem? (i := 1) rfl)) (fun _ h9 => h9) rfl dX9_source_189 ?_
          refine lv_iadd hx hb dX9_source_192 ?_
          refine lv_imul hx hb dX9_source_193 ?_
          refine lv_iload hx hb dX9_source_194 (lv_at hl 0 rfl) ?_
          refine lv_iadd hx hb dX9_source_196 ?_
          refine lv_topi (fun v_24 ev_24 => ?_)
          obtain rfl : v_24 = nI (30 * a + 6 * ns + b) := ev_24.trans (fl_sh a (by omega) ns (by omega) b (by omega))
          refine lv_iconst (v := (-1)) hx hb dX9_source_197 (by decide) ?_
          refine dz_iast hx hb hE hG ((o_9 _ (dz_n2 (by decide))).2.trans ((o_8 _ (dz_n2 (by decide))).2.trans ((o_7 _ (dz_n2 (by decide))).2.trans ((fr_118_2 _ (dz_n rfl)).2.trans rfl)))) hS wl2 (vp_in_nI (by omega) (by decide)) dX9_source_198 (fun H locs hG hS => ?_)
          rw [nI_clamp (show 30 * a + 6 * ns + b < 2 ^ 31 by omega)] at hG
          obtain ⟨G_12, hG, w_12, o_12⟩ := dz_nm hG
          obtain ⟨v_25, ev_25⟩ : ∃ y : Int32, y = (nI b) + 1 := ⟨_, rfl⟩
          refine lv_iinc (v := v_25) (lv' := [(7, .int v_25), (6, .int (nI a)), (5, .int (m_tk (dz_b (ns = 5)) f12 f13 v1 v2 k)), (4, .int 1), (0, .ref aM), (1, .int v1), (2, .int v2), (3, .int v3)]) hx hb dX9_source_199 hl (k := 0) rfl (by rw [ev_25]; rfl) (by decide) rfl (fun ls hl => ?_)
          refine lv_goto (tgt := 171) hx hb dX9_source_202 (by decide) ?_
          obtain rfl : v_25 = nI (b + 1) := ev_25.trans (nI_1 b)
          exact ih_171 (b + 1, G_12, ls) _ _ (by first | (dsimp only; omega) | omega) ⟨(by omega), (fun r9 n_0 => (dz_tr (o_12 r9 n_0) (fr_L171 r9 n_0))), (by have z := w_12; rw [m_cl_s (by omega) (by omega)] at z; exact z), hG, hS, lv_sub hl [0, 1, 2, 3, 4, 5, 6, 7] rfl⟩
    · have hltk : k < ns := by
        rcases Nat.lt_or_ge k (ns) with q | q
        · exact q
        · exact absurd ((nI_leI (by omega) (by omega)).mpr q) c_55
      refine lv_iload hx hb dX9_source_58 (lv_at hl 1 rfl) ?_
      refine lv_if_ne (tgt := 85) hx hb dX9_source_60 (by decide) (fun c_60 => ?_) (fun c_60 => ?_)
      · have hst : m_tk (dz_b (ns = 5)) f12 f13 v1 v2 (k + 1) = 1 := if_pos c_60
        refine lv_iconst (v := 1) hx hb dX9_source_85 (by decide) ?_
        refine lv_goto (tgt := 90) hx hb dX9_source_86 (by decide) ?_
        refine lv_topi (fun v_26 ev_26 => ?_)
        obtain rfl : v_26 = m_tk (dz_b (ns = 5)) f12 f13 v1 v2 (k + 1) := ev_26.trans hst.symm
        refine lv_istore (lv' := [(5, .int (m_tk (dz_b (ns = 5)) f12 f13 v1 v2 (k + 1))), (6, .int (nI k)), (4, .int 1), (0, .ref aM), (1, .int v1), (2, .int v2), (3, .int v3)]) hx hb dX9_source_90 hl (by decide) rfl (fun ls hl => ?_)
        obtain ⟨v_27, ev_27⟩ : ∃ y : Int32, y = (nI k) + 1 := ⟨_, rfl⟩
        refine lv_iinc (v := v_27) (lv' := [(6, .int v_27), (5, .int (m_tk (dz_b (ns = 5)) f12 f13 v1 v2 (k + 1))), (4, .int 1), (0, .ref aM), (1, .int v1), (2, .int v2), (3, .int v3)]) hx hb dX9_source_92 hl (k := 1) rfl (by rw [ev_27]; rfl) (by decide) rfl (fun ls hl => ?_)
        refine lv_goto (tgt := 49) hx hb dX9_source_95 (by decide) ?_
        obtain rfl : v_27 = nI (k + 1) := ev_27.trans (nI_1 k)
        exact ih_49 (k + 1, ls) (by first | (dsimp only; omega) | omega) ⟨(by omega), lv_sub hl [0, 1, 2, 3, 4, 5, 6] rfl⟩
      · refine lv_aload_n hx hb dX9_source_63 rfl (lv_at hl 3 rfl) ?_
        refine dz_get hx hb hts (fun _ h => List.mem_cons_of_mem _ (List.mem_append_right _ h)) hown hE hG ha ho rfl 12 (by decide) (hts _ (List.mem_of_getElem? (i := 2) rfl)) (fun _ h9 => h9) rfl dX9_source_64 ?_
        refine lv_iload hx hb dX9_source_67 (lv_at hl 0 rfl) ?_
        refine dz_iald hx hb hE hG rfl h12 (vp_in_nI (by omega) (by decide)) dX9_source_69 ?_
        refine lv_topi (fun v_28 ev_28 => ?_)
        obtain rfl : v_28 = f12 k := ev_28.trans (by rw [nI_clamp (by omega)])
        refine lv_iload_n hx hb dX9_source_70 rfl (lv_at hl 4 rfl) ?_
        refine lv_icmp_ne (tgt := 89) hx hb dX9_source_71 (by decide) (fun c_71 => ?_) (fun c_71 => ?_)
        · have hst : m_tk (dz_b (ns = 5)) f12 f13 v1 v2 (k + 1) = 0 := (if_neg (fun z => z c_60)).trans (if_neg (fun z => c_71 z.1))
          refine lv_iconst (v := 0) hx hb dX9_source_89 (by decide) ?_
          refine lv_topi (fun v_29 ev_29 => ?_)
          obtain rfl : v_29 = m_tk (dz_b (ns = 5)) f12 f13 v1 v2 (k + 1) := ev_29.trans hst.symm
          refine lv_istore (lv' := [(5, .int (m_tk (dz_b (ns = 5)) f12 f13 v1 v2 (k + 1))), (6, .int (nI k)), (4, .int 1), (0, .ref aM), (1, .int v1), (2, .int v2), (3, .int v3)]) hx hb dX9_source_90 hl (by decide) rfl (fun ls hl => ?_)
          obtain ⟨v_30, ev_30⟩ : ∃ y : Int32, y = (nI k) + 1 := ⟨_, rfl⟩
          refine lv_iinc (v := v_30) (lv' := [(6, .int v_30), (5, .int (m_tk (dz_b (ns = 5)) f12 f13 v1 v2 (k + 1))), (4, .int 1), (0, .ref aM), (1, .int v1), (2, .int v2), (3, .int v3)]) hx hb dX9_source_92 hl (k := 1) rfl (by rw [ev_30]; rfl) (by decide) rfl (fun ls hl => ?_)
          refine lv_goto (tgt := 49) hx hb dX9_source_95 (by decide) ?_
          obtain rfl : v_30 = nI (k + 1) := ev_30.trans (nI_1 k)
          exact ih_49 (k + 1, ls) (by first | (dsimp only; omega) | omega) ⟨(by omega), lv_sub hl [0, 1, 2, 3, 4, 5, 6] rfl⟩
        · refine lv_aload_n hx hb dX9_source_74 rfl (lv_at hl 3 rfl) ?_
          refine dz_get hx hb hts (fun _ h => List.mem_cons_of_mem _ (List.mem_append_right _ h)) hown hE hG ha ho rfl 13 (by decide) (hts _ (List.mem_of_getElem? (i := 3) rfl)) (fun _ h9 => h9) rfl dX9_source_75 ?_
          refine lv_iload hx hb dX9_source_78 (lv_at hl 0 rfl) ?_
          refine dz_iald hx hb hE hG rfl h13 (vp_in_nI (by omega) (by decide)) dX9_source_80 ?_
          refine lv_topi (fun v_31 ev_31 => ?_)
          obtain rfl : v_31 = f13 k := ev_31.trans (by rw [nI_clamp (by omega)])
          refine lv_iload_n hx hb dX9_source_81 rfl (lv_at hl 5 rfl) ?_
          refine lv_icmp_ne (tgt := 89) hx hb dX9_source_82 (by decide) (fun c_82 => ?_) (fun c_82 => ?_)
          · have hst : m_tk (dz_b (ns = 5)) f12 f13 v1 v2 (k + 1) = 0 := (if_neg (fun z => z c_60)).trans (if_neg (fun z => c_82 z.2))
            refine lv_iconst (v := 0) hx hb dX9_source_89 (by decide) ?_
            refine lv_topi (fun v_32 ev_32 => ?_)
            obtain rfl : v_32 = m_tk (dz_b (ns = 5)) f12 f13 v1 v2 (k + 1) := ev_32.trans hst.symm
            refine lv_istore (lv' := [(5, .int (m_tk (dz_b (ns = 5)) f12 f13 v1 v2 (k + 1))), (6, .int (nI k)), (4, .int 1), (0, .ref aM), (1, .int v1), (2, .int v2), (3, .int v3)]) hx hb dX9_source_90 hl (by decide) rfl (fun ls hl => ?_)
            obtain ⟨v_33, ev_33⟩ : ∃ y : Int32, y = (nI k) + 1 := ⟨_, rfl⟩
            refine lv_iinc (v := v_33) (lv' := [(6, .int v_33), (5, .int (m_tk (dz_b (ns = 5)) f12 f13 v1 v2 (k + 1))), (4, .int 1), (0, .ref aM), (1, .int v1), (2, .int v2), (3, .int v3)]) hx hb dX9_source_92 hl (k := 1) rfl (by rw [ev_33]; rfl) (by decide) rfl (fun ls hl => ?_)
            refine lv_goto (tgt := 49) hx hb dX9_source_95 (by decide) ?_
            obtain rfl : v_33 = nI (k + 1) := ev_33.trans (nI_1 k)
            exact ih_49 (k + 1, ls) (by first | (dsimp only; omega) | omega) ⟨(by omega), lv_sub hl [0, 1, 2, 3, 4, 5, 6] rfl⟩
          · have hst : m_tk (dz_b (ns = 5)) f12 f13 v1 v2 (k + 1) = 1 := (if_neg (fun z => z c_60)).trans (if_pos ⟨c_71, c_82⟩)
            refine lv_iconst (v := 1) hx hb dX9_source_85 (by decide) ?_
            refine lv_goto (tgt := 90) hx hb dX9_source_86 (by decide) ?_
            refine lv_topi (fun v_34 ev_34 => ?_)
            obtain rfl : v_34 = m_tk (dz_b (ns = 5)) f12 f13 v1 v2 (k + 1) := ev_34.trans hst.symm
            refine lv_istore (lv' := [(5, .int (m_tk (dz_b (ns = 5)) f12 f13 v1 v2 (k + 1))), (6, .int (nI k)), (4, .int 1), (0, .ref aM), (1, .int v1), (2, .int v2), (3, .int v3)]) hx hb dX9_source_90 hl (by decide) rfl (fun ls hl => ?_)
            obtain ⟨v_35, ev_35⟩ : ∃ y : Int32, y = (nI k) + 1 := ⟨_, rfl⟩
            refine lv_iinc (v := v_35) (lv' := [(6, .int v_35), (5, .int (m_tk (dz_b (ns = 5)) f12 f13 v1 v2 (k + 1))), (4, .int 1), (0, .ref aM), (1, .int v1), (2, .int v2), (3, .int v3)]) hx hb dX9_source_92 hl (k := 1) rfl (by rw [ev_35]; rfl) (by decide) rfl (fun ls hl => ?_)
            refine lv_goto (tgt := 49) hx hb dX9_source_95 (by decide) ?_
            obtain rfl : v_35 = nI (k + 1) := ev_35.trans (nI_1 k)
            exact ih_49 (k + 1, ls) (by first | (dsimp only; omega) | omega) ⟨(by omega), lv_sub hl [0, 1, 2, 3, 4, 5, 6] rfl⟩

set_option maxHeartbeats 4000000 in
set_option maxRecDepth 100000 in
theorem c_M_vote_ok (l : Launch) (Z : dzG) (G : dzW) (ad : dzA) (aM nm ns nl nx nf my : Nat) (th dy td ssf sst cfr grw bkk iop : Int32) (f35 : Nat → Int32) (k : Nat) (v2 : Int32) (ha : ad (39, 0) = aM) (ho : G (39, 0) = some (eO 10 [.int th, .int dy, .int (nI nm), .ref (ad (40, 3)), .ref (ad (40, 4)), .ref (ad (40, 5)), .ref (ad (40, 6)), .int td, .ref (ad (40, 8)), .ref (ad (40, 9)), .ref (ad (40, 10)), .int (nI ns), .ref (ad (40, 12)), .ref (ad (40, 13)), .ref (ad (40, 14)), .int (nI nl), .ref (ad (40, 16)), .ref (ad (40, 17)), .ref (ad (40, 18)), .int (nI nx), .ref (ad (40, 20)), .ref (ad (40, 21)), .ref (ad (40, 22)), .ref (ad (40, 23)), .ref (ad (40, 24)), .int ssf, .int sst, .int cfr, .int grw, .int (nI nf), .ref (ad (40, 30)), .ref (ad (40, 31)), .int bkk, .ref (ad (40, 33)), .ref (ad (40, 34)), .ref (ad (40, 35)), .int iop, .ref (ad (40, 37)), .int (nI my)])) (h35 : G (40, 35) = some (eZ Z 5 f35)) (hk : k < 5) (hbv : m_bl v2) : dzWr l yX9_vote wsX9_vote 1 22 0 0 Z G ad [.ref aM, .int (nI k), .int v2] rv_i (fun (x : Int32) G1 ad1 => (∀ r9 : dzR, r9 ≠ (39, 0) → r9 ≠ (40, 35) → G1 r9 = G r9 ∧ ad1 r9 = ad r9) ∧ ad = ad1 ∧ x = m_op iop (m_vt (upd f35 k v2) 5) ∧ G1 (39, 0) = some (eO 10 [.int 0, .int dy, .int (nI nm), .ref (ad (40, 3)), .ref (ad (40, 4)), .ref (ad (40, 5)), .ref (ad (40, 6)), .int td, .ref (ad (40, 8)), .ref (ad (40, 9)), .ref (ad (40, 10)), .int (nI ns), .ref (ad (40, 12)), .ref (ad (40, 13)), .ref (ad (40, 14)), .int (nI nl), .ref (ad (40, 16)), .ref (ad (40, 17)), .ref (ad (40, 18)), .int (nI nx), .ref (ad (40, 20)), .ref (ad (40, 21)), .ref (ad (40, 22)), .ref (ad (40, 23)), .ref (ad (40, 24)), .int ssf, .int sst, .int cfr, .int grw, .int (nI nf), .ref (ad (40, 30)), .ref (ad (40, 31)), .int bkk, .ref (ad (40, 33)), .ref (ad (40, 34)), .ref (ad (40, 35)), .int (m_op iop (m_vt (upd f35 k v2) 5)), .ref (ad (40, 37)), .int (nI my)]) ∧ G1 (40, 35) = some (eZ Z 5 (upd f35 k v2))) := by
  refine Met.ofW (cc := cX9_vote) (maxL := 5) (ret := (some .boolean)) (by decide) rfl ?_
  intro p e s m args below meth c s₁ B hml hv
  obtain ⟨rfl, hG, hE⟩ := hv
  have hx := B.exec
  have hb := B.bytes
  have hrt := B.returns
  have hts := atoms_spec (ws := wsX9_vote) B.pre
  have hown : s.vm.findClass RX9 = some m.cls := findClass_of_methodNamed B.named
  have hlocks := B.notSynchronized
  have hS : va_S (dz_A Z) s.heap s.heap [] := va_S.rf
  have hl := lv_entry ([.ref aM, .int (nI k), .int v2]) (n := 5) (Nat.le_of_ble_eq_true rfl)
  rw [lg_entry_eq]
  generalize (lg_sl ([.ref aM, .int (nI k), .int v2]) ++ List.replicate (5 - (lg_sl ([.ref aM, .int (nI k), .int v2])).length) Slot.unset).toArray = ls at hl ⊢
  have hl : lv_has ls 5 [(0, .ref aM), (1, .int (nI k)), (2, .int v2)] := hl
  refine lv_aload_n hx hb dX9_vote_0 rfl (lv_at hl 0 rfl) ?_
  refine lv_iload_n hx hb dX9_vote_1 rfl (lv_at hl 1 rfl) ?_
  refine lv_iconst (v := 0) hx hb dX9_vote_2 (by decide) ?_
  refine lv_iconst (v := 4) hx hb dX9_vote_3 (by decide) ?_
  refine dz_kRi (va_runS (As := [_, _, _]) ⟨hx, hb, hml, hown, hts⟩ (c_X9_in l Z _ _ _ _ _ ) (va_cwS 3 hts gX9_vote_X9_in rfl rfl rfl (by decide +kernel) ⟨Nat.le_of_ble_eq_true rfl, Nat.le_of_ble_eq_true rfl⟩) (dz_P.pre hE hS hG) rfl rfl hl.1 rfl (lv_room (Nat.le_of_ble_eq_true rfl)) dX9_vote_4 ⟨Nat.le_of_ble_eq_true rfl, Nat.le_of_ble_eq_true rfl⟩) ?_
  refine lv_topi (fun v_1 ev_1 => ?_)
  obtain rfl : v_1 = 1 := ev_1.trans (dz_b1 (m_ix1 (n := 5) (by omega) hk))
  refine lv_if_eq (tgt := 14) hx hb dX9_vote_7 (by decide) (fun c_7 => absurd c_7 (by decide)) (fun c_7 => ?_)
  refine lv_iconst (v := 0) hx hb dX9_vote_10 (by decide) ?_
  refine lv_goto (tgt := 15) hx hb dX9_vote_11 (by decide) ?_
  refine dz_kMi (va_runV (As := [_]) ⟨hx, hb, hml, hown, hts⟩ (c_X9_refused l Z _ _ _ _ _ _ _ _ _ _ _ _ _ _ _ _ _ _ _ ha ho) (cwV 1 hts gX9_vote_X9_refused rfl rfl rfl (by decide +kernel) ⟨Nat.le_of_ble_eq_true rfl, Nat.le_of_ble_eq_true rfl⟩) (dz_P.preV hE hS hG ho rfl ha) rfl rfl hl.1 rfl (lv_room (Nat.le_of_ble_eq_true rfl)) dX9_vote_15 ⟨Nat.le_of_ble_eq_true rfl, Nat.le_of_ble_eq_true rfl⟩) hS (fun x_15_1 G_15_1 ad_15_1 H locs hp_15_1 hG hS => ?_)
  obtain ⟨fr_15_1, rfl, x9_15_1, g_15_1⟩ := hp_15_1
  obtain rfl : x_15_1 = 0 := x9_15_1.trans (by decide)
  refine lv_if_eq (tgt := 23) hx hb dX9_vote_18 (by decide) (fun c_18 => ?_) (fun c_18 => absurd (by decide) c_18)
  refine lv_aload_n hx hb dX9_vote_23 rfl (lv_at hl 0 rfl) ?_
  refine dz_get hx hb hts (fun _ h => List.mem_cons_of_mem _ (List.mem_append_right _ h)) hown hE hG ha g_15_1 rfl 35 (by decide) (hts _ (List.mem_of_getElem? (i := 1) rfl)) (fun _ h9 => h9) rfl dX9_vote_24 ?_
  refine lv_iload_n hx hb dX9_vote_27 rfl (lv_at hl 1 rfl) ?_
  refine lv_iload_n hx hb dX9_vote_28 rfl (lv_at hl 2 rfl) ?_
  refine dz_zast hx hb hE hG ((fr_15_1 _ (dz_n rfl)).2.trans rfl) hS ((fr_15_1 _ (dz_n rfl)).1.trans h35) (vp_in_nI hk (by decide)) dX9_vote_29 (fun H locs hG hS => ?_)
  rw [nI_clamp (show k < 2 ^ 31 by omega)] at hG
  rw [hbv.nar] at hG
  obtain ⟨G_1, hG, w_1, o_1⟩ := dz_nm hG
  refine lv_iconst (v := 0) hx hb dX9_vote_30 (by decide) ?_
  refine lv_istore_n (lv' := [(3, .int 0), (0, .ref aM), (1, .int (nI k)), (2, .int v2)]) hx hb dX9_vote_31 rfl hl (by decide) rfl (fun ls hl => ?_)
  refine lv_iconst (v := 0) hx hb dX9_vote_32 (by decide) ?_
  refine lv_istore (lv' := [(4, .int 0), (3, .int 0), (0, .ref aM), (1, .int (nI k)), (2, .int v2)]) hx hb dX9_vote_33 hl (by decide) rfl (fun ls hl => ?_)
  refine dz_lp (α := Nat × Array Slot) (fun a9 => (fun (j : Nat) (ls : Array Slot) => 5 - j) a9.1 a9.2) (fun a9 => (fun (j : Nat) (ls : Array Slot) => (j ≤ 5) ∧ lv_has ls 5 [(4, .int (nI j)), (3, .int (m_vt (upd f35 k v2) j)), (0, .ref aM), (1, .int (nI k)), (2, .int v2)]) a9.1 a9.2) (fun a9 => F0 m 35 a9.2 []) (fun a9 hI ih_35 => ?_) (0, ls) ⟨(Nat.zero_le _), lv_sub hl [0, 1, 2, 3, 4] rfl⟩
  obtain ⟨j, ls⟩ := a9
  obtain ⟨hj, hl⟩ := hI
  have hj : j ≤ 5 := hj
  have hl : lv_has ls 5 [(4, .int (nI j)), (3, .int (m_vt (upd f35 k v2) j)), (0, .ref aM), (1, .int (nI k)), (2, .int v2)] := hl
  refine lv_iload hx hb dX9_vote_35 (lv_at hl 0 rfl) ?_
  refine lv_iconst (v := 5) hx hb dX9_vote_37 (by decide) ?_
  refine lv_icmp_ge (tgt := 65) hx hb dX9_vote_38 (by decide) (fun c_38 => ?_) (fun c_38 => ?_)
  · have hj9 : j = 5 := by have := (nI_leI (a := 5) (by omega) (by omega)).mp c_38; omega
    refine lv_aload_n hx hb dX9_vote_65 rfl (lv_at hl 2 rfl) ?_
    refine lv_aload_n hx hb dX9_vote_66 rfl (lv_at hl 2 rfl) ?_
    refine dz_get hx hb hts (fun _ h => List.mem_cons_of_mem _ (List.mem_append_right _ h)) hown hE hG ((o_1 _ (dz_n rfl)).2.trans ha) ((o_1 _ (dz_n rfl)).1.trans g_15_1) rfl 36 (by decide) (hts _ (List.mem_of_getElem? (i := 2) rfl)) (fun _ h9 => h9) rfl dX9_vote_67 ?_
    refine lv_if_ne (tgt := 78) hx hb dX9_vote_70 (by decide) (fun c_70 => ?_) (fun c_70 => ?_)
    · refine lv_iconst (v := 1) hx hb dX9_vote_78 (by decide) ?_
      refine lv_goto (tgt := 83) hx hb dX9_vote_79 (by decide) ?_
      refine lv_topi (fun v_2 ev_2 => ?_)
      obtain rfl : v_2 = m_op iop (m_vt (upd f35 k v2) 5) := ev_2.trans (by first | exact (if_neg c_70).symm | exact ((if_pos c_70).trans (if_pos (by rw [← hj9]; exact c_75))).symm | exact ((if_pos c_70).trans (if_neg (by rw [← hj9]; exact c_75))).symm)
      refine dz_put hx hb hts (fun _ h => List.mem_cons_of_mem _ (List.mem_append_right _ h)) tyX9 tyX9_ok nmX9 hown hE hG ((o_1 _ (dz_n rfl)).2.trans ha) hS ((o_1 _ (dz_n rfl)).1.trans g_15_1) rfl 36 (by decide) (hts _ (List.mem_of_getElem? (i := 2) rfl)) (fun _ h9 => h9) rfl (ty := .boolean) (by decide +kernel) (m_op_bl _ _) (m_op_fit _ _) (fs' := [.int 0, .int dy, .int (nI nm), .ref (ad (40, 3)), .ref (ad (40, 4)), .ref (ad (40, 5)), .ref (ad (40, 6)), .int td, .ref (ad (40, 8)), .ref (ad (40, 9)), .ref (ad (40, 10)), .int (nI ns), .ref (ad (40, 12)), .ref (ad (40, 13)), .ref (ad (40, 14)), .int (nI nl), .ref (ad (40, 16)), .ref (ad (40, 17)), .ref (ad (40, 18)), .int (nI nx), .ref (ad (40, 20)), .ref (ad (40, 21)), .ref (ad (40, 22)), .ref (ad (40, 23)), .ref (ad (40, 24)), .int ssf, .int sst, .int cfr, .int grw, .int (nI nf), .ref (ad (40, 30)), .ref (ad (40, 31)), .int bkk, .ref (ad (40, 33)), .ref (ad (40, 34)), .ref (ad (40, 35)), .int (m_op iop (m_vt (upd f35 k v2) 5)), .ref (ad (40, 37)), .int (nI my)]) rfl (Nat.le_of_ble_eq_true rfl) dX9_vote_83 (fun H locs hG hS => ?_)
      obtain ⟨G_2, hG, w_2, o_2⟩ := dz_nm hG
      refine lv_aload_n hx hb dX9_vote_86 rfl (lv_at hl 2 rfl) ?_
      refine dz_get hx hb hts (fun _ h => List.mem_cons_of_mem _ (List.mem_append_right _ h)) hown hE hG ((o_1 _ (dz_n rfl)).2.trans ha) w_2 rfl 36 (by decide) (hts _ (List.mem_of_getElem? (i := 2) rfl)) (fun _ h9 => h9) rfl dX9_vote_87 ?_
      refine W.widen (k := 0) (n := 0) (by first | omega | decide) (by first | omega | decide) ?_
      refine W.zret hx hb hrt (m_op_bl _ _) (fun t ht hW => dz_endM (f := rv_i) _ hE hS hG ?_ ht hW) (fun q h => hS.2.2 q h) dX9_vote_90
      refine ⟨fun r9 n_0 n_1 => (dz_tr (o_2 r9 n_0) (dz_tr (o_1 r9 n_1) (fr_15_1 r9 n_0))), rfl, ?_⟩
      exact ⟨rfl, w_2, ((o_2 _ (dz_n rfl)).1.trans w_1)⟩
    · refine lv_iload_n hx hb dX9_vote_73 rfl (lv_at hl 1 rfl) ?_
      refine lv_iconst (v := 3) hx hb dX9_vote_74 (by decide) ?_
      refine lv_icmp_lt (tgt := 82) hx hb dX9_vote_75 (by decide) (fun c_75 => ?_) (fun c_75 => ?_)
      · refine lv_iconst (v := 0) hx hb dX9_vote_82 (by decide) ?_
        refine lv_topi (fun v_3 ev_3 => ?_)
        obtain rfl : v_3 = m_op iop (m_vt (upd f35 k v2) 5) := ev_3.trans (by first | exact (if_neg c_70).symm | exact ((if_pos c_70).trans (if_pos (by rw [← hj9]; exact c_75))).symm | exact ((if_pos c_70).trans (if_neg (by rw [← hj9]; exact c_75))).symm)
        refine dz_put hx hb hts (fun _ h => List.mem_cons_of_mem _ (List.mem_append_right _ h)) tyX9 tyX9_ok nmX9 hown hE hG ((o_1 _ (dz_n rfl)).2.trans ha) hS ((o_1 _ (dz_n rfl)).1.trans g_15_1) rfl 36 (by decide) (hts _ (List.mem_of_getElem? (i := 2) rfl)) (fun _ h9 => h9) rfl (ty := .boolean) (by decide +kernel) (m_op_bl _ _) (m_op_fit _ _) (fs' := [.int 0, .int dy, .int (nI nm), .ref (ad (40, 3)), .ref (ad (40, 4)), .ref (ad (40, 5)), .ref (ad (40, 6)), .int td, .ref (ad (40, 8)), .ref (ad (40, 9)), .ref (ad (40, 10)), .int (nI ns), .ref (ad (40, 12)), .ref (ad (40, 13)), .ref (ad (40, 14)), .int (nI nl), .ref (ad (40, 16)), .ref (ad (40, 17)), .ref (ad (40, 18)), .int (nI nx), .ref (ad (40, 20)), .ref (ad (40, 21)), .ref (ad (40, 22)), .ref (ad (40, 23)), .ref (ad (40, 24)), .int ssf, .int sst, .int cfr, .int grw, .int (nI nf), .ref (ad (40, 30)), .ref (ad (40, 31)), .int bkk, .ref (ad (40, 33)), .ref (ad (40, 34)), .ref (ad (40, 35)), .int (m_op iop (m_vt (upd f35 k v2) 5)), .ref (ad (40, 37)), .int (nI my)]) rfl (Nat.le_of_ble_eq_true rfl) dX9_vote_83 (fun H locs hG hS => ?_)
        obtain ⟨G_3, hG, w_3, o_3⟩ := dz_nm hG
        refine lv_aload_n hx hb dX9_vote_86 rfl (lv_at hl 2 rfl) ?_
        refine dz_get hx hb hts (fun _ h => List.mem_cons_of_mem _ (List.mem_append_right _ h)) hown hE hG ((o_1 _ (dz_n rfl)).2.trans ha) w_3 rfl 36 (by decide) (hts _ (List.mem_of_getElem? (i := 2) rfl)) (fun _ h9 => h9) rfl dX9_vote_87 ?_
        refine W.widen (k := 0) (n := 0) (by first | omega | decide) (by first | omega | decide) ?_
        refine W.zret hx hb hrt (m_op_bl _ _) (fun t ht hW => dz_endM (f := rv_i) _ hE hS hG ?_ ht hW) (fun q h => hS.2.2 q h) dX9_vote_90
        refine ⟨fun r9 n_0 n_1 => (dz_tr (o_3 r9 n_0) (dz_tr (o_1 r9 n_1) (fr_15_1 r9 n_0))), rfl, ?_⟩
        exact ⟨rfl, w_3, ((o_3 _ (dz_n rfl)).1.trans w_1)⟩
      · refine lv_iconst (v := 1) hx hb dX9_vote_78 (by decide) ?_
        refine lv_goto (tgt := 83) hx hb dX9_vote_79 (by decide) ?_
        refine lv_topi (fun v_4 ev_4 => ?_)
        obtain rfl : v_4 = m_op iop (m_vt (upd f35 k v2) 5) := ev_4.trans (by first | exact (if_neg c_70).symm | exact ((if_pos c_70).trans (if_pos (by rw [← hj9]; exact c_75))).symm | exact ((if_pos c_70).trans (if_neg (by rw [← hj9]; exact c_75))).symm)
        refine dz_put hx hb hts (fun _ h => List.mem_cons_of_mem _ (List.mem_append_right _ h)) tyX9 tyX9_ok nmX9 hown hE hG ((o_1 _ (dz_n rfl)).2.trans ha) hS ((o_1 _ (dz_n rfl)).1.trans g_15_1) rfl 36 (by decide) (hts _ (List.mem_of_getElem? (i := 2) rfl)) (fun _ h9 => h9) rfl (ty := .boolean) (by decide +kernel) (m_op_bl _ _) (m_op_fit _ _) (fs' := [.int 0, .int dy, .int (nI nm), .ref (ad (40, 3)), .ref (ad (40, 4)), .ref (ad (40, 5)), .ref (ad (40, 6)), .int td, .ref (ad (40, 8)), .ref (ad (40, 9)), .ref (ad (40, 10)), .int (nI ns), .ref (ad (40, 12)), .ref (ad (40, 13)), .ref (ad (40, 14)), .int (nI nl), .ref (ad (40, 16)), .ref (ad (40, 17)), .ref (ad (40, 18)), .int (nI nx), .ref (ad (40, 20)), .ref (ad (40, 21)), .ref (ad (40, 22)), .ref (ad (40, 23)), .ref (ad (40, 24)), .int ssf, .int sst, .int cfr, .int grw, .int (nI nf), .ref (ad (40, 30)), .ref (ad (40, 31)), .int bkk, .ref (ad (40, 33)), .ref (ad (40, 34)), .ref (ad (40, 35)), .int (m_op iop (m_vt (upd f35 k v2) 5)), .ref (ad (40, 37)), .int (nI my)]) rfl (Nat.le_of_ble_eq_true rfl) dX9_vote_83 (fun H locs hG hS => ?_)
        obtain ⟨G_4, hG, w_4, o_4⟩ := dz_nm hG
        refine lv_aload_n hx hb dX9_vote_86 rfl (lv_at hl 2 rfl) ?_
        refine dz_get hx hb hts (fun _ h => List.mem_cons_of_mem _ (List.mem_append_right _ h)) hown hE hG ((o_1 _ (dz_n rfl)).2.trans ha) w_4 rfl 36 (by decide) (hts _ (List.mem_of_getElem? (i := 2) rfl)) (fun _ h9 => h9) rfl dX9_vote_87 ?_
        refine W.widen (k := 0) (n := 0) (by first | omega | decide) (by first | omega | decide) ?_
        refine W.zret hx hb hrt (m_op_bl _ _) (fun t ht hW => dz_endM (f := rv_i) _ hE hS hG ?_ ht hW) (fun q h => hS.2.2 q h) dX9_vote_90
        refine ⟨fun r9 n_0 n_1 => (dz_tr (o_4 r9 n_0) (dz_tr (o_1 r9 n_1) (fr_15_1 r9 n_0))), rfl, ?_⟩
        exact ⟨rfl, w_4, ((o_4 _ (dz_n rfl)).1.trans w_1)⟩
  · have hltj : j < 5 := by
      rcases Nat.lt_or_ge j (5) with q | q
      · exact q
      · exact absurd ((nI_leI (a := 5) (by omega) (by omega)).mpr q) c_38
    refine lv_iload_n hx hb dX9_vote_41 rfl (lv_at hl 1 rfl) ?_
    refine lv_aload_n hx hb dX9_vote_42 rfl (lv_at hl 2 rfl) ?_
    refine dz_get hx hb hts (fun _ h => List.mem_cons_of_mem _ (List.mem_append_right _ h)) hown hE hG ((o_1 _ (dz_n rfl)).2.trans ha) ((o_1 _ (dz_n rfl)).1.trans g_15_1) rfl 35 (by decide) (hts _ (List.mem_of_getElem? (i := 1) rfl)) (fun _ h9 => h9) rfl dX9_vote_43 ?_
    refine lv_iload hx hb dX9_vote_46 (lv_at hl 0 rfl) ?_
    refine dz_zald hx hb hE hG ((fr_15_1 _ (dz_n rfl)).2.trans rfl) w_1 (vp_in_nI (by omega) (by decide)) dX9_vote_48 ?_
    refine lv_topi (fun v_5 ev_5 => ?_)
    obtain rfl : v_5 = (upd f35 k v2) j := ev_5.trans (by rw [nI_clamp (by omega)])
    refine lv_if_eq (tgt := 56) hx hb dX9_vote_49 (by decide) (fun c_49 => ?_) (fun c_49 => ?_)
    · have hst : m_vt (upd f35 k v2) (j + 1) = m_vt (upd f35 k v2) j + 0 := (if_pos c_49).trans (Int32.add_zero _).symm
      refine lv_iconst (v := 0) hx hb dX9_vote_56 (by decide) ?_
      refine lv_iadd hx hb dX9_vote_57 ?_
      refine lv_topi (fun v_6 ev_6 => ?_)
      refine lv_istore_n (lv' := [(3, .int v_6), (4, .int (nI j)), (0, .ref aM), (1, .int (nI k)), (2, .int v2)]) hx hb dX9_vote_58 rfl hl (by decide) rfl (fun ls hl => ?_)
      obtain ⟨v_7, ev_7⟩ : ∃ y : Int32, y = (nI j) + 1 := ⟨_, rfl⟩
      refine lv_iinc (v := v_7) (lv' := [(4, .int v_7), (3, .int v_6), (0, .ref aM), (1, .int (nI k)), (2, .int v2)]) hx hb dX9_vote_59 hl (k := 1) rfl (by rw [ev_7]; rfl) (by decide) rfl (fun ls hl => ?_)
      refine lv_goto (tgt := 35) hx hb dX9_vote_62 (by decide) ?_
      obtain rfl : v_7 = nI (j + 1) := ev_7.trans (nI_1 j)
      obtain rfl : v_6 = m_vt (upd f35 k v2) (j + 1) := ev_6.trans hst.symm
      exact ih_35 (j + 1, ls) (by first | (dsimp only; omega) | omega) ⟨(by omega), lv_sub hl [0, 1, 2, 3, 4] rfl⟩
    · have hst : m_vt (upd f35 k v2) (j + 1) = m_vt (upd f35 k v2) j + 1 := if_neg c_49
      refine lv_iconst (v := 1) hx hb dX9_vote_52 (by decide) ?_
      refine lv_goto (tgt := 57) hx hb dX9_vote_53 (by decide) ?_
      refine lv_iadd hx hb dX9_vote_57 ?_
      refine lv_topi (fun v_8 ev_8 => ?_)
      refine lv_istore_n (lv' := [(3, .int v_8), (4, .int (nI j)), (0, .ref aM), (1, .int (nI k)), (2, .int v2)]) hx hb dX9_vote_58 rfl hl (by decide) rfl (fun ls hl => ?_)
      obtain ⟨v_9, ev_9⟩ : ∃ y : Int32, y = (nI j) + 1 := ⟨_, rfl⟩
      refine lv_iinc (v := v_9) (lv' := [(4, .int v_9), (3, .int v_8), (0, .ref aM), (1, .int (nI k)), (2, .int v2)]) hx hb dX9_vote_59 hl (k := 1) rfl (by rw [ev_9]; rfl) (by decide) rfl (fun ls hl => ?_)
      refine lv_goto (tgt := 35) hx hb dX9_vote_62 (by decide) ?_
      obtain rfl : v_9 = nI (j + 1) := ev_9.trans (nI_1 j)
      obtain rfl : v_8 = m_vt (upd f35 k v2) (j + 1) := ev_8.trans hst.symm
      exact ih_35 (j + 1, ls) (by first | (dsimp only; omega) | omega) ⟨(by omega), lv_sub hl [0, 1, 2, 3, 4] rfl⟩
