set_option maxHeartbeats 4000000 in
set_option maxRecDepth 100000 in
theorem c_X8_framedSky (l : Launch) (Z : dzG) (G : dzW) (ad : dzA) (aX nl nx : Nat) (dy ssf sst cfr grw : Int32) (ns nf : Nat) (cnt : Nat → Nat) (col row fl : Nat → Int32) (pl : Nat → Nat → Int32) (nfl nst : Nat → Nat) (fx sx : Nat → Nat → Nat) (fd fb sr sd sw sg : Nat → Int32) (fc fr fw : Nat → Int32) (V : Nat → Nat → Int32) (ha : ad (1, 0) = aX) (hco : G (1, 0) = some (eO 9 [.ref (ad (2, 0)), .ref (ad (9, 0)), .int (nI nl), .int (nI nx), .ref (ad (19, 0)), .ref (ad (26, 0)), .int dy, .int ssf, .int sst, .int cfr, .int grw])) (hls : dz_L Z G ad (9, 0) (10, 0) ns (fun i => ad (11, i))) (hso : dz_So G ad ns cnt col row fl) (hpl : dz_Pl Z G ns pl) (hfb : dz_Fl Z G ad ns nfl fx fd fb) (hsb : dz_St Z G ad ns nst sx sr sd sw sg) (hro : G (2, 0) = some (eO 6 [.ref (ad (3, 0)), .ref (ad (5, 0)), .ref (ad (6, 0)), .ref (ad (7, 0))])) (hc : G (5, 0) = some (eI Z 484 fc)) (hr : G (6, 0) = some (eI Z 484 fr)) (hw : G (7, 0) = some (eI Z 484 fw)) (hns : ns ≤ 5) (hcn : ∀ i, i < ns → cnt i ≤ 441) (hplj : ∀ i k, i < ns → k < cnt i → ∃ j, j + 22 < 484 ∧ pl i k = nI j) (hV : ∀ a b j j0, a < ns → b < cnt a → pl a b = nI j → pl a 0 = nI j0 → j + 22 < 484 → j0 + 22 < 484 → m_abs (m_times (m_turn fc fr j)) * m_pos (m_lgt (fl a) fd fb (fx a) (dy - (fw j - fw j0) * 20 / grw) (nfl a)) + m_sts sr sd sw sg (sx a) (nI b) dy (nst a) = V a b) (hg1 : 1 ≤ grw) (hgz : ¬ grw = 0) (hnfl : ∀ i, i < ns → nfl i ≤ 60) (hnst : ∀ i, i < ns → nst i ≤ 60) (hsw : ∀ i, i < ns → ∀ j, j < nst i → 1 ≤ sw (sx i j) ∧ ¬ sw (sx i j) = 0) : dzWr l yX8_framedSky wsX8_framedSky 5 115 2 32 Z G ad [.ref aX] rv_r (fun (x : Nat) G1 ad1 => (∀ r9 : dzR, r9 ≠ (24, nf) → r9 ≠ (25, nf) → G1 r9 = G r9 ∧ ad1 r9 = ad r9) ∧ G1 (24, nf) = some (eO 4 [.int dy, .ref (ad1 (25, nf))]) ∧ ad1 (24, nf) = x ∧ G1 (25, nf) = some (eI Z 30 (m_fc cnt V ns 0))) := by
  refine Met.ofW (cc := cX8_framedSky) (maxL := 5) (ret := (some (.object "Delaylens$Frame"))) (by decide) rfl ?_
  intro p e s m args below meth c s₁ B hml hv
  obtain ⟨rfl, hG, hE⟩ := hv
  have hx := B.exec
  have hb := B.bytes
  have hrt := B.returns
  have hts := atoms_spec (ws := wsX8_framedSky) B.pre
  have hown : s.vm.findClass RX8 = some m.cls := findClass_of_methodNamed B.named
  have hlocks := B.notSynchronized
  have hS : va_S (dz_A Z) s.heap s.heap [] := va_S.rf
  have hl := lv_entry ([.ref aX]) (n := 5) (Nat.le_of_ble_eq_true rfl)
  rw [lg_entry_eq]
  generalize (lg_sl ([.ref aX]) ++ List.replicate (5 - (lg_sl ([.ref aX])).length) Slot.unset).toArray = ls at hl ⊢
  have hl : lv_has ls 5 [(0, .ref aX)] := hl
  refine dz_new (ci := 4) hx hb hts (fun _ h => List.mem_cons_of_mem _ (List.mem_append_left _ (List.mem_append_left _ (List.mem_append_left _ (List.mem_append_left _ (List.mem_append_left _ (List.mem_append_left _ (List.mem_append_right _ h)))))))) tyX3 tyX3_ok hown (hts _ (List.mem_of_getElem? (i := 1) rfl)) (hts _ (List.mem_of_getElem? (i := 2) rfl)) (hts _ (List.mem_of_getElem? (i := 3) rfl)) hE hG hS (24, nf) rfl (fs := [.int 0, .null]) (fun j hj => by rcases (show j = 0 ∨ j = 1 by omega) with rfl | rfl <;> rfl) (Nat.le_of_ble_eq_true rfl) (Nat.le_of_ble_eq_true rfl) dX8_framedSky_0 (fun q_1 H hG hS => ?_)
  refine W.widen (k := 1) (n := 2) (by omega) (by omega) ?_
  obtain ⟨G_1, ad_1, hG, w_1, a_1, o_1⟩ := dz_nma hG
  refine lv_dup hx hb dX8_framedSky_3 rfl ?_
  refine lv_aload_n hx hb dX8_framedSky_4 rfl (lv_at hl 0 rfl) ?_
  refine dz_get hx hb hts (fun _ h => List.mem_cons_of_mem _ (List.mem_append_left _ (List.mem_append_left _ (List.mem_append_left _ (List.mem_append_left _ (List.mem_append_left _ (List.mem_append_right _ h))))))) hown hE hG ((o_1 _ (dz_n rfl)).2.trans ha) ((o_1 _ (dz_n rfl)).1.trans hco) rfl 6 (by decide) (hts _ (List.mem_of_getElem? (i := 4) rfl)) (fun _ h9 => h9) rfl dX8_framedSky_5 ?_
  refine dz_kMv (va_runI (As := [_]) ⟨hx, hb, hml, hown, hts⟩ (c_X3_init l Z _ _ nf _ _ a_1 w_1) (cwI 1 hts gX8_framedSky_X3_init rfl rfl rfl (hts _ (List.mem_of_getElem? (i := 3) rfl)) (hts _ (List.mem_of_getElem? (i := 11) rfl)) (hts _ (List.mem_of_getElem? (i := 12) rfl)) rfl (by decide +kernel) ⟨Nat.le_of_ble_eq_true rfl, Nat.le_of_ble_eq_true rfl⟩) (dz_P.pre hE hS hG) rfl rfl hl.1 rfl (lv_room (Nat.le_of_ble_eq_true rfl)) dX8_framedSky_8 ⟨Nat.le_of_ble_eq_true rfl, Nat.le_of_ble_eq_true rfl⟩) hS (fun G_8_1 ad_8_1 H locs hp_8_1 hG hS => ?_)
  refine W.widen (k := 2) (n := 32) (by omega) (by omega) ?_
  obtain ⟨fr_8_1, g_8_1⟩ := hp_8_1
  have hco8 : G_8_1 (1, 0) = some (eO 9 [.ref (ad_8_1 (2, 0)), .ref (ad_8_1 (9, 0)), .int (nI nl), .int (nI nx), .ref (ad_8_1 (19, 0)), .ref (ad_8_1 (26, 0)), .int dy, .int ssf, .int sst, .int cfr, .int grw]) := by rw [show ad_8_1 (2, 0) = ad (2, 0) from (dz_tr (fr_8_1 (2, 0) (dz_n rfl) (dz_n rfl)) (o_1 (2, 0) (dz_n rfl))).2, show ad_8_1 (9, 0) = ad (9, 0) from (dz_tr (fr_8_1 (9, 0) (dz_n rfl) (dz_n rfl)) (o_1 (9, 0) (dz_n rfl))).2, show ad_8_1 (19, 0) = ad (19, 0) from (dz_tr (fr_8_1 (19, 0) (dz_n rfl) (dz_n rfl)) (o_1 (19, 0) (dz_n rfl))).2, show ad_8_1 (26, 0) = ad (26, 0) from (dz_tr (fr_8_1 (26, 0) (dz_n rfl) (dz_n rfl)) (o_1 (26, 0) (dz_n rfl))).2]; exact ((fr_8_1 _ (dz_n rfl) (dz_n rfl)).1.trans ((o_1 _ (dz_n rfl)).1.trans hco))
  have hro8 : G_8_1 (2, 0) = some (eO 6 [.ref (ad_8_1 (3, 0)), .ref (ad_8_1 (5, 0)), .ref (ad_8_1 (6, 0)), .ref (ad_8_1 (7, 0))]) := by rw [show ad_8_1 (3, 0) = ad (3, 0) from (dz_tr (fr_8_1 (3, 0) (dz_n rfl) (dz_n rfl)) (o_1 (3, 0) (dz_n rfl))).2, show ad_8_1 (5, 0) = ad (5, 0) from (dz_tr (fr_8_1 (5, 0) (dz_n rfl) (dz_n rfl)) (o_1 (5, 0) (dz_n rfl))).2, show ad_8_1 (6, 0) = ad (6, 0) from (dz_tr (fr_8_1 (6, 0) (dz_n rfl) (dz_n rfl)) (o_1 (6, 0) (dz_n rfl))).2, show ad_8_1 (7, 0) = ad (7, 0) from (dz_tr (fr_8_1 (7, 0) (dz_n rfl) (dz_n rfl)) (o_1 (7, 0) (dz_n rfl))).2]; exact ((fr_8_1 _ (dz_n rfl) (dz_n rfl)).1.trans ((o_1 _ (dz_n rfl)).1.trans hro))
  have had8 : ∀ i, ad_8_1 (11, i) = ad (11, i) := fun i => (dz_tr (fr_8_1 (11, i) (dz_n rfl) (dz_n rfl)) (o_1 (11, i) (dz_n rfl))).2
  have hls8 : dz_L Z G_8_1 ad_8_1 (9, 0) (10, 0) ns (fun i => ad_8_1 (11, i)) := ((dz_L.frame (dz_L.frame hls (o_1 _ (dz_n rfl)).1 (o_1 _ (dz_n rfl))) (fr_8_1 _ (dz_n rfl) (dz_n rfl)).1 (fr_8_1 _ (dz_n rfl) (dz_n rfl)))).el (fun i _ => (dz_tr (fr_8_1 (11, i) (dz_n rfl) (dz_n rfl)) (o_1 (11, i) (dz_n rfl))).2)
  refine lv_astore_n (lv' := [(1, .ref q_1), (0, .ref aX)]) hx hb dX8_framedSky_11 rfl hl (by decide) rfl (fun ls hl => ?_)
  refine lv_iconst (v := 0) hx hb dX8_framedSky_12 (by decide) ?_
  refine lv_istore_n (lv' := [(2, .int 0), (1, .ref q_1), (0, .ref aX)]) hx hb dX8_framedSky_13 rfl hl (by decide) rfl (fun ls hl => ?_)
  obtain ⟨G_2, hG, w_2, o_2⟩ := dz_re (m_fc cnt V 0 0) hG g_8_1.2.2 (fun j hj => m_fc_0 j)
  refine dz_lw (α := Nat × dzW × Array Slot) (fun a9 => (fun (a : Nat) (G_L14 : dzW) (ls : Array Slot) => ns - a) a9.1 a9.2.1 a9.2.2) (fun a9 H locs => (fun (a : Nat) (G_L14 : dzW) (ls : Array Slot) => (a ≤ ns) ∧ (∀ r9 : dzR, r9 ≠ (25, nf) → G_L14 r9 = G_2 r9 ∧ ad_8_1 r9 = ad_8_1 r9) ∧ (G_L14 (25, nf) = some (eI Z 30 (m_fc cnt V a 0))) ∧ dz_w Z G_L14 ad_8_1 H ∧ va_S (dz_A Z) s.heap H locs ∧ lv_has ls 5 [(2, .int (nI a)), (1, .ref q_1), (0, .ref aX)]) a9.1 a9.2.1 a9.2.2) (fun a9 => F0 m 14 a9.2.2 []) (fun a9 H locs hI ih_14 => ?_) (0, G_2, ls) ⟨(Nat.zero_le _), (fun r9 _ => ⟨rfl, rfl⟩), w_2, hG, hS, lv_sub hl [0, 1, 2] rfl⟩
  obtain ⟨a, G_L14, ls⟩ := a9
  obtain ⟨hal, fr_L14, wf1, hG, hS, hl⟩ := hI
  have hal : a ≤ ns := hal
  have fr_L14 : ∀ r9 : dzR, r9 ≠ (25, nf) → G_L14 r9 = G_2 r9 ∧ ad_8_1 r9 = ad_8_1 r9 := fr_L14
  have wf1 : G_L14 (25, nf) = some (eI Z 30 (m_fc cnt V a 0)) := wf1
  have hG : dz_w Z G_L14 ad_8_1 H := hG
  have hS : va_S (dz_A Z) s.heap H locs := hS
  have hl : lv_has ls 5 [(2, .int (nI a)), (1, .ref q_1), (0, .ref aX)] := hl
  refine lv_iload_n hx hb dX8_framedSky_14 rfl (lv_at hl 0 rfl) ?_
  refine lv_aload_n hx hb dX8_framedSky_15 rfl (lv_at hl 2 rfl) ?_
  refine dz_get hx hb hts (fun _ h => List.mem_cons_of_mem _ (List.mem_append_left _ (List.mem_append_left _ (List.mem_append_left _ (List.mem_append_left _ (List.mem_append_left _ (List.mem_append_right _ h))))))) hown hE hG ((fr_L14 _ (dz_n rfl)).2.trans ((o_2 _ (dz_n rfl)).2.trans ((fr_8_1 _ (dz_n rfl) (dz_n rfl)).2.trans ((o_1 _ (dz_n rfl)).2.trans ha)))) ((fr_L14 _ (dz_n rfl)).1.trans ((o_2 _ (dz_n rfl)).1.trans hco8)) rfl 1 (by decide) (hts _ (List.mem_of_getElem? (i := 5) rfl)) (fun _ h9 => h9) rfl dX8_framedSky_16 ?_
  refine dz_kRi (va_runV (As := []) ⟨hx, hb, hml, hown, hts⟩ (c_Jx4a65c_size_8abf5 l Z _ _ _ _ _ _ _ ((fr_L14 _ (dz_n rfl)).2.trans ((o_2 _ (dz_n rfl)).2.trans rfl)) (dz_L.frame (dz_L.frame hls8 (o_2 _ (dz_n rfl)).1 (o_2 _ (dz_n rfl))) (fr_L14 _ (dz_n rfl)).1 (fr_L14 _ (dz_n rfl)))) (cwV 0 hts gX8_framedSky_Jx4a65c_size_8abf5 rfl rfl rfl (by decide +kernel) ⟨Nat.le_of_ble_eq_true rfl, Nat.le_of_ble_eq_true rfl⟩) (dz_P.preL hE hS hG (dz_L.frame (dz_L.frame hls8 (o_2 _ (dz_n rfl)).1 (o_2 _ (dz_n rfl))) (fr_L14 _ (dz_n rfl)).1 (fr_L14 _ (dz_n rfl))) ((fr_L14 _ (dz_n rfl)).2.trans ((o_2 _ (dz_n rfl)).2.trans rfl))) rfl rfl hl.1 rfl (lv_room (Nat.le_of_ble_eq_true rfl)) dX8_framedSky_19 ⟨Nat.le_of_ble_eq_true rfl, Nat.le_of_ble_eq_true rfl⟩) ?_
  refine lv_icmp_ge (tgt := 90) hx hb dX8_framedSky_22 (by decide) (fun c_22 => ?_) (fun c_22 => ?_)
  · have ha9 : a = ns := by have := (nI_leI (by omega) (by omega)).mp c_22; omega
    refine lv_aload_n hx hb dX8_framedSky_90 rfl (lv_at hl 1 rfl) ?_
    refine W.widen (k := 2) (n := 32) (by first | omega | decide) (by first | omega | decide) ?_
    refine W.aret hx hb hrt (Or.inl ⟨_, rfl⟩) (Or.inr ⟨_, rfl⟩) (fun t ht hW => dz_endM (f := rv_r) _ hE hS hG ?_ ht hW) (fun q h => hS.2.2 q h) dX8_framedSky_91
    refine ⟨fun r9 n_0 n_1 => (dz_tr (fr_L14 r9 n_1) (dz_tr (o_2 r9 n_1) (dz_tr (fr_8_1 r9 n_0 n_1) (o_1 r9 n_0)))), ?_⟩
    have z9 := wf1
    rw [ha9] at z9
    exact ⟨((fr_L14 _ (dz_n rfl)).1.trans ((o_2 _ (dz_n rfl)).1.trans g_8_1.1)), ((fr_L14 _ (dz_n rfl)).2.trans ((o_2 _ (dz_n rfl)).2.trans g_8_1.2.1)), z9⟩
  · have hlta : a < ns := by
      rcases Nat.lt_or_ge a (ns) with q | q
      · exact q
      · exact absurd ((nI_leI (by omega) (by omega)).mpr q) c_22
    refine lv_aload_n hx hb dX8_framedSky_25 rfl (lv_at hl 2 rfl) ?_
    refine dz_get hx hb hts (fun _ h => List.mem_cons_of_mem _ (List.mem_append_left _ (List.mem_append_left _ (List.mem_append_left _ (List.mem_append_left _ (List.mem_append_left _ (List.mem_append_right _ h))))))) hown hE hG ((fr_L14 _ (dz_n rfl)).2.trans ((o_2 _ (dz_n rfl)).2.trans ((fr_8_1 _ (dz_n rfl) (dz_n rfl)).2.trans ((o_1 _ (dz_n rfl)).2.trans ha)))) ((fr_L14 _ (dz_n rfl)).1.trans ((o_2 _ (dz_n rfl)).1.trans hco8)) rfl 1 (by decide) (hts _ (List.mem_of_getElem? (i := 5) rfl)) (fun _ h9 => h9) rfl dX8_framedSky_26 ?_
    refine lv_iload_n hx hb dX8_framedSky_29 rfl (lv_at hl 0 rfl) ?_
    refine dz_kRr (va_runV (As := [_]) ⟨hx, hb, hml, hown, hts⟩ (c_Jx4a65c_get_915e3 l Z _ _ _ _ _ _ _ _ ((fr_L14 _ (dz_n rfl)).2.trans ((o_2 _ (dz_n rfl)).2.trans rfl)) (dz_L.frame (dz_L.frame hls8 (o_2 _ (dz_n rfl)).1 (o_2 _ (dz_n rfl))) (fr_L14 _ (dz_n rfl)).1 (fr_L14 _ (dz_n rfl))) hlta) (cwV 1 hts gX8_framedSky_Jx4a65c_get_915e3 rfl rfl rfl (by decide +kernel) ⟨Nat.le_of_ble_eq_true rfl, Nat.le_of_ble_eq_true rfl⟩) (dz_P.preL hE hS hG (dz_L.frame (dz_L.frame hls8 (o_2 _ (dz_n rfl)).1 (o_2 _ (dz_n rfl))) (fr_L14 _ (dz_n rfl)).1 (fr_L14 _ (dz_n rfl))) ((fr_L14 _ (dz_n rfl)).2.trans ((o_2 _ (dz_n rfl)).2.trans rfl))) rfl rfl hl.1 rfl (lv_room (Nat.le_of_ble_eq_true rfl)) dX8_framedSky_30 ⟨Nat.le_of_ble_eq_true rfl, Nat.le_of_ble_eq_true rfl⟩) ?_
    refine dz_cst hx hb hown (hts _ (List.mem_of_getElem? (i := 6) rfl)) hE hG rfl ((dz_So.frame (dz_So.frame (dz_So.frame (dz_So.frame hso (fun r h => o_1 r (by rintro rfl; simp at h)) (fun r h => (o_1 r (by rintro rfl; simp at h)).2)) (fun r h => fr_8_1 r (by rintro rfl; simp at h) (by rintro rfl; simp at h)) (fun r h => (fr_8_1 r (by rintro rfl; simp at h) (by rintro rfl; simp at h)).2)) (fun r h => o_2 r (by rintro rfl; simp at h)) (fun _ _ => rfl)) (fun r h => fr_L14 r (by rintro rfl; simp at h)) (fun _ _ => rfl)) a hlta) rfl dX8_framedSky_33 ?_
    refine dz_kRi (va_runV (As := []) ⟨hx, hb, hml, hown, hts⟩ (c_X6_imageCount l Z _ _ _ _ _ _ _ _ _ _ rfl ((dz_So.frame (dz_So.frame (dz_So.frame (dz_So.frame hso (fun r h => o_1 r (by rintro rfl; simp at h)) (fun r h => (o_1 r (by rintro rfl; simp at h)).2)) (fun r h => fr_8_1 r (by rintro rfl; simp at h) (by rintro rfl; simp at h)) (fun r h => (fr_8_1 r (by rintro rfl; simp at h) (by rintro rfl; simp at h)).2)) (fun r h => o_2 r (by rintro rfl; simp at h)) (fun _ _ => rfl)) (fun r h => fr_L14 r (by rintro rfl; simp at h)) (fun _ _ => rfl)) a hlta)) (cwV 0 hts gX8_framedSky_X6_imageCount rfl rfl rfl (by decide +kernel) ⟨Nat.le_of_ble_eq_true rfl, Nat.le_of_ble_eq_true rfl⟩) (dz_P.preV hE hS hG ((dz_So.frame (dz_So.frame (dz_So.frame (dz_So.frame hso (fun r h => o_1 r (by rintro rfl; simp at h)) (fun r h => (o_1 r (by rintro rfl; simp at h)).2)) (fun r h => fr_8_1 r (by rintro rfl; simp at h) (by rintro rfl; simp at h)) (fun r h => (fr_8_1 r (by rintro rfl; simp at h) (by rintro rfl; simp at h)).2)) (fun r h => o_2 r (by rintro rfl; simp at h)) (fun _ _ => rfl)) (fun r h => fr_L14 r (by rintro rfl; simp at h)) (fun _ _ => rfl)) a hlta) rfl rfl) rfl rfl hl.1 rfl (lv_room (Nat.le_of_ble_eq_true rfl)) dX8_framedSky_36 ⟨Nat.le_of_ble_eq_true rfl, Nat.le_of_ble_eq_true rfl⟩) ?_
    refine lv_topi (fun v_2 ev_2 => ?_)
    obtain rfl : v_2 = nI (cnt a) := ev_2
    refine lv_bipush (v := 6) hx hb dX8_framedSky_39 (by decide) ?_
    refine va_mmin hx hb (hml.trans hl.1.symm) hown (hts _ (List.mem_of_getElem? (i := 7) rfl)) (hts _ (List.mem_of_getElem? (i := 8) rfl)) (hts _ (List.mem_of_getElem? (i := 9) rfl)) (hts _ (List.mem_of_getElem? (i := 10) rfl)) (Nat.le_of_ble_eq_true rfl) (Nat.le_of_ble_eq_true rfl) (Nat.le_of_ble_eq_true rfl) (Nat.le_of_ble_eq_true rfl) dX8_framedSky_41 ?_
    refine lv_topi (fun v_3 ev_3 => ?_)
    obtain rfl : v_3 = nI (min (cnt a) 6) := ev_3.trans (m_min6 (show cnt a ≤ 441 from hcn a hlta))
    refine lv_istore_n (lv' := [(3, .int (nI (min (cnt a) 6))), (2, .int (nI a)), (1, .ref q_1), (0, .ref aX)]) hx hb dX8_framedSky_44 rfl hl (by decide) rfl (fun ls hl => ?_)
    refine lv_iconst (v := 0) hx hb dX8_framedSky_45 (by decide) ?_
    refine lv_istore (lv' := [(4, .int 0), (3, .int (nI (min (cnt a) 6))), (2, .int (nI a)), (1, .ref q_1), (0, .ref aX)]) hx hb dX8_framedSky_46 hl (by decide) rfl (fun ls hl => ?_)
    refine dz_lw (α := Nat × dzW × Array Slot) (fun a9 => (fun (b : Nat) (G_L48 : dzW) (ls : Array Slot) => min (cnt a) 6 - b) a9.1 a9.2.1 a9.2.2) (fun a9 H locs => (fun (b : Nat) (G_L48 : dzW) (ls : Array Slot) => (b ≤ min (cnt a) 6) ∧ (∀ r9 : dzR, r9 ≠ (25, nf) → G_L48 r9 = G_L14 r9 ∧ ad_8_1 r9 = ad_8_1 r9) ∧ (G_L48 (25, nf) = some (eI Z 30 (m_fc cnt V a b))) ∧ dz_w Z G_L48 ad_8_1 H ∧ va_S (dz_A Z) s.heap H locs ∧ lv_has ls 5 [(4, .int (nI b)), (3, .int (nI (min (cnt a) 6))), (2, .int (nI a)), (1, .ref q_1), (0, .ref aX)]) a9.1 a9.2.1 a9.2.2) (fun a9 => F0 m 48 a9.2.2 []) (fun a9 H locs hI ih_48 => ?_) (0, G_L14, ls) ⟨(Nat.zero_le _), (fun r9 _ => ⟨rfl, rfl⟩), wf1, hG, hS, lv_sub hl [0, 1, 2, 3, 4] rfl⟩
    obtain ⟨b, G_L48, ls⟩ := a9
    obtain ⟨hbl, fr_L48, wf2, hG, hS, hl⟩ := hI
    have hbl : b ≤ min (cnt a) 6 := hbl
    have fr_L48 : ∀ r9 : dzR, r9 ≠ (25, nf) → G_L48 r9 = G_L14 r9 ∧ ad_8_1 r9 = ad_8_1 r9 := fr_L48
    have wf2 : G_L48 (25, nf) = some (eI Z 30 (m_fc cnt V a b)) := wf2
    have hG : dz_w Z G_L48 ad_8_1 H := hG
    have hS : va_S (dz_A Z) s.heap H locs := hS
    have hl : lv_has ls 5 [(4, .int (nI b)), (3, .int (nI (min (cnt a) 6))), (2, .int (nI a)), (1, .ref q_1), (0, .ref aX)] := hl
    refine lv_iload hx hb dX8_framedSky_48 (lv_at hl 0 rfl) ?_
    refine lv_iload_n hx hb dX8_framedSky_50 rfl (lv_at hl 1 rfl) ?_
    refine lv_icmp_ge (tgt := 84) hx hb dX8_framedSky_51 (by decide) (fun c_51 => ?_) (fun c_51 => ?_)
    · have hb9 : b = (min (cnt a) 6) := by have := (nI_leI (by omega) (by omega)).mp c_51; omega
      obtain ⟨v_4, ev_4⟩ : ∃ y : Int32, y = (nI a) + 1 := ⟨_, rfl⟩
      refine lv_iinc (v := v_4) (lv' := [(2, .int v_4), (4, .int (nI b)), (3, .int (nI (min (cnt a) 6))), (1, .ref q_1), (0, .ref aX)]) hx hb dX8_framedSky_84 hl (k := 2) rfl (by rw [ev_4]; rfl) (by decide) rfl (fun ls hl => ?_)
      refine lv_goto (tgt := 14) hx hb dX8_framedSky_87 (by decide) ?_
      obtain rfl : v_4 = nI (a + 1) := ev_4.trans (nI_1 a)
      exact ih_14 (a + 1, G_L48, ls) _ _ (by first | (dsimp only; omega) | omega) ⟨(by omega), (fun r9 n_0 => (dz_tr (fr_L48 r9 n_0) (fr_L14 r9 n_0))), (by have z := wf2; rw [hb9, m_fc_6 rfl] at z; exact z), hG, hS, lv_sub hl [0, 3, 4] rfl⟩
    · have hltb : b < (min (cnt a) 6) := by
        rcases Nat.lt_or_ge b (min (cnt a) 6) with q | q
        · exact q
        · exact absurd ((nI_leI (by omega) (by omega)).mpr q) c_51
      have hbc : b < cnt a := by omega
      obtain ⟨jb, hjb, ejb⟩ := hplj a b hlta hbc
      obtain ⟨j0, hj0, ej0⟩ := hplj a 0 hlta (by omega)
      refine lv_aload_n hx hb dX8_framedSky_54 rfl (lv_at hl 3 rfl) ?_
      refine lv_iload_n hx hb dX8_framedSky_55 rfl (lv_at hl 2 rfl) ?_
      refine lv_iload hx hb dX8_framedSky_56 (lv_at hl 0 rfl) ?_
      refine lv_aload_n hx hb dX8_framedSky_58 rfl (lv_at hl 4 rfl) ?_
      refine lv_aload_n hx hb dX8_framedSky_59 rfl (lv_at hl 4 rfl) ?_
      refine dz_get hx hb hts (fun _ h => List.mem_cons_of_mem _ (List.mem_append_left _ (List.mem_append_left _ (List.mem_append_left _ (List.mem_append_left _ (List.mem_append_left _ (List.mem_append_right _ h))))))) hown hE hG ((fr_L48 _ (dz_n rfl)).2.trans ((fr_L14 _ (dz_n rfl)).2.trans ((o_2 _ (dz_n rfl)).2.trans ((fr_8_1 _ (dz_n rfl) (dz_n rfl)).2.trans ((o_1 _ (dz_n rfl)).2.trans ha))))) ((fr_L48 _ (dz_n rfl)).1.trans ((fr_L14 _ (dz_n rfl)).1.trans ((o_2 _ (dz_n rfl)).1.trans hco8))) rfl 1 (by decide) (hts _ (List.mem_of_getElem? (i := 5) rfl)) (fun _ h9 => h9) rfl dX8_framedSky_60 ?_
      refine lv_iload_n hx hb dX8_framedSky_63 rfl (lv_at hl 2 rfl) ?_
      refine dz_kRr (va_runV (As := [_]) ⟨hx, hb, hml, hown, hts⟩ (c_Jx4a65c_get_915e3 l Z _ _ _ _ _ _ _ _ ((fr_L48 _ (dz_n rfl)).2.trans ((fr_L14 _ (dz_n rfl)).2.trans ((o_2 _ (dz_n rfl)).2.trans rfl))) (dz_L.frame (dz_L.frame (dz_L.frame hls8 (o_2 _ (dz_n rfl)).1 (o_2 _ (dz_n rfl))) (fr_L14 _ (dz_n rfl)).1 (fr_L14 _ (dz_n rfl))) (fr_L48 _ (dz_n rfl)).1 (fr_L48 _ (dz_n rfl))) hlta) (cwV 1 hts gX8_framedSky_Jx4a65c_get_915e3 rfl rfl rfl (by decide +kernel) ⟨Nat.le_of_ble_eq_true rfl, Nat.le_of_ble_eq_true rfl⟩) (dz_P.preL hE hS hG (dz_L.frame (dz_L.frame (dz_L.frame hls8 (o_2 _ (dz_n rfl)).1 (o_2 _ (dz_n rfl))) (fr_L14 _ (dz_n rfl)).1 (fr_L14 _ (dz_n rfl))) (fr_L48 _ (dz_n rfl)).1 (fr_L48 _ (dz_n rfl))) ((fr_L48 _ (dz_n rfl)).2.trans ((fr_L14 _ (dz_n rfl)).2.trans ((o_2 _ (dz_n rfl)).2.trans rfl)))) rfl rfl hl.1 rfl (lv_room (Nat.le_of_ble_eq_true rfl)) dX8_framedSky_64 ⟨Nat.le_of_ble_eq_true rfl, Nat.le_of_ble_eq_true rfl⟩) ?_
      refine dz_cst hx hb hown (hts _ (List.mem_of_getElem? (i := 6) rfl)) hE hG rfl ((dz_So.frame (dz_So.frame (dz_So.frame (dz_So.frame (dz_So.frame hso (fun r h => o_1 r (by rintro rfl; simp at h)) (fun r h => (o_1 r (by rintro rfl; simp at h)).2)) (fun r h => fr_8_1 r (by rintro rfl; simp at h) (by rintro rfl; simp at h)) (fun r h => (fr_8_1 r (by rintro rfl; simp at h) (by rintro rfl; simp at h)).2)) (fun r h => o_2 r (by rintro rfl; simp at h)) (fun _ _ => rfl)) (fun r h => fr_L14 r (by rintro rfl; simp at h)) (fun _ _ => rfl)) (fun r h => fr_L48 r (by rintro rfl; simp at h)) (fun _ _ => rfl)) a hlta) rfl dX8_framedSky_67 ?_
      refine lv_iload hx hb dX8_framedSky_70 (lv_at hl 0 rfl) ?_
      refine dz_kRi (va_runV (As := [_, _]) ⟨hx, hb, hml, hown, hts⟩ (c_X8_lightToday l Z _ _ _ _ _ _ _ _ _ _ a b jb j0 _ _ _ _ _ _ _ _ _ _ _ _ _ _ _ _ _ _  ((fr_L48 _ (dz_n rfl)).2.trans ((fr_L14 _ (dz_n rfl)).2.trans ((o_2 _ (dz_n rfl)).2.trans ((fr_8_1 _ (dz_n rfl) (dz_n rfl)).2.trans ((o_1 _ (dz_n rfl)).2.trans ha))))) ((fr_L48 _ (dz_n rfl)).1.trans ((fr_L14 _ (dz_n rfl)).1.trans ((o_2 _ (dz_n rfl)).1.trans hco8))) ((dz_So.frame (dz_So.frame (dz_So.frame (dz_So.frame (dz_So.frame hso (fun r h => o_1 r (by rintro rfl; simp at h)) (fun r h => (o_1 r (by rintro rfl; simp at h)).2)) (fun r h => fr_8_1 r (by rintro rfl; simp at h) (by rintro rfl; simp at h)) (fun r h => (fr_8_1 r (by rintro rfl; simp at h) (by rintro rfl; simp at h)).2)) (fun r h => o_2 r (by rintro rfl; simp at h)) (fun _ _ => rfl)) (fun r h => fr_L14 r (by rintro rfl; simp at h)) (fun _ _ => rfl)) (fun r h => fr_L48 r (by rintro rfl; simp at h)) (fun _ _ => rfl)) a hlta) ((dz_Pl.frame (dz_Pl.frame (dz_Pl.frame (dz_Pl.frame (dz_Pl.frame hpl (fun r h => o_1 r (by rintro rfl; simp at h))) (fun r h => fr_8_1 r (by rintro rfl; simp at h) (by rintro rfl; simp at h))) (fun r h => o_2 r (by rintro rfl; simp at h))) (fun r h => fr_L14 r (by rintro rfl; simp at h))) (fun r h => fr_L48 r (by rintro rfl; simp at h))) a hlta) ((dz_Fl.frame (dz_Fl.frame (dz_Fl.frame (dz_Fl.frame (dz_Fl.frame hfb (fun r h => o_1 r (by rintro rfl; simp at h))) (fun r h => fr_8_1 r (by rintro rfl; simp at h) (by rintro rfl; simp at h))) (fun r h => o_2 r (by rintro rfl; simp at h))) (fun r h => fr_L14 r (by rintro rfl; simp at h))) (fun r h => fr_L48 r (by rintro rfl; simp at h))) a hlta).1 ((dz_Fl.frame (dz_Fl.frame (dz_Fl.frame (dz_Fl.frame (dz_Fl.frame hfb (fun r h => o_1 r (by rintro rfl; simp at h))) (fun r h => fr_8_1 r (by rintro rfl; simp at h) (by rintro rfl; simp at h))) (fun r h => o_2 r (by rintro rfl; simp at h))) (fun r h => fr_L14 r (by rintro rfl; simp at h))) (fun r h => fr_L48 r (by rintro rfl; simp at h))) a hlta).2 ((dz_St.frame (dz_St.frame (dz_St.frame (dz_St.frame (dz_St.frame hsb (fun r h => o_1 r (by rintro rfl; simp at h))) (fun r h => fr_8_1 r (by rintro rfl; simp at h) (by rintro rfl; simp at h))) (fun r h => o_2 r (by rintro rfl; simp at h))) (fun r h => fr_L14 r (by rintro rfl; simp at h))) (fun r h => fr_L48 r (by rintro rfl; simp at h))) a hlta).1 ((dz_St.frame (dz_St.frame (dz_St.frame (dz_St.frame (dz_St.frame hsb (fun r h => o_1 r (by rintro rfl; simp at h))) (fun r h => fr_8_1 r (by rintro rfl; simp at h) (by rintro rfl; simp at h))) (fun r h => o_2 r (by rintro rfl; simp at h))) (fun r h => fr_L14 r (by rintro rfl; simp at h))) (fun r h => fr_L48 r (by rintro rfl; simp at h))) a hlta).2 ((fr_L48 _ (dz_n rfl)).1.trans ((fr_L14 _ (dz_n rfl)).1.trans ((o_2 _ (dz_n rfl)).1.trans hro8))) ((fr_L48 _ (dz_n rfl)).1.trans ((fr_L14 _ (dz_n rfl)).1.trans ((o_2 _ (dz_n rfl)).1.trans ((fr_8_1 _ (dz_n rfl) (dz_n rfl)).1.trans ((o_1 _ (dz_n rfl)).1.trans hc))))) ((fr_L48 _ (dz_n rfl)).1.trans ((fr_L14 _ (dz_n rfl)).1.trans ((o_2 _ (dz_n rfl)).1.trans ((fr_8_1 _ (dz_n rfl) (dz_n rfl)).1.trans ((o_1 _ (dz_n rfl)).1.trans hr))))) ((fr_L48 _ (dz_n rfl)).1.trans ((fr_L14 _ (dz_n rfl)).1.trans ((o_2 _ (dz_n rfl)).1.trans ((fr_8_1 _ (dz_n rfl) (dz_n rfl)).1.trans ((o_1 _ (dz_n rfl)).1.trans hw))))) hbc (hcn a hlta) ejb hjb ej0 hj0 hg1 hgz (hnfl a hlta) (hnst a hlta) (hsw a hlta)) (cwV 2 hts gX8_framedSky_X8_lightToday rfl rfl rfl (by decide +kernel) ⟨Nat.le_of_ble_eq_true rfl, Nat.le_of_ble_eq_true rfl⟩) (dz_P.preV hE hS hG ((fr_L48 _ (dz_n rfl)).1.trans ((fr_L14 _ (dz_n rfl)).1.trans ((o_2 _ (dz_n rfl)).1.trans hco8))) rfl ((fr_L48 _ (dz_n rfl)).2.trans ((fr_L14 _ (dz_n rfl)).2.trans ((o_2 _ (dz_n rfl)).2.trans ((fr_8_1 _ (dz_n rfl) (dz_n rfl)).2.trans ((o_1 _ (dz_n rfl)).2.trans ha)))))) rfl rfl hl.1 rfl (lv_room (Nat.le_of_ble_eq_true rfl)) dX8_framedSky_72 ⟨Nat.le_of_ble_eq_true rfl, Nat.le_of_ble_eq_true rfl⟩) ?_
      refine lv_topi (fun v_5 ev_5 => ?_)
      obtain rfl : v_5 = (V a b) := ev_5.trans (hV a b jb j0 hlta hbc ejb ej0 hjb hj0)
      refine dz_kMv (va_runV (As := [_, _, _]) ⟨hx, hb, hml, hown, hts⟩ (c_X3_setLight l Z _ _ _ _ a b _ _ _ ((fr_L48 _ (dz_n rfl)).2.trans ((fr_L14 _ (dz_n rfl)).2.trans ((o_2 _ (dz_n rfl)).2.trans g_8_1.2.1))) ((fr_L48 _ (dz_n rfl)).1.trans ((fr_L14 _ (dz_n rfl)).1.trans ((o_2 _ (dz_n rfl)).1.trans g_8_1.1))) wf2 (by omega) (by omega)) (cwV 3 hts gX8_framedSky_X3_setLight rfl rfl rfl (by decide +kernel) ⟨Nat.le_of_ble_eq_true rfl, Nat.le_of_ble_eq_true rfl⟩) (dz_P.preV hE hS hG ((fr_L48 _ (dz_n rfl)).1.trans ((fr_L14 _ (dz_n rfl)).1.trans ((o_2 _ (dz_n rfl)).1.trans g_8_1.1))) rfl ((fr_L48 _ (dz_n rfl)).2.trans ((fr_L14 _ (dz_n rfl)).2.trans ((o_2 _ (dz_n rfl)).2.trans g_8_1.2.1)))) rfl rfl hl.1 rfl (lv_room (Nat.le_of_ble_eq_true rfl)) dX8_framedSky_75 ⟨Nat.le_of_ble_eq_true rfl, Nat.le_of_ble_eq_true rfl⟩) hS (fun G_75_2 ad_75_2 H locs hp_75_2 hG hS => ?_)
      obtain ⟨fr_75_2, rfl, g_75_2⟩ := hp_75_2
      obtain ⟨v_6, ev_6⟩ : ∃ y : Int32, y = (nI b) + 1 := ⟨_, rfl⟩
      refine lv_iinc (v := v_6) (lv' := [(4, .int v_6), (3, .int (nI (min (cnt a) 6))), (2, .int (nI a)), (1, .ref q_1), (0, .ref aX)]) hx hb dX8_framedSky_78 hl (k := 0) rfl (by rw [ev_6]; rfl) (by decide) rfl (fun ls hl => ?_)
      refine lv_goto (tgt := 48) hx hb dX8_framedSky_81 (by decide) ?_
      obtain rfl : v_6 = nI (b + 1) := ev_6.trans (nI_1 b)
      exact ih_48 (b + 1, G_75_2, ls) _ _ (by first | (dsimp only; omega) | omega) ⟨(by omega), (fun r9 n_0 => (dz_tr (fr_75_2 r9 n_0) (fr_L48 r9 n_0))), (by have z := g_75_2; rw [m_fc_s (by omega) hbc] at z; exact z), hG, hS, lv_sub hl [0, 1, 2, 3, 4] rfl⟩

set_option maxHeartbeats 4000000 in
set_option maxRecDepth 100000 in
theorem c_D_frame_okE (l : Launch) (Z : dzG) (G : dzW) (ad : dzA) (aX nl nx : Nat) (dy ssf sst cfr grw : Int32) (ns : Nat) (nf : Nat) (fdy : Nat → Int32) (lg : Nat → Nat → Int32) (cnt : Nat → Nat) (col row fl : Nat → Int32) (pl : Nat → Nat → Int32) (nfl nst : Nat → Nat) (fx sx : Nat → Nat → Nat) (fd fb sr sd sw sg : Nat → Int32) (fc fr fw : Nat → Int32) (V : Nat → Nat → Int32) (ha : ad (1, 0) = aX) (hco : G (1, 0) = some (eO 9 [.ref (ad (2, 0)), .ref (ad (9, 0)), .int (nI nl), .int (nI nx), .ref (ad (19, 0)), .ref (ad (26, 0)), .int dy, .int ssf, .int sst, .int cfr, .int grw])) (hls : dz_L Z G ad (9, 0) (10, 0) ns (fun i => ad (11, i))) (hso : dz_So G ad ns cnt col row fl) (hpl : dz_Pl Z G ns pl) (hfb : dz_Fl Z G ad ns nfl fx fd fb) (hsb : dz_St Z G ad ns nst sx sr sd sw sg) (hro : G (2, 0) = some (eO 6 [.ref (ad (3, 0)), .ref (ad (5, 0)), .ref (ad (6, 0)), .ref (ad (7, 0))])) (hc : G (5, 0) = some (eI Z 484 fc)) (hr : G (6, 0) = some (eI Z 484 fr)) (hw : G (7, 0) = some (eI Z 484 fw)) (hF : dz_Fr Z G ad nf fdy lg) (hnf : nf ≤ 60) (hns : ns ≤ 5) (hcn : ∀ i, i < ns → cnt i ≤ 441) (hplj : ∀ i k, i < ns → k < cnt i → ∃ j, j + 22 < 484 ∧ pl i k = nI j) (hV : ∀ a b j j0, a < ns → b < cnt a → pl a b = nI j → pl a 0 = nI j0 → j + 22 < 484 → j0 + 22 < 484 → m_abs (m_times (m_turn fc fr j)) * m_pos (m_lgt (fl a) fd fb (fx a) (dy - (fw j - fw j0) * 20 / grw) (nfl a)) + m_sts sr sd sw sg (sx a) (nI b) dy (nst a) = V a b) (hg1 : 1 ≤ grw) (hgz : ¬ grw = 0) (hnfl : ∀ i, i < ns → nfl i ≤ 60) (hnst : ∀ i, i < ns → nst i ≤ 60) (hsw : ∀ i, i < ns → ∀ j, j < nst i → 1 ≤ sw (sx i j) ∧ ¬ sw (sx i j) = 0) (hg : (ssf ≤ dy - dy / 100 * 100 ∧ dy - dy / 100 * 100 ≤ sst) ∧ ¬ dy < cfr) (hfd : fdy nf = dy) (hlg : lg nf = (m_fc cnt V ns 0)) (hn5 : nf ≤ 59) (h0 : nf = 0) : dzWr l yX8_frame wsX8_frame 8 205 3 132 Z G ad [.ref aX] rv_i (fun (x : Int32) G1 ad1 => (∀ r9 : dzR, r9 ≠ (24, nf) → r9 ≠ (25, nf) → r9 ≠ (20, 0) → r9 ≠ (21, 0) → r9 ≠ (90, 0) → G1 r9 = G r9 ∧ ad1 r9 = ad r9) ∧ x = nI nf ∧ dz_Fr Z G1 ad1 (nf + 1) fdy lg) := by
  refine Met.ofW (cc := cX8_frame) (maxL := 1) (ret := (some .int)) (by decide) rfl ?_
  intro p e s m args below meth c s₁ B hml hv
  obtain ⟨rfl, hG, hE⟩ := hv
  have hx := B.exec
  have hb := B.bytes
  have hrt := B.returns
  have hts := atoms_spec (ws := wsX8_frame) B.pre
  have hown : s.vm.findClass RX8 = some m.cls := findClass_of_methodNamed B.named
  have hlocks := B.notSynchronized
  have hS : va_S (dz_A Z) s.heap s.heap [] := va_S.rf
  have hl := lv_entry ([.ref aX]) (n := 1) (Nat.le_of_ble_eq_true rfl)
  rw [lg_entry_eq]
  generalize (lg_sl ([.ref aX]) ++ List.replicate (1 - (lg_sl ([.ref aX])).length) Slot.unset).toArray = ls at hl ⊢
  have hl : lv_has ls 1 [(0, .ref aX)] := hl
  refine lv_aload_n hx hb dX8_frame_0 rfl (lv_at hl 0 rfl) ?_
  refine dz_kRi (va_runV (As := []) ⟨hx, hb, hml, hown, hts⟩ (c_X8_isSeason l Z _ _ _ _ _ _ _ _ _ _ ha hco) (cwV 0 hts gX8_frame_X8_isSeason rfl rfl rfl (by decide +kernel) ⟨Nat.le_of_ble_eq_true rfl, Nat.le_of_ble_eq_true rfl⟩) (dz_P.preV hE hS hG hco rfl ha) rfl rfl hl.1 rfl (lv_room (Nat.le_of_ble_eq_true rfl)) dX8_frame_1 ⟨Nat.le_of_ble_eq_true rfl, Nat.le_of_ble_eq_true rfl⟩) ?_
  refine lv_topi (fun v_1 ev_1 => ?_)
  obtain rfl : v_1 = 1 := ev_1.trans (dz_b1 hg.1)
  refine lv_if_eq (tgt := 42) hx hb dX8_frame_4 (by decide) (fun c_4 => absurd c_4 (by decide)) (fun c_4 => ?_)
  refine lv_aload_n hx hb dX8_frame_7 rfl (lv_at hl 0 rfl) ?_
  refine dz_get hx hb hts (fun _ h => List.mem_cons_of_mem _ (List.mem_append_left _ (List.mem_append_left _ (List.mem_append_left _ (List.mem_append_left _ (List.mem_append_left _ (List.mem_append_left _ (List.mem_append_left _ (List.mem_append_left _ (List.mem_append_right _ h)))))))))) hown hE hG ha hco rfl 6 (by decide) (hts _ (List.mem_of_getElem? (i := 3) rfl)) (fun _ h9 => h9) rfl dX8_frame_8 ?_
  refine lv_aload_n hx hb dX8_frame_11 rfl (lv_at hl 0 rfl) ?_
  refine dz_get hx hb hts (fun _ h => List.mem_cons_of_mem _ (List.mem_append_left _ (List.mem_append_left _ (List.mem_append_left _ (List.mem_append_left _ (List.mem_append_left _ (List.mem_append_left _ (List.mem_append_left _ (List.mem_append_left _ (List.mem_append_right _ h)))))))))) hown hE hG ha hco rfl 9 (by decide) (hts _ (List.mem_of_getElem? (i := 4) rfl)) (fun _ h9 => h9) rfl dX8_frame_12 ?_
  refine lv_icmp_lt (tgt := 42) hx hb dX8_frame_15 (by decide) (fun c_15 => absurd c_15 hg.2) (fun c_15 => ?_)
  refine lv_aload_n hx hb dX8_frame_18 rfl (lv_at hl 0 rfl) ?_
  refine dz_get hx hb hts (fun _ h => List.mem_cons_of_mem _ (List.mem_append_left _ (List.mem_append_left _ (List.mem_append_left _ (List.mem_append_left _ (List.mem_append_left _ (List.mem_append_left _ (List.mem_append_left _ (List.mem_append_left _ (List.mem_append_right _ h)))))))))) hown hE hG ha hco rfl 4 (by decide) (hts _ (List.mem_of_getElem? (i := 5) rfl)) (fun _ h9 => h9) rfl dX8_frame_19 ?_
  refine lv_aload_n hx hb dX8_frame_22 rfl (lv_at hl 0 rfl) ?_
  refine dz_get hx hb hts (fun _ h => List.mem_cons_of_mem _ (List.mem_append_left _ (List.mem_append_left _ (List.mem_append_left _ (List.mem_append_left _ (List.mem_append_left _ (List.mem_append_left _ (List.mem_append_left _ (List.mem_append_left _ (List.mem_append_right _ h)))))))))) hown hE hG ha hco rfl 6 (by decide) (hts _ (List.mem_of_getElem? (i := 3) rfl)) (fun _ h9 => h9) rfl dX8_frame_23 ?_
  refine dz_kRi (va_runV (As := [_]) ⟨hx, hb, hml, hown, hts⟩ (c_hfE l Z _ _ _ _ _ _ _ rfl hF hnf h0) (cwV 1 hts gX8_frame_X0_hasFrameOf rfl rfl rfl (by decide +kernel) ⟨Nat.le_of_ble_eq_true rfl, Nat.le_of_ble_eq_true rfl⟩) (dz_P.preV hE hS hG hF.1 rfl rfl) rfl rfl hl.1 rfl (lv_room (Nat.le_of_ble_eq_true rfl)) dX8_frame_26 ⟨Nat.le_of_ble_eq_true rfl, Nat.le_of_ble_eq_true rfl⟩) ?_
  refine lv_topi (fun v_2 ev_2 => ?_)
  obtain rfl : v_2 = 0 := ev_2
  refine lv_if_ne (tgt := 42) hx hb dX8_frame_29 (by decide) (fun c_29 => absurd (by decide) c_29) (fun c_29 => ?_)
  refine lv_aload_n hx hb dX8_frame_32 rfl (lv_at hl 0 rfl) ?_
  refine dz_get hx hb hts (fun _ h => List.mem_cons_of_mem _ (List.mem_append_left _ (List.mem_append_left _ (List.mem_append_left _ (List.mem_append_left _ (List.mem_append_left _ (List.mem_append_left _ (List.mem_append_left _ (List.mem_append_left _ (List.mem_append_right _ h)))))))))) hown hE hG ha hco rfl 4 (by decide) (hts _ (List.mem_of_getElem? (i := 5) rfl)) (fun _ h9 => h9) rfl dX8_frame_33 ?_
  refine dz_kRi (va_runV (As := []) ⟨hx, hb, hml, hown, hts⟩ (c_X0_isFull l Z _ _ _ _ _ _ rfl hF hnf) (cwV 0 hts gX8_frame_X0_isFull rfl rfl rfl (by decide +kernel) ⟨Nat.le_of_ble_eq_true rfl, Nat.le_of_ble_eq_true rfl⟩) (dz_P.preV hE hS hG hF.1 rfl rfl) rfl rfl hl.1 rfl (lv_room (Nat.le_of_ble_eq_true rfl)) dX8_frame_36 ⟨Nat.le_of_ble_eq_true rfl, Nat.le_of_ble_eq_true rfl⟩) ?_
  refine lv_topi (fun v_3 ev_3 => ?_)
  obtain rfl : v_3 = 0 := ev_3.trans (dz_b0 (by omega))
  refine lv_if_eq (tgt := 52) hx hb dX8_frame_39 (by decide) (fun c_39 => ?_) (fun c_39 => absurd (by decide) c_39)
  refine lv_aload_n hx hb dX8_frame_52 rfl (lv_at hl 0 rfl) ?_
  refine dz_get hx hb hts (fun _ h => List.mem_cons_of_mem _ (List.mem_append_left _ (List.mem_append_left _ (List.mem_append_left _ (List.mem_append_left _ (List.mem_append_left _ (List.mem_append_left _ (List.mem_append_left _ (List.mem_append_left _ (List.mem_append_right _ h)))))))))) hown hE hG ha hco rfl 4 (by decide) (hts _ (List.mem_of_getElem? (i := 5) rfl)) (fun _ h9 => h9) rfl dX8_frame_53 ?_
  refine lv_aload_n hx hb dX8_frame_56 rfl (lv_at hl 0 rfl) ?_
  refine dz_kMr (va_runV (As := []) ⟨hx, hb, hml, hown, hts⟩ (c_X8_framedSky l Z _ _ _ _ _ _ _ _ _ _ _ nf _ _ _ _ _ _ _ _ _ _ _ _ _ _ _ _ _ _ _  ha hco hls hso hpl hfb hsb hro hc hr hw hns hcn hplj hV hg1 hgz hnfl hnst hsw) (cwV 0 hts gX8_frame_X8_framedSky rfl rfl rfl (by decide +kernel) ⟨Nat.le_of_ble_eq_true rfl, Nat.le_of_ble_eq_true rfl⟩) (dz_P.preV hE hS hG hco rfl ha) rfl rfl hl.1 rfl (lv_room (Nat.le_of_ble_eq_true rfl)) dX8_frame_57 ⟨Nat.le_of_ble_eq_true rfl, Nat.le_of_ble_eq_true rfl⟩) hS (fun x_57_1 G_57_1 ad_57_1 H locs hp_57_1 hG hS => ?_)
  refine W.widen (k := 2) (n := 32) (by omega) (by omega) ?_
  obtain ⟨fr_57_1, g_57_1⟩ := hp_57_1
  have hF8 : dz_Fr Z G_57_1 ad_57_1 nf fdy lg := dz_Fr.frame2 hF (fun r9 n8 n9 => (fr_57_1 r9 n8 n9))
  have hM8 : G_57_1 (24, nf) = some (eO 4 [.int (fdy nf), .ref (ad_57_1 (25, nf))]) ∧ G_57_1 (25, nf) = some (eI Z 30 (lg nf)) := by rw [hfd, hlg]; exact ⟨g_57_1.1, g_57_1.2.2⟩
  refine dz_kMi (va_runV (As := [_]) ⟨hx, hb, hml, hown, hts⟩ (c_X0_add l Z _ _ _ _ _ _ _ ((fr_57_1 _ (dz_n rfl) (dz_n rfl)).2.trans rfl) hF8 (by omega) g_57_1.2.1 hM8) (cwV 1 hts gX8_frame_X0_add rfl rfl rfl (by decide +kernel) ⟨Nat.le_of_ble_eq_true rfl, Nat.le_of_ble_eq_true rfl⟩) (dz_P.preV hE hS hG ((fr_57_1 _ (dz_n rfl) (dz_n rfl)).1.trans hF.1) rfl ((fr_57_1 _ (dz_n rfl) (dz_n rfl)).2.trans rfl)) rfl rfl hl.1 rfl (lv_room (Nat.le_of_ble_eq_true rfl)) dX8_frame_60 ⟨Nat.le_of_ble_eq_true rfl, Nat.le_of_ble_eq_true rfl⟩) hS (fun x_60_2 G_60_2 ad_60_2 H locs hp_60_2 hG hS => ?_)
  refine W.widen (k := 3) (n := 132) (by omega) (by omega) ?_
  obtain ⟨fr_60_2, xe_60_2, a3_60_2, R_60_2⟩ := hp_60_2
  obtain rfl : x_60_2 = nI nf := xe_60_2
  refine W.widen (k := 3) (n := 132) (by first | omega | decide) (by first | omega | decide) ?_
  refine W.iret hx hb hrt (fun t ht hW => dz_endM (f := rv_i) _ hE hS hG ?_ ht hW) (fun q h => hS.2.2 q h) dX8_frame_63
  refine ⟨fun r9 n_0 n_1 n_2 n_3 n_4 => (dz_tr (fr_60_2 r9 n_2 n_3 n_4) (fr_57_1 r9 n_0 n_1)), ?_⟩
  exact ⟨rfl, R_60_2⟩

set_option maxHeartbeats 4000000 in
set_option maxRecDepth 100000 in
theorem c_D_frame_okN (l : Launch) (Z : dzG) (G : dzW) (ad : dzA) (aX nl nx : Nat) (dy ssf sst cfr grw : Int32) (ns : Nat) (nf : Nat) (fdy : Nat → Int32) (lg : Nat → Nat → Int32) (cnt : Nat → Nat) (col row fl : Nat → Int32) (pl : Nat → Nat → Int32) (nfl nst : Nat → Nat) (fx sx : Nat → Nat → Nat) (fd fb sr sd sw sg : Nat → Int32) (fc fr fw : Nat → Int32) (V : Nat → Nat → Int32) (ha : ad (1, 0) = aX) (hco : G (1, 0) = some (eO 9 [.ref (ad (2, 0)), .ref (ad (9, 0)), .int (nI nl), .int (nI nx), .ref (ad (19, 0)), .ref (ad (26, 0)), .int dy, .int ssf, .int sst, .int cfr, .int grw])) (hls : dz_L Z G ad (9, 0) (10, 0) ns (fun i => ad (11, i))) (hso : dz_So G ad ns cnt col row fl) (hpl : dz_Pl Z G ns pl) (hfb : dz_Fl Z G ad ns nfl fx fd fb) (hsb : dz_St Z G ad ns nst sx sr sd sw sg) (hro : G (2, 0) = some (eO 6 [.ref (ad (3, 0)), .ref (ad (5, 0)), .ref (ad (6, 0)), .ref (ad (7, 0))])) (hc : G (5, 0) = some (eI Z 484 fc)) (hr : G (6, 0) = some (eI Z 484 fr)) (hw : G (7, 0) = some (eI Z 484 fw)) (hF : dz_Fr Z G ad nf fdy lg) (hnf : nf ≤ 60) (hns : ns ≤ 5) (hcn : ∀ i, i < ns → cnt i ≤ 441) (hplj : ∀ i k, i < ns → k < cnt i → ∃ j, j + 22 < 484 ∧ pl i k = nI j) (hV : ∀ a b j j0, a < ns → b < cnt a → pl a b = nI j → pl a 0 = nI j0 → j + 22 < 484 → j0 + 22 < 484 → m_abs (m_times (m_turn fc fr j)) * m_pos (m_lgt (fl a) fd fb (fx a) (dy - (fw j - fw j0) * 20 / grw) (nfl a)) + m_sts sr sd sw sg (sx a) (nI b) dy (nst a) = V a b) (hg1 : 1 ≤ grw) (hgz : ¬ grw = 0) (hnfl : ∀ i, i < ns → nfl i ≤ 60) (hnst : ∀ i, i < ns → nst i ≤ 60) (hsw : ∀ i, i < ns → ∀ j, j < nst i → 1 ≤ sw (sx i j) ∧ ¬ sw (sx i j) = 0) (hg : (ssf ≤ dy - dy / 100 * 100 ∧ dy - dy / 100 * 100 ≤ sst) ∧ ¬ dy < cfr) (hfd : fdy nf = dy) (hlg : lg nf = (m_fc cnt V ns 0)) (hn5 : nf ≤ 59) (h0 : 0 < nf) (hdd : ¬ fdy (nf - 1) = dy) : dzWr l yX8_frame wsX8_frame 8 205 3 132 Z G ad [.ref aX] rv_i (fun (x : Int32) G1 ad1 => (∀ r9 : dzR, r9 ≠ (24, nf) → r9 ≠ (25, nf) → r9 ≠ (20, 0) → r9 ≠ (21, 0) → r9 ≠ (90, 0) → G1 r9 = G r9 ∧ ad1 r9 = ad r9) ∧ x = nI nf ∧ dz_Fr Z G1 ad1 (nf + 1) fdy lg) := by
  refine Met.ofW (cc := cX8_frame) (maxL := 1) (ret := (some .int)) (by decide) rfl ?_
  intro p e s m args below meth c s₁ B hml hv
  obtain ⟨rfl, hG, hE⟩ := hv
  have hx := B.exec
  have hb := B.bytes
  have hrt := B.returns
  have hts := atoms_spec (ws := wsX8_frame) B.pre
  have hown : s.vm.findClass RX8 = some m.cls := findClass_of_methodNamed B.named
  have hlocks := B.notSynchronized
  have hS : va_S (dz_A Z) s.heap s.heap [] := va_S.rf
  have hl := lv_entry ([.ref aX]) (n := 1) (Nat.le_of_ble_eq_true rfl)
  rw [lg_entry_eq]
  generalize (lg_sl ([.ref aX]) ++ List.replicate (1 - (lg_sl ([.ref aX])).length) Slot.unset).toArray = ls at hl ⊢
  have hl : lv_has ls 1 [(0, .ref aX)] := hl
  refine lv_aload_n hx hb dX8_frame_0 rfl (lv_at hl 0 rfl) ?_
  refine dz_kRi (va_runV (As := []) ⟨hx, hb, hml, hown, hts⟩ (c_X8_isSeason l Z _ _ _ _ _ _ _ _ _ _ ha hco) (cwV 0 hts gX8_frame_X8_isSeason rfl rfl rfl (by decide +kernel) ⟨Nat.le_of_ble_eq_true rfl, Nat.le_of_ble_eq_true rfl⟩) (dz_P.preV hE hS hG hco rfl ha) rfl rfl hl.1 rfl (lv_room (Nat.le_of_ble_eq_true rfl)) dX8_frame_1 ⟨Nat.le_of_ble_eq_true rfl, Nat.le_of_ble_eq_true rfl⟩) ?_
  refine lv_topi (fun v_1 ev_1 => ?_)
  obtain rfl : v_1 = 1 := ev_1.trans (dz_b1 hg.1)
  refine lv_if_eq (tgt := 42) hx hb dX8_frame_4 (by decide) (fun c_4 => absurd c_4 (by decide)) (fun c_4 => ?_)
  refine lv_aload_n hx hb dX8_frame_7 rfl (lv_at hl 0 rfl) ?_
  refine dz_get hx hb hts (fun _ h => List.mem_cons_of_mem _ (List.mem_append_left _ (List.mem_append_left _ (List.mem_append_left _ (List.mem_append_left _ (List.mem_append_left _ (List.mem_append_left _ (List.mem_append_left _ (List.mem_append_left _ (List.mem_append_right _ h)))))))))) hown hE hG ha hco rfl 6 (by decide) (hts _ (List.mem_of_getElem? (i := 3) rfl)) (fun _ h9 => h9) rfl dX8_frame_8 ?_
  refine lv_aload_n hx hb dX8_frame_11 rfl (lv_at hl 0 rfl) ?_
  refine dz_get hx hb hts (fun _ h => List.mem_cons_of_mem _ (List.mem_append_left _ (List.mem_append_left _ (List.mem_append_left _ (List.mem_append_left _ (List.mem_append_left _ (List.mem_append_left _ (List.mem_append_left _ (List.mem_append_left _ (List.mem_append_right _ h)))))))))) hown hE hG ha hco rfl 9 (by decide) (hts _ (List.mem_of_getElem? (i := 4) rfl)) (fun _ h9 => h9) rfl dX8_frame_12 ?_
  refine lv_icmp_lt (tgt := 42) hx hb dX8_frame_15 (by decide) (fun c_15 => absurd c_15 hg.2) (fun c_15 => ?_)
  refine lv_aload_n hx hb dX8_frame_18 rfl (lv_at hl 0 rfl) ?_
  refine dz_get hx hb hts (fun _ h => List.mem_cons_of_mem _ (List.mem_append_left _ (List.mem_append_left _ (List.mem_append_left _ (List.mem_append_left _ (List.mem_append_left _ (List.mem_append_left _ (List.mem_append_left _ (List.mem_append_left _ (List.mem_append_right _ h)))))))))) hown hE hG ha hco rfl 4 (by decide) (hts _ (List.mem_of_getElem? (i := 5) rfl)) (fun _ h9 => h9) rfl dX8_frame_19 ?_
  refine lv_aload_n hx hb dX8_frame_22 rfl (lv_at hl 0 rfl) ?_
  refine dz_get hx hb hts (fun _ h => List.mem_cons_of_mem _ (List.mem_append_left _ (List.mem_append_left _ (List.mem_append_left _ (List.mem_append_left _ (List.mem_append_left _ (List.mem_append_left _ (List.mem_append_left _ (List.mem_append_left _ (List.mem_append_right _ h)))))))))) hown hE hG ha hco rfl 6 (by decide) (hts _ (List.mem_of_getElem? (i := 3) rfl)) (fun _ h9 => h9) rfl dX8_frame_23 ?_
  refine dz_kRi (va_runV (As := [_]) ⟨hx, hb, hml, hown, hts⟩ (c_hfN l Z _ _ _ _ _ _ _ rfl hF hnf h0) (cwV 1 hts gX8_frame_X0_hasFrameOf rfl rfl rfl (by decide +kernel) ⟨Nat.le_of_ble_eq_true rfl, Nat.le_of_ble_eq_true rfl⟩) (dz_P.preV hE hS hG hF.1 rfl rfl) rfl rfl hl.1 rfl (lv_room (Nat.le_of_ble_eq_true rfl)) dX8_frame_26 ⟨Nat.le_of_ble_eq_true rfl, Nat.le_of_ble_eq_true rfl⟩) ?_
  refine lv_topi (fun v_2 ev_2 => ?_)
  obtain rfl : v_2 = 0 := ev_2.trans (dz_b0 hdd)
  refine lv_if_ne (tgt := 42) hx hb dX8_frame_29 (by decide) (fun c_29 => absurd (by decide) c_29) (fun c_29 => ?_)
  refine lv_aload_n hx hb dX8_frame_32 rfl (lv_at hl 0 rfl) ?_
  refine dz_get hx hb hts (fun _ h => List.mem_cons_of_mem _ (List.mem_append_left _ (List.mem_append_left _ (List.mem_append_left _ (List.mem_append_left _ (List.mem_append_left _ (List.mem_append_left _ (List.mem_append_left _ (List.mem_append_left _ (List.mem_append_right _ h)))))))))) hown hE hG ha hco rfl 4 (by decide) (hts _ (List.mem_of_getElem? (i := 5) rfl)) (fun _ h9 => h9) rfl dX8_frame_33 ?_
  refine dz_kRi (va_runV (As := []) ⟨hx, hb, hml, hown, hts⟩ (c_X0_isFull l Z _ _ _ _ _ _ rfl hF hnf) (cwV 0 hts gX8_frame_X0_isFull rfl rfl rfl (by decide +kernel) ⟨Nat.le_of_ble_eq_true rfl, Nat.le_of_ble_eq_true rfl⟩) (dz_P.preV hE hS hG hF.1 rfl rfl) rfl rfl hl.1 rfl (lv_room (Nat.le_of_ble_eq_true rfl)) dX8_frame_36 ⟨Nat.le_of_ble_eq_true rfl, Nat.le_of_ble_eq_true rfl⟩) ?_
  refine lv_topi (fun v_3 ev_3 => ?_)
  obtain rfl : v_3 = 0 := ev_3.trans (dz_b0 (by omega))
  refine lv_if_eq (tgt := 52) hx hb dX8_frame_39 (by decide) (fun c_39 => ?_) (fun c_39 => absurd (by decide) c_39)
  refine lv_aload_n hx hb dX8_frame_52 rfl (lv_at hl 0 rfl) ?_
  refine dz_get hx hb hts (fun _ h => List.mem_cons_of_mem _ (List.mem_append_left _ (List.mem_append_left _ (List.mem_append_left _ (List.mem_append_left _ (List.mem_append_left _ (List.mem_append_left _ (List.mem_append_left _ (List.mem_append_left _ (List.mem_append_right _ h)))))))))) hown hE hG ha hco rfl 4 (by decide) (hts _ (List.mem_of_getElem? (i := 5) rfl)) (fun _ h9 => h9) rfl dX8_frame_53 ?_
  refine lv_aload_n hx hb dX8_frame_56 rfl (lv_at hl 0 rfl) ?_
  refine dz_kMr (va_runV (As := []) ⟨hx, hb, hml, hown, hts⟩ (c_X8_framedSky l Z _ _ _ _ _ _ _ _ _ _ _ nf _ _ _ _ _ _ _ _ _ _ _ _ _ _ _ _ _ _ _  ha hco hls hso hpl hfb hsb hro hc hr hw hns hcn hplj hV hg1 hgz hnfl hnst hsw) (cwV 0 hts gX8_frame_X8_framedSky rfl rfl rfl (by decide +kernel) ⟨Nat.le_of_ble_eq_true rfl, Nat.le_of_ble_eq_true rfl⟩) (dz_P.preV hE hS hG hco rfl ha) rfl rfl hl.1 rfl (lv_room (Nat.le_of_ble_eq_true rfl)) dX8_frame_57 ⟨Nat.le_of_ble_eq_true rfl, Nat.le_of_ble_eq_true rfl⟩) hS (fun x_57_1 G_57_1 ad_57_1 H locs hp_57_1 hG hS => ?_)
  refine W.widen (k := 2) (n := 32) (by omega) (by omega) ?_
  obtain ⟨fr_57_1, g_57_1⟩ := hp_57_1
  have hF8 : dz_Fr Z G_57_1 ad_57_1 nf fdy lg := dz_Fr.frame2 hF (fun r9 n8 n9 => (fr_57_1 r9 n8 n9))
  have hM8 : G_57_1 (24, nf) = some (eO 4 [.int (fdy nf), .ref (ad_57_1 (25, nf))]) ∧ G_57_1 (25, nf) = some (eI Z 30 (lg nf)) := by rw [hfd, hlg]; exact ⟨g_57_1.1, g_57_1.2.2⟩
  refine dz_kMi (va_runV (As := [_]) ⟨hx, hb, hml, hown, hts⟩ (c_X0_add l Z _ _ _ _ _ _ _ ((fr_57_1 _ (dz_n rfl) (dz_n rfl)).2.trans rfl) hF8 (by omega) g_57_1.2.1 hM8) (cwV 1 hts gX8_frame_X0_add rfl rfl rfl (by decide +kernel) ⟨Nat.le_of_ble_eq_true rfl, Nat.le_of_ble_eq_true rfl⟩) (dz_P.preV hE hS hG ((fr_57_1 _ (dz_n rfl) (dz_n rfl)).1.trans hF.1) rfl ((fr_57_1 _ (dz_n rfl) (dz_n rfl)).2.trans rfl)) rfl rfl hl.1 rfl (lv_room (Nat.le_of_ble_eq_true rfl)) dX8_frame_60 ⟨Nat.le_of_ble_eq_true rfl, Nat.le_of_ble_eq_true rfl⟩) hS (fun x_60_2 G_60_2 ad_60_2 H locs hp_60_2 hG hS => ?_)
  refine W.widen (k := 3) (n := 132) (by omega) (by omega) ?_
  obtain ⟨fr_60_2, xe_60_2, a3_60_2, R_60_2⟩ := hp_60_2
  obtain rfl : x_60_2 = nI nf := xe_60_2
  refine W.widen (k := 3) (n := 132) (by first | omega | decide) (by first | omega | decide) ?_
  refine W.iret hx hb hrt (fun t ht hW => dz_endM (f := rv_i) _ hE hS hG ?_ ht hW) (fun q h => hS.2.2 q h) dX8_frame_63
  refine ⟨fun r9 n_0 n_1 n_2 n_3 n_4 => (dz_tr (fr_60_2 r9 n_2 n_3 n_4) (fr_57_1 r9 n_0 n_1)), ?_⟩
  exact ⟨rfl, R_60_2⟩
