/-! DRAWN NUMBERS, AND A SKY FROM ITS START -/
theorem dr_pre {s : State} {H : Heap} {locs : List Loc} {A : Nat → Prop} {b L k : Nat} {xs : Nat → Int32} (hX : va_X b L xs s s.heap) (hbl : b < s.heap.size) (hbA : ¬ A b) (hS : va_S A s.heap H locs) : PreS s H (va_Pc [.ref b, .int (nI k)] (fun U => va_X b L xs U U.heap ∧ b < U.heap.size)) [.ref b, .int (nI k)] :=
  ⟨fun _ U _ _ q => ⟨q.1, va_X.moved (Vm.Alike.refl U.vm) q.2.1, q.2.2⟩, fun U hU hW => ⟨rfl, by rw [hU]; exact va_X.moved hW.alike (hX.kept (hS.2.1 b hbl hbA)), by rw [hU]; exact Nat.lt_of_lt_of_le hbl hS.1⟩⟩
set_option maxHeartbeats 4000000 in
set_option maxRecDepth 100000 in
theorem c_L_drawn (l : Launch) (b L : Nat) (xs : Nat → Int32) (k : Nat) (hk : k < 2 ^ 31) (hL : L < 2 ^ 31) : ∃ n, n < 2 ^ 31 ∧ Met l yL_drawn wsL_drawn (dz_rm 0 0 0 0) (va_Pc [.ref b, .int (nI k)] (fun U => va_X b L xs U U.heap ∧ b < U.heap.size)) (dz_Q (some (.int (nI n)))) 0 0 (fun _ => False) := by
  obtain ⟨n, hn, en⟩ := pk_andE (if k < L then xs k else 14927083 * (nI k + 3) + 16219) (m := 2147483647) 31 (by decide +kernel)
  refine ⟨n, hn, ?_⟩
  refine Met.ofW (cc := cL_drawn) (maxL := 2) (ret := (some .int)) (by decide) rfl ?_
  intro p e s m args below meth c s₁ B hml hv
  obtain ⟨rfl, hX, hbl⟩ := hv
  have hx := B.exec
  have hb := B.bytes
  have hrt := B.returns
  have hts := atoms_spec (ws := wsL_drawn) B.pre
  have hown : s.vm.findClass RL = some m.cls := findClass_of_methodNamed B.named
  have hS : va_S (fun _ => False) s.heap s.heap [] := va_S.rf
  have hbA : ¬ (fun _ : Nat => False) b := fun h => h
  have hl := lv_entry ([.ref b, .int (nI k)]) (n := 2) (Nat.le_of_ble_eq_true rfl)
  rw [lg_entry_eq]
  generalize (lg_sl ([.ref b, .int (nI k)]) ++ List.replicate (2 - (lg_sl ([.ref b, .int (nI k)])).length) Slot.unset).toArray = ls at hl ⊢
  have hl : lv_has ls 2 [(0, .ref b), (1, .int (nI k))] := hl
  refine lv_iload_n hx hb dL_drawn_0 rfl (lv_at hl 1 rfl) ?_
  refine lv_aload_n hx hb dL_drawn_1 rfl (lv_at hl 0 rfl) ?_
  refine va_slen hx hb hX hbl hbA hS dL_drawn_2 ?_
  refine lv_icmp_ge (tgt := 12) hx hb dL_drawn_3 (by decide) (fun c_3 => ?_) (fun c_3 => ?_)
  · have hkL : ¬ k < L := fun z => nI_ge z hL c_3
    refine lv_ldc hx hb hown (hts _ (List.mem_of_getElem? (i := 1) rfl)) dL_drawn_12 ?_
    refine lv_iload_n hx hb dL_drawn_14 rfl (lv_at hl 1 rfl) ?_
    refine lv_iconst (v := 3) hx hb dL_drawn_15 (by decide) ?_
    refine lv_iadd hx hb dL_drawn_16 ?_
    refine lv_imul hx hb dL_drawn_17 ?_
    refine lv_sipush (v := 16219) hx hb dL_drawn_18 (by decide) ?_
    refine lv_iadd hx hb dL_drawn_21 ?_
    refine lv_ldc hx hb hown (hts _ (List.mem_of_getElem? (i := 2) rfl)) dL_drawn_22 ?_
    refine lv_iand hx hb dL_drawn_24 ?_
    refine W.iret hx hb hrt (fun t ht hW => ⟨congrArg (fun x => Outcome.returned (some (Value.int x))) ?_, ht⟩) (fun _ h => by cases h) dL_drawn_25
    rw [← en, if_neg hkL]
  · have hkL : k < L := q_lt c_3 hL hk
    refine lv_aload_n hx hb dL_drawn_6 rfl (lv_at hl 0 rfl) ?_
    refine lv_iload_n hx hb dL_drawn_7 rfl (lv_at hl 1 rfl) ?_
    refine va_sld hx hb hX hbl hbA hS (vp_in_nI hkL hL) dL_drawn_8 ?_
    refine lv_goto (tgt := 22) hx hb dL_drawn_9 (by decide) ?_
    refine lv_ldc hx hb hown (hts _ (List.mem_of_getElem? (i := 2) rfl)) dL_drawn_22 ?_
    refine lv_iand hx hb dL_drawn_24 ?_
    refine W.iret hx hb hrt (fun t ht hW => ⟨congrArg (fun x => Outcome.returned (some (Value.int x))) ?_, ht⟩) (fun _ h => by cases h) dL_drawn_25
    rw [← en, if_pos hkL, nI_clamp hk]
/-- a new sky's numbers -/
def lwS0 : lwS := lwMk 0 0 0 0 0 0 0 99 0 70 0 0 (fun _ => 0) (fun _ => 0) (fun _ => 0) (fun _ => 0) (fun _ => 0) (fun _ => 0) (fun _ => 0) (fun _ => 0) (fun _ => 0) (fun _ => 0) (fun _ => 0) (fun _ => 0) (fun _ => 0) (fun _ => 0) (fun _ => 0) (fun _ => 0) (fun _ => 0) (fun _ => -1) (fun _ => -1) (fun _ => 0)
theorem lwB0 : lwB lwS0 := lwB.mk ⟨⟨by decide, fun k hk => absurd hk (Nat.not_lt_zero k), fun k hk => absurd hk (Nat.not_lt_zero k)⟩, ⟨by decide, fun k hk => absurd hk (Nat.not_lt_zero k)⟩, ⟨by decide, fun k hk => absurd hk (Nat.not_lt_zero k)⟩, ⟨by decide, fun k hk => absurd hk (Nat.not_lt_zero k)⟩, ⟨by decide, fun i hi => absurd hi (by omega), fun j hj => absurd hj (by omega), fun i x hi => absurd hi (Nat.not_lt_zero i)⟩, by decide, by decide, rfl⟩ (fun i hi => absurd hi (Nat.not_lt_zero i))
theorem lw_I0 : lw_I 0 lwS0 (upd (fun _ => 0) 19 (-1)) := by
  refine ⟨⟨?_, by decide, fun i hi => absurd hi (Nat.not_lt_zero i)⟩, Or.inl ⟨pk_us, rfl⟩, fun z => ?_, ⟨0, by decide, rfl⟩, 0, by decide, rfl⟩
  · rw [pk_un (by decide)]
    rfl
  · rw [pk_un (by decide)] at z
    exact absurd z (by decide)
theorem r_kept (l : Launch) (hst : l.stackTraces = false) {Z : dzG} {G : dzW} {ad : dzA} {aX aN k : Nat} {S : lwS} {nv : Nat → Int32} (hC : lwC Z G ad aX S) (hB : lwB S) (han : ad (60, 0) = aN) (hn : G (60, 0) = some (eI Z 21 nv)) (hI : lw_I k S nv) : dzRd l yL_isKept wsL_isKept 11 324 Z G ad [.ref aX, .ref aN] (some (.int 1)) := by
  rcases hI.2.1 with ⟨a, b⟩ | ⟨t, ht, h19, hk⟩
  · exact dz_wideR (c_L_isKept0 l Z G ad hst aX S aN nv hC hB han hn a b) (by decide) (by decide)
  · have h6 : S.1 4 ≤ 60 := hB.nf6
    exact dz_wideR (c_L_isKept1 l Z G ad hst aX S aN nv t hC hB han hn hI.1.1 hI.1.2.1 ht (by omega) h19 hk) (by decide) (by decide)
set_option maxHeartbeats 4000000 in
theorem lw_new {Z : dzG} {G G1 : dzW} {ad ad1 : dzA} {aX : Nat} (h1 : (∀ r9 : dzR, r9 ≠ (1, 0) → r9 ≠ (2, 0) → r9 ≠ (3, 0) → r9 ≠ (5, 0) → r9 ≠ (6, 0) → r9 ≠ (7, 0) → r9 ≠ (9, 0) → r9 ≠ (19, 0) → r9 ≠ (20, 0) → r9 ≠ (22, 0) → r9 ≠ (23, 0) → r9 ≠ (26, 0) → r9 ≠ (27, 0) → r9 ≠ (28, 0) → r9 ≠ (29, 0) → G1 r9 = G r9 ∧ ad1 r9 = ad r9) ∧ ad1 (1, 0) = aX ∧ G1 (1, 0) = some (eO 9 [.ref (ad1 (2, 0)), .ref (ad1 (9, 0)), .int (nI 0), .int (nI 0), .ref (ad1 (19, 0)), .ref (ad1 (26, 0)), .int 0, .int 0, .int 99, .int 0, .int 70]) ∧ dz_Rm Z G1 ad1 0 (fun _ => 0) (fun _ => 0) (fun _ => 0) (fun _ => 0) ∧ (G1 (5, 0) = some (eI Z 484 (m_tc 0 (fun _ => 0) (fun _ => 0) (fun _ => 0) (fun _ => 0))) ∧ G1 (6, 0) = some (eI Z 484 (m_tr 0 (fun _ => 0) (fun _ => 0) (fun _ => 0) (fun _ => 0))) ∧ G1 (7, 0) = some (eI Z 484 (m_tw 0 (fun _ => 0) (fun _ => 0) (fun _ => 0) (fun _ => 0)))) ∧ dz_L Z G1 ad1 (9, 0) (10, 0) 0 (fun _ => 0) ∧ dz_Fr Z G1 ad1 0 (fun _ => 0) (fun _ _ => 0) ∧ G1 (22, 0) = some (eJ Z 151 (fun _ => 0)) ∧ G1 (23, 0) = some (eI Z 151 (fun _ => 0)) ∧ G1 (26, 0) = some (eO 2 [.ref (ad1 (27, 0)), .ref (ad1 (28, 0)), .int 0, .ref (ad1 (29, 0)), .int 0]) ∧ G1 (27, 0) = some (eI Z 2 (fun _ => -1)) ∧ G1 (28, 0) = some (eI Z 2 (fun _ => -1)) ∧ G1 (29, 0) = some (eZ Z 5 (fun _ => 0))) : lwC Z G1 ad1 aX lwS0 := by
  obtain ⟨-, a1, a2, a3, a4, a5, a6, a7, a8, a9, a10, a11, a12⟩ := h1
  exact lwC.mk ⟨a1, a2, a3, a4, a5.el (fun j hj => absurd hj (Nat.not_lt_zero j)), fun i hi => absurd hi (Nat.not_lt_zero i), ⟨fun _ _ => 0, fun i hi => absurd hi (Nat.not_lt_zero i), fun i k hi => absurd hi (Nat.not_lt_zero i)⟩, fun i hi => absurd hi (Nat.not_lt_zero i), fun i hi => absurd hi (Nat.not_lt_zero i), ⟨fun _ _ => 0, a6, fun i x hi => absurd hi (Nat.not_lt_zero i)⟩, ⟨_, _, a7, a8⟩, a9, a10, a11, a12⟩
set_option maxHeartbeats 4000000 in
set_option maxRecDepth 100000 in
theorem c_L_goes (l : Launch) (hst : l.stackTraces = false) (Z : dzG) (b L : Nat) (xs : Nat → Int32) (at0 : Nat) (hL : L ≤ 260) (hat : at0 ≤ 60) (hbZ : b < dzB Z) : Met l yL_goes wsL_goes (dz_rm 13 373 2416 49816) (va_Pc [.ref b, .int (nI at0)] (fun U => dz_U Z (fun _ => none) (fun _ => 0) U ∧ va_X b L xs U U.heap)) (dz_M Z rv_i (fun (x : Int32) (_ : dzW) (_ : dzA) => x = 1)) 2416 49816 (dz_A Z) := by
  refine Met.ofW (cc := cL_goes) (maxL := 10) (ret := (some .boolean)) (by decide) rfl ?_
  intro p e s m args below meth c s₁ B hml hv
  obtain ⟨rfl, ⟨hG, hE⟩, hX⟩ := hv
  have hx := B.exec
  have hb := B.bytes
  have hrt := B.returns
  have hts := atoms_spec (ws := wsL_goes) B.pre
  have hown : s.vm.findClass RL = some m.cls := findClass_of_methodNamed B.named
  have hlocks := B.notSynchronized
  have hS : va_S (dz_A Z) s.heap s.heap [] := va_S.rf
  have hl := lv_entry ([.ref b, .int (nI at0)]) (n := 10) (Nat.le_of_ble_eq_true rfl)
  rw [lg_entry_eq]
  generalize (lg_sl ([.ref b, .int (nI at0)]) ++ List.replicate (10 - (lg_sl ([.ref b, .int (nI at0)])).length) Slot.unset).toArray = ls at hl ⊢
  have hl : lv_has ls 10 [(0, .ref b), (1, .int (nI at0))] := hl
  have hbA : ¬ dz_A Z b := by show ¬ dzB Z ≤ b; omega
  have hbl : b < s.heap.size := Nat.lt_of_lt_of_le hbZ hE.2.1
  refine dz_new (ci := 9) hx hb hts (fun _ h => List.mem_cons_of_mem _ (List.mem_append_left _ (List.mem_append_left _ (List.mem_append_left _ (List.mem_append_left _ (List.mem_append_left _ (List.mem_append_left _ (List.mem_append_left _ (List.mem_append_left _ (List.mem_append_left _ (List.mem_append_left _ (List.mem_append_left _ (List.mem_append_left _ (List.mem_append_right _ h)))))))))))))) tyX8 tyX8_ok hown (hts _ (List.mem_of_getElem? (i := 1) rfl)) (hts _ (List.mem_of_getElem? (i := 2) rfl)) (hts _ (List.mem_of_getElem? (i := 3) rfl)) hE hG hS (1, 0) rfl (fs := [.null, .null, .int 0, .int 0, .null, .null, .int 0, .int 0, .int 0, .int 0, .int 0]) (fun j hj => by rcases (show j = 0 ∨ j = 1 ∨ j = 2 ∨ j = 3 ∨ j = 4 ∨ j = 5 ∨ j = 6 ∨ j = 7 ∨ j = 8 ∨ j = 9 ∨ j = 10 by omega) with rfl | rfl | rfl | rfl | rfl | rfl | rfl | rfl | rfl | rfl | rfl <;> rfl) (Nat.le_of_ble_eq_true rfl) (Nat.le_of_ble_eq_true rfl) dL_goes_0 (fun q_1 H hG hS => ?_)
  refine W.widen (k := 1) (n := 11) (by omega) (by omega) ?_
  obtain ⟨G_1, ad_1, hG, w_1, a_1, o_1⟩ := dz_nma hG
  refine lv_dup hx hb dL_goes_3 rfl ?_
  refine dz_kMv (va_runI (As := []) ⟨hx, hb, hml, hown, hts⟩ (c_X8_init l Z _ _ _ (fun _ => 0) (fun _ => 0) (fun _ => 0) (fun _ => 0) (fun _ => 0) (fun _ _ => 0) a_1 w_1) (cwI 0 hts gL_goes_X8_init rfl rfl rfl (hts _ (List.mem_of_getElem? (i := 3) rfl)) (hts _ (List.mem_of_getElem? (i := 6) rfl)) (hts _ (List.mem_of_getElem? (i := 7) rfl)) rfl (by decide +kernel) ⟨Nat.le_of_ble_eq_true rfl, Nat.le_of_ble_eq_true rfl⟩) (dz_P.pre hE hS hG) rfl rfl hl.1 rfl (lv_room (Nat.le_of_ble_eq_true rfl)) dL_goes_4 ⟨Nat.le_of_ble_eq_true rfl, Nat.le_of_ble_eq_true rfl⟩) hS (fun G_i ad_i H locs hp_i hG hS => ?_)
  obtain hC_i := lw_new hp_i
  refine W.widen (k := 15) (n := 1795) (by omega) (by omega) ?_
  obtain ⟨aX, haX⟩ : ∃ a : Nat, a = q_1 := ⟨_, rfl⟩
  rw [← haX] at hC_i ⊢
  refine lv_astore_n (lv' := [(2, .ref aX), (0, .ref b), (1, .int (nI at0))]) hx hb dL_goes_7 rfl hl (by decide) rfl (fun ls hl => ?_)
  refine lv_bipush (v := 21) hx hb dL_goes_8 (by decide) ?_
  refine dz_newa (atype := .int) (a0 := (21, .inl (fun _ => 0))) hx hb (hts _ (List.mem_of_getElem? (i := 4) rfl)) hE hG hS (60, 0) 0 rfl rfl (by decide) rfl (Nat.le_of_ble_eq_true rfl) (Nat.le_of_ble_eq_true rfl) (Nat.le_of_ble_eq_true rfl) dL_goes_10 (fun q_2 H hG hS => ?_)
  refine W.widen (k := 16) (n := 1816) (by omega) (by omega) ?_
  obtain ⟨G_2, ad_2, hG, w_2, a_2, o_2⟩ := dz_nma hG
  obtain ⟨aN, haN⟩ : ∃ a : Nat, a = q_2 := ⟨_, rfl⟩
  have han0 := a_2
  rw [← haN] at han0 ⊢
  refine lv_astore_n (lv' := [(3, .ref aN), (2, .ref aX), (0, .ref b), (1, .int (nI at0))]) hx hb dL_goes_12 rfl hl (by decide) rfl (fun ls hl => ?_)
  refine lv_aload_n hx hb dL_goes_13 rfl (lv_at hl 0 rfl) ?_
  refine lv_bipush (v := 19) hx hb dL_goes_14 (by decide) ?_
  refine lv_iconst (v := (-1)) hx hb dL_goes_16 (by decide) ?_
  refine dz_iast hx hb hE hG han0 hS w_2 (by unfold vp_in; decide) dL_goes_17 (fun H locs hG hS => ?_)
  rw [show Int32.toNatClampNeg 19 = 19 from rfl] at hG
  obtain ⟨G_3, hG, w_3, o_3⟩ := dz_nm hG
  refine lv_iconst (v := 1) hx hb dL_goes_18 (by decide) ?_
  refine lv_istore (lv' := [(4, .int 1), (3, .ref aN), (2, .ref aX), (0, .ref b), (1, .int (nI at0))]) hx hb dL_goes_19 hl (by decide) rfl (fun ls hl => ?_)
  refine lv_iconst (v := 0) hx hb dL_goes_21 (by decide) ?_
  refine lv_istore (lv' := [(5, .int 0), (4, .int 1), (3, .ref aN), (2, .ref aX), (0, .ref b), (1, .int (nI at0))]) hx hb dL_goes_22 hl (by decide) rfl (fun ls hl => ?_)
  refine W.widen (k := (16 + 80 * 0)) (n := (1816 + 1600 * 0)) (by omega) (by omega) ?_
  refine dz_la (α := Nat × lwS × (Nat → Int32) × dzW × dzA × Array Slot) (fun a9 => 30 - a9.1) (fun a9 => (fun (k : Nat) (S : lwS) (nv : Nat → Int32) (G : dzW) (ad : dzA) (ls : Array Slot) => (16 + 80 * k)) a9.1 a9.2.1 a9.2.2.1 a9.2.2.2.1 a9.2.2.2.2.1 a9.2.2.2.2.2) (fun a9 => (fun (k : Nat) (S : lwS) (nv : Nat → Int32) (G : dzW) (ad : dzA) (ls : Array Slot) => (1816 + 1600 * k)) a9.1 a9.2.1 a9.2.2.1 a9.2.2.2.1 a9.2.2.2.2.1 a9.2.2.2.2.2) (fun a9 H locs => (fun (k : Nat) (S : lwS) (nv : Nat → Int32) (G : dzW) (ad : dzA) (ls : Array Slot) => k ≤ 30 ∧ lwC Z G ad aX S ∧ lwB S ∧ G (60, 0) = some (eI Z 21 nv) ∧ ad (60, 0) = aN ∧ lw_I k S nv ∧ dz_w Z G ad H ∧ va_S (dz_A Z) s.heap H locs ∧ lv_has ls 10 [(5, .int (nI k)), (4, .int 1), (3, .ref aN), (2, .ref aX), (0, .ref b), (1, .int (nI at0))]) a9.1 a9.2.1 a9.2.2.1 a9.2.2.2.1 a9.2.2.2.2.1 a9.2.2.2.2.2) (fun a9 => F0 m 24 a9.2.2.2.2.2 []) (fun a9 H locs hI9 ih_24 => ?_) (0, lwS0, _, G_3, ad_2, ls) ⟨Nat.zero_le _, (lwC.frame (lwC.frame hC_i (fun r h => o_2 r (by rintro rfl; simp at h))) (fun r h => o_3 r (by rintro rfl; simp at h))), lwB0, w_3, han0, lw_I0, hG, hS, lv_sub hl [0, 1, 2, 3, 4, 5] rfl⟩
  obtain ⟨k, S, nv, G, ad, ls⟩ := a9
  obtain ⟨hk1, hC, hB, hn, han, hI, hG, hS, hl⟩ := hI9
  have hk1 : k ≤ 30 := hk1
  have hC : lwC Z G ad aX S := hC
  have hB : lwB S := hB
  have hn : G (60, 0) = some (eI Z 21 nv) := hn
  have han : ad (60, 0) = aN := han
  have hI : lw_I k S nv := hI
  have hG : dz_w Z G ad H := hG
  have hS : va_S (dz_A Z) s.heap H locs := hS
  have hl : lv_has ls 10 [(5, .int (nI k)), (4, .int 1), (3, .ref aN), (2, .ref aX), (0, .ref b), (1, .int (nI at0))] := hl
  show W p l e _ s m _ below meth c H locs (16 + 80 * k) (1816 + 1600 * k) _ _
  obtain ⟨ha_1, fs_1, ho_1⟩ := lwC.obj hC
  refine lv_iload hx hb dL_goes_24 (lv_at hl 0 rfl) ?_
  refine lv_bipush (v := 30) hx hb dL_goes_26 (by decide) ?_
  refine lv_icmp_ge (tgt := 231) hx hb dL_goes_28 (by decide) (fun c_28 => ?_) (fun c_28 => ?_)
  · refine lv_iload hx hb dL_goes_231 (lv_at hl 1 rfl) ?_
    refine lv_if_eq (tgt := 247) hx hb dL_goes_233 (by decide) (fun c_233 => absurd c_233 (by decide)) (fun c_233 => ?_)
    refine lv_aload_n hx hb dL_goes_236 rfl (lv_at hl 3 rfl) ?_
    refine dz_kRi (va_runS (As := [_]) ⟨hx, hb, hml, hown, hts⟩ (c_L_areAll l Z _ _ hst aX S hC hB) (va_cwS 1 hts gL_goes_L_areAll rfl rfl rfl (by decide +kernel) ⟨Nat.le_of_ble_eq_true rfl, Nat.le_of_ble_eq_true rfl⟩) (dz_P.pre hE hS hG) rfl rfl hl.1 rfl (lv_room (Nat.le_of_ble_eq_true rfl)) dL_goes_237 ⟨by show _ ≤ 2416; omega, by show _ ≤ 49816; omega⟩) ?_
    refine lv_topi (fun v_3 ev_3 => ?_)
    obtain rfl : v_3 = 1 := ev_3
    refine lv_if_eq (tgt := 247) hx hb dL_goes_240 (by decide) (fun c_240 => absurd c_240 (by decide)) (fun c_240 => ?_)
    refine lv_iconst (v := 1) hx hb dL_goes_243 (by decide) ?_
    refine lv_goto (tgt := 248) hx hb dL_goes_244 (by decide) ?_
    refine W.widen (k := 2416) (n := 49816) (by first | omega | decide) (by first | omega | decide) ?_
    refine W.zret hx hb hrt (by decide) (fun t ht hW => dz_endM (f := rv_i) _ hE hS hG ?_ ht hW) (fun q h => hS.2.2 q h) dL_goes_248
    exact rfl
  · have hk30 : k < 30 := q_lt (b := 30) c_28 (by decide) (by omega)
    refine lv_iload hx hb dL_goes_31 (lv_at hl 1 rfl) ?_
    refine lv_if_eq (tgt := 231) hx hb dL_goes_33 (by decide) (fun c_33 => absurd c_33 (by decide)) (fun c_33 => ?_)
    refine lv_aload_n hx hb dL_goes_36 rfl (lv_at hl 4 rfl) ?_
    refine lv_iload_n hx hb dL_goes_37 rfl (lv_at hl 5 rfl) ?_
    refine lv_iload hx hb dL_goes_38 (lv_at hl 0 rfl) ?_
    refine lv_iadd hx hb dL_goes_40 ?_
    refine lv_topi (fun v_a ev_a => ?_)
    obtain rfl : v_a = nI (at0 + k) := ev_a.trans (nI_add _ _)
    obtain ⟨nd, hnd, hMd⟩ := c_L_drawn l b L xs (at0 + k) (by omega) (by omega)
    refine dz_kRi (va_runS (As := [_, _]) ⟨hx, hb, hml, hown, hts⟩ hMd (va_cwS 2 hts gL_goes_L_drawn rfl rfl rfl (by decide +kernel) ⟨Nat.le_of_ble_eq_true rfl, Nat.le_of_ble_eq_true rfl⟩) (dr_pre hX hbl hbA hS) rfl rfl hl.1 rfl (lv_room (Nat.le_of_ble_eq_true rfl)) dL_goes_41 ⟨by show _ ≤ 2416; omega, by show _ ≤ 49816; omega⟩) ?_
    refine lv_ldc hx hb hown (hts _ (List.mem_of_getElem? (i := 5) rfl)) dL_goes_44 ?_
    refine lv_irem hx hb dL_goes_46 (by decide) ?_
    refine lv_topi (fun v_4 ev_4 => ?_)
    obtain rfl : v_4 = (nI (nd % 2000000000)) := ev_4.trans (q_rem (b := 2000000000) hnd (by decide) (by decide))
    refine lv_istore (lv' := [(6, .int (nI (nd % 2000000000))), (5, .int (nI k)), (4, .int 1), (3, .ref aN), (2, .ref aX), (0, .ref b), (1, .int (nI at0))]) hx hb dL_goes_47 hl (by decide) rfl (fun ls hl => ?_)
    refine dz_cut (α := Nat × Array Slot) (P := fun a9 => a9.1 < 2 ^ 31 ∧ lv_has a9.2 10 [(6, .int (nI a9.1)), (5, .int (nI k)), (4, .int 1), (3, .ref aN), (2, .ref aX), (0, .ref b), (1, .int (nI at0))]) (fun a9 => F0 m 88 a9.2 []) (fun a9 h9 => ?_) (fun hJ => ?_)
    · obtain ⟨n, ls⟩ := a9
      obtain ⟨hn9, hl⟩ := h9
      have hl : lv_has ls 10 [(6, .int (nI n)), (5, .int (nI k)), (4, .int 1), (3, .ref aN), (2, .ref aX), (0, .ref b), (1, .int (nI at0))] := hl
      have hn9 : n < 2 ^ 31 := hn9
      refine lv_aload_n hx hb dL_goes_88 rfl (lv_at hl 4 rfl) ?_
      refine lv_iload hx hb dL_goes_89 (lv_at hl 0 rfl) ?_
      obtain ⟨vsm, hsm⟩ := e_sum l hst (Z := Z) (aX := aX) hB (nI n)
      refine dz_kMi (va_runS (As := [_, _]) ⟨hx, hb, hml, hown, hts⟩ (hsm _ _ hC) (va_cwS 2 hts gL_goes_L_sum rfl rfl rfl (by decide +kernel) ⟨Nat.le_of_ble_eq_true rfl, Nat.le_of_ble_eq_true rfl⟩) (dz_P.pre hE hS hG) rfl rfl hl.1 rfl (lv_room (Nat.le_of_ble_eq_true rfl)) dL_goes_91 ⟨by show _ ≤ 2416; omega, by show _ ≤ 49816; omega⟩) hS (fun x_91_2 G_91_2 ad_91_2 H locs hp_91_2 hG hS => ?_)
      rw [hp_91_2.2.1, hp_91_2.2.2] at hG
      rw [hp_91_2.1]
      refine W.widen (k := (16 + 80 * k) + 26) (n := (1816 + 1600 * k) + 156) (by omega) (by omega) ?_
      refine lv_istore (lv' := [(7, .int vsm), (6, .int (nI n)), (5, .int (nI k)), (4, .int 1), (3, .ref aN), (2, .ref aX), (0, .ref b), (1, .int (nI at0))]) hx hb dL_goes_94 hl (by decide) rfl (fun ls hl => ?_)
      refine lv_aload_n hx hb dL_goes_96 rfl (lv_at hl 5 rfl) ?_
      refine lv_aload_n hx hb dL_goes_97 rfl (lv_at hl 4 rfl) ?_
      refine lv_iload hx hb dL_goes_98 (lv_at hl 1 rfl) ?_
      refine dz_kMi (va_runS (As := [_, _, _]) ⟨hx, hb, hml, hown, hts⟩ (c_L_does l Z _ _ hst aX S aN nv k n hC hB han hn hI (by omega) hn9) (va_cwS 3 hts gL_goes_L_does rfl rfl rfl (by decide +kernel) ⟨Nat.le_of_ble_eq_true rfl, Nat.le_of_ble_eq_true rfl⟩) (dz_P.pre hE hS hG) rfl rfl hl.1 rfl (lv_room (Nat.le_of_ble_eq_true rfl)) dL_goes_100 ⟨by show _ ≤ 2416; omega, by show _ ≤ 49816; omega⟩) hS (fun x_100_3 G_100_3 ad_100_3 H locs hp_100_3 hG hS => ?_)
      obtain ⟨S_100_3, nv_100_3, hC_100_3, hB_100_3, hn_100_3, han_100_3, hI_100_3, h5_100_3, hrf_100_3⟩ := hp_100_3
      refine W.widen (k := (16 + 80 * k) + 48) (n := (1816 + 1600 * k) + 1428) (by omega) (by omega) ?_
      obtain ⟨ha_3, fs_3, ho_3⟩ := lwC.obj hC_100_3
      refine lv_istore (lv' := [(8, .int x_100_3), (7, .int vsm), (6, .int (nI n)), (5, .int (nI k)), (4, .int 1), (3, .ref aN), (2, .ref aX), (0, .ref b), (1, .int (nI at0))]) hx hb dL_goes_103 hl (by decide) rfl (fun ls hl => ?_)
      refine lv_iload hx hb dL_goes_105 (lv_at hl 0 rfl) ?_
      refine lv_bipush (v := (-5)) hx hb dL_goes_107 (by decide) ?_
      refine lv_icmp_eq (tgt := 143) hx hb dL_goes_109 (by decide) (fun c_109 => absurd c_109 h5_100_3) (fun c_109 => ?_)
      refine lv_iload hx hb dL_goes_112 (lv_at hl 0 rfl) ?_
      refine dz_kRi (va_runS (As := [_]) ⟨hx, hb, hml, hown, hts⟩ (c_L_isRefused l Z _ _ x_100_3) (va_cwS 1 hts gL_goes_L_isRefused rfl rfl rfl (by decide +kernel) ⟨Nat.le_of_ble_eq_true rfl, Nat.le_of_ble_eq_true rfl⟩) (dz_P.pre hE hS hG) rfl rfl hl.1 rfl (lv_room (Nat.le_of_ble_eq_true rfl)) dL_goes_114 ⟨by show _ ≤ 2416; omega, by show _ ≤ 49816; omega⟩) ?_
      refine lv_topi (fun v_5 ev_5 => ?_)
      obtain rfl : v_5 = (dz_b (lw_ref x_100_3)) := ev_5
      refine lv_if_eq (tgt := 131) hx hb dL_goes_117 (by decide) (fun c_117 => ?_) (fun c_117 => ?_)
      · refine lv_aload_n hx hb dL_goes_131 rfl (lv_at hl 6 rfl) ?_
        refine lv_aload_n hx hb dL_goes_132 rfl (lv_at hl 5 rfl) ?_
        refine dz_kRi (va_runS (As := [_, _]) ⟨hx, hb, hml, hown, hts⟩ (r_kept l hst hC_100_3 hB_100_3 han_100_3 hn_100_3 hI_100_3) (va_cwS 2 hts gL_goes_L_isKept rfl rfl rfl (by decide +kernel) ⟨Nat.le_of_ble_eq_true rfl, Nat.le_of_ble_eq_true rfl⟩) (dz_P.pre hE hS hG) rfl rfl hl.1 rfl (lv_room (Nat.le_of_ble_eq_true rfl)) dL_goes_133 ⟨by show _ ≤ 2416; omega, by show _ ≤ 49816; omega⟩) ?_
        refine lv_topi (fun v_6 ev_6 => ?_)
        obtain rfl : v_6 = 1 := ev_6
        refine lv_if_eq (tgt := 143) hx hb dL_goes_136 (by decide) (fun c_136 => absurd c_136 (by decide)) (fun c_136 => ?_)
        refine lv_iconst (v := 1) hx hb dL_goes_139 (by decide) ?_
        refine lv_goto (tgt := 144) hx hb dL_goes_140 (by decide) ?_
        refine lv_istore (lv' := [(4, .int 1), (8, .int x_100_3), (7, .int vsm), (6, .int (nI n)), (5, .int (nI k)), (3, .ref aN), (2, .ref aX), (0, .ref b), (1, .int (nI at0))]) hx hb dL_goes_144 hl (by decide) rfl (fun ls hl => ?_)
        refine lv_iconst (v := 0) hx hb dL_goes_146 (by decide) ?_
        refine lv_istore (lv' := [(9, .int 0), (4, .int 1), (8, .int x_100_3), (7, .int vsm), (6, .int (nI n)), (5, .int (nI k)), (3, .ref aN), (2, .ref aX), (0, .ref b), (1, .int (nI at0))]) hx hb dL_goes_147 hl (by decide) rfl (fun ls hl => ?_)
        refine W.widen (k := ((16 + 80 * k) + 48 + 1 * 0)) (n := ((1816 + 1600 * k) + 1428 + 6 * 0)) (by omega) (by omega) ?_
        refine dz_la (α := Nat × Array Slot) (fun a9 => (fun (i : Nat) (ls : Array Slot) => 2 - i) a9.1 a9.2) (fun a9 => (fun (i : Nat) (ls : Array Slot) => ((16 + 80 * k) + 48 + 1 * i)) a9.1 a9.2) (fun a9 => (fun (i : Nat) (ls : Array Slot) => ((1816 + 1600 * k) + 1428 + 6 * i)) a9.1 a9.2) (fun a9 H locs => (fun (i : Nat) (ls : Array Slot) => (i ≤ 2) ∧ dz_w Z G_100_3 ad_100_3 H ∧ va_S (dz_A Z) s.heap H locs ∧ lv_has ls 10 [(9, .int (nI i)), (4, .int 1), (8, .int x_100_3), (7, .int vsm), (6, .int (nI n)), (5, .int (nI k)), (3, .ref aN), (2, .ref aX), (0, .ref b), (1, .int (nI at0))]) a9.1 a9.2) (fun a9 => F0 m 149 a9.2 []) (fun a9 H locs hI ih_149 => ?_) (0, ls) ⟨Nat.zero_le _, hG, hS, lv_sub hl [0, 1, 2, 3, 4, 5, 6, 7, 8, 9] rfl⟩
        obtain ⟨i, ls⟩ := a9
        obtain ⟨hi1, hG, hS, hl⟩ := hI
        have hi1 : i ≤ 2 := hi1
        have hG : dz_w Z G_100_3 ad_100_3 H := hG
        have hS : va_S (dz_A Z) s.heap H locs := hS
        have hl : lv_has ls 10 [(9, .int (nI i)), (4, .int 1), (8, .int x_100_3), (7, .int vsm), (6, .int (nI n)), (5, .int (nI k)), (3, .ref aN), (2, .ref aX), (0, .ref b), (1, .int (nI at0))] := hl
        show W p l e _ s m _ below meth c H locs ((16 + 80 * k) + 48 + 1 * i) ((1816 + 1600 * k) + 1428 + 6 * i) _ _
        refine lv_iload hx hb dL_goes_149 (lv_at hl 0 rfl) ?_
        refine lv_aload_n hx hb dL_goes_151 rfl (lv_at hl 6 rfl) ?_
        refine lv_iconst (v := 1) hx hb dL_goes_152 (by decide) ?_
        refine dz_iald hx hb hE hG han_100_3 hn_100_3 (by unfold vp_in; decide) dL_goes_153 ?_
        refine lv_topi (fun v_7 ev_7 => ?_)
        obtain rfl : v_7 = nI (S_100_3.1 1) := ev_7.trans (hI_100_3.1.1)
        refine lv_icmp_ge (tgt := 225) hx hb dL_goes_154 (by decide) (fun c_154 => ?_) (fun c_154 => ?_)
        · obtain ⟨v_8, ev_8⟩ : ∃ y : Int32, y = (nI k) + 1 := ⟨_, rfl⟩
          refine lv_iinc (v := v_8) (lv' := [(5, .int v_8), (9, .int (nI i)), (4, .int 1), (8, .int x_100_3), (7, .int vsm), (6, .int (nI n)), (3, .ref aN), (2, .ref aX), (0, .ref b), (1, .int (nI at0))]) hx hb dL_goes_225 hl (k := 5) rfl (by rw [ev_8]; rfl) (by decide) rfl (fun ls hl => ?_)
          refine lv_goto (tgt := 24) hx hb dL_goes_228 (by decide) ?_
          obtain rfl : v_8 = nI (k + 1) := ev_8.trans (nI_1 k)
          refine W.widen (k := (16 + 80 * (k + 1))) (n := (1816 + 1600 * (k + 1))) (by omega) (by omega) ?_
          exact ih_24 (k + 1, S_100_3, _, G_100_3, ad_100_3, ls) _ _ (by dsimp only; omega) ⟨by dsimp only; omega, hC_100_3, hB_100_3, hn_100_3, han_100_3, hI_100_3, hG, hS, lv_sub hl [0, 2, 6, 7, 8, 9] rfl⟩
        · have hs2 : S_100_3.1 1 ≤ 2 := hI_100_3.1.2.1
          have hi : i < S_100_3.1 1 := q_lt c_154 (by omega) (by omega)
          refine lv_iload hx hb dL_goes_157 (lv_at hl 1 rfl) ?_
          refine lv_if_eq (tgt := 225) hx hb dL_goes_159 (by decide) (fun c_159 => absurd c_159 (by decide)) (fun c_159 => ?_)
          refine lv_aload_n hx hb dL_goes_162 rfl (lv_at hl 7 rfl) ?_
          refine lv_iload hx hb dL_goes_163 (lv_at hl 0 rfl) ?_
          refine lv_aload_n hx hb dL_goes_165 rfl (lv_at hl 6 rfl) ?_
          refine lv_iconst (v := 3) hx hb dL_goes_166 (by decide) ?_
          refine lv_iconst (v := 2) hx hb dL_goes_167 (by decide) ?_
          refine lv_iload hx hb dL_goes_168 (lv_at hl 0 rfl) ?_
          refine lv_imul hx hb dL_goes_170 ?_
          refine lv_topi (fun v_9 ev_9 => ?_)
          obtain rfl : v_9 = (nI (2 * i)) := ev_9.trans (nI_mul2 i (by omega))
          refine lv_iadd hx hb dL_goes_171 ?_
          refine lv_topi (fun v_10 ev_10 => ?_)
          obtain rfl : v_10 = (nI (3 + 2 * i)) := ev_10.trans (nI_add 3 _)
          refine dz_iald hx hb hE hG han_100_3 hn_100_3 (vp_in_nI (by omega) (by decide)) dL_goes_172 ?_
          refine lv_topi (fun v_11 ev_11 => ?_)
          obtain rfl : v_11 = S_100_3.2.2 12 i := ev_11.trans ((congrArg nv_100_3 (nI_clamp (by omega))).trans (hI_100_3.1.2.2 i hi).1)
          refine lv_aload_n hx hb dL_goes_173 rfl (lv_at hl 6 rfl) ?_
          refine lv_iconst (v := 4) hx hb dL_goes_174 (by decide) ?_
          refine lv_iconst (v := 2) hx hb dL_goes_175 (by decide) ?_
          refine lv_iload hx hb dL_goes_176 (lv_at hl 0 rfl) ?_
          refine lv_imul hx hb dL_goes_178 ?_
          refine lv_topi (fun v_12 ev_12 => ?_)
          obtain rfl : v_12 = (nI (2 * i)) := ev_12.trans (nI_mul2 i (by omega))
          refine lv_iadd hx hb dL_goes_179 ?_
          refine lv_topi (fun v_13 ev_13 => ?_)
          obtain rfl : v_13 = (nI (4 + 2 * i)) := ev_13.trans (nI_add 4 _)
          refine dz_iald hx hb hE hG han_100_3 hn_100_3 (vp_in_nI (by omega) (by decide)) dL_goes_180 ?_
          refine lv_topi (fun v_14 ev_14 => ?_)
          obtain rfl : v_14 = S_100_3.2.2 13 i := ev_14.trans ((congrArg nv_100_3 (nI_clamp (by omega))).trans (hI_100_3.1.2.2 i hi).2)
          refine dz_kMi (va_runS (As := [_, _, _, _]) ⟨hx, hb, hml, hown, hts⟩ (c_L_isRight l Z _ _ hst aX S_100_3 i hC_100_3 hB_100_3 hi) (va_cwS 4 hts gL_goes_L_isRight rfl rfl rfl (by decide +kernel) ⟨Nat.le_of_ble_eq_true rfl, Nat.le_of_ble_eq_true rfl⟩) (dz_P.pre hE hS hG) rfl rfl hl.1 rfl (lv_room (Nat.le_of_ble_eq_true rfl)) dL_goes_181 ⟨by show _ ≤ 2416; omega, by show _ ≤ 49816; omega⟩) hS (fun x_181_4 G_181_4 ad_181_4 H locs hp_181_4 hG hS => ?_)
          rw [hp_181_4.2.1, hp_181_4.2.2] at hG
          rw [hp_181_4.1]
          refine W.widen (k := ((16 + 80 * k) + 48 + 1 * i) + 1) (n := ((1816 + 1600 * k) + 1428 + 6 * i) + 6) (by omega) (by omega) ?_
          refine lv_if_eq (tgt := 216) hx hb dL_goes_184 (by decide) (fun c_184 => absurd c_184 (by decide)) (fun c_184 => ?_)
          refine lv_iload hx hb dL_goes_187 (lv_at hl 5 rfl) ?_
          refine lv_bipush (v := 10) hx hb dL_goes_189 (by decide) ?_
          refine lv_irem hx hb dL_goes_191 (by decide) ?_
          refine lv_bipush (v := 9) hx hb dL_goes_192 (by decide) ?_
          refine lv_icmp_lt (tgt := 212) hx hb dL_goes_194 (by decide) (fun c_194 => ?_) (fun c_194 => ?_)
          · refine lv_iconst (v := 1) hx hb dL_goes_212 (by decide) ?_
            refine lv_goto (tgt := 217) hx hb dL_goes_213 (by decide) ?_
            refine lv_istore (lv' := [(4, .int 1), (9, .int (nI i)), (8, .int x_100_3), (7, .int vsm), (6, .int (nI n)), (5, .int (nI k)), (3, .ref aN), (2, .ref aX), (0, .ref b), (1, .int (nI at0))]) hx hb dL_goes_217 hl (by decide) rfl (fun ls hl => ?_)
            obtain ⟨v_15, ev_15⟩ : ∃ y : Int32, y = (nI i) + 1 := ⟨_, rfl⟩
            refine lv_iinc (v := v_15) (lv' := [(9, .int v_15), (4, .int 1), (8, .int x_100_3), (7, .int vsm), (6, .int (nI n)), (5, .int (nI k)), (3, .ref aN), (2, .ref aX), (0, .ref b), (1, .int (nI at0))]) hx hb dL_goes_219 hl (k := 1) rfl (by rw [ev_15]; rfl) (by decide) rfl (fun ls hl => ?_)
            refine lv_goto (tgt := 149) hx hb dL_goes_222 (by decide) ?_
            obtain rfl : v_15 = (nI (i + 1)) := ev_15.trans (nI_1 i)
            refine W.widen (k := ((16 + 80 * k) + 48 + 1 * (i + 1))) (n := ((1816 + 1600 * k) + 1428 + 6 * (i + 1))) (by omega) (by omega) ?_
            exact ih_149 (i + 1, ls) _ _ (by first | (dsimp only; omega) | omega) ⟨(by omega), hG, hS, lv_sub hl [0, 1, 2, 3, 4, 5, 6, 7, 8, 9] rfl⟩
          · refine lv_aload_n hx hb dL_goes_197 rfl (lv_at hl 7 rfl) ?_
            refine lv_iload hx hb dL_goes_198 (lv_at hl 0 rfl) ?_
            refine dz_kRi (vx_runSW (As := [_, _]) ⟨hx, hb, hml, hown, hts⟩ (r_anew l hst hC_100_3 hB_100_3 hi) (vx_cwSW 2 hts gL_goes_L_anew rfl rfl rfl (by decide +kernel) ⟨Nat.le_of_ble_eq_true rfl, Nat.le_of_ble_eq_true rfl⟩) (dz_P.pre hE hS hG) rfl rfl hl.1 rfl (lv_room (Nat.le_of_ble_eq_true rfl)) dL_goes_200 ⟨by show _ ≤ 2416; omega, by show _ ≤ 49816; omega⟩) ?_
            refine lv_aload_n hx hb dL_goes_203 rfl (lv_at hl 7 rfl) ?_
            refine lv_iload hx hb dL_goes_204 (lv_at hl 0 rfl) ?_
            refine dz_kRi (vx_runSW (As := [_, _]) ⟨hx, hb, hml, hown, hts⟩ (r_images l hst hC_100_3 hB_100_3 hi) (vx_cwSW 2 hts gL_goes_L_images rfl rfl rfl (by decide +kernel) ⟨Nat.le_of_ble_eq_true rfl, Nat.le_of_ble_eq_true rfl⟩) (dz_P.pre hE hS hG) rfl rfl hl.1 rfl (lv_room (Nat.le_of_ble_eq_true rfl)) dL_goes_206 ⟨by show _ ≤ 2416; omega, by show _ ≤ 49816; omega⟩) ?_
            refine lv_icmp_ne (tgt := 216) hx hb dL_goes_209 (by decide) (fun c_209 => absurd rfl c_209) (fun c_209 => ?_)
            refine lv_iconst (v := 1) hx hb dL_goes_212 (by decide) ?_
            refine lv_goto (tgt := 217) hx hb dL_goes_213 (by decide) ?_
            refine lv_istore (lv' := [(4, .int 1), (9, .int (nI i)), (8, .int x_100_3), (7, .int vsm), (6, .int (nI n)), (5, .int (nI k)), (3, .ref aN), (2, .ref aX), (0, .ref b), (1, .int (nI at0))]) hx hb dL_goes_217 hl (by decide) rfl (fun ls hl => ?_)
            obtain ⟨v_16, ev_16⟩ : ∃ y : Int32, y = (nI i) + 1 := ⟨_, rfl⟩
            refine lv_iinc (v := v_16) (lv' := [(9, .int v_16), (4, .int 1), (8, .int x_100_3), (7, .int vsm), (6, .int (nI n)), (5, .int (nI k)), (3, .ref aN), (2, .ref aX), (0, .ref b), (1, .int (nI at0))]) hx hb dL_goes_219 hl (k := 1) rfl (by rw [ev_16]; rfl) (by decide) rfl (fun ls hl => ?_)
            refine lv_goto (tgt := 149) hx hb dL_goes_222 (by decide) ?_
            obtain rfl : v_16 = (nI (i + 1)) := ev_16.trans (nI_1 i)
            refine W.widen (k := ((16 + 80 * k) + 48 + 1 * (i + 1))) (n := ((1816 + 1600 * k) + 1428 + 6 * (i + 1))) (by omega) (by omega) ?_
            exact ih_149 (i + 1, ls) _ _ (by first | (dsimp only; omega) | omega) ⟨(by omega), hG, hS, lv_sub hl [0, 1, 2, 3, 4, 5, 6, 7, 8, 9] rfl⟩
      · refine lv_aload_n hx hb dL_goes_120 rfl (lv_at hl 6 rfl) ?_
        refine lv_iload hx hb dL_goes_121 (lv_at hl 2 rfl) ?_
        refine dz_kMi (va_runS (As := [_, _]) ⟨hx, hb, hml, hown, hts⟩ (hsm _ _ (hrf_100_3 (dz_by c_117) ▸ hC_100_3)) (va_cwS 2 hts gL_goes_L_sum rfl rfl rfl (by decide +kernel) ⟨Nat.le_of_ble_eq_true rfl, Nat.le_of_ble_eq_true rfl⟩) (dz_P.pre hE hS hG) rfl rfl hl.1 rfl (lv_room (Nat.le_of_ble_eq_true rfl)) dL_goes_123 ⟨by show _ ≤ 2416; omega, by show _ ≤ 49816; omega⟩) hS (fun x_123_5 G_123_5 ad_123_5 H locs hp_123_5 hG hS => ?_)
        rw [hp_123_5.2.1, hp_123_5.2.2] at hG
        rw [hp_123_5.1]
        refine W.widen (k := (16 + 80 * k) + 74) (n := (1816 + 1600 * k) + 1584) (by omega) (by omega) ?_
        refine lv_iload hx hb dL_goes_126 (lv_at hl 1 rfl) ?_
        refine lv_icmp_ne (tgt := 143) hx hb dL_goes_128 (by decide) (fun c_128 => absurd rfl c_128) (fun c_128 => ?_)
        refine lv_aload_n hx hb dL_goes_131 rfl (lv_at hl 6 rfl) ?_
        refine lv_aload_n hx hb dL_goes_132 rfl (lv_at hl 5 rfl) ?_
        refine dz_kRi (va_runS (As := [_, _]) ⟨hx, hb, hml, hown, hts⟩ (r_kept l hst hC_100_3 hB_100_3 han_100_3 hn_100_3 hI_100_3) (va_cwS 2 hts gL_goes_L_isKept rfl rfl rfl (by decide +kernel) ⟨Nat.le_of_ble_eq_true rfl, Nat.le_of_ble_eq_true rfl⟩) (dz_P.pre hE hS hG) rfl rfl hl.1 rfl (lv_room (Nat.le_of_ble_eq_true rfl)) dL_goes_133 ⟨by show _ ≤ 2416; omega, by show _ ≤ 49816; omega⟩) ?_
        refine lv_topi (fun v_17 ev_17 => ?_)
        obtain rfl : v_17 = 1 := ev_17
        refine lv_if_eq (tgt := 143) hx hb dL_goes_136 (by decide) (fun c_136 => absurd c_136 (by decide)) (fun c_136 => ?_)
        refine lv_iconst (v := 1) hx hb dL_goes_139 (by decide) ?_
        refine lv_goto (tgt := 144) hx hb dL_goes_140 (by decide) ?_
        refine lv_istore (lv' := [(4, .int 1), (8, .int x_100_3), (7, .int vsm), (6, .int (nI n)), (5, .int (nI k)), (3, .ref aN), (2, .ref aX), (0, .ref b), (1, .int (nI at0))]) hx hb dL_goes_144 hl (by decide) rfl (fun ls hl => ?_)
        refine lv_iconst (v := 0) hx hb dL_goes_146 (by decide) ?_
        refine lv_istore (lv' := [(9, .int 0), (4, .int 1), (8, .int x_100_3), (7, .int vsm), (6, .int (nI n)), (5, .int (nI k)), (3, .ref aN), (2, .ref aX), (0, .ref b), (1, .int (nI at0))]) hx hb dL_goes_147 hl (by decide) rfl (fun ls hl => ?_)
        refine W.widen (k := ((16 + 80 * k) + 74 + 1 * 0)) (n := ((1816 + 1600 * k) + 1584 + 6 * 0)) (by omega) (by omega) ?_
        refine dz_la (α := Nat × Array Slot) (fun a9 => (fun (i : Nat) (ls : Array Slot) => 2 - i) a9.1 a9.2) (fun a9 => (fun (i : Nat) (ls : Array Slot) => ((16 + 80 * k) + 74 + 1 * i)) a9.1 a9.2) (fun a9 => (fun (i : Nat) (ls : Array Slot) => ((1816 + 1600 * k) + 1584 + 6 * i)) a9.1 a9.2) (fun a9 H locs => (fun (i : Nat) (ls : Array Slot) => (i ≤ 2) ∧ dz_w Z G_100_3 ad_100_3 H ∧ va_S (dz_A Z) s.heap H locs ∧ lv_has ls 10 [(9, .int (nI i)), (4, .int 1), (8, .int x_100_3), (7, .int vsm), (6, .int (nI n)), (5, .int (nI k)), (3, .ref aN), (2, .ref aX), (0, .ref b), (1, .int (nI at0))]) a9.1 a9.2) (fun a9 => F0 m 149 a9.2 []) (fun a9 H locs hI ih_149 => ?_) (0, ls) ⟨Nat.zero_le _, hG, hS, lv_sub hl [0, 1, 2, 3, 4, 5, 6, 7, 8, 9] rfl⟩
        obtain ⟨i, ls⟩ := a9
        obtain ⟨hi1, hG, hS, hl⟩ := hI
        have hi1 : i ≤ 2 := hi1
        have hG : dz_w Z G_100_3 ad_100_3 H := hG
        have hS : va_S (dz_A Z) s.heap H locs := hS
        have hl : lv_has ls 10 [(9, .int (nI i)), (4, .int 1), (8, .int x_100_3), (7, .int vsm), (6, .int (nI n)), (5, .int (nI k)), (3, .ref aN), (2, .ref aX), (0, .ref b), (1, .int (nI at0))] := hl
        show W p l e _ s m _ below meth c H locs ((16 + 80 * k) + 74 + 1 * i) ((1816 + 1600 * k) + 1584 + 6 * i) _ _
        refine lv_iload hx hb dL_goes_149 (lv_at hl 0 rfl) ?_
        refine lv_aload_n hx hb dL_goes_151 rfl (lv_at hl 6 rfl) ?_
        refine lv_iconst (v := 1) hx hb dL_goes_152 (by decide) ?_
        refine dz_iald hx hb hE hG han_100_3 hn_100_3 (by unfold vp_in; decide) dL_goes_153 ?_
        refine lv_topi (fun v_18 ev_18 => ?_)
        obtain rfl : v_18 = nI (S_100_3.1 1) := ev_18.trans (hI_100_3.1.1)
        refine lv_icmp_ge (tgt := 225) hx hb dL_goes_154 (by decide) (fun c_154 => ?_) (fun c_154 => ?_)
        · obtain ⟨v_19, ev_19⟩ : ∃ y : Int32, y = (nI k) + 1 := ⟨_, rfl⟩
          refine lv_iinc (v := v_19) (lv' := [(5, .int v_19), (9, .int (nI i)), (4, .int 1), (8, .int x_100_3), (7, .int vsm), (6, .int (nI n)), (3, .ref aN), (2, .ref aX), (0, .ref b), (1, .int (nI at0))]) hx hb dL_goes_225 hl (k := 5) rfl (by rw [ev_19]; rfl) (by decide) rfl (fun ls hl => ?_)
          refine lv_goto (tgt := 24) hx hb dL_goes_228 (by decide) ?_
          obtain rfl : v_19 = nI (k + 1) := ev_19.trans (nI_1 k)
          refine W.widen (k := (16 + 80 * (k + 1))) (n := (1816 + 1600 * (k + 1))) (by omega) (by omega) ?_
          exact ih_24 (k + 1, S_100_3, _, G_100_3, ad_100_3, ls) _ _ (by dsimp only; omega) ⟨by dsimp only; omega, hC_100_3, hB_100_3, hn_100_3, han_100_3, hI_100_3, hG, hS, lv_sub hl [0, 2, 6, 7, 8, 9] rfl⟩
        · have hs2 : S_100_3.1 1 ≤ 2 := hI_100_3.1.2.1
          have hi : i < S_100_3.1 1 := q_lt c_154 (by omega) (by omega)
          refine lv_iload hx hb dL_goes_157 (lv_at hl 1 rfl) ?_
          refine lv_if_eq (tgt := 225) hx hb dL_goes_159 (by decide) (fun c_159 => absurd c_159 (by decide)) (fun c_159 => ?_)
          refine lv_aload_n hx hb dL_goes_162 rfl (lv_at hl 7 rfl) ?_
          refine lv_iload hx hb dL_goes_163 (lv_at hl 0 rfl) ?_
          refine lv_aload_n hx hb dL_goes_165 rfl (lv_at hl 6 rfl) ?_
          refine lv_iconst (v := 3) hx hb dL_goes_166 (by decide) ?_
          refine lv_iconst (v := 2) hx hb dL_goes_167 (by decide) ?_
          refine lv_iload hx hb dL_goes_168 (lv_at hl 0 rfl) ?_
          refine lv_imul hx hb dL_goes_170 ?_
          refine lv_topi (fun v_20 ev_20 => ?_)
          obtain rfl : v_20 = (nI (2 * i)) := ev_20.trans (nI_mul2 i (by omega))
          refine lv_iadd hx hb dL_goes_171 ?_
          refine lv_topi (fun v_21 ev_21 => ?_)
          obtain rfl : v_21 = (nI (3 + 2 * i)) := ev_21.trans (nI_add 3 _)
          refine dz_iald hx hb hE hG han_100_3 hn_100_3 (vp_in_nI (by omega) (by decide)) dL_goes_172 ?_
          refine lv_topi (fun v_22 ev_22 => ?_)
          obtain rfl : v_22 = S_100_3.2.2 12 i := ev_22.trans ((congrArg nv_100_3 (nI_clamp (by omega))).trans (hI_100_3.1.2.2 i hi).1)
          refine lv_aload_n hx hb dL_goes_173 rfl (lv_at hl 6 rfl) ?_
          refine lv_iconst (v := 4) hx hb dL_goes_174 (by decide) ?_
          refine lv_iconst (v := 2) hx hb dL_goes_175 (by decide) ?_
          refine lv_iload hx hb dL_goes_176 (lv_at hl 0 rfl) ?_
          refine lv_imul hx hb dL_goes_178 ?_
          refine lv_topi (fun v_23 ev_23 => ?_)
          obtain rfl : v_23 = (nI (2 * i)) := ev_23.trans (nI_mul2 i (by omega))
          refine lv_iadd hx hb dL_goes_179 ?_
          refine lv_topi (fun v_24 ev_24 => ?_)
          obtain rfl : v_24 = (nI (4 + 2 * i)) := ev_24.trans (nI_add 4 _)
          refine dz_iald hx hb hE hG han_100_3 hn_100_3 (vp_in_nI (by omega) (by decide)) dL_goes_180 ?_
          refine lv_topi (fun v_25 ev_25 => ?_)
          obtain rfl : v_25 = S_100_3.2.2 13 i := ev_25.trans ((congrArg nv_100_3 (nI_clamp (by omega))).trans (hI_100_3.1.2.2 i hi).2)
          refine dz_kMi (va_runS (As := [_, _, _, _]) ⟨hx, hb, hml, hown, hts⟩ (c_L_isRight l Z _ _ hst aX S_100_3 i hC_100_3 hB_100_3 hi) (va_cwS 4 hts gL_goes_L_isRight rfl rfl rfl (by decide +kernel) ⟨Nat.le_of_ble_eq_true rfl, Nat.le_of_ble_eq_true rfl⟩) (dz_P.pre hE hS hG) rfl rfl hl.1 rfl (lv_room (Nat.le_of_ble_eq_true rfl)) dL_goes_181 ⟨by show _ ≤ 2416; omega, by show _ ≤ 49816; omega⟩) hS (fun x_181_6 G_181_6 ad_181_6 H locs hp_181_6 hG hS => ?_)
          rw [hp_181_6.2.1, hp_181_6.2.2] at hG
          rw [hp_181_6.1]
          refine W.widen (k := ((16 + 80 * k) + 74 + 1 * i) + 1) (n := ((1816 + 1600 * k) + 1584 + 6 * i) + 6) (by omega) (by omega) ?_
          refine lv_if_eq (tgt := 216) hx hb dL_goes_184 (by decide) (fun c_184 => absurd c_184 (by decide)) (fun c_184 => ?_)
          refine lv_iload hx hb dL_goes_187 (lv_at hl 5 rfl) ?_
          refine lv_bipush (v := 10) hx hb dL_goes_189 (by decide) ?_
          refine lv_irem hx hb dL_goes_191 (by decide) ?_
          refine lv_bipush (v := 9) hx hb dL_goes_192 (by decide) ?_
          refine lv_icmp_lt (tgt := 212) hx hb dL_goes_194 (by decide) (fun c_194 => ?_) (fun c_194 => ?_)
          · refine lv_iconst (v := 1) hx hb dL_goes_212 (by decide) ?_
            refine lv_goto (tgt := 217) hx hb dL_goes_213 (by decide) ?_
            refine lv_istore (lv' := [(4, .int 1), (9, .int (nI i)), (8, .int x_100_3), (7, .int vsm), (6, .int (nI n)), (5, .int (nI k)), (3, .ref aN), (2, .ref aX), (0, .ref b), (1, .int (nI at0))]) hx hb dL_goes_217 hl (by decide) rfl (fun ls hl => ?_)
            obtain ⟨v_26, ev_26⟩ : ∃ y : Int32, y = (nI i) + 1 := ⟨_, rfl⟩
            refine lv_iinc (v := v_26) (lv' := [(9, .int v_26), (4, .int 1), (8, .int x_100_3), (7, .int vsm), (6, .int (nI n)), (5, .int (nI k)), (3, .ref aN), (2, .ref aX), (0, .ref b), (1, .int (nI at0))]) hx hb dL_goes_219 hl (k := 1) rfl (by rw [ev_26]; rfl) (by decide) rfl (fun ls hl => ?_)
            refine lv_goto (tgt := 149) hx hb dL_goes_222 (by decide) ?_
            obtain rfl : v_26 = (nI (i + 1)) := ev_26.trans (nI_1 i)
            refine W.widen (k := ((16 + 80 * k) + 74 + 1 * (i + 1))) (n := ((1816 + 1600 * k) + 1584 + 6 * (i + 1))) (by omega) (by omega) ?_
            exact ih_149 (i + 1, ls) _ _ (by first | (dsimp only; omega) | omega) ⟨(by omega), hG, hS, lv_sub hl [0, 1, 2, 3, 4, 5, 6, 7, 8, 9] rfl⟩
          · refine lv_aload_n hx hb dL_goes_197 rfl (lv_at hl 7 rfl) ?_
            refine lv_iload hx hb dL_goes_198 (lv_at hl 0 rfl) ?_
            refine dz_kRi (vx_runSW (As := [_, _]) ⟨hx, hb, hml, hown, hts⟩ (r_anew l hst hC_100_3 hB_100_3 hi) (vx_cwSW 2 hts gL_goes_L_anew rfl rfl rfl (by decide +kernel) ⟨Nat.le_of_ble_eq_true rfl, Nat.le_of_ble_eq_true rfl⟩) (dz_P.pre hE hS hG) rfl rfl hl.1 rfl (lv_room (Nat.le_of_ble_eq_true rfl)) dL_goes_200 ⟨by show _ ≤ 2416; omega, by show _ ≤ 49816; omega⟩) ?_
            refine lv_aload_n hx hb dL_goes_203 rfl (lv_at hl 7 rfl) ?_
            refine lv_iload hx hb dL_goes_204 (lv_at hl 0 rfl) ?_
            refine dz_kRi (vx_runSW (As := [_, _]) ⟨hx, hb, hml, hown, hts⟩ (r_images l hst hC_100_3 hB_100_3 hi) (vx_cwSW 2 hts gL_goes_L_images rfl rfl rfl (by decide +kernel) ⟨Nat.le_of_ble_eq_true rfl, Nat.le_of_ble_eq_true rfl⟩) (dz_P.pre hE hS hG) rfl rfl hl.1 rfl (lv_room (Nat.le_of_ble_eq_true rfl)) dL_goes_206 ⟨by show _ ≤ 2416; omega, by show _ ≤ 49816; omega⟩) ?_
            refine lv_icmp_ne (tgt := 216) hx hb dL_goes_209 (by decide) (fun c_209 => absurd rfl c_209) (fun c_209 => ?_)
            refine lv_iconst (v := 1) hx hb dL_goes_212 (by decide) ?_
            refine lv_goto (tgt := 217) hx hb dL_goes_213 (by decide) ?_
            refine lv_istore (lv' := [(4, .int 1), (9, .int (nI i)), (8, .int x_100_3), (7, .int vsm), (6, .int (nI n)), (5, .int (nI k)), (3, .ref aN), (2, .ref aX), (0, .ref b), (1, .int (nI at0))]) hx hb dL_goes_217 hl (by decide) rfl (fun ls hl => ?_)
            obtain ⟨v_27, ev_27⟩ : ∃ y : Int32, y = (nI i) + 1 := ⟨_, rfl⟩
            refine lv_iinc (v := v_27) (lv' := [(9, .int v_27), (4, .int 1), (8, .int x_100_3), (7, .int vsm), (6, .int (nI n)), (5, .int (nI k)), (3, .ref aN), (2, .ref aX), (0, .ref b), (1, .int (nI at0))]) hx hb dL_goes_219 hl (k := 1) rfl (by rw [ev_27]; rfl) (by decide) rfl (fun ls hl => ?_)
            refine lv_goto (tgt := 149) hx hb dL_goes_222 (by decide) ?_
            obtain rfl : v_27 = (nI (i + 1)) := ev_27.trans (nI_1 i)
            refine W.widen (k := ((16 + 80 * k) + 74 + 1 * (i + 1))) (n := ((1816 + 1600 * k) + 1584 + 6 * (i + 1))) (by omega) (by omega) ?_
            exact ih_149 (i + 1, ls) _ _ (by first | (dsimp only; omega) | omega) ⟨(by omega), hG, hS, lv_sub hl [0, 1, 2, 3, 4, 5, 6, 7, 8, 9] rfl⟩
    · refine lv_iload hx hb dL_goes_49 (lv_at hl 1 rfl) ?_
      refine lv_if_ne (tgt := 65) hx hb dL_goes_51 (by decide) (fun c_51 => ?_) (fun c_51 => ?_)
      · refine lv_iload hx hb dL_goes_65 (lv_at hl 1 rfl) ?_
        refine lv_iconst (v := 3) hx hb dL_goes_67 (by decide) ?_
        refine lv_icmp_ge (tgt := 84) hx hb dL_goes_68 (by decide) (fun c_68 => ?_) (fun c_68 => ?_)
        · refine lv_iload hx hb dL_goes_84 (lv_at hl 0 rfl) ?_
          refine lv_istore (lv' := [(6, .int (nI (nd % 2000000000))), (5, .int (nI k)), (4, .int 1), (3, .ref aN), (2, .ref aX), (0, .ref b), (1, .int (nI at0))]) hx hb dL_goes_86 hl (by decide) rfl (fun ls hl => ?_)
          exact hJ ((nd % 2000000000), ls) ⟨by dsimp only; omega, lv_sub hl [0, 1, 2, 3, 4, 5, 6] rfl⟩
        · refine lv_bipush (v := 20) hx hb dL_goes_71 (by decide) ?_
          refine lv_iload hx hb dL_goes_73 (lv_at hl 0 rfl) ?_
          refine lv_bipush (v := 20) hx hb dL_goes_75 (by decide) ?_
          refine lv_idiv hx hb dL_goes_77 (by decide) ?_
          refine lv_imul hx hb dL_goes_78 ?_
          refine lv_topi (fun v_28 ev_28 => ?_)
          obtain rfl : v_28 = (nI (20 * ((nd % 2000000000) / 20))) := ev_28.trans ((congrArg (fun z => 20 * z) (q_div (b := 20) (show (nd % 2000000000) < 2 ^ 31 by omega) (by decide) (by decide))).trans (Int32.ofNat_mul 20 _).symm)
          refine lv_iconst (v := 2) hx hb dL_goes_79 (by decide) ?_
          refine lv_iadd hx hb dL_goes_80 ?_
          refine lv_topi (fun v_29 ev_29 => ?_)
          obtain rfl : v_29 = (nI (20 * ((nd % 2000000000) / 20) + 2)) := ev_29.trans (nI_add _ 2)
          refine lv_goto (tgt := 86) hx hb dL_goes_81 (by decide) ?_
          refine lv_istore (lv' := [(6, .int (nI (20 * ((nd % 2000000000) / 20) + 2))), (5, .int (nI k)), (4, .int 1), (3, .ref aN), (2, .ref aX), (0, .ref b), (1, .int (nI at0))]) hx hb dL_goes_86 hl (by decide) rfl (fun ls hl => ?_)
          exact hJ ((20 * ((nd % 2000000000) / 20) + 2), ls) ⟨by dsimp only; omega, lv_sub hl [0, 1, 2, 3, 4, 5, 6] rfl⟩
      · refine lv_bipush (v := 20) hx hb dL_goes_54 (by decide) ?_
        refine lv_iload hx hb dL_goes_56 (lv_at hl 0 rfl) ?_
        refine lv_bipush (v := 20) hx hb dL_goes_58 (by decide) ?_
        refine lv_idiv hx hb dL_goes_60 (by decide) ?_
        refine lv_imul hx hb dL_goes_61 ?_
        refine lv_topi (fun v_30 ev_30 => ?_)
        obtain rfl : v_30 = (nI (20 * ((nd % 2000000000) / 20))) := ev_30.trans ((congrArg (fun z => 20 * z) (q_div (b := 20) (show (nd % 2000000000) < 2 ^ 31 by omega) (by decide) (by decide))).trans (Int32.ofNat_mul 20 _).symm)
        refine lv_goto (tgt := 86) hx hb dL_goes_62 (by decide) ?_
        refine lv_istore (lv' := [(6, .int (nI (20 * ((nd % 2000000000) / 20)))), (5, .int (nI k)), (4, .int 1), (3, .ref aN), (2, .ref aX), (0, .ref b), (1, .int (nI at0))]) hx hb dL_goes_86 hl (by decide) rfl (fun ls hl => ?_)
        exact hJ ((20 * ((nd % 2000000000) / 20)), ls) ⟨by dsimp only; omega, lv_sub hl [0, 1, 2, 3, 4, 5, 6] rfl⟩
