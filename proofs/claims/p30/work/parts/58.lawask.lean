set_option maxHeartbeats 4000000 in
set_option maxRecDepth 100000 in
theorem c_L_isRefused (l : Launch) (Z : dzG) (G : dzW) (ad : dzA) (v : Int32)  : dzRd l yL_isRefused wsL_isRefused 0 0 Z G ad [.int v] (some (.int (dz_b (lw_ref v)))) := by
  refine Met.ofW (cc := cL_isRefused) (maxL := 1) (ret := (some .boolean)) (by decide) rfl ?_
  intro p e s m args below meth c s₁ B hml hv
  obtain ⟨rfl, hG, hE⟩ := hv
  have hx := B.exec
  have hb := B.bytes
  have hrt := B.returns
  have hts := atoms_spec (ws := wsL_isRefused) B.pre
  have hown : s.vm.findClass RL = some m.cls := findClass_of_methodNamed B.named
  have hlocks := B.notSynchronized
  have hS : va_S (dz_A Z) s.heap s.heap [] := va_S.rf
  have hl := lv_entry ([.int v]) (n := 1) (Nat.le_of_ble_eq_true rfl)
  rw [lg_entry_eq]
  generalize (lg_sl ([.int v]) ++ List.replicate (1 - (lg_sl ([.int v])).length) Slot.unset).toArray = ls at hl ⊢
  have hl : lv_has ls 1 [(0, .int v)] := hl
  refine lv_iload_n hx hb dL_isRefused_0 rfl (lv_at hl 0 rfl) ?_
  refine lv_ldc hx hb hown (hts _ (List.mem_of_getElem? (i := 1) rfl)) dL_isRefused_1 ?_
  refine lv_icmp_eq (tgt := 18) hx hb dL_isRefused_3 (by decide) (fun c_3 => ?_) (fun c_3 => ?_)
  · refine lv_iconst (v := 1) hx hb dL_isRefused_18 (by decide) ?_
    refine lv_goto (tgt := 23) hx hb dL_isRefused_19 (by decide) ?_
    refine W.zret hx hb hrt (by decide) (fun t ht hW => ⟨congrArg (fun x => Outcome.returned (some (Value.int x))) ?_, ht⟩) (fun _ h => by cases h) dL_isRefused_23
    first | exact (dz_b1 (Or.inl c_3)).symm | exact (dz_b1 (Or.inr (Or.inl c_9))).symm | exact (dz_b1 (Or.inr (Or.inr c_15))).symm | exact (dz_b0 (fun z => z.elim c_3 (fun z => z.elim c_9 c_15))).symm
  · refine lv_iload_n hx hb dL_isRefused_6 rfl (lv_at hl 0 rfl) ?_
    refine lv_ldc hx hb hown (hts _ (List.mem_of_getElem? (i := 2) rfl)) dL_isRefused_7 ?_
    refine lv_icmp_eq (tgt := 18) hx hb dL_isRefused_9 (by decide) (fun c_9 => ?_) (fun c_9 => ?_)
    · refine lv_iconst (v := 1) hx hb dL_isRefused_18 (by decide) ?_
      refine lv_goto (tgt := 23) hx hb dL_isRefused_19 (by decide) ?_
      refine W.zret hx hb hrt (by decide) (fun t ht hW => ⟨congrArg (fun x => Outcome.returned (some (Value.int x))) ?_, ht⟩) (fun _ h => by cases h) dL_isRefused_23
      first | exact (dz_b1 (Or.inl c_3)).symm | exact (dz_b1 (Or.inr (Or.inl c_9))).symm | exact (dz_b1 (Or.inr (Or.inr c_15))).symm | exact (dz_b0 (fun z => z.elim c_3 (fun z => z.elim c_9 c_15))).symm
    · refine lv_iload_n hx hb dL_isRefused_12 rfl (lv_at hl 0 rfl) ?_
      refine lv_ldc hx hb hown (hts _ (List.mem_of_getElem? (i := 3) rfl)) dL_isRefused_13 ?_
      refine lv_icmp_ne (tgt := 22) hx hb dL_isRefused_15 (by decide) (fun c_15 => ?_) (fun c_15 => ?_)
      · refine lv_iconst (v := 0) hx hb dL_isRefused_22 (by decide) ?_
        refine W.zret hx hb hrt (by decide) (fun t ht hW => ⟨congrArg (fun x => Outcome.returned (some (Value.int x))) ?_, ht⟩) (fun _ h => by cases h) dL_isRefused_23
        first | exact (dz_b1 (Or.inl c_3)).symm | exact (dz_b1 (Or.inr (Or.inl c_9))).symm | exact (dz_b1 (Or.inr (Or.inr c_15))).symm | exact (dz_b0 (fun z => z.elim c_3 (fun z => z.elim c_9 c_15))).symm
      · refine lv_iconst (v := 1) hx hb dL_isRefused_18 (by decide) ?_
        refine lv_goto (tgt := 23) hx hb dL_isRefused_19 (by decide) ?_
        refine W.zret hx hb hrt (by decide) (fun t ht hW => ⟨congrArg (fun x => Outcome.returned (some (Value.int x))) ?_, ht⟩) (fun _ h => by cases h) dL_isRefused_23
        first | exact (dz_b1 (Or.inl c_3)).symm | exact (dz_b1 (Or.inr (Or.inl c_9))).symm | exact (dz_b1 (Or.inr (Or.inr c_15))).symm | exact (dz_b0 (fun z => z.elim c_3 (fun z => z.elim c_9 c_15))).symm

set_option maxHeartbeats 4000000 in
set_option maxRecDepth 100000 in
theorem c_L_areAll (l : Launch) (Z : dzG) (G : dzW) (ad : dzA) (hst : l.stackTraces = false) (aX : Nat) (S : lwS) (hC : lwC Z G ad aX S) (hB : lwB S) : dzRd l yL_areAll wsL_areAll 11 324 Z G ad [.ref aX] (some (.int 1)) := by
  refine Met.ofW (cc := cL_areAll) (maxL := 6) (ret := (some .boolean)) (by decide) rfl ?_
  intro p e s m args below meth c s₁ B hml hv
  obtain ⟨rfl, hG, hE⟩ := hv
  have hx := B.exec
  have hb := B.bytes
  have hrt := B.returns
  have hts := atoms_spec (ws := wsL_areAll) B.pre
  have hown : s.vm.findClass RL = some m.cls := findClass_of_methodNamed B.named
  have hlocks := B.notSynchronized
  have hS : va_S (dz_A Z) s.heap s.heap [] := va_S.rf
  have hl := lv_entry ([.ref aX]) (n := 6) (Nat.le_of_ble_eq_true rfl)
  rw [lg_entry_eq]
  generalize (lg_sl ([.ref aX]) ++ List.replicate (6 - (lg_sl ([.ref aX])).length) Slot.unset).toArray = ls at hl ⊢
  have hl : lv_has ls 6 [(0, .ref aX)] := hl
  obtain ⟨ha0, fs0, ho0⟩ := lwC.obj hC
  refine lv_aload_n hx hb dL_areAll_0 rfl (lv_at hl 0 rfl) ?_
  refine dz_kRi (va_runV (As := []) ⟨hx, hb, hml, hown, hts⟩ (r_lost l hst hC hB) (cwV 0 hts gL_areAll_X8_lost rfl rfl rfl (by decide +kernel) ⟨Nat.le_of_ble_eq_true rfl, Nat.le_of_ble_eq_true rfl⟩) (dz_P.preV hE hS hG ho0 rfl ha0) rfl rfl hl.1 rfl (lv_room (Nat.le_of_ble_eq_true rfl)) dL_areAll_1 ⟨Nat.le_of_ble_eq_true rfl, Nat.le_of_ble_eq_true rfl⟩) ?_
  refine lv_topi (fun v_1 ev_1 => ?_)
  obtain rfl : v_1 = (nI (q_al (s_tc S) (s_tr S) 0)) := ev_1
  refine lv_istore_n (lv' := [(1, .int (nI (q_al (s_tc S) (s_tr S) 0))), (0, .ref aX)]) hx hb dL_areAll_4 rfl hl (by decide) rfl (fun ls hl => ?_)
  refine lv_iconst (v := 0) hx hb dL_areAll_5 (by decide) ?_
  refine lv_istore_n (lv' := [(2, .int 0), (1, .int (nI (q_al (s_tc S) (s_tr S) 0))), (0, .ref aX)]) hx hb dL_areAll_6 rfl hl (by decide) rfl (fun ls hl => ?_)
  refine lv_iconst (v := 0) hx hb dL_areAll_7 (by decide) ?_
  refine lv_istore_n (lv' := [(3, .int 0), (2, .int 0), (1, .int (nI (q_al (s_tc S) (s_tr S) 0))), (0, .ref aX)]) hx hb dL_areAll_8 rfl hl (by decide) rfl (fun ls hl => ?_)
  refine dz_lp (α := Nat × Array Slot) (fun a9 => (fun (k : Nat) (ls : Array Slot) => 441 - k) a9.1 a9.2) (fun a9 => (fun (k : Nat) (ls : Array Slot) => (k ≤ 441) ∧ lv_has ls 6 [(3, .int (nI k)), (2, .int (nI (q_n (fun j => q_b (¬ q_fld (s_tc S j) (s_tr S j))) k))), (1, .int (nI (q_al (s_tc S) (s_tr S) 0))), (0, .ref aX)]) a9.1 a9.2) (fun a9 => F0 m 9 a9.2 []) (fun a9 hI ih_9 => ?_) (0, ls) ⟨Nat.zero_le _, lv_sub hl [0, 1, 2, 3] rfl⟩
  obtain ⟨k, ls⟩ := a9
  obtain ⟨hk1, hl⟩ := hI
  have hk1 : k ≤ 441 := hk1
  have hl : lv_has ls 6 [(3, .int (nI k)), (2, .int (nI (q_n (fun j => q_b (¬ q_fld (s_tc S j) (s_tr S j))) k))), (1, .int (nI (q_al (s_tc S) (s_tr S) 0))), (0, .ref aX)] := hl
  refine lv_iload_n hx hb dL_areAll_9 rfl (lv_at hl 0 rfl) ?_
  refine lv_sipush (v := 441) hx hb dL_areAll_10 (by decide) ?_
  refine lv_icmp_ge (tgt := 100) hx hb dL_areAll_13 (by decide) (fun c_13 => ?_) (fun c_13 => ?_)
  · have hk441 : k = 441 := q_end (b := 441) c_13 hk1 (by decide)
    refine lv_iconst (v := 0) hx hb dL_areAll_100 (by decide) ?_
    refine lv_istore_n (lv' := [(3, .int 0), (2, .int (nI (q_n (fun j => q_b (¬ q_fld (s_tc S j) (s_tr S j))) k))), (1, .int (nI (q_al (s_tc S) (s_tr S) 0))), (0, .ref aX)]) hx hb dL_areAll_101 rfl hl (by decide) rfl (fun ls hl => ?_)
    refine dz_lp (α := Nat × Array Slot) (fun a9 => (fun (kk : Nat) (ls : Array Slot) => 441 - kk) a9.1 a9.2) (fun a9 => (fun (kk : Nat) (ls : Array Slot) => (kk ≤ 441) ∧ lv_has ls 6 [(3, .int (nI kk)), (2, .int (nI (q_n (fun j => q_b (¬ q_fld (s_tc S j) (s_tr S j))) k))), (1, .int (nI (q_al (s_tc S) (s_tr S) kk))), (0, .ref aX)]) a9.1 a9.2) (fun a9 => F0 m 102 a9.2 []) (fun a9 hI ih_102 => ?_) (0, ls) ⟨Nat.zero_le _, lv_sub hl [0, 1, 2, 3] rfl⟩
    obtain ⟨kk, ls⟩ := a9
    obtain ⟨hk1, hl⟩ := hI
    have hk1 : kk ≤ 441 := hk1
    have hl : lv_has ls 6 [(3, .int (nI kk)), (2, .int (nI (q_n (fun j => q_b (¬ q_fld (s_tc S j) (s_tr S j))) k))), (1, .int (nI (q_al (s_tc S) (s_tr S) kk))), (0, .ref aX)] := hl
    refine lv_iload_n hx hb dL_areAll_102 rfl (lv_at hl 0 rfl) ?_
    refine lv_sipush (v := 441) hx hb dL_areAll_103 (by decide) ?_
    refine lv_icmp_ge (tgt := 143) hx hb dL_areAll_106 (by decide) (fun c_106 => ?_) (fun c_106 => ?_)
    · have hk442 : kk = 441 := q_end (b := 441) c_106 hk1 (by decide)
      refine lv_iload_n hx hb dL_areAll_143 rfl (lv_at hl 2 rfl) ?_
      refine lv_sipush (v := 441) hx hb dL_areAll_144 (by decide) ?_
      refine lv_icmp_ne (tgt := 162) hx hb dL_areAll_147 (by decide) (fun c_147 => absurd (show nI (q_al (s_tc S) (s_tr S) kk) = 441 by rw [hk442, q_al_441]; rfl) c_147) (fun c_147 => ?_)
      refine lv_iload_n hx hb dL_areAll_150 rfl (lv_at hl 1 rfl) ?_
      refine lv_aload_n hx hb dL_areAll_151 rfl (lv_at hl 3 rfl) ?_
      refine dz_kRi (va_runV (As := []) ⟨hx, hb, hml, hown, hts⟩ (r_lost l hst hC hB) (cwV 0 hts gL_areAll_X8_lost rfl rfl rfl (by decide +kernel) ⟨Nat.le_of_ble_eq_true rfl, Nat.le_of_ble_eq_true rfl⟩) (dz_P.preV hE hS hG ho0 rfl ha0) rfl rfl hl.1 rfl (lv_room (Nat.le_of_ble_eq_true rfl)) dL_areAll_152 ⟨Nat.le_of_ble_eq_true rfl, Nat.le_of_ble_eq_true rfl⟩) ?_
      refine lv_icmp_ne (tgt := 162) hx hb dL_areAll_155 (by decide) (fun c_155 => absurd ((congrArg (fun z => nI (q_n (fun j => q_b (¬ q_fld (s_tc S j) (s_tr S j))) z)) hk441).trans rfl) c_155) (fun c_155 => ?_)
      refine lv_iconst (v := 1) hx hb dL_areAll_158 (by decide) ?_
      refine lv_goto (tgt := 163) hx hb dL_areAll_159 (by decide) ?_
      refine W.zret hx hb hrt (by decide) (fun t ht hW => ⟨congrArg (fun x => Outcome.returned (some (Value.int x))) ?_, ht⟩) (fun _ h => by cases h) dL_areAll_163
      rfl
    · have hk : kk < 441 := q_lt (b := 441) c_106 (by decide) (by omega)
      refine lv_iload_n hx hb dL_areAll_109 rfl (lv_at hl 2 rfl) ?_
      refine lv_sipush (v := 441) hx hb dL_areAll_110 (by decide) ?_
      refine lv_icmp_gt (tgt := 143) hx hb dL_areAll_113 (by decide) (fun c_113 => absurd c_113 (nI_nlt (q_al_le _ _ (by omega)) (by decide))) (fun c_113 => ?_)
      refine lv_iload_n hx hb dL_areAll_116 rfl (lv_at hl 2 rfl) ?_
      refine lv_aload_n hx hb dL_areAll_117 rfl (lv_at hl 3 rfl) ?_
      refine lv_iload_n hx hb dL_areAll_118 rfl (lv_at hl 0 rfl) ?_
      refine lv_bipush (v := 21) hx hb dL_areAll_119 (by decide) ?_
      refine lv_irem hx hb dL_areAll_121 (by decide) ?_
      refine lv_bipush (v := 10) hx hb dL_areAll_122 (by decide) ?_
      refine lv_isub hx hb dL_areAll_124 ?_
      refine lv_topi (fun v_2 ev_2 => ?_)
      obtain rfl : v_2 = (nI (kk % 21) - 10) := ev_2.trans (congrArg (fun x => x - 10) (q_m21 kk hk).1)
      refine lv_iload_n hx hb dL_areAll_125 rfl (lv_at hl 0 rfl) ?_
      refine lv_bipush (v := 21) hx hb dL_areAll_126 (by decide) ?_
      refine lv_idiv hx hb dL_areAll_128 (by decide) ?_
      refine lv_bipush (v := 10) hx hb dL_areAll_129 (by decide) ?_
      refine lv_isub hx hb dL_areAll_131 ?_
      refine lv_topi (fun v_3 ev_3 => ?_)
      obtain rfl : v_3 = (nI (kk / 21) - 10) := ev_3.trans (congrArg (fun x => x - 10) (q_m21 kk hk).2)
      refine dz_kRi (vx_runSW (As := [_, _, _]) ⟨hx, hb, hml, hown, hts⟩ (r_hits l hst hC hB hk) (vx_cwSW 3 hts gL_areAll_L_hits rfl rfl rfl (by decide +kernel) ⟨Nat.le_of_ble_eq_true rfl, Nat.le_of_ble_eq_true rfl⟩) (dz_P.pre hE hS hG) rfl rfl hl.1 rfl (lv_room (Nat.le_of_ble_eq_true rfl)) dL_areAll_132 ⟨Nat.le_of_ble_eq_true rfl, Nat.le_of_ble_eq_true rfl⟩) ?_
      refine lv_iadd hx hb dL_areAll_135 ?_
      refine lv_topi (fun v_4 ev_4 => ?_)
      obtain rfl : v_4 = (nI (q_al (s_tc S) (s_tr S) (kk + 1))) := ev_4.trans ((nI_add _ _).trans (congrArg nI (q_al_s _ _ kk).symm))
      refine lv_istore_n (lv' := [(1, .int (nI (q_al (s_tc S) (s_tr S) (kk + 1)))), (3, .int (nI kk)), (2, .int (nI (q_n (fun j => q_b (¬ q_fld (s_tc S j) (s_tr S j))) k))), (0, .ref aX)]) hx hb dL_areAll_136 rfl hl (by decide) rfl (fun ls hl => ?_)
      obtain ⟨v_5, ev_5⟩ : ∃ y : Int32, y = (nI kk) + 1 := ⟨_, rfl⟩
      refine lv_iinc (v := v_5) (lv' := [(3, .int v_5), (1, .int (nI (q_al (s_tc S) (s_tr S) (kk + 1)))), (2, .int (nI (q_n (fun j => q_b (¬ q_fld (s_tc S j) (s_tr S j))) k))), (0, .ref aX)]) hx hb dL_areAll_137 hl (k := 1) rfl (by rw [ev_5]; rfl) (by decide) rfl (fun ls hl => ?_)
      refine lv_goto (tgt := 102) hx hb dL_areAll_140 (by decide) ?_
      obtain rfl : v_5 = (nI (kk + 1)) := ev_5.trans (nI_1 kk)
      exact ih_102 (kk + 1, ls) (by first | (dsimp only; omega) | omega) ⟨(by omega), lv_sub hl [0, 2, 1, 3] rfl⟩
  · have hk : k < 441 := q_lt (b := 441) c_13 (by decide) (by omega)
    refine lv_aload_n hx hb dL_areAll_16 rfl (lv_at hl 3 rfl) ?_
    refine lv_iload_n hx hb dL_areAll_17 rfl (lv_at hl 0 rfl) ?_
    refine lv_bipush (v := 21) hx hb dL_areAll_18 (by decide) ?_
    refine lv_irem hx hb dL_areAll_20 (by decide) ?_
    refine lv_bipush (v := 10) hx hb dL_areAll_21 (by decide) ?_
    refine lv_isub hx hb dL_areAll_23 ?_
    refine lv_topi (fun v_6 ev_6 => ?_)
    obtain rfl : v_6 = (nI (k % 21) - 10) := ev_6.trans (congrArg (fun x => x - 10) (q_m21 k hk).1)
    refine lv_iload_n hx hb dL_areAll_24 rfl (lv_at hl 0 rfl) ?_
    refine lv_bipush (v := 21) hx hb dL_areAll_25 (by decide) ?_
    refine lv_idiv hx hb dL_areAll_27 (by decide) ?_
    refine lv_bipush (v := 10) hx hb dL_areAll_28 (by decide) ?_
    refine lv_isub hx hb dL_areAll_30 ?_
    refine lv_topi (fun v_7 ev_7 => ?_)
    obtain rfl : v_7 = (nI (k / 21) - 10) := ev_7.trans (congrArg (fun x => x - 10) (q_m21 k hk).2)
    refine lv_iconst (v := 0) hx hb dL_areAll_31 (by decide) ?_
    refine dz_kRi (vx_runSW (As := [_, _, _, _]) ⟨hx, hb, hml, hown, hts⟩ (r_from l hst hC hB 0 (Nat.mod_lt _ (by decide)) (by omega)) (vx_cwSW 4 hts gL_areAll_L_from rfl rfl rfl (by decide +kernel) ⟨Nat.le_of_ble_eq_true rfl, Nat.le_of_ble_eq_true rfl⟩) (dz_P.pre hE hS hG) rfl rfl hl.1 rfl (lv_room (Nat.le_of_ble_eq_true rfl)) dL_areAll_32 ⟨Nat.le_of_ble_eq_true rfl, Nat.le_of_ble_eq_true rfl⟩) ?_
    refine lv_topi (fun v_8 ev_8 => ?_)
    obtain rfl : v_8 = (s_tc S (22 * (k / 21) + k % 21)) := ev_8.trans (if_pos rfl)
    refine lv_istore (lv' := [(4, .int (s_tc S (22 * (k / 21) + k % 21))), (3, .int (nI k)), (2, .int (nI (q_n (fun j => q_b (¬ q_fld (s_tc S j) (s_tr S j))) k))), (1, .int (nI (q_al (s_tc S) (s_tr S) 0))), (0, .ref aX)]) hx hb dL_areAll_35 hl (by decide) rfl (fun ls hl => ?_)
    refine lv_aload_n hx hb dL_areAll_37 rfl (lv_at hl 4 rfl) ?_
    refine lv_iload_n hx hb dL_areAll_38 rfl (lv_at hl 1 rfl) ?_
    refine lv_bipush (v := 21) hx hb dL_areAll_39 (by decide) ?_
    refine lv_irem hx hb dL_areAll_41 (by decide) ?_
    refine lv_bipush (v := 10) hx hb dL_areAll_42 (by decide) ?_
    refine lv_isub hx hb dL_areAll_44 ?_
    refine lv_topi (fun v_9 ev_9 => ?_)
    obtain rfl : v_9 = (nI (k % 21) - 10) := ev_9.trans (congrArg (fun x => x - 10) (q_m21 k hk).1)
    refine lv_iload_n hx hb dL_areAll_45 rfl (lv_at hl 1 rfl) ?_
    refine lv_bipush (v := 21) hx hb dL_areAll_46 (by decide) ?_
    refine lv_idiv hx hb dL_areAll_48 (by decide) ?_
    refine lv_bipush (v := 10) hx hb dL_areAll_49 (by decide) ?_
    refine lv_isub hx hb dL_areAll_51 ?_
    refine lv_topi (fun v_10 ev_10 => ?_)
    obtain rfl : v_10 = (nI (k / 21) - 10) := ev_10.trans (congrArg (fun x => x - 10) (q_m21 k hk).2)
    refine lv_iconst (v := 1) hx hb dL_areAll_52 (by decide) ?_
    refine dz_kRi (vx_runSW (As := [_, _, _, _]) ⟨hx, hb, hml, hown, hts⟩ (r_from l hst hC hB 1 (Nat.mod_lt _ (by decide)) (by omega)) (vx_cwSW 4 hts gL_areAll_L_from rfl rfl rfl (by decide +kernel) ⟨Nat.le_of_ble_eq_true rfl, Nat.le_of_ble_eq_true rfl⟩) (dz_P.pre hE hS hG) rfl rfl hl.1 rfl (lv_room (Nat.le_of_ble_eq_true rfl)) dL_areAll_53 ⟨Nat.le_of_ble_eq_true rfl, Nat.le_of_ble_eq_true rfl⟩) ?_
    refine lv_topi (fun v_11 ev_11 => ?_)
    obtain rfl : v_11 = (s_tr S (22 * (k / 21) + k % 21)) := ev_11.trans (if_neg (by decide))
    refine lv_istore (lv' := [(5, .int (s_tr S (22 * (k / 21) + k % 21))), (4, .int (s_tc S (22 * (k / 21) + k % 21))), (3, .int (nI k)), (2, .int (nI (q_n (fun j => q_b (¬ q_fld (s_tc S j) (s_tr S j))) k))), (1, .int (nI (q_al (s_tc S) (s_tr S) 0))), (0, .ref aX)]) hx hb dL_areAll_56 hl (by decide) rfl (fun ls hl => ?_)
    refine lv_iload_n hx hb dL_areAll_58 rfl (lv_at hl 3 rfl) ?_
    refine lv_iload hx hb dL_areAll_59 (lv_at hl 1 rfl) ?_
    refine lv_bipush (v := (-10)) hx hb dL_areAll_61 (by decide) ?_
    refine lv_icmp_lt (tgt := 87) hx hb dL_areAll_63 (by decide) (fun c_63 => ?_) (fun c_63 => ?_)
    · refine lv_iconst (v := 1) hx hb dL_areAll_87 (by decide) ?_
      refine lv_goto (tgt := 92) hx hb dL_areAll_88 (by decide) ?_
      refine lv_iadd hx hb dL_areAll_92 ?_
      refine lv_topi (fun v_12 ev_12 => ?_)
      obtain rfl : v_12 = (nI (q_n (fun j => q_b (¬ q_fld (s_tc S j) (s_tr S j))) (k + 1))) := (by first | exact ev_12.trans (q_be1 (fun z => Int32.not_lt.mpr z.1.1 c_63)) | exact ev_12.trans (q_be1 (fun z => Int32.not_lt.mpr z.1.2 c_70)) | exact ev_12.trans (q_be1 (fun z => Int32.not_lt.mpr z.2.1 c_77)) | exact ev_12.trans (q_be1 (fun z => c_84 z.2.2)) | exact ev_12.trans (q_be0 ⟨⟨Int32.not_lt.mp c_63, Int32.not_lt.mp c_70⟩, Int32.not_lt.mp c_77, c_84⟩))
      refine lv_istore_n (lv' := [(2, .int (nI (q_n (fun j => q_b (¬ q_fld (s_tc S j) (s_tr S j))) (k + 1)))), (5, .int (s_tr S (22 * (k / 21) + k % 21))), (4, .int (s_tc S (22 * (k / 21) + k % 21))), (3, .int (nI k)), (1, .int (nI (q_al (s_tc S) (s_tr S) 0))), (0, .ref aX)]) hx hb dL_areAll_93 rfl hl (by decide) rfl (fun ls hl => ?_)
      obtain ⟨v_13, ev_13⟩ : ∃ y : Int32, y = (nI k) + 1 := ⟨_, rfl⟩
      refine lv_iinc (v := v_13) (lv' := [(3, .int v_13), (2, .int (nI (q_n (fun j => q_b (¬ q_fld (s_tc S j) (s_tr S j))) (k + 1)))), (5, .int (s_tr S (22 * (k / 21) + k % 21))), (4, .int (s_tc S (22 * (k / 21) + k % 21))), (1, .int (nI (q_al (s_tc S) (s_tr S) 0))), (0, .ref aX)]) hx hb dL_areAll_94 hl (k := 3) rfl (by rw [ev_13]; rfl) (by decide) rfl (fun ls hl => ?_)
      refine lv_goto (tgt := 9) hx hb dL_areAll_97 (by decide) ?_
      obtain rfl : v_13 = (nI (k + 1)) := ev_13.trans (nI_1 k)
      exact ih_9 (k + 1, ls) (by first | (dsimp only; omega) | omega) ⟨(by omega), lv_sub hl [0, 1, 4, 5] rfl⟩
    · refine lv_iload hx hb dL_areAll_66 (lv_at hl 1 rfl) ?_
      refine lv_bipush (v := 10) hx hb dL_areAll_68 (by decide) ?_
      refine lv_icmp_gt (tgt := 87) hx hb dL_areAll_70 (by decide) (fun c_70 => ?_) (fun c_70 => ?_)
      · refine lv_iconst (v := 1) hx hb dL_areAll_87 (by decide) ?_
        refine lv_goto (tgt := 92) hx hb dL_areAll_88 (by decide) ?_
        refine lv_iadd hx hb dL_areAll_92 ?_
        refine lv_topi (fun v_14 ev_14 => ?_)
        obtain rfl : v_14 = (nI (q_n (fun j => q_b (¬ q_fld (s_tc S j) (s_tr S j))) (k + 1))) := (by first | exact ev_14.trans (q_be1 (fun z => Int32.not_lt.mpr z.1.1 c_63)) | exact ev_14.trans (q_be1 (fun z => Int32.not_lt.mpr z.1.2 c_70)) | exact ev_14.trans (q_be1 (fun z => Int32.not_lt.mpr z.2.1 c_77)) | exact ev_14.trans (q_be1 (fun z => c_84 z.2.2)) | exact ev_14.trans (q_be0 ⟨⟨Int32.not_lt.mp c_63, Int32.not_lt.mp c_70⟩, Int32.not_lt.mp c_77, c_84⟩))
        refine lv_istore_n (lv' := [(2, .int (nI (q_n (fun j => q_b (¬ q_fld (s_tc S j) (s_tr S j))) (k + 1)))), (5, .int (s_tr S (22 * (k / 21) + k % 21))), (4, .int (s_tc S (22 * (k / 21) + k % 21))), (3, .int (nI k)), (1, .int (nI (q_al (s_tc S) (s_tr S) 0))), (0, .ref aX)]) hx hb dL_areAll_93 rfl hl (by decide) rfl (fun ls hl => ?_)
        obtain ⟨v_15, ev_15⟩ : ∃ y : Int32, y = (nI k) + 1 := ⟨_, rfl⟩
        refine lv_iinc (v := v_15) (lv' := [(3, .int v_15), (2, .int (nI (q_n (fun j => q_b (¬ q_fld (s_tc S j) (s_tr S j))) (k + 1)))), (5, .int (s_tr S (22 * (k / 21) + k % 21))), (4, .int (s_tc S (22 * (k / 21) + k % 21))), (1, .int (nI (q_al (s_tc S) (s_tr S) 0))), (0, .ref aX)]) hx hb dL_areAll_94 hl (k := 3) rfl (by rw [ev_15]; rfl) (by decide) rfl (fun ls hl => ?_)
        refine lv_goto (tgt := 9) hx hb dL_areAll_97 (by decide) ?_
        obtain rfl : v_15 = (nI (k + 1)) := ev_15.trans (nI_1 k)
        exact ih_9 (k + 1, ls) (by first | (dsimp only; omega) | omega) ⟨(by omega), lv_sub hl [0, 1, 4, 5] rfl⟩
      · refine lv_iload hx hb dL_areAll_73 (lv_at hl 0 rfl) ?_
        refine lv_bipush (v := (-10)) hx hb dL_areAll_75 (by decide) ?_
        refine lv_icmp_lt (tgt := 87) hx hb dL_areAll_77 (by decide) (fun c_77 => ?_) (fun c_77 => ?_)
        · refine lv_iconst (v := 1) hx hb dL_areAll_87 (by decide) ?_
          refine lv_goto (tgt := 92) hx hb dL_areAll_88 (by decide) ?_
          refine lv_iadd hx hb dL_areAll_92 ?_
          refine lv_topi (fun v_16 ev_16 => ?_)
          obtain rfl : v_16 = (nI (q_n (fun j => q_b (¬ q_fld (s_tc S j) (s_tr S j))) (k + 1))) := (by first | exact ev_16.trans (q_be1 (fun z => Int32.not_lt.mpr z.1.1 c_63)) | exact ev_16.trans (q_be1 (fun z => Int32.not_lt.mpr z.1.2 c_70)) | exact ev_16.trans (q_be1 (fun z => Int32.not_lt.mpr z.2.1 c_77)) | exact ev_16.trans (q_be1 (fun z => c_84 z.2.2)) | exact ev_16.trans (q_be0 ⟨⟨Int32.not_lt.mp c_63, Int32.not_lt.mp c_70⟩, Int32.not_lt.mp c_77, c_84⟩))
          refine lv_istore_n (lv' := [(2, .int (nI (q_n (fun j => q_b (¬ q_fld (s_tc S j) (s_tr S j))) (k + 1)))), (5, .int (s_tr S (22 * (k / 21) + k % 21))), (4, .int (s_tc S (22 * (k / 21) + k % 21))), (3, .int (nI k)), (1, .int (nI (q_al (s_tc S) (s_tr S) 0))), (0, .ref aX)]) hx hb dL_areAll_93 rfl hl (by decide) rfl (fun ls hl => ?_)
          obtain ⟨v_17, ev_17⟩ : ∃ y : Int32, y = (nI k) + 1 := ⟨_, rfl⟩
          refine lv_iinc (v := v_17) (lv' := [(3, .int v_17), (2, .int (nI (q_n (fun j => q_b (¬ q_fld (s_tc S j) (s_tr S j))) (k + 1)))), (5, .int (s_tr S (22 * (k / 21) + k % 21))), (4, .int (s_tc S (22 * (k / 21) + k % 21))), (1, .int (nI (q_al (s_tc S) (s_tr S) 0))), (0, .ref aX)]) hx hb dL_areAll_94 hl (k := 3) rfl (by rw [ev_17]; rfl) (by decide) rfl (fun ls hl => ?_)
          refine lv_goto (tgt := 9) hx hb dL_areAll_97 (by decide) ?_
          obtain rfl : v_17 = (nI (k + 1)) := ev_17.trans (nI_1 k)
          exact ih_9 (k + 1, ls) (by first | (dsimp only; omega) | omega) ⟨(by omega), lv_sub hl [0, 1, 4, 5] rfl⟩
        · refine lv_iload hx hb dL_areAll_80 (lv_at hl 0 rfl) ?_
          refine lv_bipush (v := 10) hx hb dL_areAll_82 (by decide) ?_
          refine lv_icmp_le (tgt := 91) hx hb dL_areAll_84 (by decide) (fun c_84 => ?_) (fun c_84 => ?_)
          · refine lv_iconst (v := 0) hx hb dL_areAll_91 (by decide) ?_
            refine lv_iadd hx hb dL_areAll_92 ?_
            refine lv_topi (fun v_18 ev_18 => ?_)
            obtain rfl : v_18 = (nI (q_n (fun j => q_b (¬ q_fld (s_tc S j) (s_tr S j))) (k + 1))) := (by first | exact ev_18.trans (q_be1 (fun z => Int32.not_lt.mpr z.1.1 c_63)) | exact ev_18.trans (q_be1 (fun z => Int32.not_lt.mpr z.1.2 c_70)) | exact ev_18.trans (q_be1 (fun z => Int32.not_lt.mpr z.2.1 c_77)) | exact ev_18.trans (q_be1 (fun z => c_84 z.2.2)) | exact ev_18.trans (q_be0 ⟨⟨Int32.not_lt.mp c_63, Int32.not_lt.mp c_70⟩, Int32.not_lt.mp c_77, c_84⟩))
            refine lv_istore_n (lv' := [(2, .int (nI (q_n (fun j => q_b (¬ q_fld (s_tc S j) (s_tr S j))) (k + 1)))), (5, .int (s_tr S (22 * (k / 21) + k % 21))), (4, .int (s_tc S (22 * (k / 21) + k % 21))), (3, .int (nI k)), (1, .int (nI (q_al (s_tc S) (s_tr S) 0))), (0, .ref aX)]) hx hb dL_areAll_93 rfl hl (by decide) rfl (fun ls hl => ?_)
            obtain ⟨v_19, ev_19⟩ : ∃ y : Int32, y = (nI k) + 1 := ⟨_, rfl⟩
            refine lv_iinc (v := v_19) (lv' := [(3, .int v_19), (2, .int (nI (q_n (fun j => q_b (¬ q_fld (s_tc S j) (s_tr S j))) (k + 1)))), (5, .int (s_tr S (22 * (k / 21) + k % 21))), (4, .int (s_tc S (22 * (k / 21) + k % 21))), (1, .int (nI (q_al (s_tc S) (s_tr S) 0))), (0, .ref aX)]) hx hb dL_areAll_94 hl (k := 3) rfl (by rw [ev_19]; rfl) (by decide) rfl (fun ls hl => ?_)
            refine lv_goto (tgt := 9) hx hb dL_areAll_97 (by decide) ?_
            obtain rfl : v_19 = (nI (k + 1)) := ev_19.trans (nI_1 k)
            exact ih_9 (k + 1, ls) (by first | (dsimp only; omega) | omega) ⟨(by omega), lv_sub hl [0, 1, 4, 5] rfl⟩
          · refine lv_iconst (v := 1) hx hb dL_areAll_87 (by decide) ?_
            refine lv_goto (tgt := 92) hx hb dL_areAll_88 (by decide) ?_
            refine lv_iadd hx hb dL_areAll_92 ?_
            refine lv_topi (fun v_20 ev_20 => ?_)
            obtain rfl : v_20 = (nI (q_n (fun j => q_b (¬ q_fld (s_tc S j) (s_tr S j))) (k + 1))) := (by first | exact ev_20.trans (q_be1 (fun z => Int32.not_lt.mpr z.1.1 c_63)) | exact ev_20.trans (q_be1 (fun z => Int32.not_lt.mpr z.1.2 c_70)) | exact ev_20.trans (q_be1 (fun z => Int32.not_lt.mpr z.2.1 c_77)) | exact ev_20.trans (q_be1 (fun z => c_84 z.2.2)) | exact ev_20.trans (q_be0 ⟨⟨Int32.not_lt.mp c_63, Int32.not_lt.mp c_70⟩, Int32.not_lt.mp c_77, c_84⟩))
            refine lv_istore_n (lv' := [(2, .int (nI (q_n (fun j => q_b (¬ q_fld (s_tc S j) (s_tr S j))) (k + 1)))), (5, .int (s_tr S (22 * (k / 21) + k % 21))), (4, .int (s_tc S (22 * (k / 21) + k % 21))), (3, .int (nI k)), (1, .int (nI (q_al (s_tc S) (s_tr S) 0))), (0, .ref aX)]) hx hb dL_areAll_93 rfl hl (by decide) rfl (fun ls hl => ?_)
            obtain ⟨v_21, ev_21⟩ : ∃ y : Int32, y = (nI k) + 1 := ⟨_, rfl⟩
            refine lv_iinc (v := v_21) (lv' := [(3, .int v_21), (2, .int (nI (q_n (fun j => q_b (¬ q_fld (s_tc S j) (s_tr S j))) (k + 1)))), (5, .int (s_tr S (22 * (k / 21) + k % 21))), (4, .int (s_tc S (22 * (k / 21) + k % 21))), (1, .int (nI (q_al (s_tc S) (s_tr S) 0))), (0, .ref aX)]) hx hb dL_areAll_94 hl (k := 3) rfl (by rw [ev_21]; rfl) (by decide) rfl (fun ls hl => ?_)
            refine lv_goto (tgt := 9) hx hb dL_areAll_97 (by decide) ?_
            obtain rfl : v_21 = (nI (k + 1)) := ev_21.trans (nI_1 k)
            exact ih_9 (k + 1, ls) (by first | (dsimp only; omega) | omega) ⟨(by omega), lv_sub hl [0, 1, 4, 5] rfl⟩

set_option maxHeartbeats 4000000 in
set_option maxRecDepth 100000 in
theorem c_L_isRight (l : Launch) (Z : dzG) (G : dzW) (ad : dzA) (hst : l.stackTraces = false) (aX : Nat) (S : lwS) (sc : Nat) (hC : lwC Z G ad aX S) (hB : lwB S) (hsc : sc < S.1 1) : dzWr l yL_isRight wsL_isRight 11 324 1 6 Z G ad [.ref aX, .int (nI sc), .int (S.2.2 12 sc), .int (S.2.2 13 sc)] rv_i (fun (x : Int32) G1 ad1 => x = 1 ∧ G1 = G ∧ ad1 = ad) := by
  refine Met.ofW (cc := cL_isRight) (maxL := 11) (ret := (some .boolean)) (by decide) rfl ?_
  intro p e s m args below meth c s₁ B hml hv
  obtain ⟨rfl, hG, hE⟩ := hv
  have hx := B.exec
  have hb := B.bytes
  have hrt := B.returns
  have hts := atoms_spec (ws := wsL_isRight) B.pre
  have hown : s.vm.findClass RL = some m.cls := findClass_of_methodNamed B.named
  have hlocks := B.notSynchronized
  have hS : va_S (dz_A Z) s.heap s.heap [] := va_S.rf
  have hl := lv_entry ([.ref aX, .int (nI sc), .int (S.2.2 12 sc), .int (S.2.2 13 sc)]) (n := 11) (Nat.le_of_ble_eq_true rfl)
  rw [lg_entry_eq]
  generalize (lg_sl ([.ref aX, .int (nI sc), .int (S.2.2 12 sc), .int (S.2.2 13 sc)]) ++ List.replicate (11 - (lg_sl ([.ref aX, .int (nI sc), .int (S.2.2 12 sc), .int (S.2.2 13 sc)])).length) Slot.unset).toArray = ls at hl ⊢
  have hl : lv_has ls 11 [(0, .ref aX), (1, .int (nI sc)), (2, .int (S.2.2 12 sc)), (3, .int (S.2.2 13 sc))] := hl
  have hcn : (s_ix S sc).1 < 2 ^ 31 := Nat.lt_of_le_of_lt m_im_c (by decide)
  refine lv_aload_n hx hb dL_isRight_0 rfl (lv_at hl 0 rfl) ?_
  refine lv_iload_n hx hb dL_isRight_1 rfl (lv_at hl 1 rfl) ?_
  refine dz_kRi (vx_runSW (As := [_, _]) ⟨hx, hb, hml, hown, hts⟩ (r_images l hst hC hB hsc) (vx_cwSW 2 hts gL_isRight_L_images rfl rfl rfl (by decide +kernel) ⟨Nat.le_of_ble_eq_true rfl, Nat.le_of_ble_eq_true rfl⟩) (dz_P.pre hE hS hG) rfl rfl hl.1 rfl (lv_room (Nat.le_of_ble_eq_true rfl)) dL_isRight_2 ⟨Nat.le_of_ble_eq_true rfl, Nat.le_of_ble_eq_true rfl⟩) ?_
  refine lv_topi (fun v_1 ev_1 => ?_)
  obtain rfl : v_1 = (nI (s_ix S sc).1) := ev_1
  refine lv_istore (lv' := [(4, .int (nI (s_ix S sc).1)), (0, .ref aX), (1, .int (nI sc)), (2, .int (S.2.2 12 sc)), (3, .int (S.2.2 13 sc))]) hx hb dL_isRight_5 hl (by decide) rfl (fun ls hl => ?_)
  refine lv_iload hx hb dL_isRight_7 (lv_at hl 0 rfl) ?_
  refine lv_if_lt (tgt := 47) hx hb dL_isRight_9 (by decide) (fun c_9 => absurd c_9 (nI_pos hcn)) (fun c_9 => ?_)
  refine lv_iload hx hb dL_isRight_12 (lv_at hl 0 rfl) ?_
  refine lv_sipush (v := 441) hx hb dL_isRight_14 (by decide) ?_
  refine lv_icmp_gt (tgt := 47) hx hb dL_isRight_17 (by decide) (fun c_17 => absurd c_17 (nI_nlt m_im_c (by decide))) (fun c_17 => ?_)
  refine lv_aload_n hx hb dL_isRight_20 rfl (lv_at hl 1 rfl) ?_
  refine lv_iload_n hx hb dL_isRight_21 rfl (lv_at hl 3 rfl) ?_
  refine lv_iload_n hx hb dL_isRight_22 rfl (lv_at hl 4 rfl) ?_
  refine dz_kRi (vx_runSW (As := [_, _, _]) ⟨hx, hb, hml, hown, hts⟩ (r_hitsS l hst hC hB hsc) (vx_cwSW 3 hts gL_isRight_L_hits rfl rfl rfl (by decide +kernel) ⟨Nat.le_of_ble_eq_true rfl, Nat.le_of_ble_eq_true rfl⟩) (dz_P.pre hE hS hG) rfl rfl hl.1 rfl (lv_room (Nat.le_of_ble_eq_true rfl)) dL_isRight_23 ⟨Nat.le_of_ble_eq_true rfl, Nat.le_of_ble_eq_true rfl⟩) ?_
  refine lv_iload hx hb dL_isRight_26 (lv_at hl 0 rfl) ?_
  refine lv_icmp_ne (tgt := 47) hx hb dL_isRight_28 (by decide) (fun c_28 => absurd rfl c_28) (fun c_28 => ?_)
  refine lv_aload_n hx hb dL_isRight_31 rfl (lv_at hl 1 rfl) ?_
  refine lv_iload_n hx hb dL_isRight_32 rfl (lv_at hl 2 rfl) ?_
  refine lv_iload hx hb dL_isRight_33 (lv_at hl 0 rfl) ?_
  refine dz_kMi (vx_runSW (As := [_, _, _]) ⟨hx, hb, hml, hown, hts⟩ (r_lightX l hst hC hB hsc) (vx_cwSW 3 hts gL_isRight_L_light rfl rfl rfl (by decide +kernel) ⟨Nat.le_of_ble_eq_true rfl, Nat.le_of_ble_eq_true rfl⟩) (dz_P.pre hE hS hG) rfl rfl hl.1 rfl (lv_room (Nat.le_of_ble_eq_true rfl)) dL_isRight_35 ⟨Nat.le_of_ble_eq_true rfl, Nat.le_of_ble_eq_true rfl⟩) hS (fun x_35_1 G_35_1 ad_35_1 H locs hp_35_1 hG hS => ?_)
  rw [hp_35_1.2.1, hp_35_1.2.2] at hG
  rw [hp_35_1.1]
  refine W.widen (k := 1) (n := 6) (by omega) (by omega) ?_
  refine lv_ldc hx hb hown (hts _ (List.mem_of_getElem? (i := 1) rfl)) dL_isRight_38 ?_
  refine lv_icmp_ne (tgt := 47) hx hb dL_isRight_40 (by decide) (fun c_40 => absurd (by decide) c_40) (fun c_40 => ?_)
  refine lv_iconst (v := 1) hx hb dL_isRight_43 (by decide) ?_
  refine lv_goto (tgt := 48) hx hb dL_isRight_44 (by decide) ?_
  refine lv_istore (lv' := [(5, .int 1), (4, .int (nI (s_ix S sc).1)), (0, .ref aX), (1, .int (nI sc)), (2, .int (S.2.2 12 sc)), (3, .int (S.2.2 13 sc))]) hx hb dL_isRight_48 hl (by decide) rfl (fun ls hl => ?_)
  refine lv_ldc hx hb hown (hts _ (List.mem_of_getElem? (i := 2) rfl)) dL_isRight_50 ?_
  refine lv_istore (lv' := [(6, .int (-2000000000)), (5, .int 1), (4, .int (nI (s_ix S sc).1)), (0, .ref aX), (1, .int (nI sc)), (2, .int (S.2.2 12 sc)), (3, .int (S.2.2 13 sc))]) hx hb dL_isRight_52 hl (by decide) rfl (fun ls hl => ?_)
  refine lv_iconst (v := 0) hx hb dL_isRight_54 (by decide) ?_
  refine lv_istore (lv' := [(7, .int 0), (6, .int (-2000000000)), (5, .int 1), (4, .int (nI (s_ix S sc).1)), (0, .ref aX), (1, .int (nI sc)), (2, .int (S.2.2 12 sc)), (3, .int (S.2.2 13 sc))]) hx hb dL_isRight_55 hl (by decide) rfl (fun ls hl => ?_)
  refine dz_lp (α := Nat × Array Slot) (fun a9 => (fun (rk : Nat) (ls : Array Slot) => 5 - rk) a9.1 a9.2) (fun a9 => (fun (rk : Nat) (ls : Array Slot) => (rk ≤ 5) ∧ lv_has ls 11 [(7, .int (nI rk)), (6, .int (q_bf S sc rk)), (5, .int 1), (4, .int (nI (s_ix S sc).1)), (0, .ref aX), (1, .int (nI sc)), (2, .int (S.2.2 12 sc)), (3, .int (S.2.2 13 sc))]) a9.1 a9.2) (fun a9 => F0 m 57 a9.2 []) (fun a9 hI ih_57 => ?_) (0, ls) ⟨Nat.zero_le _, lv_sub hl [0, 1, 2, 3, 4, 5, 6, 7] rfl⟩
  obtain ⟨rk, ls⟩ := a9
  obtain ⟨hr1, hl⟩ := hI
  have hr1 : rk ≤ 5 := hr1
  have hl : lv_has ls 11 [(7, .int (nI rk)), (6, .int (q_bf S sc rk)), (5, .int 1), (4, .int (nI (s_ix S sc).1)), (0, .ref aX), (1, .int (nI sc)), (2, .int (S.2.2 12 sc)), (3, .int (S.2.2 13 sc))] := hl
  refine lv_iload hx hb dL_isRight_57 (lv_at hl 0 rfl) ?_
  refine lv_iload hx hb dL_isRight_59 (lv_at hl 3 rfl) ?_
  refine lv_icmp_ge (tgt := 277) hx hb dL_isRight_61 (by decide) (fun c_61 => ?_) (fun c_61 => ?_)
  · refine lv_iload hx hb dL_isRight_277 (lv_at hl 2 rfl) ?_
    refine W.widen (k := 1) (n := 6) (by first | omega | decide) (by first | omega | decide) ?_
    refine W.zret hx hb hrt (by decide) (fun t ht hW => dz_endM (f := rv_i) _ hE hS hG ?_ ht hW) (fun q h => hS.2.2 q h) dL_isRight_279
    exact ⟨rfl, rfl, rfl⟩
  · have hrk : rk < (s_ix S sc).1 := q_lt c_61 hcn (by omega)
    refine lv_iload hx hb dL_isRight_64 (lv_at hl 0 rfl) ?_
    refine lv_iconst (v := 5) hx hb dL_isRight_66 (by decide) ?_
    refine lv_icmp_ge (tgt := 277) hx hb dL_isRight_67 (by decide) (fun c_67 => ?_) (fun c_67 => ?_)
    · refine lv_iload hx hb dL_isRight_277 (lv_at hl 2 rfl) ?_
      refine W.widen (k := 1) (n := 6) (by first | omega | decide) (by first | omega | decide) ?_
      refine W.zret hx hb hrt (by decide) (fun t ht hW => dz_endM (f := rv_i) _ hE hS hG ?_ ht hW) (fun q h => hS.2.2 q h) dL_isRight_279
      exact ⟨rfl, rfl, rfl⟩
    · have hr5 : rk < 5 := q_lt (b := 5) c_67 (by decide) (by omega)
      refine lv_iload hx hb dL_isRight_70 (lv_at hl 2 rfl) ?_
      refine lv_if_eq (tgt := 277) hx hb dL_isRight_72 (by decide) (fun c_72 => absurd c_72 (by decide)) (fun c_72 => ?_)
      refine lv_aload_n hx hb dL_isRight_75 rfl (lv_at hl 4 rfl) ?_
      refine lv_iload_n hx hb dL_isRight_76 rfl (lv_at hl 5 rfl) ?_
      refine lv_iload hx hb dL_isRight_77 (lv_at hl 0 rfl) ?_
      refine lv_iconst (v := 3) hx hb dL_isRight_79 (by decide) ?_
      refine dz_kRi (vx_runSW (As := [_, _, _, _]) ⟨hx, hb, hml, hown, hts⟩ (r_im3 l hst hC hB hsc hrk) (vx_cwSW 4 hts gL_isRight_L_imageOf rfl rfl rfl (by decide +kernel) ⟨Nat.le_of_ble_eq_true rfl, Nat.le_of_ble_eq_true rfl⟩) (dz_P.pre hE hS hG) rfl rfl hl.1 rfl (lv_room (Nat.le_of_ble_eq_true rfl)) dL_isRight_80 ⟨Nat.le_of_ble_eq_true rfl, Nat.le_of_ble_eq_true rfl⟩) ?_
      refine lv_topi (fun v_2 ev_2 => ?_)
      obtain rfl : v_2 = (s_tw S (s_pl S sc rk)) := ev_2
      refine lv_istore (lv' := [(8, .int (s_tw S (s_pl S sc rk))), (7, .int (nI rk)), (6, .int (q_bf S sc rk)), (5, .int 1), (4, .int (nI (s_ix S sc).1)), (0, .ref aX), (1, .int (nI sc)), (2, .int (S.2.2 12 sc)), (3, .int (S.2.2 13 sc))]) hx hb dL_isRight_83 hl (by decide) rfl (fun ls hl => ?_)
      refine lv_aload_n hx hb dL_isRight_85 rfl (lv_at hl 5 rfl) ?_
      refine lv_iload_n hx hb dL_isRight_86 rfl (lv_at hl 6 rfl) ?_
      refine lv_iload hx hb dL_isRight_87 (lv_at hl 1 rfl) ?_
      refine lv_iconst (v := 0) hx hb dL_isRight_89 (by decide) ?_
      refine dz_kRi (vx_runSW (As := [_, _, _, _]) ⟨hx, hb, hml, hown, hts⟩ (r_im0 l hst hC hB hsc hrk) (vx_cwSW 4 hts gL_isRight_L_imageOf rfl rfl rfl (by decide +kernel) ⟨Nat.le_of_ble_eq_true rfl, Nat.le_of_ble_eq_true rfl⟩) (dz_P.pre hE hS hG) rfl rfl hl.1 rfl (lv_room (Nat.le_of_ble_eq_true rfl)) dL_isRight_90 ⟨Nat.le_of_ble_eq_true rfl, Nat.le_of_ble_eq_true rfl⟩) ?_
      refine lv_topi (fun v_3 ev_3 => ?_)
      obtain rfl : v_3 = (m_pc (s_pl S sc rk)) := ev_3
      refine lv_istore (lv' := [(9, .int (m_pc (s_pl S sc rk))), (8, .int (s_tw S (s_pl S sc rk))), (7, .int (nI rk)), (6, .int (q_bf S sc rk)), (5, .int 1), (4, .int (nI (s_ix S sc).1)), (0, .ref aX), (1, .int (nI sc)), (2, .int (S.2.2 12 sc)), (3, .int (S.2.2 13 sc))]) hx hb dL_isRight_93 hl (by decide) rfl (fun ls hl => ?_)
      refine lv_aload_n hx hb dL_isRight_95 rfl (lv_at hl 6 rfl) ?_
      refine lv_iload_n hx hb dL_isRight_96 rfl (lv_at hl 7 rfl) ?_
      refine lv_iload hx hb dL_isRight_97 (lv_at hl 2 rfl) ?_
      refine lv_iconst (v := 1) hx hb dL_isRight_99 (by decide) ?_
      refine dz_kRi (vx_runSW (As := [_, _, _, _]) ⟨hx, hb, hml, hown, hts⟩ (r_im1 l hst hC hB hsc hrk) (vx_cwSW 4 hts gL_isRight_L_imageOf rfl rfl rfl (by decide +kernel) ⟨Nat.le_of_ble_eq_true rfl, Nat.le_of_ble_eq_true rfl⟩) (dz_P.pre hE hS hG) rfl rfl hl.1 rfl (lv_room (Nat.le_of_ble_eq_true rfl)) dL_isRight_100 ⟨Nat.le_of_ble_eq_true rfl, Nat.le_of_ble_eq_true rfl⟩) ?_
      refine lv_topi (fun v_4 ev_4 => ?_)
      obtain rfl : v_4 = (m_pr (s_pl S sc rk)) := ev_4
      refine lv_istore (lv' := [(10, .int (m_pr (s_pl S sc rk))), (9, .int (m_pc (s_pl S sc rk))), (8, .int (s_tw S (s_pl S sc rk))), (7, .int (nI rk)), (6, .int (q_bf S sc rk)), (5, .int 1), (4, .int (nI (s_ix S sc).1)), (0, .ref aX), (1, .int (nI sc)), (2, .int (S.2.2 12 sc)), (3, .int (S.2.2 13 sc))]) hx hb dL_isRight_103 hl (by decide) rfl (fun ls hl => ?_)
      refine lv_iload hx hb dL_isRight_105 (lv_at hl 2 rfl) ?_
      refine lv_iload hx hb dL_isRight_107 (lv_at hl 4 rfl) ?_
      refine lv_icmp_lt (tgt := 193) hx hb dL_isRight_109 (by decide) (fun c_109 => absurd c_109 (Int32.not_lt.mpr (q_bf_le hB hsc hrk))) (fun c_109 => ?_)
      refine lv_aload_n hx hb dL_isRight_112 rfl (lv_at hl 7 rfl) ?_
      refine lv_iload hx hb dL_isRight_113 (lv_at hl 1 rfl) ?_
      refine lv_iload hx hb dL_isRight_115 (lv_at hl 0 rfl) ?_
      refine lv_iconst (v := 0) hx hb dL_isRight_117 (by decide) ?_
      refine dz_kRi (vx_runSW (As := [_, _, _, _]) ⟨hx, hb, hml, hown, hts⟩ (r_fromI l hst hC hB 0 hrk) (vx_cwSW 4 hts gL_isRight_L_from rfl rfl rfl (by decide +kernel) ⟨Nat.le_of_ble_eq_true rfl, Nat.le_of_ble_eq_true rfl⟩) (dz_P.pre hE hS hG) rfl rfl hl.1 rfl (lv_room (Nat.le_of_ble_eq_true rfl)) dL_isRight_118 ⟨Nat.le_of_ble_eq_true rfl, Nat.le_of_ble_eq_true rfl⟩) ?_
      refine lv_topi (fun v_5 ev_5 => ?_)
      obtain rfl : v_5 = (S.2.2 12 sc) := ev_5.trans (if_pos rfl)
      refine lv_iload_n hx hb dL_isRight_121 rfl (lv_at hl 9 rfl) ?_
      refine lv_icmp_ne (tgt := 193) hx hb dL_isRight_122 (by decide) (fun c_122 => absurd rfl c_122) (fun c_122 => ?_)
      refine lv_aload_n hx hb dL_isRight_125 rfl (lv_at hl 7 rfl) ?_
      refine lv_iload hx hb dL_isRight_126 (lv_at hl 1 rfl) ?_
      refine lv_iload hx hb dL_isRight_128 (lv_at hl 0 rfl) ?_
      refine lv_iconst (v := 1) hx hb dL_isRight_130 (by decide) ?_
      refine dz_kRi (vx_runSW (As := [_, _, _, _]) ⟨hx, hb, hml, hown, hts⟩ (r_fromI l hst hC hB 1 hrk) (vx_cwSW 4 hts gL_isRight_L_from rfl rfl rfl (by decide +kernel) ⟨Nat.le_of_ble_eq_true rfl, Nat.le_of_ble_eq_true rfl⟩) (dz_P.pre hE hS hG) rfl rfl hl.1 rfl (lv_room (Nat.le_of_ble_eq_true rfl)) dL_isRight_131 ⟨Nat.le_of_ble_eq_true rfl, Nat.le_of_ble_eq_true rfl⟩) ?_
      refine lv_topi (fun v_6 ev_6 => ?_)
      obtain rfl : v_6 = (S.2.2 13 sc) := ev_6.trans (if_neg (by decide))
      refine lv_iload_n hx hb dL_isRight_134 rfl (lv_at hl 10 rfl) ?_
      refine lv_icmp_ne (tgt := 193) hx hb dL_isRight_135 (by decide) (fun c_135 => absurd rfl c_135) (fun c_135 => ?_)
      refine lv_aload_n hx hb dL_isRight_138 rfl (lv_at hl 7 rfl) ?_
      refine lv_iload_n hx hb dL_isRight_139 rfl (lv_at hl 8 rfl) ?_
      refine lv_iload hx hb dL_isRight_140 (lv_at hl 3 rfl) ?_
      refine dz_kRi (vx_runSW (As := [_, _, _]) ⟨hx, hb, hml, hown, hts⟩ (r_light l hst hC hB hsc hrk) (vx_cwSW 3 hts gL_isRight_L_light rfl rfl rfl (by decide +kernel) ⟨Nat.le_of_ble_eq_true rfl, Nat.le_of_ble_eq_true rfl⟩) (dz_P.pre hE hS hG) rfl rfl hl.1 rfl (lv_room (Nat.le_of_ble_eq_true rfl)) dL_isRight_142 ⟨Nat.le_of_ble_eq_true rfl, Nat.le_of_ble_eq_true rfl⟩) ?_
      refine lv_if_lt (tgt := 193) hx hb dL_isRight_145 (by decide) (fun c_145 => absurd c_145 (Int32.not_lt.mpr (s_lv0 hB hsc hrk))) (fun c_145 => ?_)
      refine lv_aload_n hx hb dL_isRight_148 rfl (lv_at hl 7 rfl) ?_
      refine lv_iload_n hx hb dL_isRight_149 rfl (lv_at hl 8 rfl) ?_
      refine lv_iload hx hb dL_isRight_150 (lv_at hl 3 rfl) ?_
      refine lv_iload hx hb dL_isRight_152 (lv_at hl 3 rfl) ?_
      refine dz_kRi (vx_runSW (As := [_, _, _, _]) ⟨hx, hb, hml, hown, hts⟩ (r_delay l hst hC hB hsc hrk hrk) (vx_cwSW 4 hts gL_isRight_L_delay rfl rfl rfl (by decide +kernel) ⟨Nat.le_of_ble_eq_true rfl, Nat.le_of_ble_eq_true rfl⟩) (dz_P.pre hE hS hG) rfl rfl hl.1 rfl (lv_room (Nat.le_of_ble_eq_true rfl)) dL_isRight_154 ⟨Nat.le_of_ble_eq_true rfl, Nat.le_of_ble_eq_true rfl⟩) ?_
      refine lv_if_ne (tgt := 193) hx hb dL_isRight_157 (by decide) (fun c_157 => absurd (Int32.sub_self _) c_157) (fun c_157 => ?_)
      refine lv_aload_n hx hb dL_isRight_160 rfl (lv_at hl 7 rfl) ?_
      refine lv_iload_n hx hb dL_isRight_161 rfl (lv_at hl 8 rfl) ?_
      refine lv_iconst (v := 0) hx hb dL_isRight_162 (by decide) ?_
      refine lv_iconst (v := 4) hx hb dL_isRight_163 (by decide) ?_
      refine dz_kRi (vx_runSW (As := [_, _, _, _]) ⟨hx, hb, hml, hown, hts⟩ (r_im4 l hst hC hB (rk := 0) hsc (Nat.lt_of_le_of_lt (Nat.zero_le _) hrk)) (vx_cwSW 4 hts gL_isRight_L_imageOf rfl rfl rfl (by decide +kernel) ⟨Nat.le_of_ble_eq_true rfl, Nat.le_of_ble_eq_true rfl⟩) (dz_P.pre hE hS hG) rfl rfl hl.1 rfl (lv_room (Nat.le_of_ble_eq_true rfl)) dL_isRight_164 ⟨Nat.le_of_ble_eq_true rfl, Nat.le_of_ble_eq_true rfl⟩) ?_
      refine lv_if_ne (tgt := 193) hx hb dL_isRight_167 (by decide) (fun c_167 => absurd (s_late0 S sc) c_167) (fun c_167 => ?_)
      refine lv_aload_n hx hb dL_isRight_170 rfl (lv_at hl 7 rfl) ?_
      refine lv_iload_n hx hb dL_isRight_171 rfl (lv_at hl 8 rfl) ?_
      refine lv_iconst (v := 0) hx hb dL_isRight_172 (by decide) ?_
      refine lv_iload hx hb dL_isRight_173 (lv_at hl 3 rfl) ?_
      refine dz_kRi (vx_runSW (As := [_, _, _, _]) ⟨hx, hb, hml, hown, hts⟩ (r_delay l hst hC hB (rk := 0) hsc (Nat.lt_of_le_of_lt (Nat.zero_le _) hrk) hrk) (vx_cwSW 4 hts gL_isRight_L_delay rfl rfl rfl (by decide +kernel) ⟨Nat.le_of_ble_eq_true rfl, Nat.le_of_ble_eq_true rfl⟩) (dz_P.pre hE hS hG) rfl rfl hl.1 rfl (lv_room (Nat.le_of_ble_eq_true rfl)) dL_isRight_175 ⟨Nat.le_of_ble_eq_true rfl, Nat.le_of_ble_eq_true rfl⟩) ?_
      refine lv_aload_n hx hb dL_isRight_178 rfl (lv_at hl 7 rfl) ?_
      refine lv_iload_n hx hb dL_isRight_179 rfl (lv_at hl 8 rfl) ?_
      refine lv_iload hx hb dL_isRight_180 (lv_at hl 3 rfl) ?_
      refine lv_iconst (v := 4) hx hb dL_isRight_182 (by decide) ?_
      refine dz_kRi (vx_runSW (As := [_, _, _, _]) ⟨hx, hb, hml, hown, hts⟩ (r_im4 l hst hC hB hsc hrk) (vx_cwSW 4 hts gL_isRight_L_imageOf rfl rfl rfl (by decide +kernel) ⟨Nat.le_of_ble_eq_true rfl, Nat.le_of_ble_eq_true rfl⟩) (dz_P.pre hE hS hG) rfl rfl hl.1 rfl (lv_room (Nat.le_of_ble_eq_true rfl)) dL_isRight_183 ⟨Nat.le_of_ble_eq_true rfl, Nat.le_of_ble_eq_true rfl⟩) ?_
      refine lv_icmp_ne (tgt := 193) hx hb dL_isRight_186 (by decide) (fun c_186 => absurd ((congrArg (fun x => s_late S sc rk - x) (s_late0 S sc)).trans (Int32.sub_zero _)) c_186) (fun c_186 => ?_)
      refine lv_iconst (v := 1) hx hb dL_isRight_189 (by decide) ?_
      refine lv_goto (tgt := 194) hx hb dL_isRight_190 (by decide) ?_
      refine lv_istore (lv' := [(5, .int 1), (10, .int (m_pr (s_pl S sc rk))), (9, .int (m_pc (s_pl S sc rk))), (8, .int (s_tw S (s_pl S sc rk))), (7, .int (nI rk)), (6, .int (q_bf S sc rk)), (4, .int (nI (s_ix S sc).1)), (0, .ref aX), (1, .int (nI sc)), (2, .int (S.2.2 12 sc)), (3, .int (S.2.2 13 sc))]) hx hb dL_isRight_194 hl (by decide) rfl (fun ls hl => ?_)
      refine lv_iload hx hb dL_isRight_196 (lv_at hl 0 rfl) ?_
      refine lv_if_eq (tgt := 264) hx hb dL_isRight_198 (by decide) (fun c_198 => absurd c_198 (by decide)) (fun c_198 => ?_)
      refine lv_aload_n hx hb dL_isRight_201 rfl (lv_at hl 7 rfl) ?_
      refine lv_iload_n hx hb dL_isRight_202 rfl (lv_at hl 8 rfl) ?_
      refine lv_iload hx hb dL_isRight_203 (lv_at hl 4 rfl) ?_
      refine lv_iload hx hb dL_isRight_205 (lv_at hl 6 rfl) ?_
      refine lv_iconst (v := 1) hx hb dL_isRight_207 (by decide) ?_
      refine lv_isub hx hb dL_isRight_208 ?_
      refine lv_topi (fun v_7 ev_7 => ?_)
      obtain rfl : v_7 = (nI ((s_ix S sc).1 - 1)) := ev_7.trans (q_pred (Nat.lt_of_le_of_lt (Nat.zero_le _) hrk))
      refine dz_kRi (vx_runSW (As := [_, _, _, _]) ⟨hx, hb, hml, hown, hts⟩ (r_delay l hst hC hB hsc hrk (show (s_ix S sc).1 - 1 < (s_ix S sc).1 by omega)) (vx_cwSW 4 hts gL_isRight_L_delay rfl rfl rfl (by decide +kernel) ⟨Nat.le_of_ble_eq_true rfl, Nat.le_of_ble_eq_true rfl⟩) (dz_P.pre hE hS hG) rfl rfl hl.1 rfl (lv_room (Nat.le_of_ble_eq_true rfl)) dL_isRight_209 ⟨Nat.le_of_ble_eq_true rfl, Nat.le_of_ble_eq_true rfl⟩) ?_
      refine lv_aload_n hx hb dL_isRight_212 rfl (lv_at hl 7 rfl) ?_
      refine lv_iload_n hx hb dL_isRight_213 rfl (lv_at hl 8 rfl) ?_
      refine lv_iload hx hb dL_isRight_214 (lv_at hl 6 rfl) ?_
      refine lv_iconst (v := 1) hx hb dL_isRight_216 (by decide) ?_
      refine lv_isub hx hb dL_isRight_217 ?_
      refine lv_topi (fun v_8 ev_8 => ?_)
      obtain rfl : v_8 = (nI ((s_ix S sc).1 - 1)) := ev_8.trans (q_pred (Nat.lt_of_le_of_lt (Nat.zero_le _) hrk))
      refine lv_iconst (v := 4) hx hb dL_isRight_218 (by decide) ?_
      refine dz_kRi (vx_runSW (As := [_, _, _, _]) ⟨hx, hb, hml, hown, hts⟩ (r_im4 l hst hC hB hsc (show (s_ix S sc).1 - 1 < (s_ix S sc).1 by omega)) (vx_cwSW 4 hts gL_isRight_L_imageOf rfl rfl rfl (by decide +kernel) ⟨Nat.le_of_ble_eq_true rfl, Nat.le_of_ble_eq_true rfl⟩) (dz_P.pre hE hS hG) rfl rfl hl.1 rfl (lv_room (Nat.le_of_ble_eq_true rfl)) dL_isRight_219 ⟨Nat.le_of_ble_eq_true rfl, Nat.le_of_ble_eq_true rfl⟩) ?_
      refine lv_aload_n hx hb dL_isRight_222 rfl (lv_at hl 7 rfl) ?_
      refine lv_iload_n hx hb dL_isRight_223 rfl (lv_at hl 8 rfl) ?_
      refine lv_iload hx hb dL_isRight_224 (lv_at hl 4 rfl) ?_
      refine lv_iconst (v := 4) hx hb dL_isRight_226 (by decide) ?_
      refine dz_kRi (vx_runSW (As := [_, _, _, _]) ⟨hx, hb, hml, hown, hts⟩ (r_im4 l hst hC hB hsc hrk) (vx_cwSW 4 hts gL_isRight_L_imageOf rfl rfl rfl (by decide +kernel) ⟨Nat.le_of_ble_eq_true rfl, Nat.le_of_ble_eq_true rfl⟩) (dz_P.pre hE hS hG) rfl rfl hl.1 rfl (lv_room (Nat.le_of_ble_eq_true rfl)) dL_isRight_227 ⟨Nat.le_of_ble_eq_true rfl, Nat.le_of_ble_eq_true rfl⟩) ?_
      refine lv_isub hx hb dL_isRight_230 ?_
      refine lv_icmp_ne (tgt := 264) hx hb dL_isRight_231 (by decide) (fun c_231 => absurd rfl c_231) (fun c_231 => ?_)
      refine lv_aload_n hx hb dL_isRight_234 rfl (lv_at hl 7 rfl) ?_
      refine lv_iload_n hx hb dL_isRight_235 rfl (lv_at hl 8 rfl) ?_
      refine lv_iload hx hb dL_isRight_236 (lv_at hl 4 rfl) ?_
      refine lv_iconst (v := 2) hx hb dL_isRight_238 (by decide) ?_
      refine dz_kRi (vx_runSW (As := [_, _, _, _]) ⟨hx, hb, hml, hown, hts⟩ (r_im2 l hst hC hB hsc hrk) (vx_cwSW 4 hts gL_isRight_L_imageOf rfl rfl rfl (by decide +kernel) ⟨Nat.le_of_ble_eq_true rfl, Nat.le_of_ble_eq_true rfl⟩) (dz_P.pre hE hS hG) rfl rfl hl.1 rfl (lv_room (Nat.le_of_ble_eq_true rfl)) dL_isRight_239 ⟨Nat.le_of_ble_eq_true rfl, Nat.le_of_ble_eq_true rfl⟩) ?_
      refine lv_bipush (v := (-24)) hx hb dL_isRight_242 (by decide) ?_
      refine lv_icmp_lt (tgt := 264) hx hb dL_isRight_244 (by decide) (fun c_244 => absurd c_244 ((q_t24 _).1)) (fun c_244 => ?_)
      refine lv_aload_n hx hb dL_isRight_247 rfl (lv_at hl 7 rfl) ?_
      refine lv_iload_n hx hb dL_isRight_248 rfl (lv_at hl 8 rfl) ?_
      refine lv_iload hx hb dL_isRight_249 (lv_at hl 4 rfl) ?_
      refine lv_iconst (v := 2) hx hb dL_isRight_251 (by decide) ?_
      refine dz_kRi (vx_runSW (As := [_, _, _, _]) ⟨hx, hb, hml, hown, hts⟩ (r_im2 l hst hC hB hsc hrk) (vx_cwSW 4 hts gL_isRight_L_imageOf rfl rfl rfl (by decide +kernel) ⟨Nat.le_of_ble_eq_true rfl, Nat.le_of_ble_eq_true rfl⟩) (dz_P.pre hE hS hG) rfl rfl hl.1 rfl (lv_room (Nat.le_of_ble_eq_true rfl)) dL_isRight_252 ⟨Nat.le_of_ble_eq_true rfl, Nat.le_of_ble_eq_true rfl⟩) ?_
      refine lv_bipush (v := 24) hx hb dL_isRight_255 (by decide) ?_
      refine lv_icmp_gt (tgt := 264) hx hb dL_isRight_257 (by decide) (fun c_257 => absurd c_257 ((q_t24 _).2)) (fun c_257 => ?_)
      refine lv_iconst (v := 1) hx hb dL_isRight_260 (by decide) ?_
      refine lv_goto (tgt := 265) hx hb dL_isRight_261 (by decide) ?_
      refine lv_istore (lv' := [(5, .int 1), (10, .int (m_pr (s_pl S sc rk))), (9, .int (m_pc (s_pl S sc rk))), (8, .int (s_tw S (s_pl S sc rk))), (7, .int (nI rk)), (6, .int (q_bf S sc rk)), (4, .int (nI (s_ix S sc).1)), (0, .ref aX), (1, .int (nI sc)), (2, .int (S.2.2 12 sc)), (3, .int (S.2.2 13 sc))]) hx hb dL_isRight_265 hl (by decide) rfl (fun ls hl => ?_)
      refine lv_iload hx hb dL_isRight_267 (lv_at hl 3 rfl) ?_
      refine lv_istore (lv' := [(6, .int (s_tw S (s_pl S sc rk))), (5, .int 1), (10, .int (m_pr (s_pl S sc rk))), (9, .int (m_pc (s_pl S sc rk))), (8, .int (s_tw S (s_pl S sc rk))), (7, .int (nI rk)), (4, .int (nI (s_ix S sc).1)), (0, .ref aX), (1, .int (nI sc)), (2, .int (S.2.2 12 sc)), (3, .int (S.2.2 13 sc))]) hx hb dL_isRight_269 hl (by decide) rfl (fun ls hl => ?_)
      obtain ⟨v_9, ev_9⟩ : ∃ y : Int32, y = (nI rk) + 1 := ⟨_, rfl⟩
      refine lv_iinc (v := v_9) (lv' := [(7, .int v_9), (6, .int (s_tw S (s_pl S sc rk))), (5, .int 1), (10, .int (m_pr (s_pl S sc rk))), (9, .int (m_pc (s_pl S sc rk))), (8, .int (s_tw S (s_pl S sc rk))), (4, .int (nI (s_ix S sc).1)), (0, .ref aX), (1, .int (nI sc)), (2, .int (S.2.2 12 sc)), (3, .int (S.2.2 13 sc))]) hx hb dL_isRight_271 hl (k := 5) rfl (by rw [ev_9]; rfl) (by decide) rfl (fun ls hl => ?_)
      refine lv_goto (tgt := 57) hx hb dL_isRight_274 (by decide) ?_
      obtain rfl : v_9 = (nI (rk + 1)) := ev_9.trans (nI_1 rk)
      rw [show (s_tw S (s_pl S sc rk)) = (q_bf S sc (rk + 1)) from rfl] at hl
      exact ih_57 (rk + 1, ls) (by first | (dsimp only; omega) | omega) ⟨(by omega), lv_sub hl [0, 1, 2, 6, 7, 8, 9, 10] rfl⟩

set_option maxHeartbeats 4000000 in
set_option maxRecDepth 100000 in
theorem c_L_isKept0 (l : Launch) (Z : dzG) (G : dzW) (ad : dzA) (hst : l.stackTraces = false) (aX : Nat) (S : lwS) (aN : Nat) (nv : Nat → Int32) (hC : lwC Z G ad aX S) (hB : lwB S) (han : ad (60, 0) = aN) (hn : G (60, 0) = some (eI Z 21 nv)) (h19 : nv 19 = -1) (hf0 : S.1 4 = 0) : dzRd l yL_isKept wsL_isKept 11 320 Z G ad [.ref aX, .ref aN] (some (.int 1)) := by
  refine Met.ofW (cc := cL_isKept) (maxL := 4) (ret := (some .boolean)) (by decide) rfl ?_
  intro p e s m args below meth c s₁ B hml hv
  obtain ⟨rfl, hG, hE⟩ := hv
  have hx := B.exec
  have hb := B.bytes
  have hrt := B.returns
  have hts := atoms_spec (ws := wsL_isKept) B.pre
  have hown : s.vm.findClass RL = some m.cls := findClass_of_methodNamed B.named
  have hlocks := B.notSynchronized
  have hS : va_S (dz_A Z) s.heap s.heap [] := va_S.rf
  have hl := lv_entry ([.ref aX, .ref aN]) (n := 4) (Nat.le_of_ble_eq_true rfl)
  rw [lg_entry_eq]
  generalize (lg_sl ([.ref aX, .ref aN]) ++ List.replicate (4 - (lg_sl ([.ref aX, .ref aN])).length) Slot.unset).toArray = ls at hl ⊢
  have hl : lv_has ls 4 [(0, .ref aX), (1, .ref aN)] := hl
  obtain ⟨ha0, fs0, ho0⟩ := lwC.obj hC
  refine lv_aload_n hx hb dL_isKept_0 rfl (lv_at hl 1 rfl) ?_
  refine lv_bipush (v := 19) hx hb dL_isKept_1 (by decide) ?_
  refine dz_iald hx hb hE hG han hn (by unfold vp_in; decide) dL_isKept_3 ?_
  refine lv_topi (fun v_1 ev_1 => ?_)
  obtain rfl : v_1 = (-1) := ev_1.trans h19
  refine lv_if_ge (tgt := 14) hx hb dL_isKept_4 (by decide) (fun c_4 => absurd c_4 (by decide)) (fun c_4 => ?_)
  refine lv_aload_n hx hb dL_isKept_7 rfl (lv_at hl 0 rfl) ?_
  refine dz_kRi (va_runV (As := []) ⟨hx, hb, hml, hown, hts⟩ (r_frames l hst hC hB) (cwV 0 hts gL_isKept_X8_frames rfl rfl rfl (by decide +kernel) ⟨Nat.le_of_ble_eq_true rfl, Nat.le_of_ble_eq_true rfl⟩) (dz_P.preV hE hS hG ho0 rfl ha0) rfl rfl hl.1 rfl (lv_room (Nat.le_of_ble_eq_true rfl)) dL_isKept_8 ⟨Nat.le_of_ble_eq_true rfl, Nat.le_of_ble_eq_true rfl⟩) ?_
  refine lv_topi (fun v_2 ev_2 => ?_)
  obtain rfl : v_2 = 0 := ev_2.trans ((congrArg nI hf0).trans nI_0)
  refine lv_if_ne (tgt := 18) hx hb dL_isKept_11 (by decide) (fun c_11 => absurd (by decide) c_11) (fun c_11 => ?_)
  refine lv_iconst (v := 1) hx hb dL_isKept_14 (by decide) ?_
  refine lv_goto (tgt := 19) hx hb dL_isKept_15 (by decide) ?_
  refine lv_istore_n (lv' := [(2, .int 1), (0, .ref aX), (1, .ref aN)]) hx hb dL_isKept_19 rfl hl (by decide) rfl (fun ls hl => ?_)
  refine lv_iconst (v := 0) hx hb dL_isKept_20 (by decide) ?_
  refine lv_istore_n (lv' := [(3, .int 0), (2, .int 1), (0, .ref aX), (1, .ref aN)]) hx hb dL_isKept_21 rfl hl (by decide) rfl (fun ls hl => ?_)
  refine lv_iload_n hx hb dL_isKept_22 rfl (lv_at hl 0 rfl) ?_
  refine lv_bipush (v := 6) hx hb dL_isKept_23 (by decide) ?_
  refine lv_aload_n hx hb dL_isKept_25 rfl (lv_at hl 3 rfl) ?_
  refine lv_iconst (v := 1) hx hb dL_isKept_26 (by decide) ?_
  refine dz_iald hx hb hE hG han hn (by unfold vp_in; decide) dL_isKept_27 ?_
  refine lv_imul hx hb dL_isKept_28 ?_
  refine lv_icmp_ge (tgt := 111) hx hb dL_isKept_29 (by decide) (fun c_29 => ?_) (fun c_29 => ?_)
  · refine lv_iload_n hx hb dL_isKept_111 rfl (lv_at hl 1 rfl) ?_
    refine W.zret hx hb hrt (by decide) (fun t ht hW => ⟨congrArg (fun x => Outcome.returned (some (Value.int x))) ?_, ht⟩) (fun _ h => by cases h) dL_isKept_112
    rfl
  · refine lv_aload_n hx hb dL_isKept_32 rfl (lv_at hl 3 rfl) ?_
    refine lv_bipush (v := 19) hx hb dL_isKept_33 (by decide) ?_
    refine dz_iald hx hb hE hG han hn (by unfold vp_in; decide) dL_isKept_35 ?_
    refine lv_topi (fun v_3 ev_3 => ?_)
    obtain rfl : v_3 = (-1) := ev_3.trans h19
    refine lv_if_lt (tgt := 111) hx hb dL_isKept_36 (by decide) (fun c_36 => ?_) (fun c_36 => absurd (by decide) c_36)
    refine lv_iload_n hx hb dL_isKept_111 rfl (lv_at hl 1 rfl) ?_
    refine W.zret hx hb hrt (by decide) (fun t ht hW => ⟨congrArg (fun x => Outcome.returned (some (Value.int x))) ?_, ht⟩) (fun _ h => by cases h) dL_isKept_112
    rfl

set_option maxHeartbeats 4000000 in
set_option maxRecDepth 100000 in
theorem c_L_isKept1 (l : Launch) (Z : dzG) (G : dzW) (ad : dzA) (hst : l.stackTraces = false) (aX : Nat) (S : lwS) (aN : Nat) (nv : Nat → Int32) (t : Nat) (hC : lwC Z G ad aX S) (hB : lwB S) (han : ad (60, 0) = aN) (hn : G (60, 0) = some (eI Z 21 nv)) (hn1 : nv 1 = nI (S.1 1)) (hn2 : S.1 1 ≤ 2) (ht : t < S.1 4) (ht6 : t ≤ 60) (h19 : nv 19 = nI t) (hkt : ∀ k, k < 12 → (nv (7 + k) = -2000000001 ∧ S.2.2 31 (30 * t + k) = -1) ∨ nv (7 + k) = S.2.2 31 (30 * t + k)) : dzRd l yL_isKept wsL_isKept 11 324 Z G ad [.ref aX, .ref aN] (some (.int 1)) := by
  refine Met.ofW (cc := cL_isKept) (maxL := 4) (ret := (some .boolean)) (by decide) rfl ?_
  intro p e s m args below meth c s₁ B hml hv
  obtain ⟨rfl, hG, hE⟩ := hv
  have hx := B.exec
  have hb := B.bytes
  have hrt := B.returns
  have hts := atoms_spec (ws := wsL_isKept) B.pre
  have hown : s.vm.findClass RL = some m.cls := findClass_of_methodNamed B.named
  have hlocks := B.notSynchronized
  have hS : va_S (dz_A Z) s.heap s.heap [] := va_S.rf
  have hl := lv_entry ([.ref aX, .ref aN]) (n := 4) (Nat.le_of_ble_eq_true rfl)
  rw [lg_entry_eq]
  generalize (lg_sl ([.ref aX, .ref aN]) ++ List.replicate (4 - (lg_sl ([.ref aX, .ref aN])).length) Slot.unset).toArray = ls at hl ⊢
  have hl : lv_has ls 4 [(0, .ref aX), (1, .ref aN)] := hl
  obtain ⟨ha0, fs0, ho0⟩ := lwC.obj hC
  refine lv_aload_n hx hb dL_isKept_0 rfl (lv_at hl 1 rfl) ?_
  refine lv_bipush (v := 19) hx hb dL_isKept_1 (by decide) ?_
  refine dz_iald hx hb hE hG han hn (by unfold vp_in; decide) dL_isKept_3 ?_
  refine lv_topi (fun v_1 ev_1 => ?_)
  obtain rfl : v_1 = (nI t) := ev_1.trans h19
  refine lv_if_ge (tgt := 14) hx hb dL_isKept_4 (by decide) (fun c_4 => ?_) (fun c_4 => absurd (nI_pos' (by omega)) c_4)
  refine lv_iconst (v := 1) hx hb dL_isKept_14 (by decide) ?_
  refine lv_goto (tgt := 19) hx hb dL_isKept_15 (by decide) ?_
  refine lv_istore_n (lv' := [(2, .int 1), (0, .ref aX), (1, .ref aN)]) hx hb dL_isKept_19 rfl hl (by decide) rfl (fun ls hl => ?_)
  refine lv_iconst (v := 0) hx hb dL_isKept_20 (by decide) ?_
  refine lv_istore_n (lv' := [(3, .int 0), (2, .int 1), (0, .ref aX), (1, .ref aN)]) hx hb dL_isKept_21 rfl hl (by decide) rfl (fun ls hl => ?_)
  refine dz_lp (α := Nat × Array Slot) (fun a9 => (fun (k : Nat) (ls : Array Slot) => 12 - k) a9.1 a9.2) (fun a9 => (fun (k : Nat) (ls : Array Slot) => (k ≤ 12) ∧ lv_has ls 4 [(3, .int (nI k)), (2, .int 1), (0, .ref aX), (1, .ref aN)]) a9.1 a9.2) (fun a9 => F0 m 22 a9.2 []) (fun a9 hI ih_22 => ?_) (0, ls) ⟨Nat.zero_le _, lv_sub hl [0, 1, 2, 3] rfl⟩
  obtain ⟨k, ls⟩ := a9
  obtain ⟨hk1, hl⟩ := hI
  have hk1 : k ≤ 12 := hk1
  have hl : lv_has ls 4 [(3, .int (nI k)), (2, .int 1), (0, .ref aX), (1, .ref aN)] := hl
  refine lv_iload_n hx hb dL_isKept_22 rfl (lv_at hl 0 rfl) ?_
  refine lv_bipush (v := 6) hx hb dL_isKept_23 (by decide) ?_
  refine lv_aload_n hx hb dL_isKept_25 rfl (lv_at hl 3 rfl) ?_
  refine lv_iconst (v := 1) hx hb dL_isKept_26 (by decide) ?_
  refine dz_iald hx hb hE hG han hn (by unfold vp_in; decide) dL_isKept_27 ?_
  refine lv_topi (fun v_2 ev_2 => ?_)
  obtain rfl : v_2 = (nI (S.1 1)) := ev_2.trans hn1
  refine lv_imul hx hb dL_isKept_28 ?_
  refine lv_topi (fun v_3 ev_3 => ?_)
  obtain rfl : v_3 = (nI (6 * S.1 1)) := ev_3.trans (q_mul6 _ (by omega))
  refine lv_icmp_ge (tgt := 111) hx hb dL_isKept_29 (by decide) (fun c_29 => ?_) (fun c_29 => ?_)
  · refine lv_iload_n hx hb dL_isKept_111 rfl (lv_at hl 1 rfl) ?_
    refine W.zret hx hb hrt (by decide) (fun t ht hW => ⟨congrArg (fun x => Outcome.returned (some (Value.int x))) ?_, ht⟩) (fun _ h => by cases h) dL_isKept_112
    rfl
  · have hk6 : k < 6 * S.1 1 := q_lt c_29 (by omega) (by omega)
    have hk12 : k < 12 := by omega
    refine lv_aload_n hx hb dL_isKept_32 rfl (lv_at hl 3 rfl) ?_
    refine lv_bipush (v := 19) hx hb dL_isKept_33 (by decide) ?_
    refine dz_iald hx hb hE hG han hn (by unfold vp_in; decide) dL_isKept_35 ?_
    refine lv_topi (fun v_4 ev_4 => ?_)
    obtain rfl : v_4 = (nI t) := ev_4.trans h19
    refine lv_if_lt (tgt := 111) hx hb dL_isKept_36 (by decide) (fun c_36 => absurd c_36 (nI_pos (by omega))) (fun c_36 => ?_)
    refine lv_iload_n hx hb dL_isKept_39 rfl (lv_at hl 1 rfl) ?_
    refine lv_if_eq (tgt := 111) hx hb dL_isKept_40 (by decide) (fun c_40 => absurd c_40 (by decide)) (fun c_40 => ?_)
    refine lv_aload_n hx hb dL_isKept_43 rfl (lv_at hl 2 rfl) ?_
    refine lv_aload_n hx hb dL_isKept_44 rfl (lv_at hl 3 rfl) ?_
    refine lv_bipush (v := 19) hx hb dL_isKept_45 (by decide) ?_
    refine dz_iald hx hb hE hG han hn (by unfold vp_in; decide) dL_isKept_47 ?_
    refine lv_topi (fun v_5 ev_5 => ?_)
    obtain rfl : v_5 = (nI t) := ev_5.trans h19
    refine lv_iload_n hx hb dL_isKept_48 rfl (lv_at hl 0 rfl) ?_
    refine lv_bipush (v := 6) hx hb dL_isKept_49 (by decide) ?_
    refine lv_idiv hx hb dL_isKept_51 (by decide) ?_
    refine lv_topi (fun v_6 ev_6 => ?_)
    obtain rfl : v_6 = (nI (k / 6)) := ev_6.trans (q_d6 k hk12).1
    refine lv_iload_n hx hb dL_isKept_52 rfl (lv_at hl 0 rfl) ?_
    refine lv_bipush (v := 6) hx hb dL_isKept_53 (by decide) ?_
    refine lv_irem hx hb dL_isKept_55 (by decide) ?_
    refine lv_topi (fun v_7 ev_7 => ?_)
    obtain rfl : v_7 = (nI (k % 6)) := ev_7.trans (q_d6 k hk12).2
    refine dz_kRi (vx_runSW (As := [_, _, _, _]) ⟨hx, hb, hml, hown, hts⟩ (r_seen l hst hC hB ht (sc := k / 6) (rk := k % 6) (by omega) (by omega)) (vx_cwSW 4 hts gL_isKept_L_seen rfl rfl rfl (by decide +kernel) ⟨Nat.le_of_ble_eq_true rfl, Nat.le_of_ble_eq_true rfl⟩) (dz_P.pre hE hS hG) rfl rfl hl.1 rfl (lv_room (Nat.le_of_ble_eq_true rfl)) dL_isKept_56 ⟨Nat.le_of_ble_eq_true rfl, Nat.le_of_ble_eq_true rfl⟩) ?_
    refine lv_topi (fun v_8 ev_8 => ?_)
    obtain rfl : v_8 = (S.2.2 31 (30 * t + k)) := ev_8.trans (congrArg (S.2.2 31) (by omega))
    refine lv_aload_n hx hb dL_isKept_59 rfl (lv_at hl 3 rfl) ?_
    refine lv_bipush (v := 7) hx hb dL_isKept_60 (by decide) ?_
    refine lv_iload_n hx hb dL_isKept_62 rfl (lv_at hl 0 rfl) ?_
    refine lv_iadd hx hb dL_isKept_63 ?_
    refine lv_topi (fun v_9 ev_9 => ?_)
    obtain rfl : v_9 = (nI (7 + k)) := ev_9.trans (nI_add 7 k)
    refine dz_iald hx hb hE hG han hn (vp_in_nI (by omega) (by decide)) dL_isKept_64 ?_
    refine lv_topi (fun v_10 ev_10 => ?_)
    obtain rfl : v_10 = (nv (7 + k)) := ev_10.trans (congrArg nv (nI_clamp (by omega)))
    refine lv_icmp_eq (tgt := 99) hx hb dL_isKept_65 (by decide) (fun c_65 => ?_) (fun c_65 => ?_)
    · refine lv_iconst (v := 1) hx hb dL_isKept_99 (by decide) ?_
      refine lv_goto (tgt := 104) hx hb dL_isKept_100 (by decide) ?_
      refine lv_istore_n (lv' := [(2, .int 1), (3, .int (nI k)), (0, .ref aX), (1, .ref aN)]) hx hb dL_isKept_104 rfl hl (by decide) rfl (fun ls hl => ?_)
      obtain ⟨v_11, ev_11⟩ : ∃ y : Int32, y = (nI k) + 1 := ⟨_, rfl⟩
      refine lv_iinc (v := v_11) (lv' := [(3, .int v_11), (2, .int 1), (0, .ref aX), (1, .ref aN)]) hx hb dL_isKept_105 hl (k := 1) rfl (by rw [ev_11]; rfl) (by decide) rfl (fun ls hl => ?_)
      refine lv_goto (tgt := 22) hx hb dL_isKept_108 (by decide) ?_
      obtain rfl : v_11 = (nI (k + 1)) := ev_11.trans (nI_1 k)
      exact ih_22 (k + 1, ls) (by first | (dsimp only; omega) | omega) ⟨(by omega), lv_sub hl [0, 1, 2, 3] rfl⟩
    · have h9 := (hkt k hk12).resolve_right (fun z => c_65 z.symm)
      refine lv_aload_n hx hb dL_isKept_68 rfl (lv_at hl 3 rfl) ?_
      refine lv_bipush (v := 7) hx hb dL_isKept_69 (by decide) ?_
      refine lv_iload_n hx hb dL_isKept_71 rfl (lv_at hl 0 rfl) ?_
      refine lv_iadd hx hb dL_isKept_72 ?_
      refine lv_topi (fun v_12 ev_12 => ?_)
      obtain rfl : v_12 = (nI (7 + k)) := ev_12.trans (nI_add 7 k)
      refine dz_iald hx hb hE hG han hn (vp_in_nI (by omega) (by decide)) dL_isKept_73 ?_
      refine lv_topi (fun v_13 ev_13 => ?_)
      obtain rfl : v_13 = (nv (7 + k)) := ev_13.trans (congrArg nv (nI_clamp (by omega)))
      refine lv_ldc hx hb hown (hts _ (List.mem_of_getElem? (i := 1) rfl)) dL_isKept_74 ?_
      refine lv_icmp_ne (tgt := 103) hx hb dL_isKept_76 (by decide) (fun c_76 => absurd h9.1 c_76) (fun c_76 => ?_)
      refine lv_aload_n hx hb dL_isKept_79 rfl (lv_at hl 2 rfl) ?_
      refine lv_aload_n hx hb dL_isKept_80 rfl (lv_at hl 3 rfl) ?_
      refine lv_bipush (v := 19) hx hb dL_isKept_81 (by decide) ?_
      refine dz_iald hx hb hE hG han hn (by unfold vp_in; decide) dL_isKept_83 ?_
      refine lv_topi (fun v_14 ev_14 => ?_)
      obtain rfl : v_14 = (nI t) := ev_14.trans h19
      refine lv_iload_n hx hb dL_isKept_84 rfl (lv_at hl 0 rfl) ?_
      refine lv_bipush (v := 6) hx hb dL_isKept_85 (by decide) ?_
      refine lv_idiv hx hb dL_isKept_87 (by decide) ?_
      refine lv_topi (fun v_15 ev_15 => ?_)
      obtain rfl : v_15 = (nI (k / 6)) := ev_15.trans (q_d6 k hk12).1
      refine lv_iload_n hx hb dL_isKept_88 rfl (lv_at hl 0 rfl) ?_
      refine lv_bipush (v := 6) hx hb dL_isKept_89 (by decide) ?_
      refine lv_irem hx hb dL_isKept_91 (by decide) ?_
      refine lv_topi (fun v_16 ev_16 => ?_)
      obtain rfl : v_16 = (nI (k % 6)) := ev_16.trans (q_d6 k hk12).2
      refine dz_kRi (vx_runSW (As := [_, _, _, _]) ⟨hx, hb, hml, hown, hts⟩ (r_seen l hst hC hB ht (sc := k / 6) (rk := k % 6) (by omega) (by omega)) (vx_cwSW 4 hts gL_isKept_L_seen rfl rfl rfl (by decide +kernel) ⟨Nat.le_of_ble_eq_true rfl, Nat.le_of_ble_eq_true rfl⟩) (dz_P.pre hE hS hG) rfl rfl hl.1 rfl (lv_room (Nat.le_of_ble_eq_true rfl)) dL_isKept_92 ⟨Nat.le_of_ble_eq_true rfl, Nat.le_of_ble_eq_true rfl⟩) ?_
      refine lv_topi (fun v_17 ev_17 => ?_)
      obtain rfl : v_17 = (S.2.2 31 (30 * t + k)) := ev_17.trans (congrArg (S.2.2 31) (by omega))
      refine lv_iconst (v := (-1)) hx hb dL_isKept_95 (by decide) ?_
      refine lv_icmp_ne (tgt := 103) hx hb dL_isKept_96 (by decide) (fun c_96 => absurd h9.2 c_96) (fun c_96 => ?_)
      refine lv_iconst (v := 1) hx hb dL_isKept_99 (by decide) ?_
      refine lv_goto (tgt := 104) hx hb dL_isKept_100 (by decide) ?_
      refine lv_istore_n (lv' := [(2, .int 1), (3, .int (nI k)), (0, .ref aX), (1, .ref aN)]) hx hb dL_isKept_104 rfl hl (by decide) rfl (fun ls hl => ?_)
      obtain ⟨v_18, ev_18⟩ : ∃ y : Int32, y = (nI k) + 1 := ⟨_, rfl⟩
      refine lv_iinc (v := v_18) (lv' := [(3, .int v_18), (2, .int 1), (0, .ref aX), (1, .ref aN)]) hx hb dL_isKept_105 hl (k := 1) rfl (by rw [ev_18]; rfl) (by decide) rfl (fun ls hl => ?_)
      refine lv_goto (tgt := 22) hx hb dL_isKept_108 (by decide) ?_
      obtain rfl : v_18 = (nI (k + 1)) := ev_18.trans (nI_1 k)
      exact ih_22 (k + 1, ls) (by first | (dsimp only; omega) | omega) ⟨(by omega), lv_sub hl [0, 1, 2, 3] rfl⟩

set_option maxHeartbeats 4000000 in
set_option maxRecDepth 100000 in
theorem c_L_sum (l : Launch) (Z : dzG) (G : dzW) (ad : dzA) (hst : l.stackTraces = false) (aX : Nat) (S : lwS) (x : Int32) (vd : Int32) (vf : Int32 → Int32 → Int32 → Int32) (vi : Int32 → Int32) (vo : Int32 → Int32 → Int32 → Int32) (vl : Int32 → Int32 → Int32) (vb : Int32 → Int32) (vh : Int32 → Int32) (vs : Int32 → Int32 → Int32 → Int32) (hC : lwC Z G ad aX S) (hB : lwB S) (qvd : ∀ (G : dzW) (ad : dzA), lwC Z G ad aX S → lw_A l yL_dispute wsL_dispute Z G ad [.ref aX] (vd)) (qvf : ∀ (w1 : Int32) (w2 : Int32) (w3 : Int32), ∀ (G : dzW) (ad : dzA), lwC Z G ad aX S → lw_A l yL_from wsL_from Z G ad [.ref aX, .int w1, .int w2, .int w3] (vf w1 w2 w3)) (qvi : ∀ (w1 : Int32), ∀ (G : dzW) (ad : dzA), lwC Z G ad aX S → lw_A l yL_images wsL_images Z G ad [.ref aX, .int w1] (vi w1)) (qvo : ∀ (w1 : Int32) (w2 : Int32) (w3 : Int32), ∀ (G : dzW) (ad : dzA), lwC Z G ad aX S → lw_A l yL_imageOf wsL_imageOf Z G ad [.ref aX, .int w1, .int w2, .int w3] (vo w1 w2 w3)) (qvl : ∀ (w1 : Int32) (w2 : Int32), ∀ (G : dzW) (ad : dzA), lwC Z G ad aX S → lw_A l yL_light wsL_light Z G ad [.ref aX, .int w1, .int w2] (vl w1 w2)) (qvb : ∀ (w1 : Int32), ∀ (G : dzW) (ad : dzA), lwC Z G ad aX S → lw_A l yL_booked wsL_booked Z G ad [.ref aX, .int w1] (vb w1)) (qvh : ∀ (w1 : Int32), ∀ (G : dzW) (ad : dzA), lwC Z G ad aX S → lw_A l yL_isFresh wsL_isFresh Z G ad [.ref aX, .int w1] (vh w1)) (qvs : ∀ (w1 : Int32) (w2 : Int32) (w3 : Int32), ∀ (G : dzW) (ad : dzA), lwC Z G ad aX S → lw_A l yL_seen wsL_seen Z G ad [.ref aX, .int w1, .int w2, .int w3] (vs w1 w2 w3)) : dzWr l yL_sum wsL_sum 11 324 26 156 Z G ad [.ref aX, .int x] rv_i (fun (y : Int32) G1 ad1 => y = (lw_sm (lw_s0 (S.2.1 0) (S.1 4) x vd vf) vi vo vl vb vh vs 4) ∧ G1 = G ∧ ad1 = ad) := by
  refine Met.ofW (cc := cL_sum) (maxL := 4) (ret := (some .int)) (by decide) rfl ?_
  intro p e s m args below meth c s₁ B hml hv
  obtain ⟨rfl, hG, hE⟩ := hv
  have hx := B.exec
  have hb := B.bytes
  have hrt := B.returns
  have hts := atoms_spec (ws := wsL_sum) B.pre
  have hown : s.vm.findClass RL = some m.cls := findClass_of_methodNamed B.named
  have hlocks := B.notSynchronized
  have hS : va_S (dz_A Z) s.heap s.heap [] := va_S.rf
  have hl := lv_entry ([.ref aX, .int x]) (n := 4) (Nat.le_of_ble_eq_true rfl)
  rw [lg_entry_eq]
  generalize (lg_sl ([.ref aX, .int x]) ++ List.replicate (4 - (lg_sl ([.ref aX, .int x])).length) Slot.unset).toArray = ls at hl ⊢
  have hl : lv_has ls 4 [(0, .ref aX), (1, .int x)] := hl
  obtain ⟨ha0, fs0, ho0⟩ := lwC.obj hC
  refine lv_aload_n hx hb dL_sum_0 rfl (lv_at hl 0 rfl) ?_
  refine dz_kRi (va_runV (As := []) ⟨hx, hb, hml, hown, hts⟩ (r_day l hst hC hB) (cwV 0 hts gL_sum_X8_day rfl rfl rfl (by decide +kernel) ⟨Nat.le_of_ble_eq_true rfl, Nat.le_of_ble_eq_true rfl⟩) (dz_P.preV hE hS hG ho0 rfl ha0) rfl rfl hl.1 rfl (lv_room (Nat.le_of_ble_eq_true rfl)) dL_sum_1 ⟨Nat.le_of_ble_eq_true rfl, Nat.le_of_ble_eq_true rfl⟩) ?_
  refine lv_iconst (v := 3) hx hb dL_sum_4 (by decide) ?_
  refine lv_aload_n hx hb dL_sum_5 rfl (lv_at hl 0 rfl) ?_
  refine dz_kRi (va_runV (As := []) ⟨hx, hb, hml, hown, hts⟩ (r_frames l hst hC hB) (cwV 0 hts gL_sum_X8_frames rfl rfl rfl (by decide +kernel) ⟨Nat.le_of_ble_eq_true rfl, Nat.le_of_ble_eq_true rfl⟩) (dz_P.preV hE hS hG ho0 rfl ha0) rfl rfl hl.1 rfl (lv_room (Nat.le_of_ble_eq_true rfl)) dL_sum_6 ⟨Nat.le_of_ble_eq_true rfl, Nat.le_of_ble_eq_true rfl⟩) ?_
  refine lv_imul hx hb dL_sum_9 ?_
  refine lv_iadd hx hb dL_sum_10 ?_
  refine lv_iconst (v := 5) hx hb dL_sum_11 (by decide) ?_
  refine lv_aload_n hx hb dL_sum_12 rfl (lv_at hl 0 rfl) ?_
  refine dz_kMi (vx_runSW (As := [_]) ⟨hx, hb, hml, hown, hts⟩ (qvd  _ _ hC) (vx_cwSW 1 hts gL_sum_L_dispute rfl rfl rfl (by decide +kernel) ⟨Nat.le_of_ble_eq_true rfl, Nat.le_of_ble_eq_true rfl⟩) (dz_P.pre hE hS hG) rfl rfl hl.1 rfl (lv_room (Nat.le_of_ble_eq_true rfl)) dL_sum_13 ⟨Nat.le_of_ble_eq_true rfl, Nat.le_of_ble_eq_true rfl⟩) hS (fun x_13_1 G_13_1 ad_13_1 H locs hp_13_1 hG hS => ?_)
  rw [hp_13_1.2.1, hp_13_1.2.2] at hG
  rw [hp_13_1.1]
  refine W.widen (k := 1) (n := 6) (by omega) (by omega) ?_
  refine lv_imul hx hb dL_sum_16 ?_
  refine lv_iadd hx hb dL_sum_17 ?_
  refine lv_bipush (v := 7) hx hb dL_sum_18 (by decide) ?_
  refine lv_aload_n hx hb dL_sum_20 rfl (lv_at hl 0 rfl) ?_
  refine lv_iload_n hx hb dL_sum_21 rfl (lv_at hl 1 rfl) ?_
  refine lv_bipush (v := 21) hx hb dL_sum_22 (by decide) ?_
  refine lv_irem hx hb dL_sum_24 (by decide) ?_
  refine lv_bipush (v := 10) hx hb dL_sum_25 (by decide) ?_
  refine lv_isub hx hb dL_sum_27 ?_
  refine lv_topi (fun v_1 ev_1 => ?_)
  obtain rfl : v_1 = (x - x / 21 * 21 - 10) := ev_1
  refine lv_iload_n hx hb dL_sum_28 rfl (lv_at hl 1 rfl) ?_
  refine lv_bipush (v := 21) hx hb dL_sum_29 (by decide) ?_
  refine lv_idiv hx hb dL_sum_31 (by decide) ?_
  refine lv_bipush (v := 21) hx hb dL_sum_32 (by decide) ?_
  refine lv_irem hx hb dL_sum_34 (by decide) ?_
  refine lv_bipush (v := 10) hx hb dL_sum_35 (by decide) ?_
  refine lv_isub hx hb dL_sum_37 ?_
  refine lv_topi (fun v_2 ev_2 => ?_)
  obtain rfl : v_2 = (x / 21 - x / 21 / 21 * 21 - 10) := ev_2
  refine lv_iload_n hx hb dL_sum_38 rfl (lv_at hl 1 rfl) ?_
  refine lv_iconst (v := 2) hx hb dL_sum_39 (by decide) ?_
  refine lv_irem hx hb dL_sum_40 (by decide) ?_
  refine lv_if_ne (tgt := 48) hx hb dL_sum_41 (by decide) (fun c_41 => ?_) (fun c_41 => ?_)
  · refine lv_iconst (v := 0) hx hb dL_sum_48 (by decide) ?_
    refine dz_kMi (vx_runSW (As := [_, _, _, _]) ⟨hx, hb, hml, hown, hts⟩ (qvf _ _ _ _ _ hC) (vx_cwSW 4 hts gL_sum_L_from rfl rfl rfl (by decide +kernel) ⟨Nat.le_of_ble_eq_true rfl, Nat.le_of_ble_eq_true rfl⟩) (dz_P.pre hE hS hG) rfl rfl hl.1 rfl (lv_room (Nat.le_of_ble_eq_true rfl)) dL_sum_49 ⟨Nat.le_of_ble_eq_true rfl, Nat.le_of_ble_eq_true rfl⟩) hS (fun x_49_2 G_49_2 ad_49_2 H locs hp_49_2 hG hS => ?_)
    rw [hp_49_2.2.1, hp_49_2.2.2] at hG
    rw [hp_49_2.1]
    refine W.widen (k := 2) (n := 12) (by omega) (by omega) ?_
    refine lv_imul hx hb dL_sum_52 ?_
    refine lv_iadd hx hb dL_sum_53 ?_
    refine lv_topi (fun v_3 ev_3 => ?_)
    obtain rfl : v_3 = (lw_s0 (S.2.1 0) (S.1 4) x vd vf) := ev_3.trans (by unfold lw_s0; first | rw [if_pos c_41] | rw [if_neg c_41])
    refine lv_istore_n (lv' := [(2, .int (lw_s0 (S.2.1 0) (S.1 4) x vd vf)), (0, .ref aX), (1, .int x)]) hx hb dL_sum_54 rfl hl (by decide) rfl (fun ls hl => ?_)
    refine lv_iconst (v := 0) hx hb dL_sum_55 (by decide) ?_
    refine lv_istore_n (lv' := [(3, .int 0), (2, .int (lw_s0 (S.2.1 0) (S.1 4) x vd vf)), (0, .ref aX), (1, .int x)]) hx hb dL_sum_56 rfl hl (by decide) rfl (fun ls hl => ?_)
    refine W.widen (k := (2 + 6 * 0)) (n := (12 + 36 * 0)) (by omega) (by omega) ?_
    refine dz_la (α := Nat × Array Slot) (fun a9 => (fun (k : Nat) (ls : Array Slot) => 4 - k) a9.1 a9.2) (fun a9 => (fun (k : Nat) (ls : Array Slot) => (2 + 6 * k)) a9.1 a9.2) (fun a9 => (fun (k : Nat) (ls : Array Slot) => (12 + 36 * k)) a9.1 a9.2) (fun a9 H locs => (fun (k : Nat) (ls : Array Slot) => (k ≤ 4) ∧ dz_w Z G ad H ∧ va_S (dz_A Z) s.heap H locs ∧ lv_has ls 4 [(3, .int (nI k)), (2, .int (lw_sm (lw_s0 (S.2.1 0) (S.1 4) x vd vf) vi vo vl vb vh vs k)), (0, .ref aX), (1, .int x)]) a9.1 a9.2) (fun a9 => F0 m 57 a9.2 []) (fun a9 H locs hI ih_57 => ?_) (0, ls) ⟨Nat.zero_le _, hG, hS, lv_sub hl [0, 1, 2, 3] rfl⟩
    obtain ⟨k, ls⟩ := a9
    obtain ⟨hk1, hG, hS, hl⟩ := hI
    have hk1 : k ≤ 4 := hk1
    have hG : dz_w Z G ad H := hG
    have hS : va_S (dz_A Z) s.heap H locs := hS
    have hl : lv_has ls 4 [(3, .int (nI k)), (2, .int (lw_sm (lw_s0 (S.2.1 0) (S.1 4) x vd vf) vi vo vl vb vh vs k)), (0, .ref aX), (1, .int x)] := hl
    show W p l e _ s m _ below meth c H locs (2 + 6 * k) (12 + 36 * k) _ _
    refine lv_iload_n hx hb dL_sum_57 rfl (lv_at hl 0 rfl) ?_
    refine lv_iconst (v := 4) hx hb dL_sum_58 (by decide) ?_
    refine lv_icmp_ge (tgt := 139) hx hb dL_sum_59 (by decide) (fun c_59 => ?_) (fun c_59 => ?_)
    · have hk4 : k = 4 := q_end (b := 4) c_59 hk1 (by decide)
      refine lv_iload_n hx hb dL_sum_139 rfl (lv_at hl 1 rfl) ?_
      refine W.widen (k := 26) (n := 156) (by first | omega | decide) (by first | omega | decide) ?_
      refine W.iret hx hb hrt (fun t ht hW => dz_endM (f := rv_i) _ hE hS hG ?_ ht hW) (fun q h => hS.2.2 q h) dL_sum_140
      exact ⟨congrArg (lw_sm (lw_s0 (S.2.1 0) (S.1 4) x vd vf) vi vo vl vb vh vs) hk4, rfl, rfl⟩
    · have hk : k < 4 := q_lt (b := 4) c_59 (by decide) (by omega)
      refine lv_bipush (v := 31) hx hb dL_sum_62 (by decide) ?_
      refine lv_iload_n hx hb dL_sum_64 rfl (lv_at hl 1 rfl) ?_
      refine lv_imul hx hb dL_sum_65 ?_
      refine lv_aload_n hx hb dL_sum_66 rfl (lv_at hl 2 rfl) ?_
      refine lv_iload_n hx hb dL_sum_67 rfl (lv_at hl 0 rfl) ?_
      refine dz_kMi (vx_runSW (As := [_, _]) ⟨hx, hb, hml, hown, hts⟩ (qvi _ _ _ hC) (vx_cwSW 2 hts gL_sum_L_images rfl rfl rfl (by decide +kernel) ⟨Nat.le_of_ble_eq_true rfl, Nat.le_of_ble_eq_true rfl⟩) (dz_P.pre hE hS hG) rfl rfl hl.1 rfl (lv_room (Nat.le_of_ble_eq_true rfl)) dL_sum_68 ⟨by show _ ≤ 26; omega, by show _ ≤ 156; omega⟩) hS (fun x_68_3 G_68_3 ad_68_3 H locs hp_68_3 hG hS => ?_)
      rw [hp_68_3.2.1, hp_68_3.2.2] at hG
      rw [hp_68_3.1]
      refine W.widen (k := (2 + 6 * k) + 1) (n := (12 + 36 * k) + 6) (by omega) (by omega) ?_
      refine lv_iadd hx hb dL_sum_71 ?_
      refine lv_iconst (v := 3) hx hb dL_sum_72 (by decide) ?_
      refine lv_aload_n hx hb dL_sum_73 rfl (lv_at hl 2 rfl) ?_
      refine lv_iload_n hx hb dL_sum_74 rfl (lv_at hl 0 rfl) ?_
      refine lv_iconst (v := 2) hx hb dL_sum_75 (by decide) ?_
      refine lv_irem hx hb dL_sum_76 (by decide) ?_
      refine lv_topi (fun v_4 ev_4 => ?_)
      obtain rfl : v_4 = (nI k - nI k / 2 * 2) := ev_4
      refine lv_iload_n hx hb dL_sum_77 rfl (lv_at hl 0 rfl) ?_
      refine lv_iload_n hx hb dL_sum_78 rfl (lv_at hl 0 rfl) ?_
      refine lv_iconst (v := 1) hx hb dL_sum_79 (by decide) ?_
      refine lv_iadd hx hb dL_sum_80 ?_
      refine lv_topi (fun v_5 ev_5 => ?_)
      obtain rfl : v_5 = (nI k + 1) := ev_5
      refine dz_kMi (vx_runSW (As := [_, _, _, _]) ⟨hx, hb, hml, hown, hts⟩ (qvo _ _ _ _ _ hC) (vx_cwSW 4 hts gL_sum_L_imageOf rfl rfl rfl (by decide +kernel) ⟨Nat.le_of_ble_eq_true rfl, Nat.le_of_ble_eq_true rfl⟩) (dz_P.pre hE hS hG) rfl rfl hl.1 rfl (lv_room (Nat.le_of_ble_eq_true rfl)) dL_sum_81 ⟨by show _ ≤ 26; omega, by show _ ≤ 156; omega⟩) hS (fun x_81_4 G_81_4 ad_81_4 H locs hp_81_4 hG hS => ?_)
      rw [hp_81_4.2.1, hp_81_4.2.2] at hG
      rw [hp_81_4.1]
      refine W.widen (k := (2 + 6 * k) + 2) (n := (12 + 36 * k) + 12) (by omega) (by omega) ?_
      refine lv_imul hx hb dL_sum_84 ?_
      refine lv_iadd hx hb dL_sum_85 ?_
      refine lv_iconst (v := 5) hx hb dL_sum_86 (by decide) ?_
      refine lv_aload_n hx hb dL_sum_87 rfl (lv_at hl 2 rfl) ?_
      refine lv_iload_n hx hb dL_sum_88 rfl (lv_at hl 0 rfl) ?_
      refine lv_iconst (v := 2) hx hb dL_sum_89 (by decide) ?_
      refine lv_irem hx hb dL_sum_90 (by decide) ?_
      refine lv_topi (fun v_6 ev_6 => ?_)
      obtain rfl : v_6 = (nI k - nI k / 2 * 2) := ev_6
      refine lv_iload_n hx hb dL_sum_91 rfl (lv_at hl 0 rfl) ?_
      refine dz_kMi (vx_runSW (As := [_, _, _]) ⟨hx, hb, hml, hown, hts⟩ (qvl _ _ _ _ hC) (vx_cwSW 3 hts gL_sum_L_light rfl rfl rfl (by decide +kernel) ⟨Nat.le_of_ble_eq_true rfl, Nat.le_of_ble_eq_true rfl⟩) (dz_P.pre hE hS hG) rfl rfl hl.1 rfl (lv_room (Nat.le_of_ble_eq_true rfl)) dL_sum_92 ⟨by show _ ≤ 26; omega, by show _ ≤ 156; omega⟩) hS (fun x_92_5 G_92_5 ad_92_5 H locs hp_92_5 hG hS => ?_)
      rw [hp_92_5.2.1, hp_92_5.2.2] at hG
      rw [hp_92_5.1]
      refine W.widen (k := (2 + 6 * k) + 3) (n := (12 + 36 * k) + 18) (by omega) (by omega) ?_
      refine lv_imul hx hb dL_sum_95 ?_
      refine lv_iadd hx hb dL_sum_96 ?_
      refine lv_bipush (v := 7) hx hb dL_sum_97 (by decide) ?_
      refine lv_aload_n hx hb dL_sum_99 rfl (lv_at hl 2 rfl) ?_
      refine lv_iload_n hx hb dL_sum_100 rfl (lv_at hl 0 rfl) ?_
      refine lv_iconst (v := 2) hx hb dL_sum_101 (by decide) ?_
      refine lv_irem hx hb dL_sum_102 (by decide) ?_
      refine lv_topi (fun v_7 ev_7 => ?_)
      obtain rfl : v_7 = (nI k - nI k / 2 * 2) := ev_7
      refine dz_kMi (vx_runSW (As := [_, _]) ⟨hx, hb, hml, hown, hts⟩ (qvb _ _ _ hC) (vx_cwSW 2 hts gL_sum_L_booked rfl rfl rfl (by decide +kernel) ⟨Nat.le_of_ble_eq_true rfl, Nat.le_of_ble_eq_true rfl⟩) (dz_P.pre hE hS hG) rfl rfl hl.1 rfl (lv_room (Nat.le_of_ble_eq_true rfl)) dL_sum_103 ⟨by show _ ≤ 26; omega, by show _ ≤ 156; omega⟩) hS (fun x_103_6 G_103_6 ad_103_6 H locs hp_103_6 hG hS => ?_)
      rw [hp_103_6.2.1, hp_103_6.2.2] at hG
      rw [hp_103_6.1]
      refine W.widen (k := (2 + 6 * k) + 4) (n := (12 + 36 * k) + 24) (by omega) (by omega) ?_
      refine lv_imul hx hb dL_sum_106 ?_
      refine lv_iadd hx hb dL_sum_107 ?_
      refine lv_bipush (v := 11) hx hb dL_sum_108 (by decide) ?_
      refine lv_aload_n hx hb dL_sum_110 rfl (lv_at hl 2 rfl) ?_
      refine lv_iload_n hx hb dL_sum_111 rfl (lv_at hl 0 rfl) ?_
      refine lv_iconst (v := 2) hx hb dL_sum_112 (by decide) ?_
      refine lv_irem hx hb dL_sum_113 (by decide) ?_
      refine lv_topi (fun v_8 ev_8 => ?_)
      obtain rfl : v_8 = (nI k - nI k / 2 * 2) := ev_8
      refine dz_kMi (vx_runSW (As := [_, _]) ⟨hx, hb, hml, hown, hts⟩ (qvh _ _ _ hC) (vx_cwSW 2 hts gL_sum_L_isFresh rfl rfl rfl (by decide +kernel) ⟨Nat.le_of_ble_eq_true rfl, Nat.le_of_ble_eq_true rfl⟩) (dz_P.pre hE hS hG) rfl rfl hl.1 rfl (lv_room (Nat.le_of_ble_eq_true rfl)) dL_sum_114 ⟨by show _ ≤ 26; omega, by show _ ≤ 156; omega⟩) hS (fun x_114_7 G_114_7 ad_114_7 H locs hp_114_7 hG hS => ?_)
      rw [hp_114_7.2.1, hp_114_7.2.2] at hG
      rw [hp_114_7.1]
      refine W.widen (k := (2 + 6 * k) + 5) (n := (12 + 36 * k) + 30) (by omega) (by omega) ?_
      refine lv_imul hx hb dL_sum_117 ?_
      refine lv_iadd hx hb dL_sum_118 ?_
      refine lv_bipush (v := 13) hx hb dL_sum_119 (by decide) ?_
      refine lv_aload_n hx hb dL_sum_121 rfl (lv_at hl 2 rfl) ?_
      refine lv_iload_n hx hb dL_sum_122 rfl (lv_at hl 0 rfl) ?_
      refine lv_iload_n hx hb dL_sum_123 rfl (lv_at hl 0 rfl) ?_
      refine lv_iconst (v := 2) hx hb dL_sum_124 (by decide) ?_
      refine lv_irem hx hb dL_sum_125 (by decide) ?_
      refine lv_topi (fun v_9 ev_9 => ?_)
      obtain rfl : v_9 = (nI k - nI k / 2 * 2) := ev_9
      refine lv_iload_n hx hb dL_sum_126 rfl (lv_at hl 0 rfl) ?_
      refine dz_kMi (vx_runSW (As := [_, _, _, _]) ⟨hx, hb, hml, hown, hts⟩ (qvs _ _ _ _ _ hC) (vx_cwSW 4 hts gL_sum_L_seen rfl rfl rfl (by decide +kernel) ⟨Nat.le_of_ble_eq_true rfl, Nat.le_of_ble_eq_true rfl⟩) (dz_P.pre hE hS hG) rfl rfl hl.1 rfl (lv_room (Nat.le_of_ble_eq_true rfl)) dL_sum_127 ⟨by show _ ≤ 26; omega, by show _ ≤ 156; omega⟩) hS (fun x_127_8 G_127_8 ad_127_8 H locs hp_127_8 hG hS => ?_)
      rw [hp_127_8.2.1, hp_127_8.2.2] at hG
      rw [hp_127_8.1]
      refine W.widen (k := (2 + 6 * k) + 6) (n := (12 + 36 * k) + 36) (by omega) (by omega) ?_
      refine lv_imul hx hb dL_sum_130 ?_
      refine lv_iadd hx hb dL_sum_131 ?_
      refine lv_topi (fun v_10 ev_10 => ?_)
      refine lv_istore_n (lv' := [(2, .int v_10), (3, .int (nI k)), (0, .ref aX), (1, .int x)]) hx hb dL_sum_132 rfl hl (by decide) rfl (fun ls hl => ?_)
      obtain ⟨v_11, ev_11⟩ : ∃ y : Int32, y = (nI k) + 1 := ⟨_, rfl⟩
      refine lv_iinc (v := v_11) (lv' := [(3, .int v_11), (2, .int v_10), (0, .ref aX), (1, .int x)]) hx hb dL_sum_133 hl (k := 1) rfl (by rw [ev_11]; rfl) (by decide) rfl (fun ls hl => ?_)
      refine lv_goto (tgt := 57) hx hb dL_sum_136 (by decide) ?_
      obtain rfl : v_11 = (nI (k + 1)) := ev_11.trans (nI_1 k)
      obtain rfl : v_10 = (lw_sm (lw_s0 (S.2.1 0) (S.1 4) x vd vf) vi vo vl vb vh vs (k + 1)) := ev_10
      refine W.widen (k := (2 + 6 * (k + 1))) (n := (12 + 36 * (k + 1))) (by omega) (by omega) ?_
      exact ih_57 (k + 1, ls) _ _ (by first | (dsimp only; omega) | omega) ⟨(by omega), hG, hS, lv_sub hl [0, 1, 2, 3] rfl⟩
  · refine lv_iconst (v := 1) hx hb dL_sum_44 (by decide) ?_
    refine lv_goto (tgt := 49) hx hb dL_sum_45 (by decide) ?_
    refine dz_kMi (vx_runSW (As := [_, _, _, _]) ⟨hx, hb, hml, hown, hts⟩ (qvf _ _ _ _ _ hC) (vx_cwSW 4 hts gL_sum_L_from rfl rfl rfl (by decide +kernel) ⟨Nat.le_of_ble_eq_true rfl, Nat.le_of_ble_eq_true rfl⟩) (dz_P.pre hE hS hG) rfl rfl hl.1 rfl (lv_room (Nat.le_of_ble_eq_true rfl)) dL_sum_49 ⟨Nat.le_of_ble_eq_true rfl, Nat.le_of_ble_eq_true rfl⟩) hS (fun x_49_9 G_49_9 ad_49_9 H locs hp_49_9 hG hS => ?_)
    rw [hp_49_9.2.1, hp_49_9.2.2] at hG
    rw [hp_49_9.1]
    refine W.widen (k := 2) (n := 12) (by omega) (by omega) ?_
    refine lv_imul hx hb dL_sum_52 ?_
    refine lv_iadd hx hb dL_sum_53 ?_
    refine lv_topi (fun v_12 ev_12 => ?_)
    obtain rfl : v_12 = (lw_s0 (S.2.1 0) (S.1 4) x vd vf) := ev_12.trans (by unfold lw_s0; first | rw [if_pos c_41] | rw [if_neg c_41])
    refine lv_istore_n (lv' := [(2, .int (lw_s0 (S.2.1 0) (S.1 4) x vd vf)), (0, .ref aX), (1, .int x)]) hx hb dL_sum_54 rfl hl (by decide) rfl (fun ls hl => ?_)
    refine lv_iconst (v := 0) hx hb dL_sum_55 (by decide) ?_
    refine lv_istore_n (lv' := [(3, .int 0), (2, .int (lw_s0 (S.2.1 0) (S.1 4) x vd vf)), (0, .ref aX), (1, .int x)]) hx hb dL_sum_56 rfl hl (by decide) rfl (fun ls hl => ?_)
    refine W.widen (k := (2 + 6 * 0)) (n := (12 + 36 * 0)) (by omega) (by omega) ?_
    refine dz_la (α := Nat × Array Slot) (fun a9 => (fun (k : Nat) (ls : Array Slot) => 4 - k) a9.1 a9.2) (fun a9 => (fun (k : Nat) (ls : Array Slot) => (2 + 6 * k)) a9.1 a9.2) (fun a9 => (fun (k : Nat) (ls : Array Slot) => (12 + 36 * k)) a9.1 a9.2) (fun a9 H locs => (fun (k : Nat) (ls : Array Slot) => (k ≤ 4) ∧ dz_w Z G ad H ∧ va_S (dz_A Z) s.heap H locs ∧ lv_has ls 4 [(3, .int (nI k)), (2, .int (lw_sm (lw_s0 (S.2.1 0) (S.1 4) x vd vf) vi vo vl vb vh vs k)), (0, .ref aX), (1, .int x)]) a9.1 a9.2) (fun a9 => F0 m 57 a9.2 []) (fun a9 H locs hI ih_57 => ?_) (0, ls) ⟨Nat.zero_le _, hG, hS, lv_sub hl [0, 1, 2, 3] rfl⟩
    obtain ⟨k, ls⟩ := a9
    obtain ⟨hk1, hG, hS, hl⟩ := hI
    have hk1 : k ≤ 4 := hk1
    have hG : dz_w Z G ad H := hG
    have hS : va_S (dz_A Z) s.heap H locs := hS
    have hl : lv_has ls 4 [(3, .int (nI k)), (2, .int (lw_sm (lw_s0 (S.2.1 0) (S.1 4) x vd vf) vi vo vl vb vh vs k)), (0, .ref aX), (1, .int x)] := hl
    show W p l e _ s m _ below meth c H locs (2 + 6 * k) (12 + 36 * k) _ _
    refine lv_iload_n hx hb dL_sum_57 rfl (lv_at hl 0 rfl) ?_
    refine lv_iconst (v := 4) hx hb dL_sum_58 (by decide) ?_
    refine lv_icmp_ge (tgt := 139) hx hb dL_sum_59 (by decide) (fun c_59 => ?_) (fun c_59 => ?_)
    · have hk4 : k = 4 := q_end (b := 4) c_59 hk1 (by decide)
      refine lv_iload_n hx hb dL_sum_139 rfl (lv_at hl 1 rfl) ?_
      refine W.widen (k := 26) (n := 156) (by first | omega | decide) (by first | omega | decide) ?_
      refine W.iret hx hb hrt (fun t ht hW => dz_endM (f := rv_i) _ hE hS hG ?_ ht hW) (fun q h => hS.2.2 q h) dL_sum_140
      exact ⟨congrArg (lw_sm (lw_s0 (S.2.1 0) (S.1 4) x vd vf) vi vo vl vb vh vs) hk4, rfl, rfl⟩
    · have hk : k < 4 := q_lt (b := 4) c_59 (by decide) (by omega)
      refine lv_bipush (v := 31) hx hb dL_sum_62 (by decide) ?_
      refine lv_iload_n hx hb dL_sum_64 rfl (lv_at hl 1 rfl) ?_
      refine lv_imul hx hb dL_sum_65 ?_
      refine lv_aload_n hx hb dL_sum_66 rfl (lv_at hl 2 rfl) ?_
      refine lv_iload_n hx hb dL_sum_67 rfl (lv_at hl 0 rfl) ?_
      refine dz_kMi (vx_runSW (As := [_, _]) ⟨hx, hb, hml, hown, hts⟩ (qvi _ _ _ hC) (vx_cwSW 2 hts gL_sum_L_images rfl rfl rfl (by decide +kernel) ⟨Nat.le_of_ble_eq_true rfl, Nat.le_of_ble_eq_true rfl⟩) (dz_P.pre hE hS hG) rfl rfl hl.1 rfl (lv_room (Nat.le_of_ble_eq_true rfl)) dL_sum_68 ⟨by show _ ≤ 26; omega, by show _ ≤ 156; omega⟩) hS (fun x_68_10 G_68_10 ad_68_10 H locs hp_68_10 hG hS => ?_)
      rw [hp_68_10.2.1, hp_68_10.2.2] at hG
      rw [hp_68_10.1]
      refine W.widen (k := (2 + 6 * k) + 1) (n := (12 + 36 * k) + 6) (by omega) (by omega) ?_
      refine lv_iadd hx hb dL_sum_71 ?_
      refine lv_iconst (v := 3) hx hb dL_sum_72 (by decide) ?_
      refine lv_aload_n hx hb dL_sum_73 rfl (lv_at hl 2 rfl) ?_
      refine lv_iload_n hx hb dL_sum_74 rfl (lv_at hl 0 rfl) ?_
      refine lv_iconst (v := 2) hx hb dL_sum_75 (by decide) ?_
      refine lv_irem hx hb dL_sum_76 (by decide) ?_
      refine lv_topi (fun v_13 ev_13 => ?_)
      obtain rfl : v_13 = (nI k - nI k / 2 * 2) := ev_13
      refine lv_iload_n hx hb dL_sum_77 rfl (lv_at hl 0 rfl) ?_
      refine lv_iload_n hx hb dL_sum_78 rfl (lv_at hl 0 rfl) ?_
      refine lv_iconst (v := 1) hx hb dL_sum_79 (by decide) ?_
      refine lv_iadd hx hb dL_sum_80 ?_
      refine lv_topi (fun v_14 ev_14 => ?_)
      obtain rfl : v_14 = (nI k + 1) := ev_14
      refine dz_kMi (vx_runSW (As := [_, _, _, _]) ⟨hx, hb, hml, hown, hts⟩ (qvo _ _ _ _ _ hC) (vx_cwSW 4 hts gL_sum_L_imageOf rfl rfl rfl (by decide +kernel) ⟨Nat.le_of_ble_eq_true rfl, Nat.le_of_ble_eq_true rfl⟩) (dz_P.pre hE hS hG) rfl rfl hl.1 rfl (lv_room (Nat.le_of_ble_eq_true rfl)) dL_sum_81 ⟨by show _ ≤ 26; omega, by show _ ≤ 156; omega⟩) hS (fun x_81_11 G_81_11 ad_81_11 H locs hp_81_11 hG hS => ?_)
      rw [hp_81_11.2.1, hp_81_11.2.2] at hG
      rw [hp_81_11.1]
      refine W.widen (k := (2 + 6 * k) + 2) (n := (12 + 36 * k) + 12) (by omega) (by omega) ?_
      refine lv_imul hx hb dL_sum_84 ?_
      refine lv_iadd hx hb dL_sum_85 ?_
      refine lv_iconst (v := 5) hx hb dL_sum_86 (by decide) ?_
      refine lv_aload_n hx hb dL_sum_87 rfl (lv_at hl 2 rfl) ?_
      refine lv_iload_n hx hb dL_sum_88 rfl (lv_at hl 0 rfl) ?_
      refine lv_iconst (v := 2) hx hb dL_sum_89 (by decide) ?_
      refine lv_irem hx hb dL_sum_90 (by decide) ?_
      refine lv_topi (fun v_15 ev_15 => ?_)
      obtain rfl : v_15 = (nI k - nI k / 2 * 2) := ev_15
      refine lv_iload_n hx hb dL_sum_91 rfl (lv_at hl 0 rfl) ?_
      refine dz_kMi (vx_runSW (As := [_, _, _]) ⟨hx, hb, hml, hown, hts⟩ (qvl _ _ _ _ hC) (vx_cwSW 3 hts gL_sum_L_light rfl rfl rfl (by decide +kernel) ⟨Nat.le_of_ble_eq_true rfl, Nat.le_of_ble_eq_true rfl⟩) (dz_P.pre hE hS hG) rfl rfl hl.1 rfl (lv_room (Nat.le_of_ble_eq_true rfl)) dL_sum_92 ⟨by show _ ≤ 26; omega, by show _ ≤ 156; omega⟩) hS (fun x_92_12 G_92_12 ad_92_12 H locs hp_92_12 hG hS => ?_)
      rw [hp_92_12.2.1, hp_92_12.2.2] at hG
      rw [hp_92_12.1]
      refine W.widen (k := (2 + 6 * k) + 3) (n := (12 + 36 * k) + 18) (by omega) (by omega) ?_
      refine lv_imul hx hb dL_sum_95 ?_
      refine lv_iadd hx hb dL_sum_96 ?_
      refine lv_bipush (v := 7) hx hb dL_sum_97 (by decide) ?_
      refine lv_aload_n hx hb dL_sum_99 rfl (lv_at hl 2 rfl) ?_
      refine lv_iload_n hx hb dL_sum_100 rfl (lv_at hl 0 rfl) ?_
      refine lv_iconst (v := 2) hx hb dL_sum_101 (by decide) ?_
      refine lv_irem hx hb dL_sum_102 (by decide) ?_
      refine lv_topi (fun v_16 ev_16 => ?_)
      obtain rfl : v_16 = (nI k - nI k / 2 * 2) := ev_16
      refine dz_kMi (vx_runSW (As := [_, _]) ⟨hx, hb, hml, hown, hts⟩ (qvb _ _ _ hC) (vx_cwSW 2 hts gL_sum_L_booked rfl rfl rfl (by decide +kernel) ⟨Nat.le_of_ble_eq_true rfl, Nat.le_of_ble_eq_true rfl⟩) (dz_P.pre hE hS hG) rfl rfl hl.1 rfl (lv_room (Nat.le_of_ble_eq_true rfl)) dL_sum_103 ⟨by show _ ≤ 26; omega, by show _ ≤ 156; omega⟩) hS (fun x_103_13 G_103_13 ad_103_13 H locs hp_103_13 hG hS => ?_)
      rw [hp_103_13.2.1, hp_103_13.2.2] at hG
      rw [hp_103_13.1]
      refine W.widen (k := (2 + 6 * k) + 4) (n := (12 + 36 * k) + 24) (by omega) (by omega) ?_
      refine lv_imul hx hb dL_sum_106 ?_
      refine lv_iadd hx hb dL_sum_107 ?_
      refine lv_bipush (v := 11) hx hb dL_sum_108 (by decide) ?_
      refine lv_aload_n hx hb dL_sum_110 rfl (lv_at hl 2 rfl) ?_
      refine lv_iload_n hx hb dL_sum_111 rfl (lv_at hl 0 rfl) ?_
      refine lv_iconst (v := 2) hx hb dL_sum_112 (by decide) ?_
      refine lv_irem hx hb dL_sum_113 (by decide) ?_
      refine lv_topi (fun v_17 ev_17 => ?_)
      obtain rfl : v_17 = (nI k - nI k / 2 * 2) := ev_17
      refine dz_kMi (vx_runSW (As := [_, _]) ⟨hx, hb, hml, hown, hts⟩ (qvh _ _ _ hC) (vx_cwSW 2 hts gL_sum_L_isFresh rfl rfl rfl (by decide +kernel) ⟨Nat.le_of_ble_eq_true rfl, Nat.le_of_ble_eq_true rfl⟩) (dz_P.pre hE hS hG) rfl rfl hl.1 rfl (lv_room (Nat.le_of_ble_eq_true rfl)) dL_sum_114 ⟨by show _ ≤ 26; omega, by show _ ≤ 156; omega⟩) hS (fun x_114_14 G_114_14 ad_114_14 H locs hp_114_14 hG hS => ?_)
      rw [hp_114_14.2.1, hp_114_14.2.2] at hG
      rw [hp_114_14.1]
      refine W.widen (k := (2 + 6 * k) + 5) (n := (12 + 36 * k) + 30) (by omega) (by omega) ?_
      refine lv_imul hx hb dL_sum_117 ?_
      refine lv_iadd hx hb dL_sum_118 ?_
      refine lv_bipush (v := 13) hx hb dL_sum_119 (by decide) ?_
      refine lv_aload_n hx hb dL_sum_121 rfl (lv_at hl 2 rfl) ?_
      refine lv_iload_n hx hb dL_sum_122 rfl (lv_at hl 0 rfl) ?_
      refine lv_iload_n hx hb dL_sum_123 rfl (lv_at hl 0 rfl) ?_
      refine lv_iconst (v := 2) hx hb dL_sum_124 (by decide) ?_
      refine lv_irem hx hb dL_sum_125 (by decide) ?_
      refine lv_topi (fun v_18 ev_18 => ?_)
      obtain rfl : v_18 = (nI k - nI k / 2 * 2) := ev_18
      refine lv_iload_n hx hb dL_sum_126 rfl (lv_at hl 0 rfl) ?_
      refine dz_kMi (vx_runSW (As := [_, _, _, _]) ⟨hx, hb, hml, hown, hts⟩ (qvs _ _ _ _ _ hC) (vx_cwSW 4 hts gL_sum_L_seen rfl rfl rfl (by decide +kernel) ⟨Nat.le_of_ble_eq_true rfl, Nat.le_of_ble_eq_true rfl⟩) (dz_P.pre hE hS hG) rfl rfl hl.1 rfl (lv_room (Nat.le_of_ble_eq_true rfl)) dL_sum_127 ⟨by show _ ≤ 26; omega, by show _ ≤ 156; omega⟩) hS (fun x_127_15 G_127_15 ad_127_15 H locs hp_127_15 hG hS => ?_)
      rw [hp_127_15.2.1, hp_127_15.2.2] at hG
      rw [hp_127_15.1]
      refine W.widen (k := (2 + 6 * k) + 6) (n := (12 + 36 * k) + 36) (by omega) (by omega) ?_
      refine lv_imul hx hb dL_sum_130 ?_
      refine lv_iadd hx hb dL_sum_131 ?_
      refine lv_topi (fun v_19 ev_19 => ?_)
      refine lv_istore_n (lv' := [(2, .int v_19), (3, .int (nI k)), (0, .ref aX), (1, .int x)]) hx hb dL_sum_132 rfl hl (by decide) rfl (fun ls hl => ?_)
      obtain ⟨v_20, ev_20⟩ : ∃ y : Int32, y = (nI k) + 1 := ⟨_, rfl⟩
      refine lv_iinc (v := v_20) (lv' := [(3, .int v_20), (2, .int v_19), (0, .ref aX), (1, .int x)]) hx hb dL_sum_133 hl (k := 1) rfl (by rw [ev_20]; rfl) (by decide) rfl (fun ls hl => ?_)
      refine lv_goto (tgt := 57) hx hb dL_sum_136 (by decide) ?_
      obtain rfl : v_20 = (nI (k + 1)) := ev_20.trans (nI_1 k)
      obtain rfl : v_19 = (lw_sm (lw_s0 (S.2.1 0) (S.1 4) x vd vf) vi vo vl vb vh vs (k + 1)) := ev_19
      refine W.widen (k := (2 + 6 * (k + 1))) (n := (12 + 36 * (k + 1))) (by omega) (by omega) ?_
      exact ih_57 (k + 1, ls) _ _ (by first | (dsimp only; omega) | omega) ⟨(by omega), hG, hS, lv_sub hl [0, 1, 2, 3] rfl⟩
/-- the sum of what is asked: a number that the sky's numbers say -/
theorem e_sum (l : Launch) (hst : l.stackTraces = false) {Z : dzG} {aX : Nat} {S : lwS} (hB : lwB S) (x : Int32) : ∃ v : Int32, ∀ (G : dzW) (ad : dzA), lwC Z G ad aX S → dzWr l yL_sum wsL_sum 11 324 26 156 Z G ad [.ref aX, .int x] rv_i (fun y G1 ad1 => y = v ∧ G1 = G ∧ ad1 = ad) := by
  obtain ⟨vd, qvd⟩ := e_dispute l hst (Z := Z) (aX := aX) hB
  obtain ⟨vf, qvf⟩ : ∃ f : Int32 → Int32 → Int32 → Int32, ∀ w1 w2 w3 G ad, lwC Z G ad aX S → lw_A l yL_from wsL_from Z G ad [.ref aX, .int w1, .int w2, .int w3] (f w1 w2 w3) := ⟨fun w1 w2 w3 => (e_from l hst (Z := Z) (aX := aX) hB w1 w2 w3).choose, fun w1 w2 w3 => (e_from l hst (Z := Z) (aX := aX) hB w1 w2 w3).choose_spec⟩
  obtain ⟨vi, qvi⟩ : ∃ f : Int32 → Int32, ∀ w1 G ad, lwC Z G ad aX S → lw_A l yL_images wsL_images Z G ad [.ref aX, .int w1] (f w1) := ⟨fun w1 => (e_images l hst (Z := Z) (aX := aX) hB w1).choose, fun w1 => (e_images l hst (Z := Z) (aX := aX) hB w1).choose_spec⟩
  obtain ⟨vo, qvo⟩ : ∃ f : Int32 → Int32 → Int32 → Int32, ∀ w1 w2 w3 G ad, lwC Z G ad aX S → lw_A l yL_imageOf wsL_imageOf Z G ad [.ref aX, .int w1, .int w2, .int w3] (f w1 w2 w3) := ⟨fun w1 w2 w3 => (e_imageOf l hst (Z := Z) (aX := aX) hB w1 w2 w3).choose, fun w1 w2 w3 => (e_imageOf l hst (Z := Z) (aX := aX) hB w1 w2 w3).choose_spec⟩
  obtain ⟨vl, qvl⟩ : ∃ f : Int32 → Int32 → Int32, ∀ w1 w2 G ad, lwC Z G ad aX S → lw_A l yL_light wsL_light Z G ad [.ref aX, .int w1, .int w2] (f w1 w2) := ⟨fun w1 w2 => (e_light l hst (Z := Z) (aX := aX) hB w1 w2).choose, fun w1 w2 => (e_light l hst (Z := Z) (aX := aX) hB w1 w2).choose_spec⟩
  obtain ⟨vb, qvb⟩ : ∃ f : Int32 → Int32, ∀ w1 G ad, lwC Z G ad aX S → lw_A l yL_booked wsL_booked Z G ad [.ref aX, .int w1] (f w1) := ⟨fun w1 => (e_booked l hst (Z := Z) (aX := aX) hB w1).choose, fun w1 => (e_booked l hst (Z := Z) (aX := aX) hB w1).choose_spec⟩
  obtain ⟨vh, qvh⟩ : ∃ f : Int32 → Int32, ∀ w1 G ad, lwC Z G ad aX S → lw_A l yL_isFresh wsL_isFresh Z G ad [.ref aX, .int w1] (f w1) := ⟨fun w1 => (e_isFresh l hst (Z := Z) (aX := aX) hB w1).choose, fun w1 => (e_isFresh l hst (Z := Z) (aX := aX) hB w1).choose_spec⟩
  obtain ⟨vs, qvs⟩ : ∃ f : Int32 → Int32 → Int32 → Int32, ∀ w1 w2 w3 G ad, lwC Z G ad aX S → lw_A l yL_seen wsL_seen Z G ad [.ref aX, .int w1, .int w2, .int w3] (f w1 w2 w3) := ⟨fun w1 w2 w3 => (e_seen l hst (Z := Z) (aX := aX) hB w1 w2 w3).choose, fun w1 w2 w3 => (e_seen l hst (Z := Z) (aX := aX) hB w1 w2 w3).choose_spec⟩
  exact ⟨_, fun G ad hC => c_L_sum l Z G ad hst aX S x vd vf vi vo vl vb vh vs hC hB qvd qvf qvi qvo qvl qvb qvh qvs⟩
