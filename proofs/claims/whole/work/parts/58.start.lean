theorem st_fl {l : Launch} (h : l.flags = flags0) : l.stackTraces = false := by
  unfold Launch.stackTraces
  rw [h]
  decide +kernel
theorem st_cls {s : State} {b : Nat} (hts : ∀ w ∈ lw_tbl, w.before #[Value.ref b] s = true) : ∃ (dC : Nat → ClassId) (dI : Nat → Nat → Nat), ∀ (k : Nat) (q : vw_C), vwCl[k]? = some q → u_Kn s q.1 q.2.1 q.2.2 (dC k) (dI k) := by
  obtain ⟨c0, i0, k0⟩ := u_known (C := RJx4a65c) (T := TJx4a65c) (N := 3) (n := 3) hts inJx4a65c (hts (.instantiable RJx4a65c 3) (by decide +kernel))
  obtain ⟨c1, i1, k1⟩ := u_known (C := RX0) (T := TX0) (N := 3) (n := 3) hts inX0 (hts (.instantiable RX0 3) (by decide +kernel))
  obtain ⟨c2, i2, k2⟩ := u_known (C := RX1) (T := TX1) (N := 5) (n := 5) hts inX1 (hts (.instantiable RX1 5) (by decide +kernel))
  obtain ⟨c3, i3, k3⟩ := u_known (C := RX2) (T := TX2) (N := 2) (n := 2) hts inX2 (hts (.instantiable RX2 2) (by decide +kernel))
  obtain ⟨c4, i4, k4⟩ := u_known (C := RX3) (T := TX3) (N := 2) (n := 2) hts inX3 (hts (.instantiable RX3 2) (by decide +kernel))
  obtain ⟨c5, i5, k5⟩ := u_known (C := RX4) (T := TX4) (N := 4) (n := 4) hts inX4 (hts (.instantiable RX4 4) (by decide +kernel))
  obtain ⟨c6, i6, k6⟩ := u_known (C := RX5) (T := TX5) (N := 4) (n := 4) hts inX5 (hts (.instantiable RX5 4) (by decide +kernel))
  obtain ⟨c7, i7, k7⟩ := u_known (C := RX6) (T := TX6) (N := 7) (n := 7) hts inX6 (hts (.instantiable RX6 7) (by decide +kernel))
  obtain ⟨c8, i8, k8⟩ := u_known (C := RX7) (T := TX7) (N := 4) (n := 4) hts inX7 (hts (.instantiable RX7 4) (by decide +kernel))
  obtain ⟨c9, i9, k9⟩ := u_known (C := RX8) (T := TX8) (N := 11) (n := 11) hts inX8 (hts (.instantiable RX8 11) (by decide +kernel))
  obtain ⟨c10, i10, k10⟩ := u_known (C := RX9) (T := TX9) (N := 39) (n := 39) hts inX9 (hts (.instantiable RX9 39) (by decide +kernel))
  refine ⟨fun k => match k with | 0 => c0 | 1 => c1 | 2 => c2 | 3 => c3 | 4 => c4 | 5 => c5 | 6 => c6 | 7 => c7 | 8 => c8 | 9 => c9 | 10 => c10 | _ => c0, fun k => match k with | 0 => i0 | 1 => i1 | 2 => i2 | 3 => i3 | 4 => i4 | 5 => i5 | 6 => i6 | 7 => i7 | 8 => i8 | 9 => i9 | 10 => i10 | _ => i0, ?_⟩
  intro k q hq
  match k, hq with
  | 0, hq => cases hq; exact k0
  | 1, hq => cases hq; exact k1
  | 2, hq => cases hq; exact k2
  | 3, hq => cases hq; exact k3
  | 4, hq => cases hq; exact k4
  | 5, hq => cases hq; exact k5
  | 6, hq => cases hq; exact k6
  | 7, hq => cases hq; exact k7
  | 8, hq => cases hq; exact k8
  | 9, hq => cases hq; exact k9
  | 10, hq => cases hq; exact k10
  | k + 11, hq => simp at hq
theorem st_strs : ∀ q ∈ dz_strs, Cond.stringRef "Delaylens" q.1 q.2 ∈ lw_tbl := by decide +kernel
theorem st_exact : ∀ q ∈ dz_strs, Cond.exactly (Term.string "Delaylens" q.1) "java/lang/String" ∈ flatC (Jvm.Cond.and given_1 narrow_1) := by decide +kernel
theorem st_cast : ∀ q ∈ dz_cast, Cond.castable q.1 q.2 ∈ lw_tbl := by decide +kernel
theorem st_nest : ∀ w ∈ dz_nest, w ∈ lw_tbl ∧ w.onTables = true := by decide +kernel
theorem st_dcl : ∀ x ∈ dz_dcl, Cond.declares x ∈ lw_tbl := by decide +kernel
theorem st_nc : ∀ q ∈ dz_nc, Cond.not (Cond.castable q.1 q.2) ∈ flatC (Jvm.Cond.and given_1 narrow_1) := by decide +kernel
theorem st_X {s : State} {b : Nat} {Z : dzG} (hts : ∀ w ∈ lw_tbl, w.before #[Value.ref b] s = true) (hs : ∀ w ∈ flatC (Jvm.Cond.and given_1 narrow_1), w.before #[Value.ref b] s = true) (hmi : va_Mi "[Ljava/lang/Object;" (dzMi Z) s) : dz_X Z s := by
  refine ⟨va_AO.of (hts (.arrayOver (.object "java/lang/Object")) (by decide +kernel)), fun q hq => va_Nw.of rfl (hts _ (st_cast q hq)), fun w hw => va_Nw.of (st_nest w hw).2 (hts _ (st_nest w hw).1), fun q hq => ?_, va_Dc.of (hts (.declares ⟨"java/lang/Object", "getClass", "()Ljava/lang/Class;"⟩) (by decide +kernel)), hmi, fun q hq => va_Nc.of (hs _ (st_nc q hq)), fun x hx => va_Nw.of rfl (hts _ (st_dcl x hx))⟩
  obtain ⟨a, c, cA, kA, q1, -⟩ := Cond.exactly_spec (args := #[Value.ref b]) (first := s) (o := none) (s := s) (idx := []) (t := Term.string "Delaylens" q.1) (cls := "java/lang/String") (hs _ (st_exact q hq))
  exact ⟨a, vk_R.of (hts _ (st_strs q hq)) q1⟩
theorem st_ground {s : State} {b : Nat} (hts : ∀ w ∈ lw_tbl, w.before #[Value.ref b] s = true) (hgv : (Jvm.Cond.and given_1 narrow_1).before #[Value.ref b] s = true) : ∃ Z : dzG, dzB Z = s.heap.size ∧ dz_E Z s s.heap := by
  have hs := flat_of_before _ hgv
  have hA : ∀ a : Nat, a < s.heap.size → ¬ (fun q : Nat => s.heap.size ≤ q) a := fun a h1 h2 => absurd h2 (by show ¬ s.heap.size ≤ a; omega)
  obtain ⟨dC, dI, hKc⟩ := st_cls hts
  obtain ⟨cI, kI, oI, a1, a2, a3⟩ := Cond.arrayClass_spec (hts (.arrayClass .int) (by decide +kernel))
  obtain ⟨cJ, kJ, oJ, b1, b2, b3⟩ := Cond.arrayClass_spec (hts (.arrayClass .long) (by decide +kernel))
  obtain ⟨cZ, kZ, oZ, c1, c2, c3⟩ := Cond.arrayClass_spec (hts (.arrayClass .boolean) (by decide +kernel))
  obtain ⟨oO, cO, kO, d1, -, d3, d4, d5⟩ := Cond.arrayOver_spec (hts (.arrayOver (.object "java/lang/Object")) (by decide +kernel))
  obtain ⟨t, ht, hT⟩ := va_Tof (tm := .static "java/util/ArrayList" "DEFAULTCAPACITY_EMPTY_ELEMENTDATA" "[Ljava/lang/Object;") (ty := .object "java/lang/Object") (N := 0) (f := fun _ => .null) (A := fun q : Nat => s.heap.size ≤ q) (by decide) (hs (.arrayOf (.static "java/util/ArrayList" "DEFAULTCAPACITY_EMPTY_ELEMENTDATA" "[Ljava/lang/Object;") (.object "java/lang/Object")) (by decide +kernel)) (va_eqt (hs (.eq (.length (.static "java/util/ArrayList" "DEFAULTCAPACITY_EMPTY_ELEMENTDATA" "[Ljava/lang/Object;")) (.int 0)) (by decide +kernel))) (fun j hj => absurd hj (by omega)) hA
  obtain ⟨mi, hmi⟩ := va_Mi.of (hs (.isRef (.mirror "[Ljava/lang/Object;")) (by decide +kernel))
  have hlt : t < s.heap.size := by
    obtain ⟨cell, z1, -⟩ := id hT
    exact (Array.getElem?_eq_some_iff.mp z1).1
  refine ⟨((dC, dI), (cI, cJ, cZ, cO), s.heap.size, t, mi), rfl, ⟨hKc, fun k q hk => ?_⟩, Nat.le_refl _, va_Zref (hts (.laysStatic "java/util/ArrayList" "DEFAULTCAPACITY_EMPTY_ELEMENTDATA" "[Ljava/lang/Object;") (by decide +kernel)) (hts (.initialized "java/util/ArrayList") (by decide +kernel)) ht hA, ⟨hT, hlt⟩, ⟨vx_Zqof (hts (.laysStatic Bundle.tN "UNASSIGNED_STACK" Bundle.steD) (by decide +kernel)) (hts (.initialized Bundle.tN) (by decide +kernel)) (hs (.isRef (.static Bundle.tN "UNASSIGNED_STACK" Bundle.steD)) (by decide +kernel)) hA, vx_Zqof (hts (.laysStatic Bundle.tN "SUPPRESSED_SENTINEL" Bundle.listD) (by decide +kernel)) (hts (.initialized Bundle.tN) (by decide +kernel)) (hs (.isRef (.static Bundle.tN "SUPPRESSED_SENTINEL" Bundle.listD)) (by decide +kernel)) hA⟩, st_X hts hs hmi⟩
  match k, hk with
  | 0, hk => cases hk; exact ⟨fun N z => ⟨(fun k h => by cases h), kI, a2, oI, a3⟩, a1⟩
  | 1, hk => cases hk; exact ⟨fun N z => ⟨(fun k h => by cases h), kJ, b2, oJ, b3⟩, b1⟩
  | 2, hk => cases hk; exact ⟨fun N z => ⟨(fun k h => by cases h), kZ, c2, oZ, c3⟩, c1⟩
  | 3, hk => cases hk; exact ⟨fun N z => ⟨(fun k h => by cases h), kO, d3, oO, d4⟩, kO, oO, d3, d4, d1, d5⟩
  | k + 4, hk => simp at hk
set_option maxHeartbeats 4000000 in
theorem st_inv {Z : dzG} {G0 G1 G2 : dzW} {ad0 ad1 ad2 : dzA} {q1 q2 q3 : Nat} {x9 : va_E} (h1 : (∀ r9 : dzR, r9 ≠ (1, 0) → r9 ≠ (2, 0) → r9 ≠ (3, 0) → r9 ≠ (5, 0) → r9 ≠ (6, 0) → r9 ≠ (7, 0) → r9 ≠ (9, 0) → r9 ≠ (19, 0) → r9 ≠ (20, 0) → r9 ≠ (22, 0) → r9 ≠ (23, 0) → r9 ≠ (26, 0) → r9 ≠ (27, 0) → r9 ≠ (28, 0) → r9 ≠ (29, 0) → G1 r9 = G0 r9 ∧ ad1 r9 = ad0 r9) ∧ ad1 (1, 0) = q1 ∧ G1 (1, 0) = some (eO 9 [.ref (ad1 (2, 0)), .ref (ad1 (9, 0)), .int (nI 0), .int (nI 0), .ref (ad1 (19, 0)), .ref (ad1 (26, 0)), .int 0, .int 0, .int 99, .int 0, .int 70]) ∧ dz_Rm Z G1 ad1 0 (fun _ => 0) (fun _ => 0) (fun _ => 0) (fun _ => 0) ∧ (G1 (5, 0) = some (eI Z 484 (m_tc 0 (fun _ => 0) (fun _ => 0) (fun _ => 0) (fun _ => 0))) ∧ G1 (6, 0) = some (eI Z 484 (m_tr 0 (fun _ => 0) (fun _ => 0) (fun _ => 0) (fun _ => 0))) ∧ G1 (7, 0) = some (eI Z 484 (m_tw 0 (fun _ => 0) (fun _ => 0) (fun _ => 0) (fun _ => 0)))) ∧ dz_L Z G1 ad1 (9, 0) (10, 0) 0 (fun _ => 0) ∧ dz_Fr Z G1 ad1 0 (fun _ => 0) (fun _ _ => 0) ∧ G1 (22, 0) = some (eJ Z 151 (fun _ => 0)) ∧ G1 (23, 0) = some (eI Z 151 (fun _ => 0)) ∧ G1 (26, 0) = some (eO 2 [.ref (ad1 (27, 0)), .ref (ad1 (28, 0)), .int 0, .ref (ad1 (29, 0)), .int 0]) ∧ G1 (27, 0) = some (eI Z 2 (fun _ => -1)) ∧ G1 (28, 0) = some (eI Z 2 (fun _ => -1)) ∧ G1 (29, 0) = some (eZ Z 5 (fun _ => 0))) (h2 : (∀ r9 : dzR, r9 ≠ (39, 0) → r9.1 ≠ 40 → G2 r9 = dz_u G1 (39, 0) x9 r9 ∧ ad2 r9 = dz_a ad1 (39, 0) q2 r9) ∧ ad2 (39, 0) = q2 ∧ G2 (39, 0) = some (eO 10 [.int 0, .int 0, .int (nI 0), .ref (ad2 (40, 3)), .ref (ad2 (40, 4)), .ref (ad2 (40, 5)), .ref (ad2 (40, 6)), .int 0, .ref (ad2 (40, 8)), .ref (ad2 (40, 9)), .ref (ad2 (40, 10)), .int (nI 0), .ref (ad2 (40, 12)), .ref (ad2 (40, 13)), .ref (ad2 (40, 14)), .int (nI 0), .ref (ad2 (40, 16)), .ref (ad2 (40, 17)), .ref (ad2 (40, 18)), .int (nI 0), .ref (ad2 (40, 20)), .ref (ad2 (40, 21)), .ref (ad2 (40, 22)), .ref (ad2 (40, 23)), .ref (ad2 (40, 24)), .int 0, .int 99, .int 0, .int 70, .int (nI 0), .ref (ad2 (40, 30)), .ref (ad2 (40, 31)), .int 0, .ref (ad2 (40, 33)), .ref (ad2 (40, 34)), .ref (ad2 (40, 35)), .int 0, .ref (ad2 (40, 37)), .int (nI 0)]) ∧ G2 (40, 3) = some (eI Z 6 (fun _ => 0)) ∧ G2 (40, 4) = some (eI Z 6 (fun _ => 0)) ∧ G2 (40, 5) = some (eI Z 6 (fun _ => 0)) ∧ G2 (40, 6) = some (eI Z 6 (fun _ => 0)) ∧ G2 (40, 8) = some (eI Z 484 (m_bc 0 (fun _ => 0) (fun _ => 0) (fun _ => 0) (fun _ => 0))) ∧ G2 (40, 9) = some (eI Z 484 (m_br 0 (fun _ => 0) (fun _ => 0) (fun _ => 0) (fun _ => 0))) ∧ G2 (40, 10) = some (eI Z 484 (m_tw 0 (fun _ => 0) (fun _ => 0) (fun _ => 0) (fun _ => 0))) ∧ G2 (40, 12) = some (eI Z 5 (fun _ => 0)) ∧ G2 (40, 13) = some (eI Z 5 (fun _ => 0)) ∧ G2 (40, 14) = some (eI Z 5 (fun _ => 0)) ∧ G2 (40, 16) = some (eI Z 40 (fun _ => 0)) ∧ G2 (40, 17) = some (eI Z 40 (fun _ => 0)) ∧ G2 (40, 18) = some (eI Z 40 (fun _ => 0)) ∧ G2 (40, 20) = some (eI Z 20 (fun _ => 0)) ∧ G2 (40, 21) = some (eI Z 20 (fun _ => 0)) ∧ G2 (40, 22) = some (eI Z 20 (fun _ => 0)) ∧ G2 (40, 23) = some (eI Z 20 (fun _ => 0)) ∧ G2 (40, 24) = some (eI Z 20 (fun _ => 0)) ∧ G2 (40, 30) = some (eI Z 60 (fun _ => 0)) ∧ G2 (40, 31) = some (eI Z 1800 (fun _ => 0)) ∧ G2 (40, 33) = some (eI Z 2 (fun _ => -1)) ∧ G2 (40, 34) = some (eI Z 2 (fun _ => -1)) ∧ G2 (40, 35) = some (eZ Z 5 (fun _ => 0)) ∧ G2 (40, 37) = some (eI Z 441 (fun _ => 0))) : lwI Z q1 q2 q3 (dz_u G2 (50, 0) (eJ Z 1 (fun _ => 0))) (dz_a ad2 (50, 0) q3) := by
  obtain ⟨-, a1, a2, a3, a4, a5, a6, a7, a8, a9, a10, a11, a12⟩ := h1
  obtain ⟨b0, b1, b2, b3, b4, b5, b6, b8, b9, b10, b12, b13, b14, b16, b17, b18, b20, b21, b22, b23, b24, b30, b31, b33, b34, b35, b37⟩ := h2
  have C1 : dz_Cl Z G1 ad1 q1 0 0 0 0 0 0 0 99 0 70 0 0 (fun _ => 0) (fun _ => 0) (fun _ => 0) (fun _ => 0) (fun _ => 0) (fun _ => 0) (fun _ => 0) (fun _ => 0) (fun _ => 0) (fun _ => 0) (fun _ => 0) (fun _ => 0) (fun _ => 0) (fun _ => 0) (fun _ => 0) (fun _ => 0) (fun _ => 0) (fun _ => -1) (fun _ => -1) (fun _ => 0) := ⟨a1, a2, a3, a4, a5.el (fun j hj => absurd hj (Nat.not_lt_zero j)), fun i hi => absurd hi (Nat.not_lt_zero i), ⟨fun _ _ => 0, fun i hi => absurd hi (Nat.not_lt_zero i), fun i k hi => absurd hi (Nat.not_lt_zero i)⟩, fun i hi => absurd hi (Nat.not_lt_zero i), fun i hi => absurd hi (Nat.not_lt_zero i), ⟨fun _ _ => 0, a6, fun i x hi => absurd hi (Nat.not_lt_zero i)⟩, ⟨_, _, a7, a8⟩, a9, a10, a11, a12⟩
  have M1 : dz_Mo Z G2 ad2 q2 0 0 0 0 0 0 0 0 99 0 70 0 0 (fun _ => 0) (fun _ => 0) (fun _ => 0) (fun _ => 0) (fun _ => 0) (fun _ => 0) (fun _ => 0) (fun _ => 0) (fun _ => 0) (fun _ => 0) (fun _ => 0) (fun _ => 0) (fun _ => 0) (fun _ => 0) (fun _ => 0) (fun _ => 0) (fun _ => 0) (fun _ => -1) (fun _ => -1) (fun _ => 0) := ⟨b1, ⟨0, b2⟩, b3, b4, b5, b6, b8, b9, b10, b12, b13, b14, b16, b17, b18, b20, b21, b22, b23, b24, b30, b31, b33, b34, b35, ⟨_, b37⟩⟩
  refine ⟨0, 0, 0, 0, 0, 0, 0, 0, 99, 0, 70, 0, 0, _, _, _, _, _, _, _, _, _, _, _, _, _, _, _, _, _, _, _, _, fun _ => 0, C1.frame (fun r hr => ?_), M1.frame (fun r hr => ?_), ⟨dz_s, dz_as⟩, ?_⟩
  · have n1 : r ≠ (50, 0) := fun z => by rw [z] at hr; exact absurd hr (by decide)
    have n2 : r ≠ (39, 0) := fun z => by rw [z] at hr; exact absurd hr (by decide)
    have k := b0 r n2 (by omega)
    exact ⟨(dz_o n1 rfl).trans (k.1.trans (dz_o n2 rfl)), (dz_ao n1).trans (k.2.trans (dz_ao n2))⟩
  · have n1 : r ≠ (50, 0) := fun z => by rw [z] at hr; exact absurd hr (by decide)
    exact ⟨dz_o n1 rfl, dz_ao n1⟩
  · refine ⟨⟨by decide, fun k hk => absurd hk (Nat.not_lt_zero k), fun k hk => absurd hk (Nat.not_lt_zero k)⟩, ⟨by decide, fun k hk => absurd hk (Nat.not_lt_zero k)⟩, ⟨by decide, fun k hk => absurd hk (Nat.not_lt_zero k)⟩, ⟨by decide, fun k hk => absurd hk (Nat.not_lt_zero k)⟩, ⟨by decide, fun i hi => absurd hi (by omega), fun j hj => absurd hj (by omega), fun i x hi => absurd hi (Nat.not_lt_zero i)⟩, by decide, by decide, rfl⟩
