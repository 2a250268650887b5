theorem st_fl {l : Launch} (h : l.flags = flags0) : l.stackTraces = false := by
  unfold Launch.stackTraces
  rw [h]
  decide +kernel
theorem st_cls {s : State} {b : Nat} (hts : ∀ w ∈ lw_tbl, w.before #[Value.ref b] s = true) : ∃ (dC : Nat → ClassId) (dI : Nat → Nat → Nat), ∀ (k : Nat) (q : vw_C), vwCl[k]? = some q → u_Kn s q.1 q.2.1 q.2.2 (dC k) (dI k) := by
  obtain ⟨c0, i0, k0⟩ := u_known (C := RJx4a65c) (T := TJx4a65c) (N := 3) (n := 3) hts inJx4a65c (hts (.instantiable RJx4a65c 3) (by decide +kernel))
  obtain ⟨c1, i1, k1⟩ := u_known (C := RX0) (T := TX0) (N := 3) (n := 3) hts inX0 (hts (.instantiable RX0 3) (by decide +kernel))
  obtain ⟨c2, i2, k2⟩ := u_known (C := RX1) (T := TX1) (N := 5) (n := 5) hts inX1 (hts (.instantiable RX1 5) (by decide +kernel))
  obtain ⟨c3, i3, k3⟩ := u_known (C := RX2) (T := TX2) (N := 2) (n := 2) hts inX2 (hts (.instantiable RX2 2) (by decide +kernel))
  obtain ⟨c4, i4, k4⟩ := u_known (C := RX3) (T := TX3) (N := 2) (n := 2) hts inX3 (hts (.instantiable RX3 2) (by decide +kernel))
  obtain ⟨c5, i5, k5⟩ := u_known (C := RX4) (T := TX4) (N := 4) (n := 4) hts inX4 (hts (.instantiable RX4 4) (by decide +kernel))
  obtain ⟨c6, i6, k6⟩ := u_known (C := RX5) (T := TX5) (N := 4) (n := 4) hts inX5 (hts (.instantiable RX5 4) (by decide +kernel))
  obtain ⟨c7, i7, k7⟩ := u_known (C := RX6) (T := TX6) (N := 7) (n := 7) hts inX6 (hts (.instantiable RX6 7) (by decide +kernel))
  obtain ⟨c8, i8, k8⟩ := u_known (C := RX7) (T := TX7) (N := 4) (n := 4) hts inX7 (hts (.instantiable RX7 4) (by decide +kernel))
  obtain ⟨c9, i9, k9⟩ := u_known (C := RX8) (T := TX8) (N := 11) (n := 11) hts inX8 (hts (.instantiable RX8 11) (by decide +kernel))
  refine ⟨fun k => match k with | 0 => c0 | 1 => c1 | 2 => c2 | 3 => c3 | 4 => c4 | 5 => c5 | 6 => c6 | 7 => c7 | 8 => c8 | 9 => c9 | _ => c0, fun k => match k with | 0 => i0 | 1 => i1 | 2 => i2 | 3 => i3 | 4 => i4 | 5 => i5 | 6 => i6 | 7 => i7 | 8 => i8 | 9 => i9 | _ => i0, ?_⟩
  intro k q hq
  match k, hq with
  | 0, hq => cases hq; exact k0
  | 1, hq => cases hq; exact k1
  | 2, hq => cases hq; exact k2
  | 3, hq => cases hq; exact k3
  | 4, hq => cases hq; exact k4
  | 5, hq => cases hq; exact k5
  | 6, hq => cases hq; exact k6
  | 7, hq => cases hq; exact k7
  | 8, hq => cases hq; exact k8
  | 9, hq => cases hq; exact k9
  | k + 10, hq => simp at hq
theorem st_strs : ∀ q ∈ dz_strs, Cond.stringRef "Delaylens" q.1 q.2 ∈ lw_tbl := by decide +kernel
theorem st_exact : ∀ q ∈ dz_strs, Cond.exactly (Term.string "Delaylens" q.1) "java/lang/String" ∈ flatC (Jvm.Cond.and given_1 narrow_1) := by decide +kernel
theorem st_cast : ∀ q ∈ dz_cast, Cond.castable q.1 q.2 ∈ lw_tbl := by decide +kernel
theorem st_nest : ∀ w ∈ dz_nest, w ∈ lw_tbl ∧ w.onTables = true := by decide +kernel
theorem st_dcl : ∀ x ∈ dz_dcl, Cond.declares x ∈ lw_tbl := by decide +kernel
theorem st_nc : ∀ q ∈ dz_nc, Cond.not (Cond.castable q.1 q.2) ∈ flatC (Jvm.Cond.and given_1 narrow_1) := by decide +kernel
theorem st_X {s : State} {b : Nat} {Z : dzG} (hts : ∀ w ∈ lw_tbl, w.before #[Value.ref b] s = true) (hs : ∀ w ∈ flatC (Jvm.Cond.and given_1 narrow_1), w.before #[Value.ref b] s = true) (hmi : va_Mi "[Ljava/lang/Object;" (dzMi Z) s) : dz_X Z s := by
  refine ⟨va_AO.of (hts (.arrayOver (.object "java/lang/Object")) (by decide +kernel)), fun q hq => va_Nw.of rfl (hts _ (st_cast q hq)), fun w hw => va_Nw.of (st_nest w hw).2 (hts _ (st_nest w hw).1), fun q hq => ?_, va_Dc.of (hts (.declares ⟨"java/lang/Object", "getClass", "()Ljava/lang/Class;"⟩) (by decide +kernel)), hmi, fun q hq => va_Nc.of (hs _ (st_nc q hq)), fun x hx => va_Nw.of rfl (hts _ (st_dcl x hx))⟩
  obtain ⟨a, c, cA, kA, q1, -⟩ := Cond.exactly_spec (args := #[Value.ref b]) (first := s) (o := none) (s := s) (idx := []) (t := Term.string "Delaylens" q.1) (cls := "java/lang/String") (hs _ (st_exact q hq))
  exact ⟨a, vk_R.of (hts _ (st_strs q hq)) q1⟩
theorem st_ground {s : State} {b : Nat} (hts : ∀ w ∈ lw_tbl, w.before #[Value.ref b] s = true) (hgv : (Jvm.Cond.and given_1 narrow_1).before #[Value.ref b] s = true) : ∃ Z : dzG, dzB Z = s.heap.size ∧ dz_E Z s s.heap := by
  have hs := flat_of_before _ hgv
  have hA : ∀ a : Nat, a < s.heap.size → ¬ (fun q : Nat => s.heap.size ≤ q) a := fun a h1 h2 => absurd h2 (by show ¬ s.heap.size ≤ a; omega)
  obtain ⟨dC, dI, hKc⟩ := st_cls hts
  obtain ⟨cI, kI, oI, a1, a2, a3⟩ := Cond.arrayClass_spec (hts (.arrayClass .int) (by decide +kernel))
  obtain ⟨cJ, kJ, oJ, b1, b2, b3⟩ := Cond.arrayClass_spec (hts (.arrayClass .long) (by decide +kernel))
  obtain ⟨cZ, kZ, oZ, c1, c2, c3⟩ := Cond.arrayClass_spec (hts (.arrayClass .boolean) (by decide +kernel))
  obtain ⟨oO, cO, kO, d1, -, d3, d4, d5⟩ := Cond.arrayOver_spec (hts (.arrayOver (.object "java/lang/Object")) (by decide +kernel))
  obtain ⟨t, ht, hT⟩ := va_Tof (tm := .static "java/util/ArrayList" "DEFAULTCAPACITY_EMPTY_ELEMENTDATA" "[Ljava/lang/Object;") (ty := .object "java/lang/Object") (N := 0) (f := fun _ => .null) (A := fun q : Nat => s.heap.size ≤ q) (by decide) (hs (.arrayOf (.static "java/util/ArrayList" "DEFAULTCAPACITY_EMPTY_ELEMENTDATA" "[Ljava/lang/Object;") (.object "java/lang/Object")) (by decide +kernel)) (va_eqt (hs (.eq (.length (.static "java/util/ArrayList" "DEFAULTCAPACITY_EMPTY_ELEMENTDATA" "[Ljava/lang/Object;")) (.int 0)) (by decide +kernel))) (fun j hj => absurd hj (by omega)) hA
  obtain ⟨mi, hmi⟩ := va_Mi.of (hs (.isRef (.mirror "[Ljava/lang/Object;")) (by decide +kernel))
  have hlt : t < s.heap.size := by
    obtain ⟨cell, z1, -⟩ := id hT
    exact (Array.getElem?_eq_some_iff.mp z1).1
  refine ⟨((dC, dI), (cI, cJ, cZ, cO), s.heap.size, t, mi), rfl, ⟨hKc, fun k q hk => ?_⟩, Nat.le_refl _, va_Zref (hts (.laysStatic "java/util/ArrayList" "DEFAULTCAPACITY_EMPTY_ELEMENTDATA" "[Ljava/lang/Object;") (by decide +kernel)) (hts (.initialized "java/util/ArrayList") (by decide +kernel)) ht hA, ⟨hT, hlt⟩, ⟨vx_Zqof (hts (.laysStatic Bundle.tN "UNASSIGNED_STACK" Bundle.steD) (by decide +kernel)) (hts (.initialized Bundle.tN) (by decide +kernel)) (hs (.isRef (.static Bundle.tN "UNASSIGNED_STACK" Bundle.steD)) (by decide +kernel)) hA, vx_Zqof (hts (.laysStatic Bundle.tN "SUPPRESSED_SENTINEL" Bundle.listD) (by decide +kernel)) (hts (.initialized Bundle.tN) (by decide +kernel)) (hs (.isRef (.static Bundle.tN "SUPPRESSED_SENTINEL" Bundle.listD)) (by decide +kernel)) hA⟩, st_X hts hs hmi⟩
  match k, hk with
  | 0, hk => cases hk; exact ⟨fun N z => ⟨(fun k h => by cases h), kI, a2, oI, a3⟩, a1⟩
  | 1, hk => cases hk; exact ⟨fun N z => ⟨(fun k h => by cases h), kJ, b2, oJ, b3⟩, b1⟩
  | 2, hk => cases hk; exact ⟨fun N z => ⟨(fun k h => by cases h), kZ, c2, oZ, c3⟩, c1⟩
  | 3, hk => cases hk; exact ⟨fun N z => ⟨(fun k h => by cases h), kO, d3, oO, d4⟩, kO, oO, d3, d4, d1, d5⟩
  | k + 4, hk => simp at hk
theorem go_pre {Z : dzG} {s : State} {H : Heap} {locs : List Loc} {b L k : Nat} {xs : Nat → Int32} (hE : dz_E Z s s.heap) (hX : va_X b L xs s s.heap) (hbl : b < s.heap.size) (hbA : ¬ dz_A Z b) (hS : va_S (dz_A Z) s.heap H locs) : PreS s H (va_Pc [.ref b, .int (nI k)] (fun U => dz_U Z (fun _ => none) (fun _ => 0) U ∧ va_X b L xs U U.heap)) [.ref b, .int (nI k)] :=
  ⟨fun _ U _ _ q => ⟨q.1, q.2.1.frame, va_X.moved (Vm.Alike.refl U.vm) q.2.2⟩, fun U hU hW => ⟨rfl, dz_U.of hE hS (H := H) ⟨(fun r e h => by cases h), (fun r r' e e' h => by cases h), (fun r e h => by cases h)⟩ hU hW, by rw [hU]; exact va_X.moved hW.alike (hX.kept (hS.2.1 b hbl hbA))⟩⟩
