set_option maxHeartbeats 1000000 in
theorem cl_D_imageOf_bad2 (l : Launch) (hst : l.stackTraces = false) {Z : dzG} {G : dzW} {ad : dzA} {aX aO : Nat} {nm ns nl nx nf : Nat} {dy ssf sst cfr grw bkk iop : Int32} {f3 f4 f5 f6 f12 f13 f14 f16 f17 f18 f20 f21 f22 f23 f24 f30 f31 f33 f34 f35 : Nat → Int32} {fo : Nat → Int64} (sc : Nat) (rk : Nat) (v3 : Int32) (hC : dz_Cl Z G ad aX nm ns nl nx nf dy ssf sst cfr grw bkk iop f3 f4 f5 f6 f12 f13 f14 f16 f17 f18 f20 f21 f22 f23 f24 f30 f31 f33 f34 f35) (hO : G (50, 0) = some (eJ Z 1 fo) ∧ ad (50, 0) = aO) (hsc : sc < ns) (hns : ns ≤ 5) (hrk : rk < (m_ix nm f3 f4 f5 f6 f12 f13 sc).1) (hbad : ¬ ((0 : Int32) ≤ v3 ∧ v3 ≤ 4)) : lw_C l yL_imageOf wsL_imageOf (6 + 1) (8 + (5 + 11) + 85) 1 6 Z G ad aO [.ref aX, .int (nI sc), .int (nI rk), .int v3, .ref aO] 2 0 (fun G1 ad1 => dz_Cl Z G1 ad1 aX nm ns nl nx nf dy ssf sst cfr grw bkk iop f3 f4 f5 f6 f12 f13 f14 f16 f17 f18 f20 f21 f22 f23 f24 f30 f31 f33 f34 f35) := by
  obtain ⟨ca, cco, cR, ⟨c5, c6, c7⟩, cls, cso, ⟨pl, cpl, cpe⟩, cfl, cst, ⟨lg, cF, cFe⟩, ⟨S, Q, cS, cQ⟩, cb, c27, c28, c29⟩ := id hC
  refine dz_po (c_L_imageOf_X2 l Z G ad aX aO (nI sc) (nI rk) v3 _ _ _ ca cco (c_D_imageOf_bad2 l hst Z G ad aX nl nx dy ssf sst cfr grw ns sc (fun i => (m_ix nm f3 f4 f5 f6 f12 f13 i).1) f12 f13 f14 rk v3 ca cco cls hsc hns (cso sc hsc) hrk m_im_c hbad)) ?_
  rintro x G1 ad1 ⟨rfl, rfl, rfl⟩
  exact ⟨rfl, fun r h => ⟨rfl, rfl⟩, hC, fo, hO, fun z => absurd z (by decide)⟩
set_option maxHeartbeats 2000000 in
theorem st_mass (l : Launch) (hst : l.stackTraces = false) {Z : dzG} {G : dzW} {ad : dzA} {aX aM aO : Nat} (hI : lwI Z aX aM aO G ad) (v1 v2 v3 v4 : Int32) : lw_Ok l Z G ad aM aO yL_mass wsL_mass yX9_mass wsX9_mass [.ref aX, .int v1, .int v2, .int v3, .int v4, .ref aO] [.ref aM, .int v1, .int v2, .int v3, .int v4] rv_i (fun y => y.toInt64) (lwI Z aX aM aO) := by
  obtain ⟨nm, ns, nl, nx, nf, th, dy, ssf, sst, cfr, grw, bkk, iop, f3, f4, f5, f6, f12, f13, f14, f16, f17, f18, f20, f21, f22, f23, f24, f30, f31, f33, f34, f35, fo, hC, hM, hO, hB⟩ := hI
  have hB0 := hB
  obtain ⟨⟨b1, b2, b3⟩, ⟨b4, b5⟩, ⟨b6, b7⟩, ⟨b8, b9⟩, ⟨b10, b11, b12, b13⟩, b14, b15, b16⟩ := hB
  by_cases c1 : ((((0 : Int32) ≤ v1 ∧ v1 ≤ 2) ∧ ((((-10) : Int32) ≤ v2 ∧ v2 ≤ 10) ∧ ((-10) ≤ v3 ∧ v3 ≤ 10))) ∧ ((1 : Int32) ≤ v4 ∧ v4 ≤ 8))
  · by_cases c2 : nm = 6
    · exact lw_join (cl_D_mass_full l hst v1 v2 v3 v4 hC hO b1 c1 c2) (fun G1 ad1 h => mo_M_mass_full l v1 v2 v3 v4 h c1 c2) hM (fun z => absurd z (by decide)) (by decide) hB0
    · have h6 : ∀ k, k < nm + 1 → 1 ≤ upd f6 nm v4 k ∧ upd f6 nm v4 k ≤ 8 := by
        intro k hk
        by_cases c : k = nm
        · rw [c, pk_us]; exact c1.2
        · rw [pk_un c]; exact b3 k (by omega)
      exact lw_join (cl_D_mass_ok l  v1 v2 v3 v4 hC hO b10 b4 (by omega) (m_ok_add b2 c1.1.2.1 c1.1.2.2) c1) (fun G1 ad1 h => mo_M_mass_ok l v1 v2 v3 v4 h c1 (by omega) (m_ok_add b2 c1.1.2.1 c1.1.2.2)) hM (fun _ => rfl) (by decide) ⟨⟨by omega, (m_ok_add b2 c1.1.2.1 c1.1.2.2), h6⟩, ⟨b4, b5⟩, ⟨b6, b7⟩, ⟨by omega, fun k hk => absurd hk (Nat.not_lt_zero _)⟩, ⟨by omega, fun i h => absurd h (Nat.succ_ne_zero i), fun j hj => absurd hj (by omega), fun i x hi => absurd hi (Nat.not_lt_zero _)⟩, b14, b15, b16⟩
  · exact lw_join (cl_D_mass_bad l hst v1 v2 v3 v4 hC hO c1) (fun G1 ad1 h => mo_M_mass_bad l v1 v2 v3 v4 h c1) hM (fun z => absurd z (by decide)) (by decide) hB0
set_option maxHeartbeats 2000000 in
theorem st_two (l : Launch) (hst : l.stackTraces = false) {Z : dzG} {G : dzW} {ad : dzA} {aX aM aO : Nat} (hI : lwI Z aX aM aO G ad) (v1 v2 v3 : Int32) : lw_Ok l Z G ad aM aO yL_two wsL_two yX9_two wsX9_two [.ref aX, .int v1, .int v2, .int v3, .ref aO] [.ref aM, .int v1, .int v2, .int v3] rv_i (fun y => y.toInt64) (lwI Z aX aM aO) := by
  obtain ⟨nm, ns, nl, nx, nf, th, dy, ssf, sst, cfr, grw, bkk, iop, f3, f4, f5, f6, f12, f13, f14, f16, f17, f18, f20, f21, f22, f23, f24, f30, f31, f33, f34, f35, fo, hC, hM, hO, hB⟩ := hI
  have hB0 := hB
  obtain ⟨⟨b1, b2, b3⟩, ⟨b4, b5⟩, ⟨b6, b7⟩, ⟨b8, b9⟩, ⟨b10, b11, b12, b13⟩, b14, b15, b16⟩ := hB
  rcases m_idx (n := nm) (by omega) v1 with c1 | ⟨k, hk, rfl⟩
  · exact lw_join (cl_D_two_no l hst v1 v2 v3 hC hO b1 c1) (fun G1 ad1 h => mo_M_two_no l v1 v2 v3 h c1 b1) hM (fun z => absurd z (by decide)) (by decide) hB0
  · by_cases c2 : ((((-10) : Int32) ≤ v2 ∧ v2 ≤ 10) ∧ ((-10) ≤ v3 ∧ v3 ≤ 10))
    · by_cases c3 : f6 k = 1 ∨ nm = 6
      · exact lw_join (cl_D_two_cant l hst k v2 v3 hC hO b1 hk c2 (c3.imp (fun z => by simp [z]) id)) (fun G1 ad1 h => mo_M_two_cant l k v2 v3 h hk b1 c2 c3) hM (fun z => absurd z (by decide)) (by decide) hB0
      · have c4 : ¬ f6 k = 1 := fun z => c3 (Or.inl z)
        have c6 : ¬ nm = 6 := fun z => c3 (Or.inr z)
        obtain ⟨q1, q2, q3, q4⟩ := m_half (b3 k hk) c4
        have h6 : ∀ j, j < nm + 1 → 1 ≤ upd (upd f6 k (f6 k / 2)) nm (f6 k - f6 k / 2) j ∧ upd (upd f6 k (f6 k / 2)) nm (f6 k - f6 k / 2) j ≤ 8 := by
          intro j hj
          by_cases c : j = nm
          · rw [c, pk_us]; exact q4
          · rw [pk_un c]
            by_cases d : j = k
            · rw [d, pk_us]; exact q3
            · rw [pk_un d]; exact b3 j (by omega)
        exact lw_join (cl_D_two_ok l  k v2 v3 hC hO b10 b4 (by omega) (m_ok_add b2 c2.1 c2.2) hk c2 q1 q2) (fun G1 ad1 h => mo_M_two_ok l k v2 v3 h hk (by omega) c2 c4 (m_ok_add b2 c2.1 c2.2)) hM (fun _ => rfl) (by decide) ⟨⟨by omega, (m_ok_add b2 c2.1 c2.2), h6⟩, ⟨b4, b5⟩, ⟨b6, b7⟩, ⟨by omega, fun k hk => absurd hk (Nat.not_lt_zero _)⟩, ⟨by omega, fun i h => absurd h (Nat.succ_ne_zero i), fun j hj => absurd hj (by omega), fun i x hi => absurd hi (Nat.not_lt_zero _)⟩, b14, b15, b16⟩
    · exact lw_join (cl_D_two_bad l hst k v2 v3 hC hO b1 hk c2) (fun G1 ad1 h => mo_M_two_bad l k v2 v3 h hk b1 c2) hM (fun z => absurd z (by decide)) (by decide) hB0
set_option maxHeartbeats 2000000 in
theorem st_source (l : Launch) (hst : l.stackTraces = false) {Z : dzG} {G : dzW} {ad : dzA} {aX aM aO : Nat} (hI : lwI Z aX aM aO G ad) (v1 v2 v3 : Int32) : lw_Ok l Z G ad aM aO yL_source wsL_source yX9_source wsX9_source [.ref aX, .int v1, .int v2, .int v3, .ref aO] [.ref aM, .int v1, .int v2, .int v3] rv_i (fun y => y.toInt64) (lwI Z aX aM aO) := by
  obtain ⟨nm, ns, nl, nx, nf, th, dy, ssf, sst, cfr, grw, bkk, iop, f3, f4, f5, f6, f12, f13, f14, f16, f17, f18, f20, f21, f22, f23, f24, f30, f31, f33, f34, f35, fo, hC, hM, hO, hB⟩ := hI
  have hB0 := hB
  obtain ⟨⟨b1, b2, b3⟩, ⟨b4, b5⟩, ⟨b6, b7⟩, ⟨b8, b9⟩, ⟨b10, b11, b12, b13⟩, b14, b15, b16⟩ := hB
  by_cases c1 : (((((-10) : Int32) ≤ v1 ∧ v1 ≤ 10) ∧ ((-10) ≤ v2 ∧ v2 ≤ 10)) ∧ ((1 : Int32) ≤ v3 ∧ v3 ≤ 100))
  · by_cases c2 : m_tk (dz_b (ns = 5)) f12 f13 v1 v2 ns = 0
    · have c3 : ns ≤ 4 := by
        rcases Nat.lt_or_ge ns 5 with q | q
        · omega
        · have e1 : dz_b (ns = 5) = 1 := dz_b1 (by omega)
          have e2 := m_tk_1 (i0 := 1) (co := f12) (ro := f13) (vc := v1) (vr := v2) (k := 0) rfl ns
          rw [Nat.zero_add] at e2
          rw [e1, e2] at c2
          exact absurd c2 (by decide)
      have c4 : m_tk 0 f12 f13 v1 v2 ns = 0 := by
        have c5 := c2
        rw [dz_b0 (show ¬ ns = 5 by omega)] at c5
        exact c5
      have h14 : ∀ i, i < ns + 1 → 1 ≤ upd f14 ns v3 i ∧ upd f14 ns v3 i ≤ 100 := by
        intro i hi
        by_cases c : i = ns
        · rw [c, pk_us]; exact c1.2
        · rw [pk_un c]; exact b5 i (by omega)
      have h31 : ∀ j, j < 30 * nf → m_cl ns f31 nf 0 j = -1 ∨ (0 ≤ m_cl ns f31 nf 0 j ∧ m_cl ns f31 nf 0 j ≤ 118400) := by
        intro j hj
        unfold m_cl
        split
        · exact Or.inl rfl
        · exact b12 j hj
      have h32 : ∀ i x, i < nf → x < 30 → ns + 1 ≤ x / 6 → m_cl ns f31 nf 0 (30 * i + x) = -1 := by
        intro i x hi hx h
        unfold m_cl
        split
        · rfl
        · exact b13 i x hi hx (by omega)
      exact lw_join (cl_D_source_ok l  v1 v2 v3 hC hO c3 c1 c4 (fun k hk => (b7 k hk).2) (fun k hk => (b9 k hk).1) b13) (fun G1 ad1 h => mo_M_source_ok l v1 v2 v3 h c3 b10 c1 c2) hM (fun _ => rfl) (by decide) ⟨⟨b1, b2, b3⟩, ⟨by omega, h14⟩, ⟨b6, fun k hk => ⟨(b7 k hk).1, (b7 k hk).2.imp (fun i h => ⟨by omega, h.2⟩)⟩⟩, ⟨b8, fun k hk => ⟨(b9 k hk).1.imp (fun i h => ⟨by omega, h.2⟩), (b9 k hk).2⟩⟩, ⟨b10, b11, h31, h32⟩, b14, b15, b16⟩
    · have c3 : 5 ≤ ns ∨ ¬ m_tk 0 f12 f13 v1 v2 ns = 0 := by
        by_cases c : ns = 5
        · exact Or.inl (by omega)
        · right
          have c5 := c2
          rw [dz_b0 c] at c5
          exact c5
      exact lw_join (cl_D_source_full l hst v1 v2 v3 hC hO b4 c1 c3) (fun G1 ad1 h => mo_M_source_full l v1 v2 v3 h b4 c1 c2) hM (fun z => absurd z (by decide)) (by decide) hB0
  · exact lw_join (cl_D_source_bad l hst v1 v2 v3 hC hO c1) (fun G1 ad1 h => mo_M_source_bad l v1 v2 v3 h b4 c1) hM (fun z => absurd z (by decide)) (by decide) hB0
set_option maxHeartbeats 2000000 in
theorem st_flare (l : Launch) (hst : l.stackTraces = false) {Z : dzG} {G : dzW} {ad : dzA} {aX aM aO : Nat} (hI : lwI Z aX aM aO G ad) (v1 v2 : Int32) : lw_Ok l Z G ad aM aO yL_flare wsL_flare yX9_flare wsX9_flare [.ref aX, .int v1, .int v2, .ref aO] [.ref aM, .int v1, .int v2] rv_i (fun y => y.toInt64) (lwI Z aX aM aO) := by
  obtain ⟨nm, ns, nl, nx, nf, th, dy, ssf, sst, cfr, grw, bkk, iop, f3, f4, f5, f6, f12, f13, f14, f16, f17, f18, f20, f21, f22, f23, f24, f30, f31, f33, f34, f35, fo, hC, hM, hO, hB⟩ := hI
  have hB0 := hB
  obtain ⟨⟨b1, b2, b3⟩, ⟨b4, b5⟩, ⟨b6, b7⟩, ⟨b8, b9⟩, ⟨b10, b11, b12, b13⟩, b14, b15, b16⟩ := hB
  rcases m_idx (n := ns) (by omega) v1 with c1 | ⟨sc, hsc, rfl⟩
  · exact lw_join (cl_D_flare_no l hst v1 v2 hC hO c1) (fun G1 ad1 h => mo_M_flare_no l v1 v2 h c1 b4) hM (fun z => absurd z (by decide)) (by decide) hB0
  · by_cases c2 : (((-100) : Int32) ≤ v2 ∧ v2 ≤ 100)
    · by_cases c3 : nl = 40
      · exact lw_join (cl_D_flare_full l hst sc v2 hC hO hsc b4 c2 c3) (fun G1 ad1 h => mo_M_flare_full l sc v2 h hsc b4 c2 c3) hM (fun z => absurd z (by decide)) (by decide) hB0
      · have h7 : ∀ k, k < nl + 1 → (-100 ≤ upd f18 nl v2 k ∧ upd f18 nl v2 k ≤ 100) ∧ ∃ i, i < ns ∧ upd f16 nl (nI sc) k = nI i := by
          intro k hk
          by_cases c : k = nl
          · rw [c, pk_us, pk_us]; exact ⟨c2, sc, hsc, rfl⟩
          · rw [pk_un c, pk_un c]; exact b7 k (by omega)
        exact lw_join (cl_D_flare_ok l  sc v2 hC hO hsc b4 c2 (by omega)) (fun G1 ad1 h => mo_M_flare_ok l sc v2 h hsc b4 c2 (by omega)) hM (fun _ => rfl) (by decide) ⟨⟨b1, b2, b3⟩, ⟨b4, b5⟩, ⟨by omega, h7⟩, ⟨b8, b9⟩, ⟨b10, b11, b12, b13⟩, b14, b15, b16⟩
    · exact lw_join (cl_D_flare_bad l hst sc v2 hC hO hsc b4 c2) (fun G1 ad1 h => mo_M_flare_bad l sc v2 h hsc b4 c2) hM (fun z => absurd z (by decide)) (by decide) hB0
set_option maxHeartbeats 2000000 in
theorem st_cross (l : Launch) (hst : l.stackTraces = false) {Z : dzG} {G : dzW} {ad : dzA} {aX aM aO : Nat} (hI : lwI Z aX aM aO G ad) (v1 v2 v3 v4 : Int32) : ∃ cv9 : Unit → Int64, lw_Ok l Z G ad aM aO yL_cross wsL_cross yX9_cross wsX9_cross [.ref aX, .int v1, .int v2, .int v3, .int v4] [.ref aM, .int v1, .int v2, .int v3, .int v4] rv_v cv9 (lwI Z aX aM aO) := by
  obtain ⟨nm, ns, nl, nx, nf, th, dy, ssf, sst, cfr, grw, bkk, iop, f3, f4, f5, f6, f12, f13, f14, f16, f17, f18, f20, f21, f22, f23, f24, f30, f31, f33, f34, f35, fo, hC, hM, hO, hB⟩ := hI
  refine ⟨fun _ => fo 0, ?_⟩
  have hB0 := hB
  obtain ⟨⟨b1, b2, b3⟩, ⟨b4, b5⟩, ⟨b6, b7⟩, ⟨b8, b9⟩, ⟨b10, b11, b12, b13⟩, b14, b15, b16⟩ := hB
  rcases m_idx (n := ns) (by omega) v1 with c1 | ⟨sc, hsc, rfl⟩
  · exact lw_join (cl_D_cross_no l hst v1 v2 v3 v4 hC hO c1) (fun G1 ad1 h => mo_M_cross_no l v1 v2 v3 v4 h c1 b4) hM (fun z => absurd z (by decide)) (by decide) hB0
  · rcases m_idx (n := (m_ix nm f3 f4 f5 f6 f12 f13 sc).1) (Nat.lt_of_le_of_lt (m_im_c (f8 := (m_bc nm f3 f4 f5 f6)) (f9 := (m_br nm f3 f4 f5 f6)) (f10 := (m_tw nm f3 f4 f5 f6)) (f12 := f12) (f13 := f13) (sc := sc)) (by decide)) v2 with c2 | ⟨rk, hrk, rfl⟩
    · exact lw_join (cl_D_cross_out l hst sc v2 v3 v4 hC hO hsc b4 c2) (fun G1 ad1 h => mo_M_cross_out l sc v2 v3 v4 h hsc b4 c2) hM (fun z => absurd z (by decide)) (by decide) hB0
    · by_cases c3 : (((1 : Int32) ≤ v3 ∧ v3 ≤ 50) ∧ ((1 : Int32) ≤ v4 ∧ v4 ≤ 1000))
      · by_cases c4 : nx = 20
        · exact lw_join (cl_D_cross_full l hst sc rk v3 v4 hC hO hsc b4 hrk c3 c4) (fun G1 ad1 h => mo_M_cross_full l sc rk v3 v4 h hsc b4 hrk c3 c4) hM (fun z => absurd z (by decide)) (by decide) hB0
        · have h9 : ∀ k, k < nx + 1 → (∃ i, i < ns ∧ upd f20 nx (nI sc) k = nI i) ∧ (0 ≤ upd f22 nx dy k ∧ upd f22 nx dy k ≤ 2000) ∧ (1 ≤ upd f23 nx v3 k ∧ upd f23 nx v3 k ≤ 50) ∧ (1 ≤ upd f24 nx v4 k ∧ upd f24 nx v4 k ≤ 1000) := by
            intro k hk
            by_cases c : k = nx
            · rw [c, pk_us, pk_us, pk_us, pk_us]; exact ⟨⟨sc, hsc, rfl⟩, b14, c3.1, c3.2⟩
            · rw [pk_un c, pk_un c, pk_un c, pk_un c]; exact b9 k (by omega)
          exact lw_join (cl_D_cross_ok l  sc rk v3 v4 hC hO hsc b4 hrk c3 (by omega)) (fun G1 ad1 h => mo_M_cross_ok l sc rk v3 v4 h hsc b4 hrk c3 (by omega)) hM (fun _ => rfl) (by decide) ⟨⟨b1, b2, b3⟩, ⟨b4, b5⟩, ⟨b6, b7⟩, ⟨by omega, h9⟩, ⟨b10, b11, b12, b13⟩, b14, b15, b16⟩
      · exact lw_join (cl_D_cross_bad l hst sc rk v3 v4 hC hO hsc b4 hrk c3) (fun G1 ad1 h => mo_M_cross_bad l sc rk v3 v4 h hsc b4 hrk c3) hM (fun z => absurd z (by decide)) (by decide) hB0
set_option maxHeartbeats 2000000 in
theorem st_season (l : Launch) (hst : l.stackTraces = false) {Z : dzG} {G : dzW} {ad : dzA} {aX aM aO : Nat} (hI : lwI Z aX aM aO G ad) (v1 v2 : Int32) : ∃ cv9 : Unit → Int64, lw_Ok l Z G ad aM aO yL_season wsL_season yX9_season wsX9_season [.ref aX, .int v1, .int v2] [.ref aM, .int v1, .int v2] rv_v cv9 (lwI Z aX aM aO) := by
  obtain ⟨nm, ns, nl, nx, nf, th, dy, ssf, sst, cfr, grw, bkk, iop, f3, f4, f5, f6, f12, f13, f14, f16, f17, f18, f20, f21, f22, f23, f24, f30, f31, f33, f34, f35, fo, hC, hM, hO, hB⟩ := hI
  refine ⟨fun _ => fo 0, ?_⟩
  have hB0 := hB
  obtain ⟨⟨b1, b2, b3⟩, ⟨b4, b5⟩, ⟨b6, b7⟩, ⟨b8, b9⟩, ⟨b10, b11, b12, b13⟩, b14, b15, b16⟩ := hB
  by_cases c1 : ((((0 : Int32) ≤ v1 ∧ v1 ≤ 99)) ∧ (v1 ≤ v2 ∧ v2 ≤ 99))
  · exact lw_join (cl_D_season_ok l  v1 v2 hC hO c1) (fun G1 ad1 h => mo_M_season_ok l v1 v2 h c1) hM (fun _ => rfl) (by decide) hB0
  · exact lw_join (cl_D_season_bad l hst v1 v2 hC hO c1) (fun G1 ad1 h => mo_M_season_bad l v1 v2 h c1) hM (fun z => absurd z (by decide)) (by decide) hB0
set_option maxHeartbeats 2000000 in
theorem st_cloud (l : Launch) (hst : l.stackTraces = false) {Z : dzG} {G : dzW} {ad : dzA} {aX aM aO : Nat} (hI : lwI Z aX aM aO G ad) (v1 : Int32) : lw_Ok l Z G ad aM aO yL_cloud wsL_cloud yX9_cloud wsX9_cloud [.ref aX, .int v1, .ref aO] [.ref aM, .int v1] rv_i (fun y => y.toInt64) (lwI Z aX aM aO) := by
  obtain ⟨nm, ns, nl, nx, nf, th, dy, ssf, sst, cfr, grw, bkk, iop, f3, f4, f5, f6, f12, f13, f14, f16, f17, f18, f20, f21, f22, f23, f24, f30, f31, f33, f34, f35, fo, hC, hM, hO, hB⟩ := hI
  have hB0 := hB
  obtain ⟨⟨b1, b2, b3⟩, ⟨b4, b5⟩, ⟨b6, b7⟩, ⟨b8, b9⟩, ⟨b10, b11, b12, b13⟩, b14, b15, b16⟩ := hB
  by_cases c1 : ((0 : Int32) ≤ v1 ∧ v1 ≤ 50)
  · exact lw_join (cl_D_cloud_ok l  v1 hC hO c1) (fun G1 ad1 h => mo_M_cloud_ok l v1 h c1) hM (fun _ => rfl) (by decide) hB0
  · exact lw_join (cl_D_cloud_bad l hst v1 hC hO c1) (fun G1 ad1 h => mo_M_cloud_bad l v1 h c1) hM (fun z => absurd z (by decide)) (by decide) hB0
set_option maxHeartbeats 2000000 in
theorem st_world (l : Launch) (hst : l.stackTraces = false) {Z : dzG} {G : dzW} {ad : dzA} {aX aM aO : Nat} (hI : lwI Z aX aM aO G ad) (v1 : Int32) : lw_Ok l Z G ad aM aO yL_world wsL_world yX9_world wsX9_world [.ref aX, .int v1, .ref aO] [.ref aM, .int v1] rv_i (fun y => y.toInt64) (lwI Z aX aM aO) := by
  obtain ⟨nm, ns, nl, nx, nf, th, dy, ssf, sst, cfr, grw, bkk, iop, f3, f4, f5, f6, f12, f13, f14, f16, f17, f18, f20, f21, f22, f23, f24, f30, f31, f33, f34, f35, fo, hC, hM, hO, hB⟩ := hI
  have hB0 := hB
  obtain ⟨⟨b1, b2, b3⟩, ⟨b4, b5⟩, ⟨b6, b7⟩, ⟨b8, b9⟩, ⟨b10, b11, b12, b13⟩, b14, b15, b16⟩ := hB
  by_cases c1 : ((40 : Int32) ≤ v1 ∧ v1 ≤ 100)
  · by_cases c2 : nf = 0
    · exact lw_join (cl_D_world_ok l  v1 hC hO b10 c1 c2) (fun G1 ad1 h => mo_M_world_ok l v1 h c1 c2) hM (fun _ => rfl) (by decide) ⟨⟨b1, b2, b3⟩, ⟨b4, b5⟩, ⟨b6, b7⟩, ⟨b8, b9⟩, ⟨b10, b11, b12, b13⟩, b14, c1, b16⟩
    · exact lw_join (cl_D_world_fr l hst v1 hC hO b10 c1 (by omega)) (fun G1 ad1 h => mo_M_world_fr l v1 h c1 (by omega) b10) hM (fun z => absurd z (by decide)) (by decide) hB0
  · exact lw_join (cl_D_world_bad l hst v1 hC hO c1) (fun G1 ad1 h => mo_M_world_bad l v1 h c1) hM (fun z => absurd z (by decide)) (by decide) hB0
set_option maxHeartbeats 2000000 in
theorem st_pass (l : Launch) (hst : l.stackTraces = false) {Z : dzG} {G : dzW} {ad : dzA} {aX aM aO : Nat} (hI : lwI Z aX aM aO G ad) (v1 : Int32) : lw_Ok l Z G ad aM aO yL_pass wsL_pass yX9_pass wsX9_pass [.ref aX, .int v1, .ref aO] [.ref aM, .int v1] rv_i (fun y => y.toInt64) (lwI Z aX aM aO) := by
  obtain ⟨nm, ns, nl, nx, nf, th, dy, ssf, sst, cfr, grw, bkk, iop, f3, f4, f5, f6, f12, f13, f14, f16, f17, f18, f20, f21, f22, f23, f24, f30, f31, f33, f34, f35, fo, hC, hM, hO, hB⟩ := hI
  have hB0 := hB
  obtain ⟨⟨b1, b2, b3⟩, ⟨b4, b5⟩, ⟨b6, b7⟩, ⟨b8, b9⟩, ⟨b10, b11, b12, b13⟩, b14, b15, b16⟩ := hB
  by_cases c1 : ((1 : Int32) ≤ v1 ∧ v1 ≤ 100)
  · by_cases c2 : 2000 < dy + v1
    · exact lw_join (cl_D_pass_late l hst v1 hC hO c1 c2) (fun G1 ad1 h => mo_M_pass_late l v1 h c1 c2) hM (fun z => absurd z (by decide)) (by decide) hB0
    · obtain ⟨p1, p2⟩ := m_pass b14 c1 c2
      exact lw_join (cl_D_pass_ok l  v1 hC hO c1 c2) (fun G1 ad1 h => mo_M_pass_ok l v1 h c1 c2) hM (fun _ => rfl) (by decide) ⟨⟨b1, b2, b3⟩, ⟨b4, b5⟩, ⟨b6, b7⟩, ⟨b8, b9⟩, ⟨b10, fun i h => Int32.le_trans (b11 i h) p1, b12, b13⟩, p2, b15, b16⟩
  · exact lw_join (cl_D_pass_bad l hst v1 hC hO c1) (fun G1 ad1 h => mo_M_pass_bad l v1 h c1) hM (fun z => absurd z (by decide)) (by decide) hB0

