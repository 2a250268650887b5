set_option maxHeartbeats 2000000 in
theorem st_light (l : Launch) (hst : l.stackTraces = false) {Z : dzG} {G : dzW} {ad : dzA} {aX aM aO : Nat} (hI : lwI Z aX aM aO G ad) (v1 v2 : Int32) : lw_Ok l Z G ad aM aO yL_light wsL_light yX9_light wsX9_light [.ref aX, .int v1, .int v2, .ref aO] [.ref aM, .int v1, .int v2] rv_i (fun y => y.toInt64) (lwI Z aX aM aO) := by
  obtain ⟨nm, ns, nl, nx, nf, th, dy, ssf, sst, cfr, grw, bkk, iop, f3, f4, f5, f6, f12, f13, f14, f16, f17, f18, f20, f21, f22, f23, f24, f30, f31, f33, f34, f35, fo, hC, hM, hO, hB⟩ := hI
  have hB0 := hB
  obtain ⟨⟨b1, b2, b3⟩, ⟨b4, b5⟩, ⟨b6, b7⟩, ⟨b8, b9⟩, ⟨b10, b11, b12, b13⟩, b14, b15, b16⟩ := hB
  have g1 : 1 ≤ grw := Int32.le_trans (show (1 : Int32) ≤ 40 from by decide) b15.1
  have g2 : ¬ grw = 0 := fun z => by rw [z] at b15; exact absurd b15.1 (by decide)
  have hsw1 : ∀ k, k < nx → 1 ≤ f23 k ∧ ¬ f23 k = 0 := fun k hk => ⟨(b9 k hk).2.2.1.1, fun z => by have z1 := (b9 k hk).2.2.1.1; rw [z] at z1; exact absurd z1 (by decide)⟩
  have hsw2 : ∀ k, k < nx → ¬ f23 k = 0 := fun k hk => (hsw1 k hk).2
  rcases m_idx (n := ns) (by omega) v1 with c1 | ⟨sc, hsc, rfl⟩
  · exact lw_join (cl_D_light_no l hst v1 v2 hC hO c1) (fun G1 ad1 h => mo_M_light_no l v1 v2 h c1 b4) hM (fun z => absurd z (by decide)) (by decide) hB0
  · rcases m_idx (n := (m_ix nm f3 f4 f5 f6 f12 f13 sc).1) (Nat.lt_of_le_of_lt (m_im_c (f8 := (m_bc nm f3 f4 f5 f6)) (f9 := (m_br nm f3 f4 f5 f6)) (f10 := (m_tw nm f3 f4 f5 f6)) (f12 := f12) (f13 := f13) (sc := sc)) (by decide)) v2 with c2 | ⟨rk, hrk, rfl⟩
    · exact lw_join (cl_D_light_out l hst sc v2 hC hO hsc b4 c2) (fun G1 ad1 h => mo_M_light_out l sc v2 h hsc b4 c2) hM (fun z => absurd z (by decide)) (by decide) hB0
    · obtain ⟨j, hjj, hij⟩ := m_im_j hrk
      obtain ⟨j0, hj0, h00⟩ := m_im_j (Nat.lt_of_le_of_lt (Nat.zero_le rk) hrk)
      exact lw_join (cl_D_light_ok l hst sc rk j j0 hC hO hsc b4 hrk hij hjj h00 hj0 g1 g2 (Nat.le_trans (m_fi_len nl) (by omega)) (Nat.le_trans (m_fi_len nx) (by omega)) (fun j hj => hsw1 _ (m_fi_lt nx j hj).1)) (fun G1 ad1 h => mo_M_light_ok l sc rk j j0 h hsc b4 b6 b8 hrk hij hjj h00 hj0 g2 hsw2) hM (fun _ => congrArg Int32.toInt64 (by rw [m_mst_sts, m_mfl_lgt]; rfl)) (by decide) hB0
set_option maxHeartbeats 2000000 in
theorem st_seen (l : Launch) (hst : l.stackTraces = false) {Z : dzG} {G : dzW} {ad : dzA} {aX aM aO : Nat} (hI : lwI Z aX aM aO G ad) (v1 v2 v3 : Int32) : lw_Ok l Z G ad aM aO yL_seen wsL_seen yX9_seen wsX9_seen [.ref aX, .int v1, .int v2, .int v3, .ref aO] [.ref aM, .int v1, .int v2, .int v3] rv_i (fun y => y.toInt64) (lwI Z aX aM aO) := by
  obtain ⟨nm, ns, nl, nx, nf, th, dy, ssf, sst, cfr, grw, bkk, iop, f3, f4, f5, f6, f12, f13, f14, f16, f17, f18, f20, f21, f22, f23, f24, f30, f31, f33, f34, f35, fo, hC, hM, hO, hB⟩ := hI
  have hB0 := hB
  obtain ⟨⟨b1, b2, b3⟩, ⟨b4, b5⟩, ⟨b6, b7⟩, ⟨b8, b9⟩, ⟨b10, b11, b12, b13⟩, b14, b15, b16⟩ := hB
  rcases m_idx (n := nf) (by omega) v1 with c1 | ⟨i, hi, rfl⟩
  · exact lw_join (cl_D_seen_no1 l hst v1 v2 v3 hC hO b10 c1) (fun G1 ad1 h => mo_M_seen_no l v1 v2 v3 h b4 b10 (fun z => m_ix0 (by omega) c1 z.1)) hM (fun z => absurd z (by decide)) (by decide) hB0
  · rcases m_idx (n := ns) (by omega) v2 with c2 | ⟨sc, hsc, rfl⟩
    · exact lw_join (cl_D_seen_no2 l hst i v2 v3 hC hO b10 hi c2) (fun G1 ad1 h => mo_M_seen_no l (nI i) v2 v3 h b4 b10 (fun z => m_ix0 (by omega) c2 z.2)) hM (fun z => absurd z (by decide)) (by decide) hB0
    · rcases m_idx (n := 6) (by decide) v3 with c3 | ⟨rk, hrk, rfl⟩
      · have hbad : ¬ ((0 : Int32) ≤ v3 ∧ v3 ≤ 5) := fun z => c3.elim (fun q => Int32.not_lt.mpr z.1 q) (fun q => Int32.not_lt.mpr q (Int32.lt_of_le_of_lt z.2 (by decide)))
        exact lw_join (cl_D_seen_bad l hst sc i v3 hC hO b10 hi hsc b4 hbad) (fun G1 ad1 h => mo_M_seen_bad l i sc v3 h hi b10 hsc b4 hbad) hM (fun z => absurd z (by decide)) (by decide) hB0
      · exact lw_join (cl_D_seen_ok l hst sc i rk hC hO b10 hi hsc b4 hrk) (fun G1 ad1 h => mo_M_seen_ok l i sc rk h hi b10 hsc b4 hrk) hM (fun _ => by rw [Nat.add_assoc]) (by decide) hB0
set_option maxHeartbeats 2000000 in
theorem st_measured (l : Launch) (hst : l.stackTraces = false) {Z : dzG} {G : dzW} {ad : dzA} {aX aM aO : Nat} (hI : lwI Z aX aM aO G ad) (v1 v2 v3 : Int32) : lw_Ok l Z G ad aM aO yL_measured wsL_measured yX9_measured wsX9_measured [.ref aX, .int v1, .int v2, .int v3, .ref aO] [.ref aM, .int v1, .int v2, .int v3] rv_i (fun y => y.toInt64) (lwI Z aX aM aO) := by
  obtain ⟨nm, ns, nl, nx, nf, th, dy, ssf, sst, cfr, grw, bkk, iop, f3, f4, f5, f6, f12, f13, f14, f16, f17, f18, f20, f21, f22, f23, f24, f30, f31, f33, f34, f35, fo, hC, hM, hO, hB⟩ := hI
  have hB0 := hB
  obtain ⟨⟨b1, b2, b3⟩, ⟨b4, b5⟩, ⟨b6, b7⟩, ⟨b8, b9⟩, ⟨b10, b11, b12, b13⟩, b14, b15, b16⟩ := hB
  rcases m_idx (n := ns) (by omega) v1 with c1 | ⟨sc, hsc, rfl⟩
  · exact lw_join (cl_D_meas_no l hst v1 v2 v3 hC hO c1) (fun G1 ad1 h => mo_M_meas_no l v1 v2 v3 h c1 b4) hM (fun z => absurd z (by decide)) (by decide) hB0
  · rcases m_idx (n := (m_ix nm f3 f4 f5 f6 f12 f13 sc).1) (Nat.lt_of_le_of_lt (m_im_c (f8 := (m_bc nm f3 f4 f5 f6)) (f9 := (m_br nm f3 f4 f5 f6)) (f10 := (m_tw nm f3 f4 f5 f6)) (f12 := f12) (f13 := f13) (sc := sc)) (by decide)) v2 with c2 | ⟨rk, hrk, rfl⟩
    · exact lw_join (cl_D_meas_out1 l hst sc v2 v3 hC hO hsc b4 c2) (fun G1 ad1 h => mo_M_meas_out1 l sc v2 v3 h hsc b4 c2) hM (fun z => absurd z (by decide)) (by decide) hB0
    · rcases m_idx (n := (m_ix nm f3 f4 f5 f6 f12 f13 sc).1) (Nat.lt_of_le_of_lt (m_im_c (f8 := (m_bc nm f3 f4 f5 f6)) (f9 := (m_br nm f3 f4 f5 f6)) (f10 := (m_tw nm f3 f4 f5 f6)) (f12 := f12) (f13 := f13) (sc := sc)) (by decide)) v3 with c3 | ⟨ot, hot, rfl⟩
      · exact lw_join (cl_D_meas_out2 l hst sc rk v3 hC hO hsc b4 c3) (fun G1 ad1 h => mo_M_meas_out2 l sc rk v3 h hsc b4 hrk c3) hM (fun z => absurd z (by decide)) (by decide) hB0
      · by_cases c4 : rk = ot ∨ 6 ≤ rk ∨ 6 ≤ ot
        · exact lw_join (cl_D_meas_bad l hst sc rk ot hC hO hsc b4 hrk hot c4) (fun G1 ad1 h => mo_M_meas_bad l sc rk ot h hsc b4 hrk hot c4) hM (fun z => absurd z (by decide)) (by decide) hB0
        · obtain ⟨j, hjj, hij⟩ := m_im_j hrk
          obtain ⟨jo, hjo, hio⟩ := m_im_j hot
          exact lw_join (cl_D_meas_ok l  sc rk ot j jo hC hO hsc b4 b10 hrk hij hjj hot hio hjo (fun z => c4 (Or.inl z)) (by omega) (by omega) b12) (fun G1 ad1 h => mo_M_meas_ok l sc rk ot j jo h hsc b4 b10 hrk hij hjj hot hio hjo (by omega) (by omega) (fun z => c4 (Or.inl z))) hM (fun _ => rfl) (by decide) hB0
set_option maxHeartbeats 2000000 in
theorem st_booked (l : Launch) (hst : l.stackTraces = false) {Z : dzG} {G : dzW} {ad : dzA} {aX aM aO : Nat} (hI : lwI Z aX aM aO G ad) (v1 : Int32) : lw_Ok l Z G ad aM aO yL_booked wsL_booked yX9_booked wsX9_booked [.ref aX, .int v1, .ref aO] [.ref aM, .int v1] rv_i (fun y => y.toInt64) (lwI Z aX aM aO) := by
  obtain ⟨nm, ns, nl, nx, nf, th, dy, ssf, sst, cfr, grw, bkk, iop, f3, f4, f5, f6, f12, f13, f14, f16, f17, f18, f20, f21, f22, f23, f24, f30, f31, f33, f34, f35, fo, hC, hM, hO, hB⟩ := hI
  have hB0 := hB
  obtain ⟨⟨b1, b2, b3⟩, ⟨b4, b5⟩, ⟨b6, b7⟩, ⟨b8, b9⟩, ⟨b10, b11, b12, b13⟩, b14, b15, b16⟩ := hB
  rcases m_idx (n := 2) (by decide) v1 with c1 | ⟨k, hk, rfl⟩
  · have hb1 : ¬ ((0 : Int32) ≤ v1 ∧ v1 < 2) := fun z => c1.elim (fun q => Int32.not_lt.mpr z.1 q) (fun q => Int32.not_lt.mpr q z.2)
    have hb2 : ¬ ((0 : Int32) ≤ v1 ∧ v1 ≤ 1) := fun z => hb1 ⟨z.1, Int32.lt_of_le_of_lt z.2 (by decide)⟩
    exact lw_join (cl_D_booked_no l hst v1 hC hO hb1) (fun G1 ad1 h => mo_M_booked_no l v1 h hb2) hM (fun z => absurd z (by decide)) (by decide) hB0
  · by_cases c2 : iop = 0
    · exact lw_join (cl_D_booked_blind l hst k hC hO hk c2 b16) (fun G1 ad1 h => mo_M_booked_blind l k h hk c2) hM (fun z => absurd z (by decide)) (by decide) hB0
    · exact lw_join (cl_D_booked_ok l hst k hC hO hk c2 b16) (fun G1 ad1 h => mo_M_booked_ok l k h hk c2) hM (fun _ => rfl) (by decide) hB0
set_option maxHeartbeats 2000000 in
theorem st_isFresh (l : Launch) (hst : l.stackTraces = false) {Z : dzG} {G : dzW} {ad : dzA} {aX aM aO : Nat} (hI : lwI Z aX aM aO G ad) (v1 : Int32) : lw_Ok l Z G ad aM aO yL_isFresh wsL_isFresh yX9_isFresh wsX9_isFresh [.ref aX, .int v1, .ref aO] [.ref aM, .int v1] rv_i (fun y => if y = 0 then 0 else 1) (lwI Z aX aM aO) := by
  obtain ⟨nm, ns, nl, nx, nf, th, dy, ssf, sst, cfr, grw, bkk, iop, f3, f4, f5, f6, f12, f13, f14, f16, f17, f18, f20, f21, f22, f23, f24, f30, f31, f33, f34, f35, fo, hC, hM, hO, hB⟩ := hI
  have hB0 := hB
  obtain ⟨⟨b1, b2, b3⟩, ⟨b4, b5⟩, ⟨b6, b7⟩, ⟨b8, b9⟩, ⟨b10, b11, b12, b13⟩, b14, b15, b16⟩ := hB
  rcases m_idx (n := 2) (by decide) v1 with c1 | ⟨k, hk, rfl⟩
  · have hb1 : ¬ ((0 : Int32) ≤ v1 ∧ v1 < 2) := fun z => c1.elim (fun q => Int32.not_lt.mpr z.1 q) (fun q => Int32.not_lt.mpr q z.2)
    have hb2 : ¬ ((0 : Int32) ≤ v1 ∧ v1 ≤ 1) := fun z => hb1 ⟨z.1, Int32.lt_of_le_of_lt z.2 (by decide)⟩
    exact lw_join (cl_D_isFresh_no l hst v1 hC hO hb1) (fun G1 ad1 h => mo_M_isFresh_no l v1 h hb2) hM (fun z => absurd z (by decide)) (by decide) hB0
  · by_cases c2 : f34 k = -1
    · exact lw_join (cl_D_isFresh_none l hst k hC hO hk c2) (fun G1 ad1 h => mo_M_isFresh_none l k h hk c2) hM (fun z => absurd z (by decide)) (by decide) hB0
    · exact lw_join (cl_D_isFresh_ok l hst k hC hO b1 hk c2) (fun G1 ad1 h => mo_M_isFresh_ok l k h hk c2) hM (fun _ => rfl) (by decide) hB0
set_option maxHeartbeats 2000000 in
theorem st_dispute (l : Launch) (hst : l.stackTraces = false) {Z : dzG} {G : dzW} {ad : dzA} {aX aM aO : Nat} (hI : lwI Z aX aM aO G ad) : lw_Ok l Z G ad aM aO yL_dispute wsL_dispute yX9_dispute wsX9_dispute [.ref aX, .ref aO] [.ref aM] rv_i (fun y => y.toInt64) (lwI Z aX aM aO) := by
  obtain ⟨nm, ns, nl, nx, nf, th, dy, ssf, sst, cfr, grw, bkk, iop, f3, f4, f5, f6, f12, f13, f14, f16, f17, f18, f20, f21, f22, f23, f24, f30, f31, f33, f34, f35, fo, hC, hM, hO, hB⟩ := hI
  have hB0 := hB
  obtain ⟨⟨b1, b2, b3⟩, ⟨b4, b5⟩, ⟨b6, b7⟩, ⟨b8, b9⟩, ⟨b10, b11, b12, b13⟩, b14, b15, b16⟩ := hB
  by_cases c2 : iop = 0
  · exact lw_join (cl_D_dispute_blind l hst  hC hO c2 b16) (fun G1 ad1 h => mo_M_dispute_blind l  h c2) hM (fun z => absurd z (by decide)) (by decide) hB0
  · exact lw_join (cl_D_dispute_ok l hst  hC hO c2 b16) (fun G1 ad1 h => mo_M_dispute_ok l  h c2) hM (fun _ => rfl) (by decide) hB0
set_option maxHeartbeats 2000000 in
theorem st_day (l : Launch) {Z : dzG} {G : dzW} {ad : dzA} {aX aM aO : Nat} (hI : lwI Z aX aM aO G ad) : lw_D l Z G ad aX aM yX8_day wsX8_day yX9_day wsX9_day (lwI Z aX aM aO) := by
  obtain ⟨nm, ns, nl, nx, nf, th, dy, ssf, sst, cfr, grw, bkk, iop, f3, f4, f5, f6, f12, f13, f14, f16, f17, f18, f20, f21, f22, f23, f24, f30, f31, f33, f34, f35, fo, hC, hM, hO, hB⟩ := hI
  have hB0 := hB
  obtain ⟨⟨b1, b2, b3⟩, ⟨b4, b5⟩, ⟨b6, b7⟩, ⟨b8, b9⟩, ⟨b10, b11, b12, b13⟩, b14, b15, b16⟩ := hB
  obtain ⟨ca, cco, cR, ⟨c5, c6, c7⟩, cls, cso, ⟨pl, cpl, cpe⟩, cfl, cst, ⟨lg, cF, cFe⟩, ⟨S, Q, cS, cQ⟩, cb, c27, c28, c29⟩ := id hC
  refine ⟨dy, _, _, _, _, ?_, c_D_day l Z G ad aX nl nx dy ssf sst cfr grw ca cco, dz_po (mo_X9_day l hM) ?_⟩
  · exact ⟨by decide, by decide, by decide, by decide⟩
  · rintro y G2 ad2 ⟨rfl, fr, hM2⟩
    exact ⟨rfl, ⟨_, _, _, _, _, _, _, _, _, _, _, _, _, _, _, _, _, _, _, _, _, _, _, _, _, _, _, _, _, _, _, _, _, _, hC.frame (fun r h => fr r (by omega) (by omega)), hM2, ⟨(fr (50, 0) (by decide) (by decide)).1.trans hO.1, (fr (50, 0) (by decide) (by decide)).2.trans hO.2⟩, hB0⟩⟩
set_option maxHeartbeats 2000000 in
theorem st_lost (l : Launch) {Z : dzG} {G : dzW} {ad : dzA} {aX aM aO : Nat} (hI : lwI Z aX aM aO G ad) : lw_D l Z G ad aX aM yX8_lost wsX8_lost yX9_lost wsX9_lost (lwI Z aX aM aO) := by
  obtain ⟨nm, ns, nl, nx, nf, th, dy, ssf, sst, cfr, grw, bkk, iop, f3, f4, f5, f6, f12, f13, f14, f16, f17, f18, f20, f21, f22, f23, f24, f30, f31, f33, f34, f35, fo, hC, hM, hO, hB⟩ := hI
  have hB0 := hB
  obtain ⟨⟨b1, b2, b3⟩, ⟨b4, b5⟩, ⟨b6, b7⟩, ⟨b8, b9⟩, ⟨b10, b11, b12, b13⟩, b14, b15, b16⟩ := hB
  obtain ⟨ca, cco, cR, ⟨c5, c6, c7⟩, cls, cso, ⟨pl, cpl, cpe⟩, cfl, cst, ⟨lg, cF, cFe⟩, ⟨S, Q, cS, cQ⟩, cb, c27, c28, c29⟩ := id hC
  refine ⟨(m_all (fun j => dz_b (¬ (((-10) ≤ (m_tc nm f3 f4 f5 f6) j ∧ (m_tc nm f3 f4 f5 f6) j ≤ 10) ∧ ((-10) ≤ (m_tr nm f3 f4 f5 f6) j ∧ (m_tr nm f3 f4 f5 f6) j ≤ 10)))) 21), _, _, _, _, ?_, c_D_lost l Z G ad aX nl nx dy ssf sst cfr grw (m_tc nm f3 f4 f5 f6) (m_tr nm f3 f4 f5 f6) ca cco cR.1 c5 c6, dz_po (mo_X9_lost l hM) ?_⟩
  · exact ⟨by decide, by decide, by decide, by decide⟩
  · rintro y G2 ad2 ⟨rfl, fr, hM2⟩
    exact ⟨m_sg441 _, ⟨_, _, _, _, _, _, _, _, _, _, _, _, _, _, _, _, _, _, _, _, _, _, _, _, _, _, _, _, _, _, _, _, _, _, hC.frame (fun r h => fr r (by omega) (by omega)), hM2, ⟨(fr (50, 0) (by decide) (by decide)).1.trans hO.1, (fr (50, 0) (by decide) (by decide)).2.trans hO.2⟩, hB0⟩⟩
set_option maxHeartbeats 2000000 in
theorem st_frames (l : Launch) {Z : dzG} {G : dzW} {ad : dzA} {aX aM aO : Nat} (hI : lwI Z aX aM aO G ad) : lw_D l Z G ad aX aM yX8_frames wsX8_frames yX9_frames wsX9_frames (lwI Z aX aM aO) := by
  obtain ⟨nm, ns, nl, nx, nf, th, dy, ssf, sst, cfr, grw, bkk, iop, f3, f4, f5, f6, f12, f13, f14, f16, f17, f18, f20, f21, f22, f23, f24, f30, f31, f33, f34, f35, fo, hC, hM, hO, hB⟩ := hI
  have hB0 := hB
  obtain ⟨⟨b1, b2, b3⟩, ⟨b4, b5⟩, ⟨b6, b7⟩, ⟨b8, b9⟩, ⟨b10, b11, b12, b13⟩, b14, b15, b16⟩ := hB
  obtain ⟨ca, cco, cR, ⟨c5, c6, c7⟩, cls, cso, ⟨pl, cpl, cpe⟩, cfl, cst, ⟨lg, cF, cFe⟩, ⟨S, Q, cS, cQ⟩, cb, c27, c28, c29⟩ := id hC
  refine ⟨(nI nf), _, _, _, _, ?_, c_D_frames l Z G ad aX nl nx dy ssf sst cfr grw nf f30 lg ca cco cF b10, dz_po (mo_X9_frames l hM) ?_⟩
  · exact ⟨by decide, by decide, by decide, by decide⟩
  · rintro y G2 ad2 ⟨rfl, fr, hM2⟩
    exact ⟨rfl, ⟨_, _, _, _, _, _, _, _, _, _, _, _, _, _, _, _, _, _, _, _, _, _, _, _, _, _, _, _, _, _, _, _, _, _, hC.frame (fun r h => fr r (by omega) (by omega)), hM2, ⟨(fr (50, 0) (by decide) (by decide)).1.trans hO.1, (fr (50, 0) (by decide) (by decide)).2.trans hO.2⟩, hB0⟩⟩
