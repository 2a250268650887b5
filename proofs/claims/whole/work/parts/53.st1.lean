set_option maxHeartbeats 2000000 in
theorem st_frame (l : Launch) (hst : l.stackTraces = false) {Z : dzG} {G : dzW} {ad : dzA} {aX aM aO : Nat} (hI : lwI Z aX aM aO G ad) : lw_Ok l Z G ad aM aO yL_frame wsL_frame yX9_frame wsX9_frame [.ref aX, .ref aO] [.ref aM] rv_i (fun y => y.toInt64) (lwI Z aX aM aO) := by
  obtain ⟨nm, ns, nl, nx, nf, th, dy, ssf, sst, cfr, grw, bkk, iop, f3, f4, f5, f6, f12, f13, f14, f16, f17, f18, f20, f21, f22, f23, f24, f30, f31, f33, f34, f35, fo, hC, hM, hO, hB⟩ := hI
  have hB0 := hB
  obtain ⟨⟨b1, b2, b3⟩, ⟨b4, b5⟩, ⟨b6, b7⟩, ⟨b8, b9⟩, ⟨b10, b11, b12, b13⟩, b14, b15, b16⟩ := hB
  have g1 : 1 ≤ grw := Int32.le_trans (show (1 : Int32) ≤ 40 from by decide) b15.1
  have g2 : ¬ grw = 0 := fun z => by rw [z] at b15; exact absurd b15.1 (by decide)
  have hsw1 : ∀ k, k < nx → 1 ≤ f23 k ∧ ¬ f23 k = 0 := fun k hk => ⟨(b9 k hk).2.2.1.1, fun z => by have z1 := (b9 k hk).2.2.1.1; rw [z] at z1; exact absurd z1 (by decide)⟩
  have hsw2 : ∀ k, k < nx → ¬ f23 k = 0 := fun k hk => (hsw1 k hk).2
  by_cases c1 : (((ssf ≤ dy - dy / 100 * 100 ∧ dy - dy / 100 * 100 ≤ sst) ∧ ¬ dy < cfr) ∧ (nf < 60 ∧ (nf = 0 ∨ f30 (nf - 1) < dy)))
  · have c9 : nf < 60 := c1.2.1
    have hlv : ∀ a b, (m_lv (m_bc nm f3 f4 f5 f6) (m_br nm f3 f4 f5 f6) (m_tw nm f3 f4 f5 f6) f12 f13 f14 f16 f17 f18 f20 f21 f22 f23 f24 ns nl nx dy grw) a b = -1 ∨ (0 ≤ (m_lv (m_bc nm f3 f4 f5 f6) (m_br nm f3 f4 f5 f6) (m_tw nm f3 f4 f5 f6) f12 f13 f14 f16 f17 f18 f20 f21 f22 f23 f24 ns nl nx dy grw) a b ∧ (m_lv (m_bc nm f3 f4 f5 f6) (m_br nm f3 f4 f5 f6) (m_tw nm f3 f4 f5 f6) f12 f13 f14 f16 f17 f18 f20 f21 f22 f23 f24 ns nl nx dy grw) a b ≤ 118400) := m_lvb b5 b6 (fun k hk => (b7 k hk).1) b8 (fun k hk => (b9 k hk).2) b14
    have h30 : ∀ i, i + 1 = nf + 1 → upd f30 nf dy i ≤ dy := fun i h => by
      rw [show i = nf by omega, pk_us]
      exact Int32.le_refl _
    have h31 : ∀ j, j < 30 * (nf + 1) → m_ff nf f31 (m_lv (m_bc nm f3 f4 f5 f6) (m_br nm f3 f4 f5 f6) (m_tw nm f3 f4 f5 f6) f12 f13 f14 f16 f17 f18 f20 f21 f22 f23 f24 ns nl nx dy grw) 5 0 j = -1 ∨ (0 ≤ m_ff nf f31 (m_lv (m_bc nm f3 f4 f5 f6) (m_br nm f3 f4 f5 f6) (m_tw nm f3 f4 f5 f6) f12 f13 f14 f16 f17 f18 f20 f21 f22 f23 f24 ns nl nx dy grw) 5 0 j ∧ m_ff nf f31 (m_lv (m_bc nm f3 f4 f5 f6) (m_br nm f3 f4 f5 f6) (m_tw nm f3 f4 f5 f6) f12 f13 f14 f16 f17 f18 f20 f21 f22 f23 f24 ns nl nx dy grw) 5 0 j ≤ 118400) := by
      intro j hj
      by_cases c : j / 30 = nf ∧ (j % 30 / 6 < 5 ∨ (j % 30 / 6 = 5 ∧ j % 6 < 0))
      · rw [show m_ff nf f31 (m_lv (m_bc nm f3 f4 f5 f6) (m_br nm f3 f4 f5 f6) (m_tw nm f3 f4 f5 f6) f12 f13 f14 f16 f17 f18 f20 f21 f22 f23 f24 ns nl nx dy grw) 5 0 j = (m_lv (m_bc nm f3 f4 f5 f6) (m_br nm f3 f4 f5 f6) (m_tw nm f3 f4 f5 f6) f12 f13 f14 f16 f17 f18 f20 f21 f22 f23 f24 ns nl nx dy grw) (j % 30 / 6) (j % 6) from if_pos c]
        exact hlv _ _
      · rw [show m_ff nf f31 (m_lv (m_bc nm f3 f4 f5 f6) (m_br nm f3 f4 f5 f6) (m_tw nm f3 f4 f5 f6) f12 f13 f14 f16 f17 f18 f20 f21 f22 f23 f24 ns nl nx dy grw) 5 0 j = f31 j from if_neg c]
        exact b12 j (by omega)
    have h32 : ∀ i x, i < nf + 1 → x < 30 → ns ≤ x / 6 → m_ff nf f31 (m_lv (m_bc nm f3 f4 f5 f6) (m_br nm f3 f4 f5 f6) (m_tw nm f3 f4 f5 f6) f12 f13 f14 f16 f17 f18 f20 f21 f22 f23 f24 ns nl nx dy grw) 5 0 (30 * i + x) = -1 := by
      intro i x hi hx h
      by_cases c : (30 * i + x) / 30 = nf ∧ ((30 * i + x) % 30 / 6 < 5 ∨ ((30 * i + x) % 30 / 6 = 5 ∧ (30 * i + x) % 6 < 0))
      · rw [show m_ff nf f31 (m_lv (m_bc nm f3 f4 f5 f6) (m_br nm f3 f4 f5 f6) (m_tw nm f3 f4 f5 f6) f12 f13 f14 f16 f17 f18 f20 f21 f22 f23 f24 ns nl nx dy grw) 5 0 (30 * i + x) = (m_lv (m_bc nm f3 f4 f5 f6) (m_br nm f3 f4 f5 f6) (m_tw nm f3 f4 f5 f6) f12 f13 f14 f16 f17 f18 f20 f21 f22 f23 f24 ns nl nx dy grw) ((30 * i + x) % 30 / 6) ((30 * i + x) % 6) from if_pos c]
        exact if_neg (fun z => by have := z.1; omega)
      · rw [show m_ff nf f31 (m_lv (m_bc nm f3 f4 f5 f6) (m_br nm f3 f4 f5 f6) (m_tw nm f3 f4 f5 f6) f12 f13 f14 f16 f17 f18 f20 f21 f22 f23 f24 ns nl nx dy grw) 5 0 (30 * i + x) = f31 (30 * i + x) from if_neg c]
        exact b13 i x (by omega) hx h
    rcases Nat.eq_zero_or_pos nf with c2 | c2
    · exact lw_join (cl_D_frame_okE l   hC hO b4 b6 b8 g1 g2 hsw1 c1.1 (by omega) c2) (fun G1 ad1 h => mo_M_frame_ok l  h b4 b6 b8 g2 hsw2 c1) hM (fun _ => rfl) (by decide) ⟨⟨b1, b2, b3⟩, ⟨b4, b5⟩, ⟨b6, b7⟩, ⟨b8, b9⟩, ⟨by omega, h30, h31, h32⟩, b14, b15, b16⟩
    · have c3 : ¬ f30 (nf - 1) = dy := fun z => by have q := c1.2.2.resolve_left (by omega); rw [z] at q; exact Int32.lt_irrefl q
      exact lw_join (cl_D_frame_okN l   hC hO b4 b6 b8 g1 g2 hsw1 c1.1 (by omega) c2 c3) (fun G1 ad1 h => mo_M_frame_ok l  h b4 b6 b8 g2 hsw2 c1) hM (fun _ => rfl) (by decide) ⟨⟨b1, b2, b3⟩, ⟨b4, b5⟩, ⟨b6, b7⟩, ⟨b8, b9⟩, ⟨by omega, h30, h31, h32⟩, b14, b15, b16⟩
  · rcases Nat.eq_zero_or_pos nf with c2 | c2
    · exact lw_join (cl_D_frame_noE l hst  hC hO b10 c2 (fun z => c1 ⟨z, by omega, Or.inl c2⟩)) (fun G1 ad1 h => mo_M_frame_no l  h b10 c1) hM (fun z => absurd z (by decide)) (by decide) hB0
    · exact lw_join (cl_D_frame_noN l hst  hC hO b10 c2 (fun z => c1 ⟨z.1, by have := z.2.2; omega, Or.inr (m_lt (b11 (nf - 1) (by omega)) z.2.1)⟩)) (fun G1 ad1 h => mo_M_frame_no l  h b10 c1) hM (fun z => absurd z (by decide)) (by decide) hB0
set_option maxHeartbeats 2000000 in
theorem st_book (l : Launch) (hst : l.stackTraces = false) {Z : dzG} {G : dzW} {ad : dzA} {aX aM aO : Nat} (hI : lwI Z aX aM aO G ad) (v1 v2 v3 v4 : Int32) : lw_Ok l Z G ad aM aO yL_book wsL_book yX9_book wsX9_book [.ref aX, .int v1, .int v2, .int v3, .int v4, .ref aO] [.ref aM, .int v1, .int v2, .int v3, .int v4] rv_i (fun y => y.toInt64) (lwI Z aX aM aO) := by
  obtain ⟨nm, ns, nl, nx, nf, th, dy, ssf, sst, cfr, grw, bkk, iop, f3, f4, f5, f6, f12, f13, f14, f16, f17, f18, f20, f21, f22, f23, f24, f30, f31, f33, f34, f35, fo, hC, hM, hO, hB⟩ := hI
  have hB0 := hB
  obtain ⟨⟨b1, b2, b3⟩, ⟨b4, b5⟩, ⟨b6, b7⟩, ⟨b8, b9⟩, ⟨b10, b11, b12, b13⟩, b14, b15, b16⟩ := hB
  rcases m_idx (n := 2) (by decide) v1 with c1 | ⟨k, hk, rfl⟩
  · have hb1 : ¬ ((0 : Int32) ≤ v1 ∧ v1 < 2) := fun z => c1.elim (fun q => Int32.not_lt.mpr z.1 q) (fun q => Int32.not_lt.mpr q z.2)
    have hb2 : ¬ ((0 : Int32) ≤ v1 ∧ v1 ≤ 1) := fun z => hb1 ⟨z.1, Int32.lt_of_le_of_lt z.2 (by decide)⟩
    rcases m_idx (n := ns) (by omega) v2 with c2 | ⟨sc, hsc, rfl⟩
    · exact lw_join (cl_D_book_h1 l hst v1 v2 v3 v4 hC hO hb1 c2) (fun G1 ad1 h => mo_M_book_no1 l v1 v2 v3 v4 h hb2) hM (fun z => absurd z (by decide)) (by decide) hB0
    · exact lw_join (cl_D_book_h2 l hst sc v1 v3 v4 hC hO hsc b4 hb1) (fun G1 ad1 h => mo_M_book_no1 l v1 (nI sc) v3 v4 h hb2) hM (fun z => absurd z (by decide)) (by decide) hB0
  · rcases m_idx (n := ns) (by omega) v2 with c2 | ⟨sc, hsc, rfl⟩
    · exact lw_join (cl_D_book_s l hst k v2 v3 v4 hC hO hk c2) (fun G1 ad1 h => mo_M_book_no2 l k v2 v3 v4 h hk c2 b4) hM (fun z => absurd z (by decide)) (by decide) hB0
    · rcases m_idx (n := (m_ix nm f3 f4 f5 f6 f12 f13 sc).1) (Nat.lt_of_le_of_lt (m_im_c (f8 := (m_bc nm f3 f4 f5 f6)) (f9 := (m_br nm f3 f4 f5 f6)) (f10 := (m_tw nm f3 f4 f5 f6)) (f12 := f12) (f13 := f13) (sc := sc)) (by decide)) v3 with c3 | ⟨rk, hrk, rfl⟩
      · exact lw_join (cl_D_book_out1 l hst sc k v3 v4 hC hO hsc b4 hk c3) (fun G1 ad1 h => mo_M_book_out1 l k sc v3 v4 h hk hsc b4 c3) hM (fun z => absurd z (by decide)) (by decide) hB0
      · rcases m_idx (n := (m_ix nm f3 f4 f5 f6 f12 f13 sc).1) (Nat.lt_of_le_of_lt (m_im_c (f8 := (m_bc nm f3 f4 f5 f6)) (f9 := (m_br nm f3 f4 f5 f6)) (f10 := (m_tw nm f3 f4 f5 f6)) (f12 := f12) (f13 := f13) (sc := sc)) (by decide)) v4 with c4 | ⟨ot, hot, rfl⟩
        · exact lw_join (cl_D_book_out2 l hst sc k rk v4 hC hO hsc b4 hk c4) (fun G1 ad1 h => mo_M_book_out2 l k sc rk v4 h hk hsc b4 hrk c4) hM (fun z => absurd z (by decide)) (by decide) hB0
        · by_cases c5 : rk = ot
          · subst c5
            exact lw_join (cl_D_book_same l hst sc k rk hC hO hsc b4 hk hrk) (fun G1 ad1 h => mo_M_book_same l k sc rk h hk hsc b4 hrk) hM (fun z => absurd z (by decide)) (by decide) hB0
          · obtain ⟨j, hjj, hij⟩ := m_im_j hrk
            obtain ⟨jo, hjo, hio⟩ := m_im_j hot
            by_cases c6 : rk < 6 ∧ ot < 6
            · exact lw_join (cl_D_book_in l  k sc rk ot j jo hC hO hk b1 hsc b4 b10 hrk hij hjj hot hio hjo c5 c6.1 c6.2 b12) (fun G1 ad1 h => mo_M_book_in l k sc rk ot j jo h hk hsc b4 b10 hrk hij hjj hot hio hjo c5 c6.1 c6.2) hM (fun _ => rfl) (by decide) hB0
            · exact lw_join (cl_D_book_outm l  k sc rk ot j jo hC hO hk b1 hsc b4 b10 hrk hij hjj hot hio hjo c5 (by omega)) (fun G1 ad1 h => mo_M_book_outm l k sc rk ot j jo h hk hsc b4 b10 hrk hij hjj hot hio hjo c5 (by omega)) hM (fun _ => rfl) (by decide) hB0
set_option maxHeartbeats 2000000 in
theorem st_vote (l : Launch) (hst : l.stackTraces = false) {Z : dzG} {G : dzW} {ad : dzA} {aX aM aO : Nat} (hI : lwI Z aX aM aO G ad) (v1 v2 : Int32) (hbv : m_bl v2) : lw_Ok l Z G ad aM aO yL_vote wsL_vote yX9_vote wsX9_vote [.ref aX, .int v1, .int v2, .ref aO] [.ref aM, .int v1, .int v2] rv_i (fun y => if y = 0 then 0 else 1) (lwI Z aX aM aO) := by
  obtain ⟨nm, ns, nl, nx, nf, th, dy, ssf, sst, cfr, grw, bkk, iop, f3, f4, f5, f6, f12, f13, f14, f16, f17, f18, f20, f21, f22, f23, f24, f30, f31, f33, f34, f35, fo, hC, hM, hO, hB⟩ := hI
  have hB0 := hB
  obtain ⟨⟨b1, b2, b3⟩, ⟨b4, b5⟩, ⟨b6, b7⟩, ⟨b8, b9⟩, ⟨b10, b11, b12, b13⟩, b14, b15, b16⟩ := hB
  rcases m_idx (n := 5) (by decide) v1 with c1 | ⟨k, hk, rfl⟩
  · have hb1 : ¬ ((0 : Int32) ≤ v1 ∧ v1 < 5) := fun z => c1.elim (fun q => Int32.not_lt.mpr z.1 q) (fun q => Int32.not_lt.mpr q z.2)
    have hb2 : ¬ ((0 : Int32) ≤ v1 ∧ v1 ≤ 4) := fun z => hb1 ⟨z.1, Int32.lt_of_le_of_lt z.2 (by decide)⟩
    exact lw_join (cl_D_vote_bad l hst v1 v2 hC hO hb1) (fun G1 ad1 h => mo_M_vote_bad l v1 v2 h hb2) hM (fun z => absurd z (by decide)) (by decide) hB0
  · exact lw_join (cl_D_vote_ok l  k v2 hC hO hk hbv) (fun G1 ad1 h => mo_M_vote_ok l k v2 h hk hbv) hM (fun _ => rfl) (by decide) ⟨⟨b1, b2, b3⟩, ⟨b4, b5⟩, ⟨b6, b7⟩, ⟨b8, b9⟩, ⟨b10, b11, b12, b13⟩, b14, b15, m_op_bl _ _⟩
set_option maxHeartbeats 2000000 in
theorem st_from (l : Launch) (hst : l.stackTraces = false) {Z : dzG} {G : dzW} {ad : dzA} {aX aM aO : Nat} (hI : lwI Z aX aM aO G ad) (v1 v2 v3 : Int32) : lw_Ok l Z G ad aM aO yL_from wsL_from yX9_from wsX9_from [.ref aX, .int v1, .int v2, .int v3, .ref aO] [.ref aM, .int v1, .int v2, .int v3] rv_i (fun y => y.toInt64) (lwI Z aX aM aO) := by
  obtain ⟨nm, ns, nl, nx, nf, th, dy, ssf, sst, cfr, grw, bkk, iop, f3, f4, f5, f6, f12, f13, f14, f16, f17, f18, f20, f21, f22, f23, f24, f30, f31, f33, f34, f35, fo, hC, hM, hO, hB⟩ := hI
  have hB0 := hB
  obtain ⟨⟨b1, b2, b3⟩, ⟨b4, b5⟩, ⟨b6, b7⟩, ⟨b8, b9⟩, ⟨b10, b11, b12, b13⟩, b14, b15, b16⟩ := hB
  by_cases c1 : ((((-10) : Int32) ≤ v1 ∧ v1 ≤ 10) ∧ ((-10) ≤ v2 ∧ v2 ≤ 10))
  · obtain ⟨a, ha, rfl⟩ := m_fld c1.1
    obtain ⟨b, hb, rfl⟩ := m_fld c1.2
    exact lw_join (cl_D_from_ok l hst a b v3 hC hO ha hb) (fun G1 ad1 h => mo_M_from_ok l a b v3 h ha hb) hM (fun _ => rfl) (by decide) hB0
  · exact lw_join (cl_D_from_bad l hst v1 v2 v3 hC hO c1) (fun G1 ad1 h => mo_M_from_bad l v1 v2 v3 h c1) hM (fun z => absurd z (by decide)) (by decide) hB0
set_option maxHeartbeats 2000000 in
theorem st_hits (l : Launch) (hst : l.stackTraces = false) {Z : dzG} {G : dzW} {ad : dzA} {aX aM aO : Nat} (hI : lwI Z aX aM aO G ad) (v1 v2 : Int32) : lw_Ok l Z G ad aM aO yL_hits wsL_hits yX9_hits wsX9_hits [.ref aX, .int v1, .int v2, .ref aO] [.ref aM, .int v1, .int v2] rv_i (fun y => y.toInt64) (lwI Z aX aM aO) := by
  obtain ⟨nm, ns, nl, nx, nf, th, dy, ssf, sst, cfr, grw, bkk, iop, f3, f4, f5, f6, f12, f13, f14, f16, f17, f18, f20, f21, f22, f23, f24, f30, f31, f33, f34, f35, fo, hC, hM, hO, hB⟩ := hI
  have hB0 := hB
  obtain ⟨⟨b1, b2, b3⟩, ⟨b4, b5⟩, ⟨b6, b7⟩, ⟨b8, b9⟩, ⟨b10, b11, b12, b13⟩, b14, b15, b16⟩ := hB
  by_cases c1 : ((((-10) : Int32) ≤ v1 ∧ v1 ≤ 10) ∧ ((-10) ≤ v2 ∧ v2 ≤ 10))
  · exact lw_join (cl_D_hits_ok l hst v1 v2 hC hO c1) (fun G1 ad1 h => mo_M_hits_ok l v1 v2 h c1) hM (fun _ => congrArg Int32.toInt64 (m_sg441 _).symm) (by decide) hB0
  · exact lw_join (cl_D_hits_bad l hst v1 v2 hC hO c1) (fun G1 ad1 h => mo_M_hits_bad l v1 v2 h c1) hM (fun z => absurd z (by decide)) (by decide) hB0
set_option maxHeartbeats 2000000 in
theorem st_images (l : Launch) (hst : l.stackTraces = false) {Z : dzG} {G : dzW} {ad : dzA} {aX aM aO : Nat} (hI : lwI Z aX aM aO G ad) (v1 : Int32) : lw_Ok l Z G ad aM aO yL_images wsL_images yX9_images wsX9_images [.ref aX, .int v1, .ref aO] [.ref aM, .int v1] rv_i (fun y => y.toInt64) (lwI Z aX aM aO) := by
  obtain ⟨nm, ns, nl, nx, nf, th, dy, ssf, sst, cfr, grw, bkk, iop, f3, f4, f5, f6, f12, f13, f14, f16, f17, f18, f20, f21, f22, f23, f24, f30, f31, f33, f34, f35, fo, hC, hM, hO, hB⟩ := hI
  have hB0 := hB
  obtain ⟨⟨b1, b2, b3⟩, ⟨b4, b5⟩, ⟨b6, b7⟩, ⟨b8, b9⟩, ⟨b10, b11, b12, b13⟩, b14, b15, b16⟩ := hB
  rcases m_idx (n := ns) (by omega) v1 with c1 | ⟨sc, hsc, rfl⟩
  · exact lw_join (cl_D_images_no l hst v1 hC hO c1) (fun G1 ad1 h => mo_M_images_no l v1 h c1 b4) hM (fun z => absurd z (by decide)) (by decide) hB0
  · exact lw_join (cl_D_images_ok l hst sc hC hO hsc b4) (fun G1 ad1 h => mo_M_images_ok l sc h hsc b4) hM (fun _ => rfl) (by decide) hB0
set_option maxHeartbeats 2000000 in
theorem st_imagesAnew (l : Launch) (hst : l.stackTraces = false) {Z : dzG} {G : dzW} {ad : dzA} {aX aM aO : Nat} (hI : lwI Z aX aM aO G ad) (v1 : Int32) : lw_Ok l Z G ad aM aO yL_imagesAnew wsL_imagesAnew yX9_imagesAnew wsX9_imagesAnew [.ref aX, .int v1, .ref aO] [.ref aM, .int v1] rv_i (fun y => y.toInt64) (lwI Z aX aM aO) := by
  obtain ⟨nm, ns, nl, nx, nf, th, dy, ssf, sst, cfr, grw, bkk, iop, f3, f4, f5, f6, f12, f13, f14, f16, f17, f18, f20, f21, f22, f23, f24, f30, f31, f33, f34, f35, fo, hC, hM, hO, hB⟩ := hI
  have hB0 := hB
  obtain ⟨⟨b1, b2, b3⟩, ⟨b4, b5⟩, ⟨b6, b7⟩, ⟨b8, b9⟩, ⟨b10, b11, b12, b13⟩, b14, b15, b16⟩ := hB
  rcases m_idx (n := ns) (by omega) v1 with c1 | ⟨sc, hsc, rfl⟩
  · exact lw_join (cl_D_anew_no l hst v1 hC hO c1) (fun G1 ad1 h => mo_M_anew_no l v1 h c1 b4) hM (fun z => absurd z (by decide)) (by decide) hB0
  · exact lw_join (cl_D_anew_ok l hst sc hC hO hsc b4 b1 b2) (fun G1 ad1 h => mo_M_anew_ok l sc h hsc b4) hM (fun _ => congrArg Int32.toInt64 (m_im_n (f8 := (m_bc nm f3 f4 f5 f6)) (f9 := (m_br nm f3 f4 f5 f6)) (f10 := (m_tw nm f3 f4 f5 f6)) (f12 := f12) (f13 := f13) (sc := sc))) (by decide) hB0
set_option maxHeartbeats 2000000 in
theorem st_imageOf (l : Launch) (hst : l.stackTraces = false) {Z : dzG} {G : dzW} {ad : dzA} {aX aM aO : Nat} (hI : lwI Z aX aM aO G ad) (v1 v2 v3 : Int32) : lw_Ok l Z G ad aM aO yL_imageOf wsL_imageOf yX9_imageOf wsX9_imageOf [.ref aX, .int v1, .int v2, .int v3, .ref aO] [.ref aM, .int v1, .int v2, .int v3] rv_i (fun y => y.toInt64) (lwI Z aX aM aO) := by
  obtain ⟨nm, ns, nl, nx, nf, th, dy, ssf, sst, cfr, grw, bkk, iop, f3, f4, f5, f6, f12, f13, f14, f16, f17, f18, f20, f21, f22, f23, f24, f30, f31, f33, f34, f35, fo, hC, hM, hO, hB⟩ := hI
  have hB0 := hB
  obtain ⟨⟨b1, b2, b3⟩, ⟨b4, b5⟩, ⟨b6, b7⟩, ⟨b8, b9⟩, ⟨b10, b11, b12, b13⟩, b14, b15, b16⟩ := hB
  have g1 : 1 ≤ grw := Int32.le_trans (show (1 : Int32) ≤ 40 from by decide) b15.1
  have g2 : ¬ grw = 0 := fun z => by rw [z] at b15; exact absurd b15.1 (by decide)
  have hsw1 : ∀ k, k < nx → 1 ≤ f23 k ∧ ¬ f23 k = 0 := fun k hk => ⟨(b9 k hk).2.2.1.1, fun z => by have z1 := (b9 k hk).2.2.1.1; rw [z] at z1; exact absurd z1 (by decide)⟩
  have hsw2 : ∀ k, k < nx → ¬ f23 k = 0 := fun k hk => (hsw1 k hk).2
  rcases m_idx (n := ns) (by omega) v1 with c1 | ⟨sc, hsc, rfl⟩
  · exact lw_join (cl_D_imageOf_no l hst v1 v2 v3 hC hO c1) (fun G1 ad1 h => mo_M_imageOf_no l v1 v2 v3 h c1 b4) hM (fun z => absurd z (by decide)) (by decide) hB0
  · rcases m_idx (n := (m_ix nm f3 f4 f5 f6 f12 f13 sc).1) (Nat.lt_of_le_of_lt (m_im_c (f8 := (m_bc nm f3 f4 f5 f6)) (f9 := (m_br nm f3 f4 f5 f6)) (f10 := (m_tw nm f3 f4 f5 f6)) (f12 := f12) (f13 := f13) (sc := sc)) (by decide)) v2 with c2 | ⟨rk, hrk, rfl⟩
    · exact lw_join (cl_D_imageOf_out l hst sc v2 v3 hC hO hsc b4 c2) (fun G1 ad1 h => mo_M_imageOf_out l sc v2 v3 h hsc b4 c2) hM (fun z => absurd z (by decide)) (by decide) hB0
    · obtain ⟨j, hjj, hij⟩ := m_im_j hrk
      obtain ⟨j0, hj0, h00⟩ := m_im_j (Nat.lt_of_le_of_lt (Nat.zero_le rk) hrk)
      by_cases c3 : ((0 : Int32) ≤ v3 ∧ v3 ≤ 4)
      · rcases m_w5 c3 with rfl | rfl | rfl | rfl | rfl
        · exact lw_join (cl_D_imageOf_0 l hst sc rk j hC hO hsc b4 hrk hij hjj) (fun G1 ad1 h => mo_M_imageOf_0 l sc rk j h hsc b4 hrk hij hjj) hM (fun _ => rfl) (by decide) hB0
        · exact lw_join (cl_D_imageOf_1 l hst sc rk j hC hO hsc b4 hrk hij hjj) (fun G1 ad1 h => mo_M_imageOf_1 l sc rk j h hsc b4 hrk hij hjj) hM (fun _ => rfl) (by decide) hB0
        · exact lw_join (cl_D_imageOf_2 l hst sc rk j hC hO hsc b4 hrk hij hjj) (fun G1 ad1 h => mo_M_imageOf_2 l sc rk j h hsc b4 hrk hij hjj) hM (fun _ => rfl) (by decide) hB0
        · exact lw_join (cl_D_imageOf_3 l hst sc rk j hC hO hsc b4 hrk hij hjj) (fun G1 ad1 h => mo_M_imageOf_3 l sc rk j h hsc b4 hrk hij hjj) hM (fun _ => rfl) (by decide) hB0
        · exact lw_join (cl_D_imageOf_4 l hst sc rk j j0 hC hO hsc b4 hrk hij hjj h00 hj0 g1 g2) (fun G1 ad1 h => mo_M_imageOf_4 l sc rk j j0 h hsc b4 hrk hij hjj h00 hj0 g2) hM (fun _ => rfl) (by decide) hB0
      · exact lw_join (cl_D_imageOf_bad2 l hst sc rk v3 hC hO hsc b4 hrk c3) (fun G1 ad1 h => mo_M_imageOf_bad l sc rk v3 h hsc b4 hrk c3) hM (fun z => absurd z (by decide)) (by decide) hB0
set_option maxHeartbeats 2000000 in
theorem st_delay (l : Launch) (hst : l.stackTraces = false) {Z : dzG} {G : dzW} {ad : dzA} {aX aM aO : Nat} (hI : lwI Z aX aM aO G ad) (v1 v2 v3 : Int32) : lw_Ok l Z G ad aM aO yL_delay wsL_delay yX9_delay wsX9_delay [.ref aX, .int v1, .int v2, .int v3, .ref aO] [.ref aM, .int v1, .int v2, .int v3] rv_i (fun y => y.toInt64) (lwI Z aX aM aO) := by
  obtain ⟨nm, ns, nl, nx, nf, th, dy, ssf, sst, cfr, grw, bkk, iop, f3, f4, f5, f6, f12, f13, f14, f16, f17, f18, f20, f21, f22, f23, f24, f30, f31, f33, f34, f35, fo, hC, hM, hO, hB⟩ := hI
  have hB0 := hB
  obtain ⟨⟨b1, b2, b3⟩, ⟨b4, b5⟩, ⟨b6, b7⟩, ⟨b8, b9⟩, ⟨b10, b11, b12, b13⟩, b14, b15, b16⟩ := hB
  have g1 : 1 ≤ grw := Int32.le_trans (show (1 : Int32) ≤ 40 from by decide) b15.1
  have g2 : ¬ grw = 0 := fun z => by rw [z] at b15; exact absurd b15.1 (by decide)
  have hsw1 : ∀ k, k < nx → 1 ≤ f23 k ∧ ¬ f23 k = 0 := fun k hk => ⟨(b9 k hk).2.2.1.1, fun z => by have z1 := (b9 k hk).2.2.1.1; rw [z] at z1; exact absurd z1 (by decide)⟩
  have hsw2 : ∀ k, k < nx → ¬ f23 k = 0 := fun k hk => (hsw1 k hk).2
  rcases m_idx (n := ns) (by omega) v1 with c1 | ⟨sc, hsc, rfl⟩
  · exact lw_join (cl_D_delay_no l hst v1 v2 v3 hC hO c1) (fun G1 ad1 h => mo_M_delay_no l v1 v2 v3 h c1 b4) hM (fun z => absurd z (by decide)) (by decide) hB0
  · rcases m_idx (n := (m_ix nm f3 f4 f5 f6 f12 f13 sc).1) (Nat.lt_of_le_of_lt (m_im_c (f8 := (m_bc nm f3 f4 f5 f6)) (f9 := (m_br nm f3 f4 f5 f6)) (f10 := (m_tw nm f3 f4 f5 f6)) (f12 := f12) (f13 := f13) (sc := sc)) (by decide)) v2 with c2 | ⟨rk, hrk, rfl⟩
    · exact lw_join (cl_D_delay_out1 l hst sc v2 v3 hC hO hsc b4 c2) (fun G1 ad1 h => mo_M_delay_out1 l sc v2 v3 h hsc b4 c2) hM (fun z => absurd z (by decide)) (by decide) hB0
    · rcases m_idx (n := (m_ix nm f3 f4 f5 f6 f12 f13 sc).1) (Nat.lt_of_le_of_lt (m_im_c (f8 := (m_bc nm f3 f4 f5 f6)) (f9 := (m_br nm f3 f4 f5 f6)) (f10 := (m_tw nm f3 f4 f5 f6)) (f12 := f12) (f13 := f13) (sc := sc)) (by decide)) v3 with c3 | ⟨ot, hot, rfl⟩
      · exact lw_join (cl_D_delay_out2 l hst sc rk v3 hC hO hsc b4 c3) (fun G1 ad1 h => mo_M_delay_out2 l sc rk v3 h hsc b4 hrk c3) hM (fun z => absurd z (by decide)) (by decide) hB0
      · obtain ⟨j, hjj, hij⟩ := m_im_j hrk
        obtain ⟨jo, hjo, hio⟩ := m_im_j hot
        obtain ⟨j0, hj0, h00⟩ := m_im_j (Nat.lt_of_le_of_lt (Nat.zero_le rk) hrk)
        exact lw_join (cl_D_delay_ok l hst sc rk j ot jo j0 hC hO hsc b4 hrk hij hjj hot hio hjo h00 hj0 g1 g2) (fun G1 ad1 h => mo_M_delay_ok l sc rk ot j jo j0 h hsc b4 hrk hij hjj hot hio hjo h00 hj0 g2) hM (fun _ => rfl) (by decide) hB0

