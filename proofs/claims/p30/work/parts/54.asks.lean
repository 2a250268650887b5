/-! WHAT EACH CALL OF THE LAW'S WRAPPERS COMES TO -/
abbrev lw_ref (x : Int32) : Prop := x = -2000000001 ∨ x = -2000000002 ∨ x = -2000000003
/-- the light of an image as a frame keeps it -/
abbrev s_lv (S : lwS) (a b : Nat) : Int32 := m_lv (m_bc (S.1 0) (S.2.2 3) (S.2.2 4) (S.2.2 5) (S.2.2 6)) (m_br (S.1 0) (S.2.2 3) (S.2.2 4) (S.2.2 5) (S.2.2 6)) (m_tw (S.1 0) (S.2.2 3) (S.2.2 4) (S.2.2 5) (S.2.2 6)) (S.2.2 12) (S.2.2 13) (S.2.2 14) (S.2.2 16) (S.2.2 17) (S.2.2 18) (S.2.2 20) (S.2.2 21) (S.2.2 22) (S.2.2 23) (S.2.2 24) (S.1 1) (S.1 2) (S.1 3) (S.2.1 0) (S.2.1 4) a b
/-- what is asked: the answer, and all as it was -/
abbrev lw_A (l : Launch) (yL : MethodName) (wsL : List Cond) (Z : dzG) (G : dzW) (ad : dzA) (AL : List Value) (v : Int32) : Prop := dzWr l yL wsL 10 300 1 6 Z G ad AL rv_i (fun x G1 ad1 => x = v ∧ G1 = G ∧ ad1 = ad)
/-- what is told: refused, and all as it was; or taken, and the numbers as R says -/
abbrev lw_T (l : Launch) (yL : MethodName) (wsL : List Cond) (Z : dzG) (G : dzW) (ad : dzA) (aX : Nat) (S : lwS) (AL : List Value) (R : Int32 → lwS → Prop) : Prop := dzWr l yL wsL 10 300 5 600 Z G ad AL rv_i (fun x G1 ad1 => (∀ r : dzR, r.1 = 60 → G1 r = G r ∧ ad1 r = ad r) ∧ ∃ S' : lwS, lwC Z G1 ad1 aX S' ∧ lwB S' ∧ ((lw_ref x ∧ S' = S) ∨ R x S'))
theorem q_pos0 {x : Int32} : 0 ≤ m_pos x := by
  unfold m_pos
  by_cases c : x < 0
  · rw [if_pos c]
    exact Int32.le_refl _
  · rw [if_neg c]
    exact Int32.not_lt.mp c
theorem q_add0 {dy v1 : Int32} (h : 0 ≤ dy ∧ dy ≤ 2000) (h1 : (0 : Int32) ≤ v1 ∧ v1 ≤ 50) : 0 ≤ dy + v1 := by
  have a := m_le h (a := 0) (b := 2000) (by decide) (by decide)
  have b := m_le h1 (a := 0) (b := 50) (by decide) (by decide)
  have e : (dy + v1).toInt = dy.toInt + v1.toInt := Jvm.Kit.i32_add (by omega) (by omega)
  exact Jvm.Kit.i32_nonneg.mpr (by rw [e]; omega)
theorem q_op {io n : Int32} : ¬ io = 0 → ¬ m_op io n = 0 := by
  intro h
  unfold m_op
  first
    | (rw [if_neg h]; decide)
    | (rw [if_pos h]; decide)
theorem q_nb1 {fd A B : Nat → Int32} {nf : Nat} {tw on : Int32} : ∀ d, (m_nb fd A B nf tw on d).1 = -1 ∨ ∃ e, e < d ∧ (m_nb fd A B nf tw on d).1 = nI e := by
  intro d
  induction d with
  | zero => exact Or.inl rfl
  | succ d ih =>
    show (if (m_ni fd A B nf tw on (nI d) nf).2 < 3 then m_nb fd A B nf tw on d else if (m_nb fd A B nf tw on d).1 = -1 ∨ (m_ni fd A B nf tw on (nI d) nf).1 * (m_nb fd A B nf tw on d).2.2 < (m_nb fd A B nf tw on d).2.1 * (m_ni fd A B nf tw on (nI d) nf).2.toInt64 then (nI d, (m_ni fd A B nf tw on (nI d) nf).1, (m_ni fd A B nf tw on (nI d) nf).2.toInt64) else m_nb fd A B nf tw on d).1 = -1 ∨ ∃ e, e < d + 1 ∧ (if (m_ni fd A B nf tw on (nI d) nf).2 < 3 then m_nb fd A B nf tw on d else if (m_nb fd A B nf tw on d).1 = -1 ∨ (m_ni fd A B nf tw on (nI d) nf).1 * (m_nb fd A B nf tw on d).2.2 < (m_nb fd A B nf tw on d).2.1 * (m_ni fd A B nf tw on (nI d) nf).2.toInt64 then (nI d, (m_ni fd A B nf tw on (nI d) nf).1, (m_ni fd A B nf tw on (nI d) nf).2.toInt64) else m_nb fd A B nf tw on d).1 = nI e
    have ih' : (m_nb fd A B nf tw on d).1 = -1 ∨ ∃ e, e < d + 1 ∧ (m_nb fd A B nf tw on d).1 = nI e := by
      rcases ih with h | ⟨e, h1, h2⟩
      · exact Or.inl h
      · exact Or.inr ⟨e, by omega, h2⟩
    split
    · exact ih'
    · split
      · exact Or.inr ⟨d, by omega, rfl⟩
      · exact ih'
theorem q_nb {fd A B : Nat → Int32} {nf : Nat} {tw on : Int32} : 0 ≤ (m_nb fd A B nf tw on 151).1 ∨ (m_nb fd A B nf tw on 151).1 = -1 := by
  rcases q_nb1 (fd := fd) (A := A) (B := B) (nf := nf) (tw := tw) (on := on) 151 with h | ⟨e, h1, h2⟩
  · exact Or.inr h
  · rw [h2]
    exact Or.inl (nI_pos' (by omega))
set_option maxHeartbeats 1000000 in
theorem cl_D_imageOf_bad2 (l : Launch) (hst : l.stackTraces = false) {Z : dzG} {G : dzW} {ad : dzA} {aX : Nat} {nm ns nl nx nf : Nat} {dy ssf sst cfr grw bkk iop : Int32} {f3 f4 f5 f6 f12 f13 f14 f16 f17 f18 f20 f21 f22 f23 f24 f30 f31 f33 f34 f35 : Nat → Int32} (sc : Nat) (rk : Nat) (v3 : Int32) (hC : dz_Cl Z G ad aX nm ns nl nx nf dy ssf sst cfr grw bkk iop f3 f4 f5 f6 f12 f13 f14 f16 f17 f18 f20 f21 f22 f23 f24 f30 f31 f33 f34 f35) (hsc : sc < ns) (hns : ns ≤ 5) (hrk : rk < (m_ix nm f3 f4 f5 f6 f12 f13 sc).1) (hbad : ¬ ((0 : Int32) ≤ v3 ∧ v3 ≤ 4)) : dzWr l yL_imageOf wsL_imageOf (6 + 1) (8 + (5 + 11) + 85) 1 6 Z G ad [.ref aX, .int (nI sc), .int (nI rk), .int v3] rv_i (fun x G1 ad1 => x = (-2000000002) ∧ G1 = G ∧ ad1 = ad) := by
  obtain ⟨ca, cco, cR, ⟨c5, c6, c7⟩, cls, cso, ⟨pl, cpl, cpe⟩, cfl, cst, ⟨lg, cF, cFe⟩, ⟨S, Q, cS, cQ⟩, cb, c27, c28, c29⟩ := id hC
  exact c_L_imageOf_X2 l Z G ad aX (nI sc) (nI rk) v3 _ _ _ ca cco (c_D_imageOf_bad2 l hst Z G ad aX nl nx dy ssf sst cfr grw ns sc (fun i => (m_ix nm f3 f4 f5 f6 f12 f13 i).1) f12 f13 f14 rk v3 ca cco cls hsc hns (cso sc hsc) hrk m_im_c hbad)
set_option maxHeartbeats 2000000 in
theorem e_from (l : Launch) (hst : l.stackTraces = false) {Z : dzG} {aX : Nat} {S : lwS} (hB : lwB S) (v1 v2 v3 : Int32) : ∃ v : Int32, ∀ (G : dzW) (ad : dzA), lwC Z G ad aX S → lw_A l yL_from wsL_from Z G ad [.ref aX, .int v1, .int v2, .int v3] v := by
  have hB0 := hB
  obtain ⟨⟨⟨b1, b2, b3⟩, ⟨b4, b5⟩, ⟨b6, b7⟩, ⟨b8, b9⟩, ⟨b10, b11, b12, b13⟩, b14, b15, b16⟩, hF⟩ := hB
  by_cases c1 : ((((-10) : Int32) ≤ v1 ∧ v1 ≤ 10) ∧ ((-10) ≤ v2 ∧ v2 ≤ 10))
  · obtain ⟨a, ha, rfl⟩ := m_fld c1.1
    obtain ⟨b, hb, rfl⟩ := m_fld c1.2
    exact ⟨_, fun G ad hC => dz_wide (dz_RW (cl_D_from_ok l hst a b v3 hC ha hb)) (by decide) (by decide) (by decide) (by decide)⟩
  · exact ⟨_, fun G ad hC => dz_wide (cl_D_from_bad l hst v1 v2 v3 hC c1) (by decide) (by decide) (by decide) (by decide)⟩
set_option maxHeartbeats 2000000 in
theorem e_hits (l : Launch) (hst : l.stackTraces = false) {Z : dzG} {aX : Nat} {S : lwS} (hB : lwB S) (v1 v2 : Int32) : ∃ v : Int32, ∀ (G : dzW) (ad : dzA), lwC Z G ad aX S → lw_A l yL_hits wsL_hits Z G ad [.ref aX, .int v1, .int v2] v := by
  have hB0 := hB
  obtain ⟨⟨⟨b1, b2, b3⟩, ⟨b4, b5⟩, ⟨b6, b7⟩, ⟨b8, b9⟩, ⟨b10, b11, b12, b13⟩, b14, b15, b16⟩, hF⟩ := hB
  by_cases c1 : ((((-10) : Int32) ≤ v1 ∧ v1 ≤ 10) ∧ ((-10) ≤ v2 ∧ v2 ≤ 10))
  · exact ⟨_, fun G ad hC => dz_wide (dz_RW (cl_D_hits_ok l hst v1 v2 hC c1)) (by decide) (by decide) (by decide) (by decide)⟩
  · exact ⟨_, fun G ad hC => dz_wide (cl_D_hits_bad l hst v1 v2 hC c1) (by decide) (by decide) (by decide) (by decide)⟩
set_option maxHeartbeats 2000000 in
theorem e_images (l : Launch) (hst : l.stackTraces = false) {Z : dzG} {aX : Nat} {S : lwS} (hB : lwB S) (v1 : Int32) : ∃ v : Int32, ∀ (G : dzW) (ad : dzA), lwC Z G ad aX S → lw_A l yL_images wsL_images Z G ad [.ref aX, .int v1] v := by
  have hB0 := hB
  obtain ⟨⟨⟨b1, b2, b3⟩, ⟨b4, b5⟩, ⟨b6, b7⟩, ⟨b8, b9⟩, ⟨b10, b11, b12, b13⟩, b14, b15, b16⟩, hF⟩ := hB
  rcases m_idx (n := (S.1 1)) (by omega) v1 with c1 | ⟨sc, hsc, rfl⟩
  · exact ⟨_, fun G ad hC => dz_wide (cl_D_images_no l hst v1 hC c1) (by decide) (by decide) (by decide) (by decide)⟩
  · exact ⟨_, fun G ad hC => dz_wide (dz_RW (cl_D_images_ok l hst sc hC hsc b4)) (by decide) (by decide) (by decide) (by decide)⟩
set_option maxHeartbeats 2000000 in
theorem e_imagesAnew (l : Launch) (hst : l.stackTraces = false) {Z : dzG} {aX : Nat} {S : lwS} (hB : lwB S) (v1 : Int32) : ∃ v : Int32, ∀ (G : dzW) (ad : dzA), lwC Z G ad aX S → lw_A l yL_anew wsL_anew Z G ad [.ref aX, .int v1] v := by
  have hB0 := hB
  obtain ⟨⟨⟨b1, b2, b3⟩, ⟨b4, b5⟩, ⟨b6, b7⟩, ⟨b8, b9⟩, ⟨b10, b11, b12, b13⟩, b14, b15, b16⟩, hF⟩ := hB
  rcases m_idx (n := (S.1 1)) (by omega) v1 with c1 | ⟨sc, hsc, rfl⟩
  · exact ⟨_, fun G ad hC => dz_wide (cl_D_anew_no l hst v1 hC c1) (by decide) (by decide) (by decide) (by decide)⟩
  · exact ⟨_, fun G ad hC => dz_wide (dz_RW (cl_D_anew_ok l hst sc hC hsc b4 b1 b2)) (by decide) (by decide) (by decide) (by decide)⟩
set_option maxHeartbeats 2000000 in
theorem e_imageOf (l : Launch) (hst : l.stackTraces = false) {Z : dzG} {aX : Nat} {S : lwS} (hB : lwB S) (v1 v2 v3 : Int32) : ∃ v : Int32, ∀ (G : dzW) (ad : dzA), lwC Z G ad aX S → lw_A l yL_imageOf wsL_imageOf Z G ad [.ref aX, .int v1, .int v2, .int v3] v := by
  have hB0 := hB
  obtain ⟨⟨⟨b1, b2, b3⟩, ⟨b4, b5⟩, ⟨b6, b7⟩, ⟨b8, b9⟩, ⟨b10, b11, b12, b13⟩, b14, b15, b16⟩, hF⟩ := hB
  have g1 : 1 ≤ (S.2.1 4) := Int32.le_trans (show (1 : Int32) ≤ 40 from by decide) b15.1
  have g2 : ¬ (S.2.1 4) = 0 := fun z => by rw [z] at b15; exact absurd b15.1 (by decide)
  have hsw1 : ∀ k, k < (S.1 3) → 1 ≤ (S.2.2 23) k ∧ ¬ (S.2.2 23) k = 0 := fun k hk => ⟨(b9 k hk).2.2.1.1, fun z => by have z1 := (b9 k hk).2.2.1.1; rw [z] at z1; exact absurd z1 (by decide)⟩
  have hsw2 : ∀ k, k < (S.1 3) → ¬ (S.2.2 23) k = 0 := fun k hk => (hsw1 k hk).2
  rcases m_idx (n := (S.1 1)) (by omega) v1 with c1 | ⟨sc, hsc, rfl⟩
  · exact ⟨_, fun G ad hC => dz_wide (cl_D_imageOf_no l hst v1 v2 v3 hC c1) (by decide) (by decide) (by decide) (by decide)⟩
  · rcases m_idx (n := (m_ix (S.1 0) (S.2.2 3) (S.2.2 4) (S.2.2 5) (S.2.2 6) (S.2.2 12) (S.2.2 13) sc).1) (Nat.lt_of_le_of_lt m_im_c (by decide)) v2 with c2 | ⟨rk, hrk, rfl⟩
    · exact ⟨_, fun G ad hC => dz_wide (cl_D_imageOf_out l hst sc v2 v3 hC hsc b4 c2) (by decide) (by decide) (by decide) (by decide)⟩
    · obtain ⟨j, hjj, hij⟩ := m_im_j hrk
      obtain ⟨j0, hj0, h00⟩ := m_im_j (Nat.lt_of_le_of_lt (Nat.zero_le rk) hrk)
      by_cases c3 : ((0 : Int32) ≤ v3 ∧ v3 ≤ 4)
      · rcases m_w5 c3 with rfl | rfl | rfl | rfl | rfl
        · exact ⟨_, fun G ad hC => dz_wide (dz_RW (cl_D_imageOf_0 l hst sc rk j hC hsc b4 hrk hij hjj)) (by decide) (by decide) (by decide) (by decide)⟩
        · exact ⟨_, fun G ad hC => dz_wide (dz_RW (cl_D_imageOf_1 l hst sc rk j hC hsc b4 hrk hij hjj)) (by decide) (by decide) (by decide) (by decide)⟩
        · exact ⟨_, fun G ad hC => dz_wide (dz_RW (cl_D_imageOf_2 l hst sc rk j hC hsc b4 hrk hij hjj)) (by decide) (by decide) (by decide) (by decide)⟩
        · exact ⟨_, fun G ad hC => dz_wide (dz_RW (cl_D_imageOf_3 l hst sc rk j hC hsc b4 hrk hij hjj)) (by decide) (by decide) (by decide) (by decide)⟩
        · exact ⟨_, fun G ad hC => dz_wide (dz_RW (cl_D_imageOf_4 l hst sc rk j j0 hC hsc b4 hrk hij hjj h00 hj0 g1 g2)) (by decide) (by decide) (by decide) (by decide)⟩
      · exact ⟨_, fun G ad hC => dz_wide (cl_D_imageOf_bad2 l hst sc rk v3 hC hsc b4 hrk c3) (by decide) (by decide) (by decide) (by decide)⟩
set_option maxHeartbeats 2000000 in
theorem e_delay (l : Launch) (hst : l.stackTraces = false) {Z : dzG} {aX : Nat} {S : lwS} (hB : lwB S) (v1 v2 v3 : Int32) : ∃ v : Int32, ∀ (G : dzW) (ad : dzA), lwC Z G ad aX S → lw_A l yL_delay wsL_delay Z G ad [.ref aX, .int v1, .int v2, .int v3] v := by
  have hB0 := hB
  obtain ⟨⟨⟨b1, b2, b3⟩, ⟨b4, b5⟩, ⟨b6, b7⟩, ⟨b8, b9⟩, ⟨b10, b11, b12, b13⟩, b14, b15, b16⟩, hF⟩ := hB
  have g1 : 1 ≤ (S.2.1 4) := Int32.le_trans (show (1 : Int32) ≤ 40 from by decide) b15.1
  have g2 : ¬ (S.2.1 4) = 0 := fun z => by rw [z] at b15; exact absurd b15.1 (by decide)
  have hsw1 : ∀ k, k < (S.1 3) → 1 ≤ (S.2.2 23) k ∧ ¬ (S.2.2 23) k = 0 := fun k hk => ⟨(b9 k hk).2.2.1.1, fun z => by have z1 := (b9 k hk).2.2.1.1; rw [z] at z1; exact absurd z1 (by decide)⟩
  have hsw2 : ∀ k, k < (S.1 3) → ¬ (S.2.2 23) k = 0 := fun k hk => (hsw1 k hk).2
  rcases m_idx (n := (S.1 1)) (by omega) v1 with c1 | ⟨sc, hsc, rfl⟩
  · exact ⟨_, fun G ad hC => dz_wide (cl_D_delay_no l hst v1 v2 v3 hC c1) (by decide) (by decide) (by decide) (by decide)⟩
  · rcases m_idx (n := (m_ix (S.1 0) (S.2.2 3) (S.2.2 4) (S.2.2 5) (S.2.2 6) (S.2.2 12) (S.2.2 13) sc).1) (Nat.lt_of_le_of_lt m_im_c (by decide)) v2 with c2 | ⟨rk, hrk, rfl⟩
    · exact ⟨_, fun G ad hC => dz_wide (cl_D_delay_out1 l hst sc v2 v3 hC hsc b4 c2) (by decide) (by decide) (by decide) (by decide)⟩
    · rcases m_idx (n := (m_ix (S.1 0) (S.2.2 3) (S.2.2 4) (S.2.2 5) (S.2.2 6) (S.2.2 12) (S.2.2 13) sc).1) (Nat.lt_of_le_of_lt m_im_c (by decide)) v3 with c3 | ⟨ot, hot, rfl⟩
      · exact ⟨_, fun G ad hC => dz_wide (cl_D_delay_out2 l hst sc rk v3 hC hsc b4 c3) (by decide) (by decide) (by decide) (by decide)⟩
      · obtain ⟨j, hjj, hij⟩ := m_im_j hrk
        obtain ⟨jo, hjo, hio⟩ := m_im_j hot
        obtain ⟨j0, hj0, h00⟩ := m_im_j (Nat.lt_of_le_of_lt (Nat.zero_le rk) hrk)
        exact ⟨_, fun G ad hC => dz_wide (dz_RW (cl_D_delay_ok l hst sc rk j ot jo j0 hC hsc b4 hrk hij hjj hot hio hjo h00 hj0 g1 g2)) (by decide) (by decide) (by decide) (by decide)⟩
set_option maxHeartbeats 2000000 in
theorem e_light (l : Launch) (hst : l.stackTraces = false) {Z : dzG} {aX : Nat} {S : lwS} (hB : lwB S) (v1 v2 : Int32) : ∃ v : Int32, ∀ (G : dzW) (ad : dzA), lwC Z G ad aX S → lw_A l yL_light wsL_light Z G ad [.ref aX, .int v1, .int v2] v := by
  have hB0 := hB
  obtain ⟨⟨⟨b1, b2, b3⟩, ⟨b4, b5⟩, ⟨b6, b7⟩, ⟨b8, b9⟩, ⟨b10, b11, b12, b13⟩, b14, b15, b16⟩, hF⟩ := hB
  have g1 : 1 ≤ (S.2.1 4) := Int32.le_trans (show (1 : Int32) ≤ 40 from by decide) b15.1
  have g2 : ¬ (S.2.1 4) = 0 := fun z => by rw [z] at b15; exact absurd b15.1 (by decide)
  have hsw1 : ∀ k, k < (S.1 3) → 1 ≤ (S.2.2 23) k ∧ ¬ (S.2.2 23) k = 0 := fun k hk => ⟨(b9 k hk).2.2.1.1, fun z => by have z1 := (b9 k hk).2.2.1.1; rw [z] at z1; exact absurd z1 (by decide)⟩
  have hsw2 : ∀ k, k < (S.1 3) → ¬ (S.2.2 23) k = 0 := fun k hk => (hsw1 k hk).2
  rcases m_idx (n := (S.1 1)) (by omega) v1 with c1 | ⟨sc, hsc, rfl⟩
  · exact ⟨_, fun G ad hC => dz_wide (cl_D_light_no l hst v1 v2 hC c1) (by decide) (by decide) (by decide) (by decide)⟩
  · rcases m_idx (n := (m_ix (S.1 0) (S.2.2 3) (S.2.2 4) (S.2.2 5) (S.2.2 6) (S.2.2 12) (S.2.2 13) sc).1) (Nat.lt_of_le_of_lt m_im_c (by decide)) v2 with c2 | ⟨rk, hrk, rfl⟩
    · exact ⟨_, fun G ad hC => dz_wide (cl_D_light_out l hst sc v2 hC hsc b4 c2) (by decide) (by decide) (by decide) (by decide)⟩
    · obtain ⟨j, hjj, hij⟩ := m_im_j hrk
      obtain ⟨j0, hj0, h00⟩ := m_im_j (Nat.lt_of_le_of_lt (Nat.zero_le rk) hrk)
      exact ⟨_, fun G ad hC => dz_wide (dz_RW (cl_D_light_ok l hst sc rk j j0 hC hsc b4 hrk hij hjj h00 hj0 g1 g2 (Nat.le_trans (m_fi_len (S.1 2)) (by omega)) (Nat.le_trans (m_fi_len (S.1 3)) (by omega)) (fun j hj => hsw1 _ (m_fi_lt (S.1 3) j hj).1))) (by decide) (by decide) (by decide) (by decide)⟩
set_option maxHeartbeats 2000000 in
theorem e_seen (l : Launch) (hst : l.stackTraces = false) {Z : dzG} {aX : Nat} {S : lwS} (hB : lwB S) (v1 v2 v3 : Int32) : ∃ v : Int32, ∀ (G : dzW) (ad : dzA), lwC Z G ad aX S → lw_A l yL_seen wsL_seen Z G ad [.ref aX, .int v1, .int v2, .int v3] v := by
  have hB0 := hB
  obtain ⟨⟨⟨b1, b2, b3⟩, ⟨b4, b5⟩, ⟨b6, b7⟩, ⟨b8, b9⟩, ⟨b10, b11, b12, b13⟩, b14, b15, b16⟩, hF⟩ := hB
  rcases m_idx (n := (S.1 4)) (by omega) v1 with c1 | ⟨i, hi, rfl⟩
  · exact ⟨_, fun G ad hC => dz_wide (cl_D_seen_no1 l hst v1 v2 v3 hC b10 c1) (by decide) (by decide) (by decide) (by decide)⟩
  · rcases m_idx (n := (S.1 1)) (by omega) v2 with c2 | ⟨sc, hsc, rfl⟩
    · exact ⟨_, fun G ad hC => dz_wide (cl_D_seen_no2 l hst i v2 v3 hC b10 hi c2) (by decide) (by decide) (by decide) (by decide)⟩
    · rcases m_idx (n := 6) (by decide) v3 with c3 | ⟨rk, hrk, rfl⟩
      · have hbad : ¬ ((0 : Int32) ≤ v3 ∧ v3 ≤ 5) := fun z => c3.elim (fun q => Int32.not_lt.mpr z.1 q) (fun q => Int32.not_lt.mpr q (Int32.lt_of_le_of_lt z.2 (by decide)))
        exact ⟨_, fun G ad hC => dz_wide (cl_D_seen_bad l hst sc i v3 hC b10 hi hsc b4 hbad) (by decide) (by decide) (by decide) (by decide)⟩
      · exact ⟨_, fun G ad hC => dz_wide (dz_RW (cl_D_seen_ok l hst sc i rk hC b10 hi hsc b4 hrk)) (by decide) (by decide) (by decide) (by decide)⟩
set_option maxHeartbeats 2000000 in
theorem e_booked (l : Launch) (hst : l.stackTraces = false) {Z : dzG} {aX : Nat} {S : lwS} (hB : lwB S) (v1 : Int32) : ∃ v : Int32, ∀ (G : dzW) (ad : dzA), lwC Z G ad aX S → lw_A l yL_booked wsL_booked Z G ad [.ref aX, .int v1] v := by
  have hB0 := hB
  obtain ⟨⟨⟨b1, b2, b3⟩, ⟨b4, b5⟩, ⟨b6, b7⟩, ⟨b8, b9⟩, ⟨b10, b11, b12, b13⟩, b14, b15, b16⟩, hF⟩ := hB
  rcases m_idx (n := 2) (by decide) v1 with c1 | ⟨k, hk, rfl⟩
  · have hb1 : ¬ ((0 : Int32) ≤ v1 ∧ v1 < 2) := fun z => c1.elim (fun q => Int32.not_lt.mpr z.1 q) (fun q => Int32.not_lt.mpr q z.2)
    have hb2 : ¬ ((0 : Int32) ≤ v1 ∧ v1 ≤ 1) := fun z => hb1 ⟨z.1, Int32.lt_of_le_of_lt z.2 (by decide)⟩
    exact ⟨_, fun G ad hC => dz_wide (cl_D_booked_no l hst v1 hC hb1) (by decide) (by decide) (by decide) (by decide)⟩
  · by_cases c2 : (S.2.1 6) = 0
    · exact ⟨_, fun G ad hC => dz_wide (cl_D_booked_blind l hst k hC hk c2 b16) (by decide) (by decide) (by decide) (by decide)⟩
    · exact ⟨_, fun G ad hC => dz_wide (dz_RW (cl_D_booked_ok l hst k hC hk c2 b16)) (by decide) (by decide) (by decide) (by decide)⟩
set_option maxHeartbeats 2000000 in
theorem e_isFresh (l : Launch) (hst : l.stackTraces = false) {Z : dzG} {aX : Nat} {S : lwS} (hB : lwB S) (v1 : Int32) : ∃ v : Int32, ∀ (G : dzW) (ad : dzA), lwC Z G ad aX S → lw_A l yL_isFresh wsL_isFresh Z G ad [.ref aX, .int v1] v := by
  have hB0 := hB
  obtain ⟨⟨⟨b1, b2, b3⟩, ⟨b4, b5⟩, ⟨b6, b7⟩, ⟨b8, b9⟩, ⟨b10, b11, b12, b13⟩, b14, b15, b16⟩, hF⟩ := hB
  rcases m_idx (n := 2) (by decide) v1 with c1 | ⟨k, hk, rfl⟩
  · have hb1 : ¬ ((0 : Int32) ≤ v1 ∧ v1 < 2) := fun z => c1.elim (fun q => Int32.not_lt.mpr z.1 q) (fun q => Int32.not_lt.mpr q z.2)
    have hb2 : ¬ ((0 : Int32) ≤ v1 ∧ v1 ≤ 1) := fun z => hb1 ⟨z.1, Int32.lt_of_le_of_lt z.2 (by decide)⟩
    exact ⟨_, fun G ad hC => dz_wide (cl_D_isFresh_no l hst v1 hC hb1) (by decide) (by decide) (by decide) (by decide)⟩
  · by_cases c2 : (S.2.2 34) k = -1
    · exact ⟨_, fun G ad hC => dz_wide (cl_D_isFresh_none l hst k hC hk c2) (by decide) (by decide) (by decide) (by decide)⟩
    · exact ⟨_, fun G ad hC => dz_wide (dz_RW (cl_D_isFresh_ok l hst k hC b1 hk c2)) (by decide) (by decide) (by decide) (by decide)⟩
set_option maxHeartbeats 2000000 in
theorem e_dispute (l : Launch) (hst : l.stackTraces = false) {Z : dzG} {aX : Nat} {S : lwS} (hB : lwB S) : ∃ v : Int32, ∀ (G : dzW) (ad : dzA), lwC Z G ad aX S → lw_A l yL_dispute wsL_dispute Z G ad [.ref aX] v := by
  have hB0 := hB
  obtain ⟨⟨⟨b1, b2, b3⟩, ⟨b4, b5⟩, ⟨b6, b7⟩, ⟨b8, b9⟩, ⟨b10, b11, b12, b13⟩, b14, b15, b16⟩, hF⟩ := hB
  by_cases c2 : (S.2.1 6) = 0
  · exact ⟨_, fun G ad hC => dz_wide (cl_D_dispute_blind l hst  hC c2 b16) (by decide) (by decide) (by decide) (by decide)⟩
  · exact ⟨_, fun G ad hC => dz_wide (dz_RW (cl_D_dispute_ok l hst  hC c2 b16)) (by decide) (by decide) (by decide) (by decide)⟩
