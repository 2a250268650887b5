/-! WHAT THE LAW READS OF IMAGES -/
def s_pl (S : lwS) (sc rk : Nat) : Nat := ((s_ix S sc).2 rk).toNatClampNeg
def s_late (S : lwS) (sc rk : Nat) : Int32 := (s_tw S (s_pl S sc rk) - s_tw S (s_pl S sc 0)) * 20 / S.2.1 4
theorem s_pl_ok {S : lwS} {sc rk : Nat} (h : rk < (s_ix S sc).1) : s_pl S sc rk + 22 < 484 ∧ (s_ix S sc).2 rk = nI (s_pl S sc rk) := by
  obtain ⟨j, h1, h2⟩ := m_im_j h
  have e : s_pl S sc rk = j := by
    unfold s_pl
    rw [h2, nI_clamp (by omega)]
  rw [e]
  exact ⟨h1, h2⟩
theorem q_pc : ∀ j, j < 484 → m_pc j = nI (j % 22) - 10 ∧ m_pr j = nI (j / 22) - 10 := by decide +kernel
/-- an image lies in the field, and its ray comes from the source -/
theorem s_go {S : lwS} {sc rk : Nat} (h : rk < (s_ix S sc).1) : (s_pl S sc rk % 22 < 21 ∧ s_pl S sc rk / 22 < 21) ∧ s_tc S (s_pl S sc rk) = S.2.2 12 sc ∧ s_tr S (s_pl S sc rk) = S.2.2 13 sc := by
  obtain ⟨j, ⟨h1, h2, h3⟩, h4⟩ := (q_la (w := s_tw S) (P := fun j => dz_b (m_pc j - m_bc (S.1 0) (S.2.2 3) (S.2.2 4) (S.2.2 5) (S.2.2 6) j = S.2.2 12 sc ∧ m_pr j - m_br (S.1 0) (S.2.2 3) (S.2.2 4) (S.2.2 5) (S.2.2 6) j = S.2.2 13 sc)) (f := fun _ => 0) 21 (Nat.le_refl _)).1 rk h
  have e : s_pl S sc rk = j := by
    unfold s_pl
    rw [show (s_ix S sc).2 rk = nI j from h4, nI_clamp (by omega)]
  rw [e]
  exact ⟨⟨h1, h2⟩, dz_by h3⟩
theorem s_rise {S : lwS} {sc rk : Nat} (h : rk + 1 < (s_ix S sc).1) : s_tw S (s_pl S sc rk) ≤ s_tw S (s_pl S sc (rk + 1)) :=
  (q_la (w := s_tw S) (P := fun j => dz_b (m_pc j - m_bc (S.1 0) (S.2.2 3) (S.2.2 4) (S.2.2 5) (S.2.2 6) j = S.2.2 12 sc ∧ m_pr j - m_br (S.1 0) (S.2.2 3) (S.2.2 4) (S.2.2 5) (S.2.2 6) j = S.2.2 13 sc)) (f := fun _ => 0) 21 (Nat.le_refl _)).2 rk h
theorem q_prod {a m : Int} (h1 : -m ≤ a) (h2 : a ≤ m) : 0 ≤ a * a ∧ a * a ≤ m * m := by
  rcases Int.le_total 0 a with c | c
  · exact ⟨Int.mul_nonneg c c, Int.mul_le_mul h2 h2 c (Int.le_trans c h2)⟩
  · have e : a * a = (-a) * (-a) := (Int.neg_mul_neg a a).symm
    rw [e]
    exact ⟨Int.mul_nonneg (by omega) (by omega), Int.mul_le_mul (by omega) (by omega) (by omega) (by omega)⟩
/-- by how much masses shorten a way -/
theorem q_sho {sh co ro st : Nat → Int32} {n x y : Nat} (hn : n ≤ 6) (hx : x < 22) (hy : y < 22) (hok : m_ok n co ro) (hst : ∀ k, k < n → 1 ≤ st k ∧ st k ≤ 8) : ∀ k, k ≤ n → 0 ≤ (m_bsho sh co ro st (nI x - 10) (nI y - 10) k).toInt ∧ (m_bsho sh co ro st (nI x - 10) (nI y - 10) k).toInt ≤ 704 * (k : Int) := by
  intro k
  induction k with
  | zero =>
    intro _
    show 0 ≤ (0 : Int32).toInt ∧ (0 : Int32).toInt ≤ 704 * ((0 : Nat) : Int)
    rw [show (0 : Int32).toInt = 0 from by decide]
    omega
  | succ k ih =>
    intro h
    obtain ⟨i1, i2⟩ := ih (by omega)
    show _ ≤ (m_bsho sh co ro st (nI x - 10) (nI y - 10) k + m_short (sh k) (st k) (co k) (ro k) (nI x - 10) (nI y - 10)).toInt ∧ (m_bsho sh co ro st (nI x - 10) (nI y - 10) k + m_short (sh k) (st k) (co k) (ro k) (nI x - 10) (nI y - 10)).toInt ≤ _
    have hs : 0 ≤ (m_short (sh k) (st k) (co k) (ro k) (nI x - 10) (nI y - 10)).toInt ∧ (m_short (sh k) (st k) (co k) (ro k) (nI x - 10) (nI y - 10)).toInt ≤ 704 := by
      unfold m_short
      by_cases c : sh k = 2
      · rw [if_pos c]
        decide
      · rw [if_neg c]
        obtain ⟨⟨u, hu, eu⟩, v, hv, ev⟩ := hok k (by omega)
        have e : m_ds (co k) (ro k) (nI x - 10) (nI y - 10) = nI ((x - u + (u - x)) + (y - v + (v - y))) := by
          unfold m_ds
          rw [eu, ev, fl_ab x hx u (by omega), fl_ab y hy v (by omega), nI_add]
        rw [e]
        have hd : (x - u + (u - x)) + (y - v + (v - y)) ≤ 42 := by omega
        generalize (x - u + (u - x)) + (y - v + (v - y)) = d at hd
        obtain ⟨s1, s2⟩ := m_le (hst k (by omega)) (a := 1) (b := 8) (by decide) (by decide)
        have e2 : (2 * st k).toInt = 2 * (st k).toInt := by
          rw [Jvm.Kit.i32_mul (by rw [show (2 : Int32).toInt = 2 from by decide]; omega) (by rw [show (2 : Int32).toInt = 2 from by decide]; omega), show (2 : Int32).toInt = 2 from by decide]
        have hdI : (nI d).toInt = (d : Int) := nI_toInt (by omega)
        have p1 : 0 ≤ (2 * st k).toInt * (nI d).toInt := Int.mul_nonneg (by omega) (by omega)
        have p2 : (2 * st k).toInt * (nI d).toInt ≤ 16 * 42 := Int.mul_le_mul (by omega) (by omega) (by omega) (by decide)
        rw [Jvm.Kit.i32_mul (by omega) (by omega)]
        omega
    generalize m_short (sh k) (st k) (co k) (ro k) (nI x - 10) (nI y - 10) = z at hs ⊢
    generalize m_bsho sh co ro st (nI x - 10) (nI y - 10) k = w at i1 i2 ⊢
    rw [Jvm.Kit.i32_add (by omega) (by omega)]
    omega
theorem q_bent {p b f : Int32} (h : p - b = f) : b = p - f := by
  have h1 : p = f + b := Int32.sub_eq_iff_eq_add.mp h
  exact (Int32.sub_eq_iff_eq_add.mpr (h1.trans (Int32.add_comm _ _))).symm
/-- no way of an image is very short -/
theorem s_far {S : lwS} (hB : lwB S) {sc rk : Nat} (hsc : sc < S.1 1) (h : rk < (s_ix S sc).1) : -2000000000 ≤ s_tw S (s_pl S sc rk) := by
  obtain ⟨⟨⟨b1, b2, b3⟩, -⟩, hF⟩ := hB
  obtain ⟨⟨g1, g2⟩, g3, g4⟩ := s_go h
  obtain ⟨p1, p2⟩ := s_pl_ok h
  generalize s_pl S sc rk = j at g1 g2 g3 g4 p1 p2 ⊢
  obtain ⟨e1, e2⟩ := q_pc j (by omega)
  have hs := q_sho (sh := S.2.2 3) b1 (show j % 22 < 22 by omega) (show j / 22 < 22 by omega) b2 b3 (S.1 0) (Nat.le_refl _)
  rw [← e1, ← e2] at hs
  have c1 := q_bent (show m_pc j - m_bcol (S.2.2 3) (S.2.2 4) (S.2.2 5) (S.2.2 6) (m_pc j) (m_pr j) (S.1 0) = S.2.2 12 sc from g3)
  have c2 := q_bent (show m_pr j - m_brow (S.2.2 3) (S.2.2 4) (S.2.2 5) (S.2.2 6) (m_pc j) (m_pr j) (S.1 0) = S.2.2 13 sc from g4)
  obtain ⟨f1, f2⟩ := hF sc hsc
  have f1' := m_le f1 (a := -10) (b := 10) (by decide) (by decide)
  have f2' := m_le f2 (a := -10) (b := 10) (by decide) (by decide)
  have d1 := m_le (q_fl21 _ g1) (a := -10) (b := 10) (by decide) (by decide)
  have d2 := m_le (q_fl21 _ g2) (a := -10) (b := 10) (by decide) (by decide)
  rw [← e1] at d1
  rw [← e2] at d2
  show -2000000000 ≤ 5 * (m_bcol (S.2.2 3) (S.2.2 4) (S.2.2 5) (S.2.2 6) (m_pc j) (m_pr j) (S.1 0) * m_bcol (S.2.2 3) (S.2.2 4) (S.2.2 5) (S.2.2 6) (m_pc j) (m_pr j) (S.1 0) + m_brow (S.2.2 3) (S.2.2 4) (S.2.2 5) (S.2.2 6) (m_pc j) (m_pr j) (S.1 0) * m_brow (S.2.2 3) (S.2.2 4) (S.2.2 5) (S.2.2 6) (m_pc j) (m_pr j) (S.1 0)) - m_bsho (S.2.2 3) (S.2.2 4) (S.2.2 5) (S.2.2 6) (m_pc j) (m_pr j) (S.1 0)
  rw [c1, c2]
  generalize m_bsho (S.2.2 3) (S.2.2 4) (S.2.2 5) (S.2.2 6) (m_pc j) (m_pr j) (S.1 0) = z at hs ⊢
  have z1 : z.toInt ≤ 704 * 6 := by omega
  have z0 := hs.1
  have x1 : (m_pc j - S.2.2 12 sc).toInt = (m_pc j).toInt - (S.2.2 12 sc).toInt := Jvm.Kit.i32_sub (by omega) (by omega)
  have x2 : (m_pr j - S.2.2 13 sc).toInt = (m_pr j).toInt - (S.2.2 13 sc).toInt := Jvm.Kit.i32_sub (by omega) (by omega)
  generalize m_pc j - S.2.2 12 sc = x at x1 ⊢
  generalize m_pr j - S.2.2 13 sc = y at x2 ⊢
  have q1 := q_prod (a := x.toInt) (m := 20) (by omega) (by omega)
  have q2 := q_prod (a := y.toInt) (m := 20) (by omega) (by omega)
  have e5 : (5 : Int32).toInt = 5 := by decide
  have y1 : (x * x).toInt = x.toInt * x.toInt := Jvm.Kit.i32_mul (by omega) (by omega)
  have y2 : (y * y).toInt = y.toInt * y.toInt := Jvm.Kit.i32_mul (by omega) (by omega)
  have y3 : (x * x + y * y).toInt = x.toInt * x.toInt + y.toInt * y.toInt := by rw [Jvm.Kit.i32_add (by omega) (by omega), y1, y2]
  have y4 : (5 * (x * x + y * y)).toInt = 5 * (x.toInt * x.toInt + y.toInt * y.toInt) := by rw [Jvm.Kit.i32_mul (by rw [e5]; omega) (by rw [e5]; omega), y3, e5]
  have y5 : (5 * (x * x + y * y) - z).toInt = 5 * (x.toInt * x.toInt + y.toInt * y.toInt) - z.toInt := by rw [Jvm.Kit.i32_sub (by omega) (by omega), y4]
  rw [Int32.le_iff_toInt_le, y5, show (-2000000000 : Int32).toInt = -2000000000 from by decide]
  omega
theorem s_late0 (S : lwS) (sc : Nat) : s_late S sc 0 = 0 := by
  unfold s_late
  rw [Int32.sub_self, Int32.zero_mul, Int32.zero_div]
/-- lights are 0 or more -/
theorem s_lv0 {S : lwS} (hB : lwB S) {sc rk : Nat} (hsc : sc < S.1 1) (h : rk < (s_ix S sc).1) : 0 ≤ s_lv S sc rk := by
  obtain ⟨⟨-, ⟨-, b5⟩, ⟨b6, b7⟩, ⟨b8, b9⟩, -, b14, -⟩, -⟩ := hB
  show 0 ≤ m_lv _ _ _ _ _ _ _ _ _ _ _ _ _ _ _ _ _ _ _ _ _
  unfold m_lv
  rw [if_pos ⟨hsc, h⟩]
  unfold m_li
  refine (m_ge (a := 0) (b := 118400) (lo := 0) (hi := 118400) ?_ (by decide) (by decide)).1
  generalize hgx : m_abs (m_times (m_turn _ _ _)) = x
  generalize hgy : m_pos (m_mfl _ _ _ _ _ _ _) = y
  have q1 : 0 ≤ x.toInt ∧ x.toInt ≤ 24 := by
    rw [← hgx]
    exact m_abs_b (k := 24) (by decide) (m_times_b _)
  have q3 : 0 ≤ y.toInt ∧ y.toInt ≤ 4100 := by
    rw [← hgy]
    have q2 := m_mflb (fo := S.2.2 16) (fd := S.2.2 17) (fb := S.2.2 18) (sc := nI sc) (dy := S.2.1 0 - (s_tw S (s_pl S sc rk) - s_tw S (s_pl S sc 0)) * 20 / S.2.1 4) (m_le (b5 sc hsc) (by decide) (by decide)) b6 (fun k hk => m_le (b7 k hk).1 (by decide) (by decide)) (S.1 2) (Nat.le_refl _)
    exact m_posb (b := 4100) (by decide) (Int.le_trans q2.2 (by omega))
  have p1 : 0 ≤ x.toInt * y.toInt := Int.mul_nonneg q1.1 q3.1
  have p2 : x.toInt * y.toInt ≤ 24 * 4100 := Int.mul_le_mul q1.2 q3.2 q3.1 (by decide)
  have e5 : (x * y).toInt = x.toInt * y.toInt := Jvm.Kit.i32_mul (by omega) (by omega)
  have q4 := m_mstb (i0 := x * y) (so := S.2.2 20) (sr := S.2.2 21) (sd := S.2.2 22) (sw := S.2.2 23) (sg := S.2.2 24) (sc := nI sc) (rk := nI rk) (by omega) (m_le b14 (by decide) (by decide)) b8 (fun k hk => ⟨m_le (b9 k hk).2.1 (by decide) (by decide), m_le (b9 k hk).2.2.1 (by decide) (by decide), m_le (b9 k hk).2.2.2 (by decide) (by decide)⟩) (S.1 3) (Nat.le_refl _)
  exact ⟨q4.1, Int.le_trans q4.2 (by omega)⟩
/-! the calls' contracts that only read -/
theorem lwB.ns5 {S : lwS} (hB : lwB S) : S.1 1 ≤ 5 := hB.1.2.1.1
theorem lwB.nf6 {S : lwS} (hB : lwB S) : S.1 4 ≤ 60 := hB.1.2.2.2.2.1.1
theorem lwB.g1 {S : lwS} (hB : lwB S) : 1 ≤ S.2.1 4 ∧ ¬ S.2.1 4 = 0 := by
  have b15 := hB.1.2.2.2.2.2.2.1
  exact ⟨Int32.le_trans (show (1 : Int32) ≤ 40 from by decide) b15.1, fun z => by rw [z] at b15; exact absurd b15.1 (by decide)⟩
theorem r_day (l : Launch) (hst : l.stackTraces = false) {Z : dzG} {G : dzW} {ad : dzA} {aX : Nat} {S : lwS} (hC : lwC Z G ad aX S) (hB : lwB S) : dzRd l yX8_day wsX8_day 10 300 Z G ad [.ref aX] (some (.int (S.2.1 0))) := dz_wideR (cl_D_day l hst hC) (by decide) (by decide)
theorem r_frames (l : Launch) (hst : l.stackTraces = false) {Z : dzG} {G : dzW} {ad : dzA} {aX : Nat} {S : lwS} (hC : lwC Z G ad aX S) (hB : lwB S) : dzRd l yX8_frames wsX8_frames 10 300 Z G ad [.ref aX] (some (.int (nI (S.1 4)))) := dz_wideR (cl_D_frames l hst hC hB.nf6) (by decide) (by decide)
theorem r_lost (l : Launch) (hst : l.stackTraces = false) {Z : dzG} {G : dzW} {ad : dzA} {aX : Nat} {S : lwS} (hC : lwC Z G ad aX S) (hB : lwB S) : dzRd l yX8_lost wsX8_lost 10 300 Z G ad [.ref aX] (some (.int (nI (q_al (s_tc S) (s_tr S) 0)))) := by
  have e : m_all (fun j => dz_b (¬ (((-10) ≤ s_tc S j ∧ s_tc S j ≤ 10) ∧ ((-10) ≤ s_tr S j ∧ s_tr S j ≤ 10)))) 21 = nI (q_al (s_tc S) (s_tr S) 0) := q_n_all (fun j => q_b_i)
  rw [← e]
  exact dz_wideR (cl_D_lost l hst hC) (by decide) (by decide)
theorem r_images (l : Launch) (hst : l.stackTraces = false) {Z : dzG} {G : dzW} {ad : dzA} {aX : Nat} {S : lwS} (hC : lwC Z G ad aX S) (hB : lwB S) {sc : Nat} (h : sc < S.1 1) : dzRd l yL_images wsL_images 10 300 Z G ad [.ref aX, .int (nI sc)] (some (.int (nI (s_ix S sc).1))) := dz_wideR (cl_D_images_ok l hst sc hC h hB.ns5) (by decide) (by decide)
theorem r_anew (l : Launch) (hst : l.stackTraces = false) {Z : dzG} {G : dzW} {ad : dzA} {aX : Nat} {S : lwS} (hC : lwC Z G ad aX S) (hB : lwB S) {sc : Nat} (h : sc < S.1 1) : dzRd l yL_anew wsL_anew 10 300 Z G ad [.ref aX, .int (nI sc)] (some (.int (nI (s_ix S sc).1))) := by
  have e : m_all (fun j => dz_b (m_pc j - m_bcol (S.2.2 3) (S.2.2 4) (S.2.2 5) (S.2.2 6) (m_pc j) (m_pr j) (S.1 0) = S.2.2 12 sc ∧ m_pr j - m_brow (S.2.2 3) (S.2.2 4) (S.2.2 5) (S.2.2 6) (m_pc j) (m_pr j) (S.1 0) = S.2.2 13 sc)) 21 = nI (s_ix S sc).1 := m_im_n (f8 := m_bc (S.1 0) (S.2.2 3) (S.2.2 4) (S.2.2 5) (S.2.2 6)) (f9 := m_br (S.1 0) (S.2.2 3) (S.2.2 4) (S.2.2 5) (S.2.2 6)) (f10 := s_tw S)
  rw [← e]
  exact dz_wideR (cl_D_anew_ok l hst sc hC h hB.ns5 hB.1.1.1 hB.1.1.2.1) (by decide) (by decide)
theorem r_hits (l : Launch) (hst : l.stackTraces = false) {Z : dzG} {G : dzW} {ad : dzA} {aX : Nat} {S : lwS} (hC : lwC Z G ad aX S) (hB : lwB S) {k : Nat} (hk : k < 441) : dzRd l yL_hits wsL_hits 10 300 Z G ad [.ref aX, .int (q_c k), .int (q_r k)] (some (.int (nI (q_n (fun j => q_b (s_tc S j = q_c k ∧ s_tr S j = q_r k)) 441)))) := by
  have e : m_all (fun j => dz_b (s_tc S j = q_c k ∧ s_tr S j = q_r k)) 21 = nI (q_n (fun j => q_b (s_tc S j = q_c k ∧ s_tr S j = q_r k)) 441) := q_n_all (fun j => q_b_i)
  rw [← e]
  exact dz_wideR (cl_D_hits_ok l hst (q_c k) (q_r k) hC ⟨q_fl21 _ (Nat.mod_lt _ (by decide)), q_fl21 _ (by omega)⟩) (by decide) (by decide)
theorem r_hitsS (l : Launch) (hst : l.stackTraces = false) {Z : dzG} {G : dzW} {ad : dzA} {aX : Nat} {S : lwS} (hC : lwC Z G ad aX S) (hB : lwB S) {sc : Nat} (h : sc < S.1 1) : dzRd l yL_hits wsL_hits 10 300 Z G ad [.ref aX, .int (S.2.2 12 sc), .int (S.2.2 13 sc)] (some (.int (nI (s_ix S sc).1))) := by
  have e : m_all (fun j => dz_b (s_tc S j = S.2.2 12 sc ∧ s_tr S j = S.2.2 13 sc)) 21 = nI (s_ix S sc).1 := m_im_n (f8 := m_bc (S.1 0) (S.2.2 3) (S.2.2 4) (S.2.2 5) (S.2.2 6)) (f9 := m_br (S.1 0) (S.2.2 3) (S.2.2 4) (S.2.2 5) (S.2.2 6)) (f10 := s_tw S)
  rw [← e]
  exact dz_wideR (cl_D_hits_ok l hst _ _ hC (hB.2 sc h)) (by decide) (by decide)
theorem r_from (l : Launch) (hst : l.stackTraces = false) {Z : dzG} {G : dzW} {ad : dzA} {aX : Nat} {S : lwS} (hC : lwC Z G ad aX S) (hB : lwB S) {a b : Nat} (v3 : Int32) (ha : a < 21) (hb : b < 21) : dzRd l yL_from wsL_from 10 300 Z G ad [.ref aX, .int (nI a - 10), .int (nI b - 10), .int v3] (some (.int (if v3 = 0 then s_tc S (22 * b + a) else s_tr S (22 * b + a)))) := dz_wideR (cl_D_from_ok l hst a b v3 hC ha hb) (by decide) (by decide)
theorem r_fromI (l : Launch) (hst : l.stackTraces = false) {Z : dzG} {G : dzW} {ad : dzA} {aX : Nat} {S : lwS} (hC : lwC Z G ad aX S) (hB : lwB S) {sc rk : Nat} (v3 : Int32) (h : rk < (s_ix S sc).1) : dzRd l yL_from wsL_from 10 300 Z G ad [.ref aX, .int (m_pc (s_pl S sc rk)), .int (m_pr (s_pl S sc rk)), .int v3] (some (.int (if v3 = 0 then S.2.2 12 sc else S.2.2 13 sc))) := by
  obtain ⟨⟨g1, g2⟩, g3, g4⟩ := s_go h
  obtain ⟨p1, -⟩ := s_pl_ok h
  rw [← g3, ← g4]
  generalize s_pl S sc rk = j at g1 g2 p1 ⊢
  rw [(q_pc j (by omega)).1, (q_pc j (by omega)).2]
  have z := r_from l hst hC hB (a := j % 22) (b := j / 22) v3 g1 g2
  rw [show 22 * (j / 22) + j % 22 = j by omega] at z
  exact z
theorem r_im0 (l : Launch) (hst : l.stackTraces = false) {Z : dzG} {G : dzW} {ad : dzA} {aX : Nat} {S : lwS} (hC : lwC Z G ad aX S) (hB : lwB S) {sc rk : Nat} (hsc : sc < S.1 1) (h : rk < (s_ix S sc).1) : dzRd l yL_imageOf wsL_imageOf 10 300 Z G ad [.ref aX, .int (nI sc), .int (nI rk), .int 0] (some (.int (m_pc (s_pl S sc rk)))) := dz_wideR (cl_D_imageOf_0 l hst sc rk _ hC hsc hB.ns5 h (s_pl_ok h).2 (s_pl_ok h).1) (by decide) (by decide)
theorem r_im1 (l : Launch) (hst : l.stackTraces = false) {Z : dzG} {G : dzW} {ad : dzA} {aX : Nat} {S : lwS} (hC : lwC Z G ad aX S) (hB : lwB S) {sc rk : Nat} (hsc : sc < S.1 1) (h : rk < (s_ix S sc).1) : dzRd l yL_imageOf wsL_imageOf 10 300 Z G ad [.ref aX, .int (nI sc), .int (nI rk), .int 1] (some (.int (m_pr (s_pl S sc rk)))) := dz_wideR (cl_D_imageOf_1 l hst sc rk _ hC hsc hB.ns5 h (s_pl_ok h).2 (s_pl_ok h).1) (by decide) (by decide)
theorem r_im2 (l : Launch) (hst : l.stackTraces = false) {Z : dzG} {G : dzW} {ad : dzA} {aX : Nat} {S : lwS} (hC : lwC Z G ad aX S) (hB : lwB S) {sc rk : Nat} (hsc : sc < S.1 1) (h : rk < (s_ix S sc).1) : dzRd l yL_imageOf wsL_imageOf 10 300 Z G ad [.ref aX, .int (nI sc), .int (nI rk), .int 2] (some (.int (m_times (m_turn (s_tc S) (s_tr S) (s_pl S sc rk))))) := dz_wideR (cl_D_imageOf_2 l hst sc rk _ hC hsc hB.ns5 h (s_pl_ok h).2 (s_pl_ok h).1) (by decide) (by decide)
theorem r_im3 (l : Launch) (hst : l.stackTraces = false) {Z : dzG} {G : dzW} {ad : dzA} {aX : Nat} {S : lwS} (hC : lwC Z G ad aX S) (hB : lwB S) {sc rk : Nat} (hsc : sc < S.1 1) (h : rk < (s_ix S sc).1) : dzRd l yL_imageOf wsL_imageOf 10 300 Z G ad [.ref aX, .int (nI sc), .int (nI rk), .int 3] (some (.int (s_tw S (s_pl S sc rk)))) := dz_wideR (cl_D_imageOf_3 l hst sc rk _ hC hsc hB.ns5 h (s_pl_ok h).2 (s_pl_ok h).1) (by decide) (by decide)
theorem r_im4 (l : Launch) (hst : l.stackTraces = false) {Z : dzG} {G : dzW} {ad : dzA} {aX : Nat} {S : lwS} (hC : lwC Z G ad aX S) (hB : lwB S) {sc rk : Nat} (hsc : sc < S.1 1) (h : rk < (s_ix S sc).1) : dzRd l yL_imageOf wsL_imageOf 10 300 Z G ad [.ref aX, .int (nI sc), .int (nI rk), .int 4] (some (.int (s_late S sc rk))) :=
  have h0 : 0 < (s_ix S sc).1 := Nat.lt_of_le_of_lt (Nat.zero_le rk) h
  dz_wideR (cl_D_imageOf_4 l hst sc rk _ _ hC hsc hB.ns5 h (s_pl_ok h).2 (s_pl_ok h).1 (s_pl_ok h0).2 (s_pl_ok h0).1 hB.g1.1 hB.g1.2) (by decide) (by decide)
theorem r_delay (l : Launch) (hst : l.stackTraces = false) {Z : dzG} {G : dzW} {ad : dzA} {aX : Nat} {S : lwS} (hC : lwC Z G ad aX S) (hB : lwB S) {sc rk ot : Nat} (hsc : sc < S.1 1) (h : rk < (s_ix S sc).1) (ho : ot < (s_ix S sc).1) : dzRd l yL_delay wsL_delay 10 300 Z G ad [.ref aX, .int (nI sc), .int (nI rk), .int (nI ot)] (some (.int (s_late S sc ot - s_late S sc rk))) :=
  have h0 : 0 < (s_ix S sc).1 := Nat.lt_of_le_of_lt (Nat.zero_le rk) h
  dz_wideR (cl_D_delay_ok l hst sc rk _ ot _ _ hC hsc hB.ns5 h (s_pl_ok h).2 (s_pl_ok h).1 ho (s_pl_ok ho).2 (s_pl_ok ho).1 (s_pl_ok h0).2 (s_pl_ok h0).1 hB.g1.1 hB.g1.2) (by decide) (by decide)
theorem r_light (l : Launch) (hst : l.stackTraces = false) {Z : dzG} {G : dzW} {ad : dzA} {aX : Nat} {S : lwS} (hC : lwC Z G ad aX S) (hB : lwB S) {sc rk : Nat} (hsc : sc < S.1 1) (h : rk < (s_ix S sc).1) : dzRd l yL_light wsL_light 10 300 Z G ad [.ref aX, .int (nI sc), .int (nI rk)] (some (.int (s_lv S sc rk))) := by
  have h0 : 0 < (s_ix S sc).1 := Nat.lt_of_le_of_lt (Nat.zero_le rk) h
  have hsw1 : ∀ k, k < S.1 3 → 1 ≤ S.2.2 23 k ∧ ¬ S.2.2 23 k = 0 := fun k hk => ⟨(hB.1.2.2.2.1.2 k hk).2.2.1.1, fun z => by have z1 := (hB.1.2.2.2.1.2 k hk).2.2.1.1; rw [z] at z1; exact absurd z1 (by decide)⟩
  have hl4 : S.1 2 ≤ 40 := hB.1.2.2.1.1
  have hx2 : S.1 3 ≤ 20 := hB.1.2.2.2.1.1
  have z := dz_wideR (cl_D_light_ok l hst sc rk _ _ hC hsc hB.ns5 h (s_pl_ok h).2 (s_pl_ok h).1 (s_pl_ok h0).2 (s_pl_ok h0).1 hB.g1.1 hB.g1.2 (Nat.le_trans (m_fi_len (S.1 2)) (by omega)) (Nat.le_trans (m_fi_len (S.1 3)) (by omega)) (fun j hj => hsw1 _ (m_fi_lt (S.1 3) j hj).1)) (fr' := 10) (lo' := 300) (by decide) (by decide)
  rw [m_fv hsc h (s_pl_ok h).2 (s_pl_ok h0).2 (s_pl_ok h).1 (s_pl_ok h0).1] at z
  exact z
theorem r_lightX (l : Launch) (hst : l.stackTraces = false) {Z : dzG} {G : dzW} {ad : dzA} {aX : Nat} {S : lwS} (hC : lwC Z G ad aX S) (hB : lwB S) {sc : Nat} (hsc : sc < S.1 1) : lw_A l yL_light wsL_light Z G ad [.ref aX, .int (nI sc), .int (nI (s_ix S sc).1)] (-2000000001) := dz_wide (cl_D_light_out l hst sc _ hC hsc hB.ns5 (Or.inr (Int32.le_refl _))) (by decide) (by decide) (by decide) (by decide)
theorem r_seen (l : Launch) (hst : l.stackTraces = false) {Z : dzG} {G : dzW} {ad : dzA} {aX : Nat} {S : lwS} (hC : lwC Z G ad aX S) (hB : lwB S) {i sc rk : Nat} (hi : i < S.1 4) (hsc : sc < S.1 1) (hrk : rk < 6) : dzRd l yL_seen wsL_seen 10 300 Z G ad [.ref aX, .int (nI i), .int (nI sc), .int (nI rk)] (some (.int (S.2.2 31 (30 * i + (6 * sc + rk))))) := dz_wideR (cl_D_seen_ok l hst sc i rk hC hB.nf6 hi hsc hB.ns5 hrk) (by decide) (by decide)
theorem r_fresh (l : Launch) (hst : l.stackTraces = false) {Z : dzG} {G : dzW} {ad : dzA} {aX : Nat} {S : lwS} (hC : lwC Z G ad aX S) (hB : lwB S) {k : Nat} (hk : k < 2) (hn : S.2.2 34 k = nI (S.1 0)) : dzRd l yL_isFresh wsL_isFresh 10 300 Z G ad [.ref aX, .int (nI k)] (some (.int 1)) := by
  have h6 : S.1 0 ≤ 6 := hB.1.1.1
  have z := dz_wideR (cl_D_isFresh_ok l hst k hC h6 hk (fun z => by rw [hn] at z; exact nI_pos (show S.1 0 < 2 ^ 31 by omega) (by rw [z]; decide))) (fr' := 10) (lo' := 300) (by decide) (by decide)
  rw [dz_b1 hn] at z
  exact z
