/-! WHAT IS MEASURED: the album's rows and the reference's loops -/
theorem m_mj_c {fd B B' : Nat → Int32} {ai bo bb : Int32} {i : Nat} {q : (Nat → Int64) × (Nat → Int32)} : ∀ t, (∀ s, s < t → B (i + s) = B' (i + s)) → m_mj fd B ai i bo bb q t = m_mj fd B' ai i bo bb q t := by
  intro t
  induction t with
  | zero => intro _; rfl
  | succ t ih =>
    intro h
    show (if B (i + t) = -1 then m_mj fd B ai i bo bb q t else (m_apS (fd (i + t) - fd i) (ai * bb - B (i + t) * bo) (m_mj fd B ai i bo bb q t).1, m_apP (fd (i + t) - fd i) (m_mj fd B ai i bo bb q t).2)) = (if B' (i + t) = -1 then m_mj fd B' ai i bo bb q t else (m_apS (fd (i + t) - fd i) (ai * bb - B' (i + t) * bo) (m_mj fd B' ai i bo bb q t).1, m_apP (fd (i + t) - fd i) (m_mj fd B' ai i bo bb q t).2))
    rw [ih (fun s hs => h s (by omega)), h t (by omega)]
theorem m_mi_c {fd A A' B B' : Nat → Int32} {n : Nat} {bo bb : Int32} {q : (Nat → Int64) × (Nat → Int32)} (hA : ∀ i, i < n → A i = A' i) (hB : ∀ i, i < n → B i = B' i) : ∀ i, i ≤ n → m_mi fd A B n bo bb q i = m_mi fd A' B' n bo bb q i := by
  intro i
  induction i with
  | zero => intro _; rfl
  | succ i ih =>
    intro h
    show (if A i = -1 then m_mi fd A B n bo bb q i else m_mj fd B (A i) i bo bb (m_mi fd A B n bo bb q i) (n - i)) = (if A' i = -1 then m_mi fd A' B' n bo bb q i else m_mj fd B' (A' i) i bo bb (m_mi fd A' B' n bo bb q i) (n - i))
    rw [ih (by omega), hA i (by omega), m_mj_c (n - i) (fun s hs => hB (i + s) (by omega))]
theorem m_nj_c {fd B B' : Nat → Int32} {ai tw on n : Int32} {i : Nat} {q : Int64 × Int32} : ∀ t, (∀ s, s < t → B (i + s) = B' (i + s)) → m_nj fd B ai i tw on n q t = m_nj fd B' ai i tw on n q t := by
  intro t
  induction t with
  | zero => intro _; rfl
  | succ t ih =>
    intro h
    show (if fd (i + t) - fd i = n ∧ ¬ ai = -1 ∧ ¬ B (i + t) = -1 then ((m_nj fd B ai i tw on n q t).1 + m_off ai (B (i + t)) tw on, (m_nj fd B ai i tw on n q t).2 + 1) else m_nj fd B ai i tw on n q t) = (if fd (i + t) - fd i = n ∧ ¬ ai = -1 ∧ ¬ B' (i + t) = -1 then ((m_nj fd B' ai i tw on n q t).1 + m_off ai (B' (i + t)) tw on, (m_nj fd B' ai i tw on n q t).2 + 1) else m_nj fd B' ai i tw on n q t)
    rw [ih (fun s hs => h s (by omega)), h t (by omega)]
theorem m_ni_c {fd A A' B B' : Nat → Int32} {nf : Nat} {tw on n : Int32} (hA : ∀ i, i < nf → A i = A' i) (hB : ∀ i, i < nf → B i = B' i) : ∀ i, i ≤ nf → m_ni fd A B nf tw on n i = m_ni fd A' B' nf tw on n i := by
  intro i
  induction i with
  | zero => intro _; rfl
  | succ i ih =>
    intro h
    show m_nj fd B (A i) i tw on n (m_ni fd A B nf tw on n i) (nf - i) = m_nj fd B' (A' i) i tw on n (m_ni fd A' B' nf tw on n i) (nf - i)
    rw [ih (by omega), hA i (by omega), m_nj_c (nf - i) (fun s hs => hB (i + s) (by omega))]
theorem m_nb_c {fd A A' B B' : Nat → Int32} {nf : Nat} {tw on : Int32} (hA : ∀ i, i < nf → A i = A' i) (hB : ∀ i, i < nf → B i = B' i) : ∀ d, m_nb fd A B nf tw on d = m_nb fd A' B' nf tw on d := by
  intro d
  induction d with
  | zero => rfl
  | succ d ih =>
    show (if (m_ni fd A B nf tw on (nI d) nf).2 < 3 then m_nb fd A B nf tw on d else if (m_nb fd A B nf tw on d).1 = -1 ∨ (m_ni fd A B nf tw on (nI d) nf).1 * (m_nb fd A B nf tw on d).2.2 < (m_nb fd A B nf tw on d).2.1 * (m_ni fd A B nf tw on (nI d) nf).2.toInt64 then (nI d, (m_ni fd A B nf tw on (nI d) nf).1, (m_ni fd A B nf tw on (nI d) nf).2.toInt64) else m_nb fd A B nf tw on d) = _
    rw [ih, m_ni_c hA hB nf (Nat.le_refl _)]
    rfl
/-- 24 by a number, or 24 times -/
theorem m_times_b (n : Int32) : -24 ≤ (m_times n).toInt ∧ (m_times n).toInt ≤ 24 := by
  unfold m_times
  by_cases c : n = 0
  · rw [if_pos c]
    decide
  · rw [if_neg c]
    have e : (24 : Int32).toInt = 24 := by decide
    rw [Jvm.Kit.i32_div (by rintro ⟨h, -⟩; revert h; decide), e]
    have h : ((24 : Int).tdiv n.toInt).natAbs ≤ 24 := by
      rw [Int.natAbs_tdiv]
      exact Nat.div_le_self _ _
    omega
theorem m_abs_b {x : Int32} {k : Int} (hk : k < 2147483648) (h : -k ≤ x.toInt ∧ x.toInt ≤ k) : 0 ≤ (m_abs x).toInt ∧ (m_abs x).toInt ≤ k := by
  unfold m_abs
  by_cases c : 0 ≤ x
  · rw [if_pos c]
    exact ⟨Jvm.Kit.i32_nonneg.mp c, h.2⟩
  · rw [if_neg c]
    have c' : ¬ 0 ≤ x.toInt := fun z => c (Jvm.Kit.i32_nonneg.mpr z)
    have e0 : (0 : Int32).toInt = 0 := by decide
    rw [Jvm.Kit.i32_sub (by rw [e0]; omega) (by rw [e0]; omega), e0]
    omega
theorem m_prod {a t : Int32} {m : Int} (hm : m ≤ 1000000) (ha : 0 ≤ a.toInt ∧ a.toInt ≤ m) (ht : 0 ≤ t.toInt ∧ t.toInt ≤ 24) : 0 ≤ a.toInt * t.toInt ∧ a.toInt * t.toInt ≤ m * 24 :=
  ⟨Int.mul_nonneg ha.1 ht.1, Int.mul_le_mul ha.2 ht.2 ht.1 (Int.le_trans ha.1 ha.2)⟩
theorem m_offe {a b tw on : Int32} (ha : 0 ≤ a.toInt ∧ a.toInt ≤ 118400) (hb : 0 ≤ b.toInt ∧ b.toInt ≤ 118400) (ht : 0 ≤ tw.toInt ∧ tw.toInt ≤ 24) (ho : 0 ≤ on.toInt ∧ on.toInt ≤ 24) : (m_abs (a * tw - b * on)).toInt64 = m_off a b tw on := by
  have p1 := m_prod (by decide) ha ht
  have p2 := m_prod (by decide) hb ho
  have e1 : (a * tw).toInt = a.toInt * tw.toInt := Jvm.Kit.i32_mul (by omega) (by omega)
  have e2 : (b * on).toInt = b.toInt * on.toInt := Jvm.Kit.i32_mul (by omega) (by omega)
  have e3 : (a * tw - b * on).toInt = a.toInt * tw.toInt - b.toInt * on.toInt := by
    rw [Jvm.Kit.i32_sub (by rw [e1, e2]; omega) (by rw [e1, e2]; omega), e1, e2]
  have g1 : (a.toInt64 * tw.toInt64).toInt = a.toInt * tw.toInt := by
    rw [Jvm.Kit.i64_mul (by rw [Jvm.Kit.i64_of_i32, Jvm.Kit.i64_of_i32]; omega) (by rw [Jvm.Kit.i64_of_i32, Jvm.Kit.i64_of_i32]; omega), Jvm.Kit.i64_of_i32, Jvm.Kit.i64_of_i32]
  have g2 : (b.toInt64 * on.toInt64).toInt = b.toInt * on.toInt := by
    rw [Jvm.Kit.i64_mul (by rw [Jvm.Kit.i64_of_i32, Jvm.Kit.i64_of_i32]; omega) (by rw [Jvm.Kit.i64_of_i32, Jvm.Kit.i64_of_i32]; omega), Jvm.Kit.i64_of_i32, Jvm.Kit.i64_of_i32]
  have g3 : (a.toInt64 * tw.toInt64 - b.toInt64 * on.toInt64).toInt = a.toInt * tw.toInt - b.toInt * on.toInt := by
    rw [Jvm.Kit.i64_sub (by rw [g1, g2]; omega) (by rw [g1, g2]; omega), g1, g2]
  have z64 : (0 : Int64).toInt = 0 := by decide
  have e0 : (0 : Int32).toInt = 0 := by decide
  apply Int64.toInt_inj.mp
  unfold m_off m_abl m_abs
  rw [Jvm.Kit.i64_of_i32]
  by_cases c : 0 ≤ a * tw - b * on
  · have c' := Jvm.Kit.i32_nonneg.mp c
    rw [if_pos c, if_neg (fun z => by have z' := Int64.lt_iff_toInt_lt.mp z; rw [z64, g3] at z'; rw [e3] at c'; omega), e3, g3]
  · have c' : ¬ 0 ≤ (a * tw - b * on).toInt := fun z => c (Jvm.Kit.i32_nonneg.mpr z)
    rw [if_neg c, if_pos (Int64.lt_iff_toInt_lt.mpr (by rw [z64, g3]; rw [e3] at c'; omega)), Jvm.Kit.i32_sub (by rw [e0, e3]; omega) (by rw [e0, e3]; omega), Jvm.Kit.i64_neg (by rw [g3]; omega), e0, e3, g3]
    omega
theorem m_lb {x : Int32} (h : 0 ≤ x ∧ x ≤ 118400) : 0 ≤ x.toInt ∧ x.toInt ≤ 118400 := by
  have h2 := Int32.le_iff_toInt_le.mp h.2
  rw [show (118400 : Int32).toInt = 118400 from by decide] at h2
  exact ⟨Jvm.Kit.i32_nonneg.mp h.1, h2⟩
/-- the album's delay is the reference's -/
theorem m_meas {fd A A' B B' : Nat → Int32} {nf : Nat} {x y : Int32} {S0 : Nat → Int64} (hnf : nf ≤ 60) (hA : ∀ i, i < nf → A i = A' i) (hB : ∀ i, i < nf → B i = B' i) (hA' : ∀ i, i < nf → A' i = -1 ∨ (0 ≤ A' i ∧ A' i ≤ 118400)) (hB' : ∀ i, i < nf → B' i = -1 ∨ (0 ≤ B' i ∧ B' i ≤ 118400)) (hS : ∀ i, i < 151 → S0 i = 0) : m_best (m_mi fd A B nf (m_abs (m_times x)) (m_abs (m_times y)) (S0, fun _ => 0) nf).1 (m_mi fd A B nf (m_abs (m_times x)) (m_abs (m_times y)) (S0, fun _ => 0) nf).2 151 = (m_nb fd A' B' nf (m_abs (m_times y)) (m_abs (m_times x)) 151).1 := by
  have a1 : ∀ i, i < nf → A i = (fun i => if i < nf then A' i else -1) i := fun i hi => (hA i hi).trans (if_pos hi).symm
  have b1 : ∀ i, i < nf → B i = (fun i => if i < nf then B' i else -1) i := fun i hi => (hB i hi).trans (if_pos hi).symm
  have a2 : ∀ i, i < nf → A' i = (fun i => if i < nf then A' i else -1) i := fun i hi => (if_pos hi).symm
  have b2 : ∀ i, i < nf → B' i = (fun i => if i < nf then B' i else -1) i := fun i hi => (if_pos hi).symm
  rw [m_mi_c a1 b1 nf (Nat.le_refl _), m_nb_c a2 b2]
  have bd : ∀ (F : Nat → Int32), (∀ i, i < nf → F i = -1 ∨ (0 ≤ F i ∧ F i ≤ 118400)) → ∀ i, ¬ (if i < nf then F i else -1) = -1 → 0 ≤ ((if i < nf then F i else -1) : Int32).toInt ∧ ((if i < nf then F i else -1) : Int32).toInt ≤ 118400 := by
    intro F hF i hi
    by_cases c : i < nf
    · rw [if_pos c] at hi ⊢
      exact m_lb ((hF i c).resolve_left hi)
    · rw [if_neg c] at hi
      exact absurd rfl hi
  refine (m_nb_best (fun n hn => m_mi_n (q := (S0, fun _ => 0)) hn ⟨hS n (by omega), rfl⟩ (fun i t h1 h2 => ?_) nf) 151 (Nat.le_refl _)).1.symm
  exact m_offe (bd A' hA' i h1) (bd B' hB' (i + t) h2) (m_abs_b (by decide) (m_times_b y)) (m_abs_b (by decide) (m_times_b x))
/-! THE CLASS'S CHANGES -/
theorem dz_Cl.obj {Z : dzG} {G G' : dzW} {ad : dzA} {aX : Nat} {nm ns nl nx nf : Nat} {dy ssf sst cfr grw bkk iop : Int32} {f3 f4 f5 f6 f12 f13 f14 f16 f17 f18 f20 f21 f22 f23 f24 f30 f31 f33 f34 f35 : Nat → Int32} {dy' ssf' sst' cfr' grw' : Int32} (h : dz_Cl Z G ad aX nm ns nl nx nf dy ssf sst cfr grw bkk iop f3 f4 f5 f6 f12 f13 f14 f16 f17 f18 f20 f21 f22 f23 f24 f30 f31 f33 f34 f35) (f : ∀ r : dzR, r ≠ (1, 0) → G' r = G r ∧ ad r = ad r) (e : G' (1, 0) = some (eCO ad nl nx dy' ssf' sst' cfr' grw')) : dz_Cl Z G' ad aX nm ns nl nx nf dy' ssf' sst' cfr' grw' bkk iop f3 f4 f5 f6 f12 f13 f14 f16 f17 f18 f20 f21 f22 f23 f24 f30 f31 f33 f34 f35 := by
  obtain ⟨ca, cco, cR, ⟨c5, c6, c7⟩, cls, cso, ⟨pl, cpl, cpe⟩, cfl, cst, ⟨lg, cF, cFe⟩, ⟨S, Q, cS, cQ⟩, cb, c27, c28, c29⟩ := h
  have n : ∀ k i : Nat, k ≠ 1 → ((k, i) : Nat × Nat) ≠ (1, 0) := fun k i h e => h (congrArg Prod.fst e)
  have g : ∀ r : dzR, r.1 ≠ 1 → G' r = G r ∧ ad r = ad r := fun r h => f r (fun e => h (by rw [e]))
  exact ⟨ca, e, cR.frame (fun r h => g r (by omega)) (fun r h => rfl), ⟨(g _ (by decide)).1.trans c5, (g _ (by decide)).1.trans c6, (g _ (by decide)).1.trans c7⟩, cls.frame (g _ (by decide)).1 (g _ (by decide)), cso.frame (fun r h => g r (by omega)) (fun r h => rfl), ⟨pl, cpl.frame (fun r h => g r (by omega)), cpe⟩, cfl.frame (fun r h => g r (by omega)), cst.frame (fun r h => g r (by omega)), ⟨lg, cF.frame (fun r h => g r (by omega)) (fun r h => rfl), cFe⟩, ⟨S, Q, (g _ (by decide)).1.trans cS, (g _ (by decide)).1.trans cQ⟩, (g _ (by decide)).1.trans cb, (g _ (by decide)).1.trans c27, (g _ (by decide)).1.trans c28, (g _ (by decide)).1.trans c29⟩
set_option maxHeartbeats 2000000 in
theorem cl_D_season_ok (l : Launch) {Z : dzG} {G : dzW} {ad : dzA} {aX : Nat} {nm ns nl nx nf : Nat} {dy ssf sst cfr grw bkk iop : Int32} {f3 f4 f5 f6 f12 f13 f14 f16 f17 f18 f20 f21 f22 f23 f24 f30 f31 f33 f34 f35 : Nat → Int32} (v1 v2 : Int32) (hC : dz_Cl Z G ad aX nm ns nl nx nf dy ssf sst cfr grw bkk iop f3 f4 f5 f6 f12 f13 f14 f16 f17 f18 f20 f21 f22 f23 f24 f30 f31 f33 f34 f35) (hg : ((((0 : Int32) ≤ v1 ∧ v1 ≤ 99)) ∧ (v1 ≤ v2 ∧ v2 ≤ 99))) : lw_C l yL_season wsL_season (1 + 1) (8 + (3 + 11) + 22) 0 0 Z G ad [.ref aX, .int v1, .int v2] 0 (fun G1 ad1 => dz_Cl Z G1 ad1 aX nm ns nl nx nf dy v1 v2 cfr grw bkk iop f3 f4 f5 f6 f12 f13 f14 f16 f17 f18 f20 f21 f22 f23 f24 f30 f31 f33 f34 f35) := by
  obtain ⟨ca, cco, cR, ⟨c5, c6, c7⟩, cls, cso, ⟨pl, cpl, cpe⟩, cfl, cst, ⟨lg, cF, cFe⟩, ⟨S, Q, cS, cQ⟩, cb, c27, c28, c29⟩ := id hC
  refine dz_po (c_L_season_W l Z G ad aX v1 v2 _ _ _ _ _ _ ca cco (c_D_season_ok l Z G ad aX nl nx dy ssf sst cfr grw v1 v2 ca cco hg)) ?_
  rintro x G1 ad1 ⟨rfl, fr, rfl, e1⟩
  have f39 : ∀ r : dzR, r.1 = 60 → G1 r = G r ∧ ad r = ad r := fun r h => fr r (by rintro rfl; simp at h)
  have hC2 := hC.obj (G' := G1) (fun r h => ⟨(fr r h).1, rfl⟩) e1
  exact ⟨rfl, f39, hC2⟩
set_option maxHeartbeats 2000000 in
theorem cl_D_cloud_ok (l : Launch) {Z : dzG} {G : dzW} {ad : dzA} {aX : Nat} {nm ns nl nx nf : Nat} {dy ssf sst cfr grw bkk iop : Int32} {f3 f4 f5 f6 f12 f13 f14 f16 f17 f18 f20 f21 f22 f23 f24 f30 f31 f33 f34 f35 : Nat → Int32} (v1 : Int32) (hC : dz_Cl Z G ad aX nm ns nl nx nf dy ssf sst cfr grw bkk iop f3 f4 f5 f6 f12 f13 f14 f16 f17 f18 f20 f21 f22 f23 f24 f30 f31 f33 f34 f35) (hg : ((0 : Int32) ≤ v1 ∧ v1 ≤ 50)) : lw_C l yL_cloud wsL_cloud (1 + 1) (8 + (2 + 11) + 22) 0 0 Z G ad [.ref aX, .int v1] (dy + v1) (fun G1 ad1 => dz_Cl Z G1 ad1 aX nm ns nl nx nf dy ssf sst (dy + v1) grw bkk iop f3 f4 f5 f6 f12 f13 f14 f16 f17 f18 f20 f21 f22 f23 f24 f30 f31 f33 f34 f35) := by
  obtain ⟨ca, cco, cR, ⟨c5, c6, c7⟩, cls, cso, ⟨pl, cpl, cpe⟩, cfl, cst, ⟨lg, cF, cFe⟩, ⟨S, Q, cS, cQ⟩, cb, c27, c28, c29⟩ := id hC
  refine dz_po (c_L_cloud_W l Z G ad aX v1 _ _ _ _ _ _ ca cco (c_D_cloud_ok l Z G ad aX nl nx dy ssf sst cfr grw v1 ca cco hg)) ?_
  rintro x G2 ad1 ⟨fr, rfl, rfl, e1⟩
  have f39 : ∀ r : dzR, r.1 = 60 → G2 r = G r ∧ ad r = ad r := fun r h => fr r (by rintro rfl; simp at h)
  have hC2 := hC.obj (G' := G2) (fun r h => ⟨(fr r h).1, rfl⟩) e1
  exact ⟨rfl, f39, hC2⟩
set_option maxHeartbeats 2000000 in
theorem cl_D_pass_ok (l : Launch) {Z : dzG} {G : dzW} {ad : dzA} {aX : Nat} {nm ns nl nx nf : Nat} {dy ssf sst cfr grw bkk iop : Int32} {f3 f4 f5 f6 f12 f13 f14 f16 f17 f18 f20 f21 f22 f23 f24 f30 f31 f33 f34 f35 : Nat → Int32} (v1 : Int32) (hC : dz_Cl Z G ad aX nm ns nl nx nf dy ssf sst cfr grw bkk iop f3 f4 f5 f6 f12 f13 f14 f16 f17 f18 f20 f21 f22 f23 f24 f30 f31 f33 f34 f35) (hg : ((1 : Int32) ≤ v1 ∧ v1 ≤ 100)) (hd : ¬ 2000 < dy + v1) : lw_C l yL_pass wsL_pass (1 + 1) (8 + (2 + 11) + 22) 0 0 Z G ad [.ref aX, .int v1] (dy + v1) (fun G1 ad1 => dz_Cl Z G1 ad1 aX nm ns nl nx nf (dy + v1) ssf sst cfr grw bkk iop f3 f4 f5 f6 f12 f13 f14 f16 f17 f18 f20 f21 f22 f23 f24 f30 f31 f33 f34 f35) := by
  obtain ⟨ca, cco, cR, ⟨c5, c6, c7⟩, cls, cso, ⟨pl, cpl, cpe⟩, cfl, cst, ⟨lg, cF, cFe⟩, ⟨S, Q, cS, cQ⟩, cb, c27, c28, c29⟩ := id hC
  refine dz_po (c_L_pass_W l Z G ad aX v1 _ _ _ _ _ _ ca cco (c_D_pass_ok l Z G ad aX nl nx dy ssf sst cfr grw v1 ca cco hg hd)) ?_
  rintro x G2 ad1 ⟨fr, rfl, rfl, e1⟩
  have f39 : ∀ r : dzR, r.1 = 60 → G2 r = G r ∧ ad r = ad r := fun r h => fr r (by rintro rfl; simp at h)
  have hC2 := hC.obj (G' := G2) (fun r h => ⟨(fr r h).1, rfl⟩) e1
  exact ⟨rfl, f39, hC2⟩
set_option maxHeartbeats 2000000 in
theorem cl_D_world_ok (l : Launch) {Z : dzG} {G : dzW} {ad : dzA} {aX : Nat} {nm ns nl nx nf : Nat} {dy ssf sst cfr grw bkk iop : Int32} {f3 f4 f5 f6 f12 f13 f14 f16 f17 f18 f20 f21 f22 f23 f24 f30 f31 f33 f34 f35 : Nat → Int32} (v1 : Int32) (hC : dz_Cl Z G ad aX nm ns nl nx nf dy ssf sst cfr grw bkk iop f3 f4 f5 f6 f12 f13 f14 f16 f17 f18 f20 f21 f22 f23 f24 f30 f31 f33 f34 f35) (hnf : nf ≤ 60) (hg : ((40 : Int32) ≤ v1 ∧ v1 ≤ 100)) (hf : nf = 0) : lw_C l yL_world wsL_world (2 + 1) (8 + (3 + 11) + 40) 0 0 Z G ad [.ref aX, .int v1] grw (fun G1 ad1 => dz_Cl Z G1 ad1 aX nm ns nl nx nf dy ssf sst cfr v1 bkk iop f3 f4 f5 f6 f12 f13 f14 f16 f17 f18 f20 f21 f22 f23 f24 f30 f31 f33 f34 f35) := by
  obtain ⟨ca, cco, cR, ⟨c5, c6, c7⟩, cls, cso, ⟨pl, cpl, cpe⟩, cfl, cst, ⟨lg, cF, cFe⟩, ⟨S, Q, cS, cQ⟩, cb, c27, c28, c29⟩ := id hC
  refine dz_po (c_L_world_W l Z G ad aX v1 _ _ _ _ _ _ ca cco (c_D_world_ok l Z G ad aX nl nx dy ssf sst cfr grw nf f30 lg v1 ca cco cF hnf hg hf)) ?_
  rintro x G2 ad1 ⟨fr, rfl, rfl, e1⟩
  have f39 : ∀ r : dzR, r.1 = 60 → G2 r = G r ∧ ad r = ad r := fun r h => fr r (by rintro rfl; simp at h)
  have hC2 := hC.obj (G' := G2) (fun r h => ⟨(fr r h).1, rfl⟩) e1
  exact ⟨rfl, f39, hC2⟩
set_option maxHeartbeats 2000000 in
theorem cl_D_vote_ok (l : Launch) {Z : dzG} {G : dzW} {ad : dzA} {aX : Nat} {nm ns nl nx nf : Nat} {dy ssf sst cfr grw bkk iop : Int32} {f3 f4 f5 f6 f12 f13 f14 f16 f17 f18 f20 f21 f22 f23 f24 f30 f31 f33 f34 f35 : Nat → Int32} (k : Nat) (v2 : Int32) (hC : dz_Cl Z G ad aX nm ns nl nx nf dy ssf sst cfr grw bkk iop f3 f4 f5 f6 f12 f13 f14 f16 f17 f18 f20 f21 f22 f23 f24 f30 f31 f33 f34 f35) (hk : k < 5) (hbv : m_bl v2) : lw_C l yL_vote wsL_vote (2 + 1) (8 + (3 + 11) + 45) 0 0 Z G ad [.ref aX, .int (nI k), .int v2] (if m_op iop (m_vt (upd f35 k v2) 5) = 0 then 0 else 1) (fun G1 ad1 => dz_Cl Z G1 ad1 aX nm ns nl nx nf dy ssf sst cfr grw bkk (m_op iop (m_vt (upd f35 k v2) 5)) f3 f4 f5 f6 f12 f13 f14 f16 f17 f18 f20 f21 f22 f23 f24 f30 f31 f33 f34 (upd f35 k v2)) := by
  obtain ⟨ca, cco, cR, ⟨c5, c6, c7⟩, cls, cso, ⟨pl, cpl, cpe⟩, cfl, cst, ⟨lg, cF, cFe⟩, ⟨S, Q, cS, cQ⟩, cb, c27, c28, c29⟩ := id hC
  refine dz_po (c_L_vote_W l Z G ad aX (nI k) v2 _ _ _ _ _ _ ca cco (c_D_vote_ok l Z G ad aX nl nx dy ssf sst cfr grw bkk iop k f35 v2 ca cco cb c29 hk hbv)) ?_
  rintro x G2 ad1 ⟨y, ⟨fr, rfl, rfl, e1, e2⟩, rfl⟩
  have f39 : ∀ r : dzR, r.1 = 60 → G2 r = G r ∧ ad r = ad r := fun r h => fr r (by rintro rfl; simp at h) (by rintro rfl; simp at h)
  have g : ∀ r : dzR, r.1 ≠ 22 → r.1 ≠ 23 → r.1 ≠ 26 → r.1 ≠ 27 → r.1 ≠ 28 → r.1 ≠ 29 → G2 r = G r ∧ ad r = ad r := fun r n1 n2 n3 n4 n5 n6 => ⟨(fr r (fun z => n3 (by rw [z])) (fun z => n6 (by rw [z]))).1, rfl⟩
  have fS := (fr (22, 0) (dz_n rfl) (dz_n rfl)).1.trans cS
  have fQ := (fr (23, 0) (dz_n rfl) (dz_n rfl)).1.trans cQ
  have fg := (fr (27, 0) (dz_n rfl) (dz_n rfl)).1.trans c27
  have fm := (fr (28, 0) (dz_n rfl) (dz_n rfl)).1.trans c28
  have hC2 : dz_Cl Z G2 ad aX nm ns nl nx nf dy ssf sst cfr grw bkk (m_op iop (m_vt (upd f35 k v2) 5)) f3 f4 f5 f6 f12 f13 f14 f16 f17 f18 f20 f21 f22 f23 f24 f30 f31 f33 f34 (upd f35 k v2) := ⟨ca, (g (1, 0) (by decide) (by decide) (by decide) (by decide) (by decide) (by decide)).1.trans cco, cR.frame (fun r h => g r (by omega) (by omega) (by omega) (by omega) (by omega) (by omega)) (fun r h => rfl), ⟨(g (5, 0) (by decide) (by decide) (by decide) (by decide) (by decide) (by decide)).1.trans c5, (g (6, 0) (by decide) (by decide) (by decide) (by decide) (by decide) (by decide)).1.trans c6, (g (7, 0) (by decide) (by decide) (by decide) (by decide) (by decide) (by decide)).1.trans c7⟩, cls.frame (g _ (by decide) (by decide) (by decide) (by decide) (by decide) (by decide)).1 (g _ (by decide) (by decide) (by decide) (by decide) (by decide) (by decide)), cso.frame (fun r h => g r (by omega) (by omega) (by omega) (by omega) (by omega) (by omega)) (fun r h => rfl), ⟨pl, cpl.frame (fun r h => g r (by omega) (by omega) (by omega) (by omega) (by omega) (by omega)), cpe⟩, cfl.frame (fun r h => g r (by omega) (by omega) (by omega) (by omega) (by omega) (by omega)), cst.frame (fun r h => g r (by omega) (by omega) (by omega) (by omega) (by omega) (by omega)), ⟨lg, dz_Fr.frame cF (fun r h => g r (by omega) (by omega) (by omega) (by omega) (by omega) (by omega)) (fun r h => rfl), cFe⟩, ⟨S, Q, fS, fQ⟩, e1, fg, fm, e2⟩
  exact ⟨rfl, f39, hC2⟩
set_option maxHeartbeats 2000000 in
theorem cl_D_meas_ok (l : Launch) {Z : dzG} {G : dzW} {ad : dzA} {aX : Nat} {nm ns nl nx nf : Nat} {dy ssf sst cfr grw bkk iop : Int32} {f3 f4 f5 f6 f12 f13 f14 f16 f17 f18 f20 f21 f22 f23 f24 f30 f31 f33 f34 f35 : Nat → Int32} (sc rk ot j jo : Nat) (hC : dz_Cl Z G ad aX nm ns nl nx nf dy ssf sst cfr grw bkk iop f3 f4 f5 f6 f12 f13 f14 f16 f17 f18 f20 f21 f22 f23 f24 f30 f31 f33 f34 f35) (hsc : sc < ns) (hns : ns ≤ 5) (hnf : nf ≤ 60) (hrk : rk < (m_ix nm f3 f4 f5 f6 f12 f13 sc).1) (hij : (m_ix nm f3 f4 f5 f6 f12 f13 sc).2 rk = nI j) (hjj : j + 22 < 484) (hot : ot < (m_ix nm f3 f4 f5 f6 f12 f13 sc).1) (hio : (m_ix nm f3 f4 f5 f6 f12 f13 sc).2 ot = nI jo) (hjo : jo + 22 < 484) (hne : ¬ rk = ot) (h6r : rk < 6) (h6o : ot < 6) (hlb : ∀ j, j < 30 * nf → f31 j = -1 ∨ (0 ≤ f31 j ∧ f31 j ≤ 118400)) : lw_C l yL_measured wsL_measured (5 + 1) (8 + (4 + 11) + 121) 0 0 Z G ad [.ref aX, .int (nI sc), .int (nI rk), .int (nI ot)] ((m_nb f30 (fun i => f31 (30 * i + 6 * sc + rk)) (fun i => f31 (30 * i + 6 * sc + ot)) nf (m_abs (m_times (m_turn (m_tc nm f3 f4 f5 f6) (m_tr nm f3 f4 f5 f6) jo))) (m_abs (m_times (m_turn (m_tc nm f3 f4 f5 f6) (m_tr nm f3 f4 f5 f6) j))) 151).1) (fun G1 ad1 => dz_Cl Z G1 ad1 aX nm ns nl nx nf dy ssf sst cfr grw bkk iop f3 f4 f5 f6 f12 f13 f14 f16 f17 f18 f20 f21 f22 f23 f24 f30 f31 f33 f34 f35) := by
  obtain ⟨ca, cco, cR, ⟨c5, c6, c7⟩, cls, cso, ⟨pl, cpl, cpe⟩, cfl, cst, ⟨lg, cF, cFe⟩, ⟨S, Q, cS, cQ⟩, cb, c27, c28, c29⟩ := id hC
  refine dz_po (c_L_measured_W l Z G ad aX (nI sc) (nI rk) (nI ot) _ _ _ _ _ _ ca cco (c_D_meas_ok l Z G ad aX nl nx dy ssf sst cfr grw ns sc rk ot j jo (fun i => (m_ix nm f3 f4 f5 f6 f12 f13 i).1) f12 f13 f14 pl nf f30 lg S Q (m_tc nm f3 f4 f5 f6) (m_tr nm f3 f4 f5 f6) ca cco cls hsc hns (cso sc hsc) (cpl sc hsc) cR.1 c5 c6 cF hnf cS cQ hrk m_im_c ((cpe sc rk hsc hrk).trans hij) hjj hot ((cpe sc ot hsc hot).trans hio) hjo h6r h6o hne)) ?_
  rintro x G2 ad1 ⟨fr, rfl, S0, S1, Q1, hS0, e22, e23, rfl⟩
  have f39 : ∀ r : dzR, r.1 = 60 → G2 r = G r ∧ ad r = ad r := fun r h => fr r (by rintro rfl; simp at h) (by rintro rfl; simp at h)
  have hmv : m_best (m_mi f30 (fun i => lg i (6 * sc + rk)) (fun j => lg j (6 * sc + ot)) nf (m_abs (m_times (m_turn (m_tc nm f3 f4 f5 f6) (m_tr nm f3 f4 f5 f6) j))) (m_abs (m_times (m_turn (m_tc nm f3 f4 f5 f6) (m_tr nm f3 f4 f5 f6) jo))) (S0, fun _ => 0) nf).1 (m_mi f30 (fun i => lg i (6 * sc + rk)) (fun j => lg j (6 * sc + ot)) nf (m_abs (m_times (m_turn (m_tc nm f3 f4 f5 f6) (m_tr nm f3 f4 f5 f6) j))) (m_abs (m_times (m_turn (m_tc nm f3 f4 f5 f6) (m_tr nm f3 f4 f5 f6) jo))) (S0, fun _ => 0) nf).2 151 = (m_nb f30 (fun i => f31 (30 * i + 6 * sc + rk)) (fun i => f31 (30 * i + 6 * sc + ot)) nf (m_abs (m_times (m_turn (m_tc nm f3 f4 f5 f6) (m_tr nm f3 f4 f5 f6) jo))) (m_abs (m_times (m_turn (m_tc nm f3 f4 f5 f6) (m_tr nm f3 f4 f5 f6) j))) 151).1 := m_meas (S0 := S0) hnf (fun i hi => by rw [cFe i _ hi (by omega)]; exact congrArg f31 (by omega)) (fun i hi => by rw [cFe i _ hi (by omega)]; exact congrArg f31 (by omega)) (fun i hi => hlb _ (by omega)) (fun i hi => hlb _ (by omega)) (fun i hi => hS0 i hi)
  have g : ∀ r : dzR, r.1 ≠ 22 → r.1 ≠ 23 → r.1 ≠ 26 → r.1 ≠ 27 → r.1 ≠ 28 → r.1 ≠ 29 → G2 r = G r ∧ ad r = ad r := fun r n1 n2 n3 n4 n5 n6 => ⟨(fr r (fun z => n1 (by rw [z])) (fun z => n2 (by rw [z]))).1, rfl⟩
  have fb := (fr (26, 0) (dz_n rfl) (dz_n rfl)).1.trans cb
  have fg := (fr (27, 0) (dz_n rfl) (dz_n rfl)).1.trans c27
  have fm := (fr (28, 0) (dz_n rfl) (dz_n rfl)).1.trans c28
  have fi := (fr (29, 0) (dz_n rfl) (dz_n rfl)).1.trans c29
  have hC2 : dz_Cl Z G2 ad aX nm ns nl nx nf dy ssf sst cfr grw bkk iop f3 f4 f5 f6 f12 f13 f14 f16 f17 f18 f20 f21 f22 f23 f24 f30 f31 f33 f34 f35 := ⟨ca, (g (1, 0) (by decide) (by decide) (by decide) (by decide) (by decide) (by decide)).1.trans cco, cR.frame (fun r h => g r (by omega) (by omega) (by omega) (by omega) (by omega) (by omega)) (fun r h => rfl), ⟨(g (5, 0) (by decide) (by decide) (by decide) (by decide) (by decide) (by decide)).1.trans c5, (g (6, 0) (by decide) (by decide) (by decide) (by decide) (by decide) (by decide)).1.trans c6, (g (7, 0) (by decide) (by decide) (by decide) (by decide) (by decide) (by decide)).1.trans c7⟩, cls.frame (g _ (by decide) (by decide) (by decide) (by decide) (by decide) (by decide)).1 (g _ (by decide) (by decide) (by decide) (by decide) (by decide) (by decide)), cso.frame (fun r h => g r (by omega) (by omega) (by omega) (by omega) (by omega) (by omega)) (fun r h => rfl), ⟨pl, cpl.frame (fun r h => g r (by omega) (by omega) (by omega) (by omega) (by omega) (by omega)), cpe⟩, cfl.frame (fun r h => g r (by omega) (by omega) (by omega) (by omega) (by omega) (by omega)), cst.frame (fun r h => g r (by omega) (by omega) (by omega) (by omega) (by omega) (by omega)), ⟨lg, dz_Fr.frame cF (fun r h => g r (by omega) (by omega) (by omega) (by omega) (by omega) (by omega)) (fun r h => rfl), cFe⟩, ⟨S1, Q1, e22, e23⟩, fb, fg, fm, fi⟩
  exact ⟨hmv, f39, hC2⟩
set_option maxHeartbeats 2000000 in
theorem cl_D_book_in (l : Launch) {Z : dzG} {G : dzW} {ad : dzA} {aX : Nat} {nm ns nl nx nf : Nat} {dy ssf sst cfr grw bkk iop : Int32} {f3 f4 f5 f6 f12 f13 f14 f16 f17 f18 f20 f21 f22 f23 f24 f30 f31 f33 f34 f35 : Nat → Int32} (k sc rk ot j jo : Nat) (hC : dz_Cl Z G ad aX nm ns nl nx nf dy ssf sst cfr grw bkk iop f3 f4 f5 f6 f12 f13 f14 f16 f17 f18 f20 f21 f22 f23 f24 f30 f31 f33 f34 f35) (hk : k < 2) (hN : nm ≤ 6) (hsc : sc < ns) (hns : ns ≤ 5) (hnf : nf ≤ 60) (hrk : rk < (m_ix nm f3 f4 f5 f6 f12 f13 sc).1) (hij : (m_ix nm f3 f4 f5 f6 f12 f13 sc).2 rk = nI j) (hjj : j + 22 < 484) (hot : ot < (m_ix nm f3 f4 f5 f6 f12 f13 sc).1) (hio : (m_ix nm f3 f4 f5 f6 f12 f13 sc).2 ot = nI jo) (hjo : jo + 22 < 484) (hne : ¬ rk = ot) (h6r : rk < 6) (h6o : ot < 6) (hlb : ∀ j, j < 30 * nf → f31 j = -1 ∨ (0 ≤ f31 j ∧ f31 j ≤ 118400)) : lw_C l yL_book wsL_book (5 + 1) (8 + (9 + 11) + 121) 0 0 Z G ad [.ref aX, .int (nI k), .int (nI sc), .int (nI rk), .int (nI ot)] (bkk + 1) (fun G1 ad1 => dz_Cl Z G1 ad1 aX nm ns nl nx nf dy ssf sst cfr grw (bkk + 1) iop f3 f4 f5 f6 f12 f13 f14 f16 f17 f18 f20 f21 f22 f23 f24 f30 f31 (upd f33 k (if ((m_nb f30 (fun i => f31 (30 * i + 6 * sc + rk)) (fun i => f31 (30 * i + 6 * sc + ot)) nf (m_abs (m_times (m_turn (m_tc nm f3 f4 f5 f6) (m_tr nm f3 f4 f5 f6) jo))) (m_abs (m_times (m_turn (m_tc nm f3 f4 f5 f6) (m_tr nm f3 f4 f5 f6) j))) 151).1) ≤ 0 ∨ ((m_tw nm f3 f4 f5 f6) jo - (m_tw nm f3 f4 f5 f6) j) ≤ 0 then -1 else ((m_tw nm f3 f4 f5 f6) jo - (m_tw nm f3 f4 f5 f6) j) * 20 / ((m_nb f30 (fun i => f31 (30 * i + 6 * sc + rk)) (fun i => f31 (30 * i + 6 * sc + ot)) nf (m_abs (m_times (m_turn (m_tc nm f3 f4 f5 f6) (m_tr nm f3 f4 f5 f6) jo))) (m_abs (m_times (m_turn (m_tc nm f3 f4 f5 f6) (m_tr nm f3 f4 f5 f6) j))) 151).1))) (upd f34 k (nI nm)) f35) := by
  obtain ⟨ca, cco, cR, ⟨c5, c6, c7⟩, cls, cso, ⟨pl, cpl, cpe⟩, cfl, cst, ⟨lg, cF, cFe⟩, ⟨S, Q, cS, cQ⟩, cb, c27, c28, c29⟩ := id hC
  refine dz_po (c_L_book_W l Z G ad aX (nI k) (nI sc) (nI rk) (nI ot) _ _ _ _ _ _ ca cco (c_D_book_in l Z G ad aX nl nx dy ssf sst cfr grw ns sc rk ot j jo (fun i => (m_ix nm f3 f4 f5 f6 f12 f13 i).1) f12 f13 f14 pl nf f30 lg S Q (m_tc nm f3 f4 f5 f6) (m_tr nm f3 f4 f5 f6) (m_tw nm f3 f4 f5 f6) nm f3 f4 f5 f6 bkk iop k f33 f34 ca cco cls hsc hns (cso sc hsc) (cpl sc hsc) cR.1 c5 c6 c7 cF hnf cS cQ hrk m_im_c ((cpe sc rk hsc hrk).trans hij) hjj hot ((cpe sc ot hsc hot).trans hio) hjo hne cR hN cb c27 c28 hk h6r h6o)) ?_
  rintro x G2 ad1 ⟨fr, rfl, S0, S1, Q1, hS0, e22, e23, rfl, e26, e27, e28⟩
  have f39 : ∀ r : dzR, r.1 = 60 → G2 r = G r ∧ ad r = ad r := fun r h => fr r (by rintro rfl; simp at h) (by rintro rfl; simp at h) (by rintro rfl; simp at h) (by rintro rfl; simp at h) (by rintro rfl; simp at h)
  have hmv : m_best (m_mi f30 (fun i => lg i (6 * sc + rk)) (fun j => lg j (6 * sc + ot)) nf (m_abs (m_times (m_turn (m_tc nm f3 f4 f5 f6) (m_tr nm f3 f4 f5 f6) j))) (m_abs (m_times (m_turn (m_tc nm f3 f4 f5 f6) (m_tr nm f3 f4 f5 f6) jo))) (S0, fun _ => 0) nf).1 (m_mi f30 (fun i => lg i (6 * sc + rk)) (fun j => lg j (6 * sc + ot)) nf (m_abs (m_times (m_turn (m_tc nm f3 f4 f5 f6) (m_tr nm f3 f4 f5 f6) j))) (m_abs (m_times (m_turn (m_tc nm f3 f4 f5 f6) (m_tr nm f3 f4 f5 f6) jo))) (S0, fun _ => 0) nf).2 151 = (m_nb f30 (fun i => f31 (30 * i + 6 * sc + rk)) (fun i => f31 (30 * i + 6 * sc + ot)) nf (m_abs (m_times (m_turn (m_tc nm f3 f4 f5 f6) (m_tr nm f3 f4 f5 f6) jo))) (m_abs (m_times (m_turn (m_tc nm f3 f4 f5 f6) (m_tr nm f3 f4 f5 f6) j))) 151).1 := m_meas (S0 := S0) hnf (fun i hi => by rw [cFe i _ hi (by omega)]; exact congrArg f31 (by omega)) (fun i hi => by rw [cFe i _ hi (by omega)]; exact congrArg f31 (by omega)) (fun i hi => hlb _ (by omega)) (fun i hi => hlb _ (by omega)) (fun i hi => hS0 i hi)
  rw [hmv] at e27
  have g : ∀ r : dzR, r.1 ≠ 22 → r.1 ≠ 23 → r.1 ≠ 26 → r.1 ≠ 27 → r.1 ≠ 28 → r.1 ≠ 29 → G2 r = G r ∧ ad r = ad r := fun r n1 n2 n3 n4 n5 n6 => ⟨(fr r (fun z => n1 (by rw [z])) (fun z => n2 (by rw [z])) (fun z => n3 (by rw [z])) (fun z => n4 (by rw [z])) (fun z => n5 (by rw [z]))).1, rfl⟩
  have fi := (fr (29, 0) (dz_n rfl) (dz_n rfl) (dz_n rfl) (dz_n rfl) (dz_n rfl)).1.trans c29
  have hC2 : dz_Cl Z G2 ad aX nm ns nl nx nf dy ssf sst cfr grw (bkk + 1) iop f3 f4 f5 f6 f12 f13 f14 f16 f17 f18 f20 f21 f22 f23 f24 f30 f31 (upd f33 k (if ((m_nb f30 (fun i => f31 (30 * i + 6 * sc + rk)) (fun i => f31 (30 * i + 6 * sc + ot)) nf (m_abs (m_times (m_turn (m_tc nm f3 f4 f5 f6) (m_tr nm f3 f4 f5 f6) jo))) (m_abs (m_times (m_turn (m_tc nm f3 f4 f5 f6) (m_tr nm f3 f4 f5 f6) j))) 151).1) ≤ 0 ∨ ((m_tw nm f3 f4 f5 f6) jo - (m_tw nm f3 f4 f5 f6) j) ≤ 0 then -1 else ((m_tw nm f3 f4 f5 f6) jo - (m_tw nm f3 f4 f5 f6) j) * 20 / ((m_nb f30 (fun i => f31 (30 * i + 6 * sc + rk)) (fun i => f31 (30 * i + 6 * sc + ot)) nf (m_abs (m_times (m_turn (m_tc nm f3 f4 f5 f6) (m_tr nm f3 f4 f5 f6) jo))) (m_abs (m_times (m_turn (m_tc nm f3 f4 f5 f6) (m_tr nm f3 f4 f5 f6) j))) 151).1))) (upd f34 k (nI nm)) f35 := ⟨ca, (g (1, 0) (by decide) (by decide) (by decide) (by decide) (by decide) (by decide)).1.trans cco, cR.frame (fun r h => g r (by omega) (by omega) (by omega) (by omega) (by omega) (by omega)) (fun r h => rfl), ⟨(g (5, 0) (by decide) (by decide) (by decide) (by decide) (by decide) (by decide)).1.trans c5, (g (6, 0) (by decide) (by decide) (by decide) (by decide) (by decide) (by decide)).1.trans c6, (g (7, 0) (by decide) (by decide) (by decide) (by decide) (by decide) (by decide)).1.trans c7⟩, cls.frame (g _ (by decide) (by decide) (by decide) (by decide) (by decide) (by decide)).1 (g _ (by decide) (by decide) (by decide) (by decide) (by decide) (by decide)), cso.frame (fun r h => g r (by omega) (by omega) (by omega) (by omega) (by omega) (by omega)) (fun r h => rfl), ⟨pl, cpl.frame (fun r h => g r (by omega) (by omega) (by omega) (by omega) (by omega) (by omega)), cpe⟩, cfl.frame (fun r h => g r (by omega) (by omega) (by omega) (by omega) (by omega) (by omega)), cst.frame (fun r h => g r (by omega) (by omega) (by omega) (by omega) (by omega) (by omega)), ⟨lg, dz_Fr.frame cF (fun r h => g r (by omega) (by omega) (by omega) (by omega) (by omega) (by omega)) (fun r h => rfl), cFe⟩, ⟨S1, Q1, e22, e23⟩, e26, e27, e28, fi⟩
  exact ⟨rfl, f39, hC2⟩
set_option maxHeartbeats 2000000 in
theorem cl_D_book_outm (l : Launch) {Z : dzG} {G : dzW} {ad : dzA} {aX : Nat} {nm ns nl nx nf : Nat} {dy ssf sst cfr grw bkk iop : Int32} {f3 f4 f5 f6 f12 f13 f14 f16 f17 f18 f20 f21 f22 f23 f24 f30 f31 f33 f34 f35 : Nat → Int32} (k sc rk ot j jo : Nat) (hC : dz_Cl Z G ad aX nm ns nl nx nf dy ssf sst cfr grw bkk iop f3 f4 f5 f6 f12 f13 f14 f16 f17 f18 f20 f21 f22 f23 f24 f30 f31 f33 f34 f35) (hk : k < 2) (hN : nm ≤ 6) (hsc : sc < ns) (hns : ns ≤ 5) (hnf : nf ≤ 60) (hrk : rk < (m_ix nm f3 f4 f5 f6 f12 f13 sc).1) (hij : (m_ix nm f3 f4 f5 f6 f12 f13 sc).2 rk = nI j) (hjj : j + 22 < 484) (hot : ot < (m_ix nm f3 f4 f5 f6 f12 f13 sc).1) (hio : (m_ix nm f3 f4 f5 f6 f12 f13 sc).2 ot = nI jo) (hjo : jo + 22 < 484) (hne : ¬ rk = ot) (h66 : 6 ≤ rk ∨ 6 ≤ ot) : lw_C l yL_book wsL_book (5 + 1) (8 + (9 + 11) + 111) 0 0 Z G ad [.ref aX, .int (nI k), .int (nI sc), .int (nI rk), .int (nI ot)] (bkk + 1) (fun G1 ad1 => dz_Cl Z G1 ad1 aX nm ns nl nx nf dy ssf sst cfr grw (bkk + 1) iop f3 f4 f5 f6 f12 f13 f14 f16 f17 f18 f20 f21 f22 f23 f24 f30 f31 (upd f33 k (if (-1) ≤ 0 ∨ ((m_tw nm f3 f4 f5 f6) jo - (m_tw nm f3 f4 f5 f6) j) ≤ 0 then -1 else ((m_tw nm f3 f4 f5 f6) jo - (m_tw nm f3 f4 f5 f6) j) * 20 / (-1))) (upd f34 k (nI nm)) f35) := by
  obtain ⟨ca, cco, cR, ⟨c5, c6, c7⟩, cls, cso, ⟨pl, cpl, cpe⟩, cfl, cst, ⟨lg, cF, cFe⟩, ⟨S, Q, cS, cQ⟩, cb, c27, c28, c29⟩ := id hC
  refine dz_po (c_L_book_W l Z G ad aX (nI k) (nI sc) (nI rk) (nI ot) _ _ _ _ _ _ ca cco (c_D_book_outm l Z G ad aX nl nx dy ssf sst cfr grw ns sc rk ot j jo (fun i => (m_ix nm f3 f4 f5 f6 f12 f13 i).1) f12 f13 f14 pl nf f30 lg S Q (m_tc nm f3 f4 f5 f6) (m_tr nm f3 f4 f5 f6) (m_tw nm f3 f4 f5 f6) nm f3 f4 f5 f6 bkk iop k f33 f34 ca cco cls hsc hns (cso sc hsc) (cpl sc hsc) cR.1 c5 c6 c7 cF hnf cS cQ hrk m_im_c ((cpe sc rk hsc hrk).trans hij) hjj hot ((cpe sc ot hsc hot).trans hio) hjo hne cR hN cb c27 c28 hk h66)) ?_
  rintro x G2 ad1 ⟨fr, rfl, rfl, e26, e27, e28⟩
  have f39 : ∀ r : dzR, r.1 = 60 → G2 r = G r ∧ ad r = ad r := fun r h => fr r (by rintro rfl; simp at h) (by rintro rfl; simp at h) (by rintro rfl; simp at h)
  have g : ∀ r : dzR, r.1 ≠ 22 → r.1 ≠ 23 → r.1 ≠ 26 → r.1 ≠ 27 → r.1 ≠ 28 → r.1 ≠ 29 → G2 r = G r ∧ ad r = ad r := fun r n1 n2 n3 n4 n5 n6 => ⟨(fr r (fun z => n3 (by rw [z])) (fun z => n4 (by rw [z])) (fun z => n5 (by rw [z]))).1, rfl⟩
  have fi := (fr (29, 0) (dz_n rfl) (dz_n rfl) (dz_n rfl)).1.trans c29
  have fS := (fr (22, 0) (dz_n rfl) (dz_n rfl) (dz_n rfl)).1.trans cS
  have fQ := (fr (23, 0) (dz_n rfl) (dz_n rfl) (dz_n rfl)).1.trans cQ
  have hC2 : dz_Cl Z G2 ad aX nm ns nl nx nf dy ssf sst cfr grw (bkk + 1) iop f3 f4 f5 f6 f12 f13 f14 f16 f17 f18 f20 f21 f22 f23 f24 f30 f31 (upd f33 k (if (-1) ≤ 0 ∨ ((m_tw nm f3 f4 f5 f6) jo - (m_tw nm f3 f4 f5 f6) j) ≤ 0 then -1 else ((m_tw nm f3 f4 f5 f6) jo - (m_tw nm f3 f4 f5 f6) j) * 20 / (-1))) (upd f34 k (nI nm)) f35 := ⟨ca, (g (1, 0) (by decide) (by decide) (by decide) (by decide) (by decide) (by decide)).1.trans cco, cR.frame (fun r h => g r (by omega) (by omega) (by omega) (by omega) (by omega) (by omega)) (fun r h => rfl), ⟨(g (5, 0) (by decide) (by decide) (by decide) (by decide) (by decide) (by decide)).1.trans c5, (g (6, 0) (by decide) (by decide) (by decide) (by decide) (by decide) (by decide)).1.trans c6, (g (7, 0) (by decide) (by decide) (by decide) (by decide) (by decide) (by decide)).1.trans c7⟩, cls.frame (g _ (by decide) (by decide) (by decide) (by decide) (by decide) (by decide)).1 (g _ (by decide) (by decide) (by decide) (by decide) (by decide) (by decide)), cso.frame (fun r h => g r (by omega) (by omega) (by omega) (by omega) (by omega) (by omega)) (fun r h => rfl), ⟨pl, cpl.frame (fun r h => g r (by omega) (by omega) (by omega) (by omega) (by omega) (by omega)), cpe⟩, cfl.frame (fun r h => g r (by omega) (by omega) (by omega) (by omega) (by omega) (by omega)), cst.frame (fun r h => g r (by omega) (by omega) (by omega) (by omega) (by omega) (by omega)), ⟨lg, dz_Fr.frame cF (fun r h => g r (by omega) (by omega) (by omega) (by omega) (by omega) (by omega)) (fun r h => rfl), cFe⟩, ⟨S, Q, fS, fQ⟩, e26, e27, e28, fi⟩
  exact ⟨rfl, f39, hC2⟩
