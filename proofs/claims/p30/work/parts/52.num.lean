/-! NUMBERS THAT BOUND -/
theorem m_idx {n : Nat} (hn : n < 2 ^ 31) (v : Int32) : (v < 0 ∨ nI n ≤ v) ∨ ∃ k, k < n ∧ v = nI k := by
  by_cases c1 : v < 0
  · exact Or.inl (Or.inl c1)
  · by_cases c2 : nI n ≤ v
    · exact Or.inl (Or.inr c2)
    · obtain ⟨j, h1, h2, -⟩ := pk_mu c1 c2 hn
      exact Or.inr ⟨j, h1, h2⟩
theorem m_le {x : Int32} {a b : Int} {lo hi : Int32} (h : lo ≤ x ∧ x ≤ hi) (e1 : lo.toInt = a) (e2 : hi.toInt = b) : a ≤ x.toInt ∧ x.toInt ≤ b := by
  have h1 := Int32.le_iff_toInt_le.mp h.1
  have h2 := Int32.le_iff_toInt_le.mp h.2
  rw [e1] at h1
  rw [e2] at h2
  exact ⟨h1, h2⟩
theorem m_ge {x : Int32} {a b : Int} {lo hi : Int32} (h : a ≤ x.toInt ∧ x.toInt ≤ b) (e1 : lo.toInt = a) (e2 : hi.toInt = b) : lo ≤ x ∧ x ≤ hi := by
  refine ⟨Int32.le_iff_toInt_le.mpr ?_, Int32.le_iff_toInt_le.mpr ?_⟩
  · rw [e1]; exact h.1
  · rw [e2]; exact h.2
theorem m_fld {v : Int32} (h : (-10 : Int32) ≤ v ∧ v ≤ 10) : ∃ a, a < 21 ∧ v = nI a - 10 := by
  obtain ⟨h1, h2⟩ := m_le h (a := -10) (b := 10) (by decide) (by decide)
  refine ⟨(v.toInt + 10).toNat, by omega, Int32.toInt_inj.mp ?_⟩
  rw [Jvm.Kit.i32_sub (by rw [nI_toInt (by omega), show (10 : Int32).toInt = 10 from by decide]; omega) (by rw [nI_toInt (by omega), show (10 : Int32).toInt = 10 from by decide]; omega), nI_toInt (by omega), show (10 : Int32).toInt = 10 from by decide]
  omega
theorem m_ok_add {nm : Nat} {co ro : Nat → Int32} {v2 v3 : Int32} (h : m_ok nm co ro) (h2 : (-10 : Int32) ≤ v2 ∧ v2 ≤ 10) (h3 : (-10 : Int32) ≤ v3 ∧ v3 ≤ 10) : m_ok (nm + 1) (upd co nm v2) (upd ro nm v3) := by
  intro k hk
  by_cases c : k = nm
  · rw [c, pk_us, pk_us]
    exact ⟨m_fld h2, m_fld h3⟩
  · rw [pk_un c, pk_un c]
    exact h k (by omega)
/-- a light of a source -/
theorem m_mflb {fl : Int32} {fo fd fb : Nat → Int32} {sc dy : Int32} (hf : 1 ≤ fl.toInt ∧ fl.toInt ≤ 100) {n : Nat} (hn : n ≤ 40) (hb : ∀ k, k < n → -100 ≤ (fb k).toInt ∧ (fb k).toInt ≤ 100) : ∀ k : Nat, k ≤ n → -(100 * (k : Int)) ≤ (m_mfl fl fo fd fb sc dy k).toInt ∧ (m_mfl fl fo fd fb sc dy k).toInt ≤ 100 + 100 * (k : Int) := by
  intro k
  induction k with
  | zero =>
    intro _
    show -(100 * ((0 : Nat) : Int)) ≤ fl.toInt ∧ fl.toInt ≤ _
    omega
  | succ k ih =>
    intro h
    obtain ⟨i1, i2⟩ := ih (by omega)
    show _ ≤ (m_mfl fl fo fd fb sc dy k + (if fo k = sc ∧ fd k ≤ dy then fb k else 0)).toInt ∧ (m_mfl fl fo fd fb sc dy k + (if fo k = sc ∧ fd k ≤ dy then fb k else 0)).toInt ≤ _
    have hx : -100 ≤ (if fo k = sc ∧ fd k ≤ dy then fb k else 0 : Int32).toInt ∧ (if fo k = sc ∧ fd k ≤ dy then fb k else 0 : Int32).toInt ≤ 100 := by
      split
      · exact hb k (by omega)
      · decide
    generalize (if fo k = sc ∧ fd k ≤ dy then fb k else 0 : Int32) = y at hx ⊢
    rw [Jvm.Kit.i32_add (by omega) (by omega)]
    omega
theorem m_posb {x : Int32} {b : Int} (hb : 0 ≤ b) (h : x.toInt ≤ b) : 0 ≤ (m_pos x).toInt ∧ (m_pos x).toInt ≤ b := by
  unfold m_pos
  by_cases c : x < 0
  · rw [if_pos c]
    exact ⟨by decide, by rw [show (0 : Int32).toInt = 0 from by decide]; exact hb⟩
  · rw [if_neg c]
    exact ⟨Jvm.Kit.i32_nonneg.mp (Int32.not_lt.mp c), h⟩
theorem m_moreb {dy wd st ht : Int32} (hd : 0 ≤ dy.toInt ∧ dy.toInt ≤ 2000) (hs : 0 ≤ st.toInt ∧ st.toInt ≤ 2000) (hw : 1 ≤ wd.toInt ∧ wd.toInt ≤ 50) (hh : 1 ≤ ht.toInt ∧ ht.toInt ≤ 1000) : 0 ≤ (m_more dy wd st ht).toInt ∧ (m_more dy wd st ht).toInt ≤ 1000 := by
  have e1 : (st + wd).toInt = st.toInt + wd.toInt := Jvm.Kit.i32_add (by omega) (by omega)
  have e2 : (dy - (st + wd)).toInt = dy.toInt - (st.toInt + wd.toInt) := by rw [Jvm.Kit.i32_sub (by omega) (by omega), e1]
  have e3 := m_abs_b (x := dy - (st + wd)) (k := 2050) (by decide) (by omega)
  have e4 : (wd - m_abs (dy - (st + wd))).toInt = wd.toInt - (m_abs (dy - (st + wd))).toInt := Jvm.Kit.i32_sub (by omega) (by omega)
  unfold m_more
  generalize wd - m_abs (dy - (st + wd)) = lf at e4 ⊢
  by_cases c : lf ≤ 0
  · rw [if_pos c]
    decide
  · rw [if_neg c]
    have c1 : 0 < lf.toInt := by
      have := Int32.lt_iff_toInt_lt.mp (Int32.not_le.mp c)
      rwa [show (0 : Int32).toInt = 0 from by decide] at this
    have c2 : lf.toInt ≤ wd.toInt := by omega
    have p1 : 0 ≤ ht.toInt * lf.toInt := Int.mul_nonneg (by omega) (by omega)
    have p2 : ht.toInt * lf.toInt ≤ ht.toInt * wd.toInt := Int.mul_le_mul_of_nonneg_left c2 (by omega)
    have p3 : ht.toInt * wd.toInt ≤ 1000 * 50 := Int.mul_le_mul hh.2 hw.2 (by omega) (by omega)
    have e5 : (ht * lf).toInt = ht.toInt * lf.toInt := Jvm.Kit.i32_mul (by omega) (by omega)
    rw [Jvm.Kit.i32_div (by rintro ⟨-, q⟩; omega), e5, Int.tdiv_eq_ediv_of_nonneg p1]
    refine ⟨Int.ediv_nonneg p1 (by omega), Int.le_trans (Int.ediv_le_of_le_mul (by omega) p2) hh.2⟩
theorem m_mstb {i0 : Int32} {so sr sd sw sg : Nat → Int32} {sc rk dy : Int32} (hi : 0 ≤ i0.toInt ∧ i0.toInt ≤ 98400) (hd : 0 ≤ dy.toInt ∧ dy.toInt ≤ 2000) {n : Nat} (hn : n ≤ 20) (hb : ∀ k, k < n → (0 ≤ (sd k).toInt ∧ (sd k).toInt ≤ 2000) ∧ (1 ≤ (sw k).toInt ∧ (sw k).toInt ≤ 50) ∧ (1 ≤ (sg k).toInt ∧ (sg k).toInt ≤ 1000)) : ∀ k : Nat, k ≤ n → 0 ≤ (m_mst i0 so sr sd sw sg sc rk dy k).toInt ∧ (m_mst i0 so sr sd sw sg sc rk dy k).toInt ≤ 98400 + 1000 * (k : Int) := by
  intro k
  induction k with
  | zero =>
    intro _
    show 0 ≤ i0.toInt ∧ i0.toInt ≤ _
    omega
  | succ k ih =>
    intro h
    obtain ⟨i1, i2⟩ := ih (by omega)
    show _ ≤ (m_mst i0 so sr sd sw sg sc rk dy k + (if so k = sc ∧ sr k = rk then m_more dy (sw k) (sd k) (sg k) else 0)).toInt ∧ (m_mst i0 so sr sd sw sg sc rk dy k + (if so k = sc ∧ sr k = rk then m_more dy (sw k) (sd k) (sg k) else 0)).toInt ≤ _
    have hx : 0 ≤ (if so k = sc ∧ sr k = rk then m_more dy (sw k) (sd k) (sg k) else 0 : Int32).toInt ∧ (if so k = sc ∧ sr k = rk then m_more dy (sw k) (sd k) (sg k) else 0 : Int32).toInt ≤ 1000 := by
      split
      · obtain ⟨g1, g2, g3⟩ := hb k (by omega)
        exact m_moreb hd g1 g2 g3
      · decide
    generalize (if so k = sc ∧ sr k = rk then m_more dy (sw k) (sd k) (sg k) else 0 : Int32) = y at hx ⊢
    rw [Jvm.Kit.i32_add (by omega) (by omega)]
    omega
/-- a light that a frame has -/
theorem m_lvb {f8 f9 f10 f12 f13 f14 f16 f17 f18 f20 f21 f22 f23 f24 : Nat → Int32} {ns nl nx : Nat} {dy grw : Int32} (h14 : ∀ i, i < ns → 1 ≤ f14 i ∧ f14 i ≤ 100) (hnl : nl ≤ 40) (h18 : ∀ k, k < nl → -100 ≤ f18 k ∧ f18 k ≤ 100) (hnx : nx ≤ 20) (hx : ∀ k, k < nx → (0 ≤ f22 k ∧ f22 k ≤ 2000) ∧ (1 ≤ f23 k ∧ f23 k ≤ 50) ∧ (1 ≤ f24 k ∧ f24 k ≤ 1000)) (hd : 0 ≤ dy ∧ dy ≤ 2000) (a b : Nat) : m_lv f8 f9 f10 f12 f13 f14 f16 f17 f18 f20 f21 f22 f23 f24 ns nl nx dy grw a b = -1 ∨ (0 ≤ m_lv f8 f9 f10 f12 f13 f14 f16 f17 f18 f20 f21 f22 f23 f24 ns nl nx dy grw a b ∧ m_lv f8 f9 f10 f12 f13 f14 f16 f17 f18 f20 f21 f22 f23 f24 ns nl nx dy grw a b ≤ 118400) := by
  unfold m_lv
  by_cases c : a < ns ∧ b < (m_im f8 f9 f10 f12 f13 a).1
  · rw [if_pos c]
    right
    unfold m_li
    have q1 := m_abs_b (k := 24) (by decide) (m_times_b (m_turn (fun j => m_pc j - f8 j) (fun j => m_pr j - f9 j) ((m_im f8 f9 f10 f12 f13 a).2 b).toNatClampNeg))
    have q2 := m_mflb (fo := f16) (fd := f17) (fb := f18) (sc := nI a) (dy := dy - (f10 ((m_im f8 f9 f10 f12 f13 a).2 b).toNatClampNeg - f10 ((m_im f8 f9 f10 f12 f13 a).2 0).toNatClampNeg) * 20 / grw) (m_le (h14 a c.1) (by decide) (by decide)) hnl (fun k hk => m_le (h18 k hk) (by decide) (by decide)) nl (Nat.le_refl _)
    have q3 := m_posb (b := 4100) (by decide) (Int.le_trans q2.2 (by omega))
    generalize m_abs (m_times (m_turn (fun j => m_pc j - f8 j) (fun j => m_pr j - f9 j) ((m_im f8 f9 f10 f12 f13 a).2 b).toNatClampNeg)) = x at q1 ⊢
    generalize m_pos (m_mfl (f14 a) f16 f17 f18 (nI a) (dy - (f10 ((m_im f8 f9 f10 f12 f13 a).2 b).toNatClampNeg - f10 ((m_im f8 f9 f10 f12 f13 a).2 0).toNatClampNeg) * 20 / grw) nl) = y at q3 ⊢
    have p1 : 0 ≤ x.toInt * y.toInt := Int.mul_nonneg q1.1 q3.1
    have p2 : x.toInt * y.toInt ≤ 24 * 4100 := Int.mul_le_mul q1.2 q3.2 q3.1 (by decide)
    have e5 : (x * y).toInt = x.toInt * y.toInt := Jvm.Kit.i32_mul (by omega) (by omega)
    have q4 := m_mstb (i0 := x * y) (so := f20) (sr := f21) (sc := nI a) (rk := nI b) (by omega) (m_le hd (by decide) (by decide)) hnx (fun k hk => ⟨m_le (hx k hk).1 (by decide) (by decide), m_le (hx k hk).2.1 (by decide) (by decide), m_le (hx k hk).2.2 (by decide) (by decide)⟩) nx (Nat.le_refl _)
    exact m_ge (a := 0) (b := 118400) ⟨q4.1, Int.le_trans q4.2 (by omega)⟩ (by decide) (by decide)
  · rw [if_neg c]
    exact Or.inl rfl
/-- halves of a strength -/
theorem m_half {x : Int32} (h : 1 ≤ x ∧ x ≤ 8) (h1 : ¬ x = 1) : ¬ x ≤ 1 ∧ ¬ x / 2 < 1 ∧ (1 ≤ x / 2 ∧ x / 2 ≤ 8) ∧ (1 ≤ x - x / 2 ∧ x - x / 2 ≤ 8) := by
  obtain ⟨a1, a2⟩ := m_le h (a := 1) (b := 8) (by decide) (by decide)
  have e : x = nI x.toInt.toNat := Int32.toInt_inj.mp (by rw [nI_toInt (by omega)]; omega)
  have key : ∀ n, n < 9 → 2 ≤ n → ¬ nI n ≤ 1 ∧ ¬ nI n / 2 < 1 ∧ (1 ≤ nI n / 2 ∧ nI n / 2 ≤ 8) ∧ (1 ≤ nI n - nI n / 2 ∧ nI n - nI n / 2 ≤ 8) := by decide +kernel
  rw [e]
  refine key _ (by omega) ?_
  rcases Nat.lt_or_ge x.toInt.toNat 2 with q | q
  · exact absurd (by rw [e, show x.toInt.toNat = 1 by omega]; rfl) h1
  · exact q
theorem m_sg441 (f : Nat → Int32) : m_sg f 441 = m_all f 21 := m_sg_all 21
theorem m_lt {a b : Int32} (h : a ≤ b) (n : ¬ a = b) : a < b := by
  rcases Int.lt_or_eq_of_le (Int32.le_iff_toInt_le.mp h) with q | q
  · exact Int32.lt_iff_toInt_lt.mpr q
  · exact absurd (Int32.toInt_inj.mp q) n
theorem m_w5 {v : Int32} (h : (0 : Int32) ≤ v ∧ v ≤ 4) : v = 0 ∨ v = 1 ∨ v = 2 ∨ v = 3 ∨ v = 4 := by
  rcases m_idx (n := 5) (by decide) v with c | ⟨w, hw, rfl⟩
  · exact absurd h (fun z => c.elim (fun q => Int32.not_lt.mpr z.1 q) (fun q => Int32.not_lt.mpr q (Int32.lt_of_le_of_lt z.2 (by decide))))
  · rcases (show w = 0 ∨ w = 1 ∨ w = 2 ∨ w = 3 ∨ w = 4 by omega) with rfl | rfl | rfl | rfl | rfl
    · exact Or.inl rfl
    · exact Or.inr (Or.inl rfl)
    · exact Or.inr (Or.inr (Or.inl rfl))
    · exact Or.inr (Or.inr (Or.inr (Or.inl rfl)))
    · exact Or.inr (Or.inr (Or.inr (Or.inr rfl)))
theorem m_pass {dy v1 : Int32} (h : 0 ≤ dy ∧ dy ≤ 2000) (h1 : (1 : Int32) ≤ v1 ∧ v1 ≤ 100) (h2 : ¬ 2000 < dy + v1) : dy ≤ dy + v1 ∧ (0 ≤ dy + v1 ∧ dy + v1 ≤ 2000) := by
  have a := m_le h (a := 0) (b := 2000) (by decide) (by decide)
  have b := m_le h1 (a := 1) (b := 100) (by decide) (by decide)
  have e : (dy + v1).toInt = dy.toInt + v1.toInt := Jvm.Kit.i32_add (by omega) (by omega)
  have h2' := Int32.not_lt.mp h2
  refine ⟨Int32.le_iff_toInt_le.mpr (by rw [e]; omega), Jvm.Kit.i32_nonneg.mpr (by rw [e]; omega), h2'⟩
