/-! THE REFERENCE'S OWN WORDS -/
theorem fl_cl : ∀ a, a < 22 → ∀ b, b < 22 → nI b - 10 + 10 + 22 * (nI a - 10 + 10) = nI (22 * a + b) := by decide +kernel
theorem fl_g11 : ∀ a, a < 23 → (11 < nI a - 10 ↔ a = 22) := by decide +kernel
theorem fl_s22 : ∀ a, a < 23 → nI a - 10 + 1 = nI (a + 1) - 10 := by decide +kernel
/-- how much the rays of a place are bent -/
def m_bc (nm : Nat) (sh co ro st : Nat → Int32) (j : Nat) : Int32 := m_bcol sh co ro st (m_pc j) (m_pr j) nm
def m_br (nm : Nat) (sh co ro st : Nat → Int32) (j : Nat) : Int32 := m_brow sh co ro st (m_pc j) (m_pr j) nm
/-- the light of a source, of the flares that it has among all -/
def m_mfl (fl : Int32) (fo fd fb : Nat → Int32) (sc dy : Int32) : Nat → Int32
  | 0 => fl
  | k + 1 => m_mfl fl fo fd fb sc dy k + if fo k = sc ∧ fd k ≤ dy then fb k else 0
def m_mst (i0 : Int32) (so sr sd sw sg : Nat → Int32) (sc rk dy : Int32) : Nat → Int32
  | 0 => i0
  | k + 1 => m_mst i0 so sr sd sw sg sc rk dy k + if so k = sc ∧ sr k = rk then m_more dy (sw k) (sd k) (sg k) else 0
theorem m_up22 {f g : Nat → Int32} {k : Nat} {x : Int32} (h : ∀ j, j < k → f j = g j) (hx : x = g k) : ∀ j, j < k + 1 → upd f k x j = g j := by
  intro j hj
  by_cases c : j = k
  · subst c
    rw [pk_us, hx]
  · rw [pk_un c]
    exact h j (by omega)
theorem fl_h : ∀ k, k < 441 → nI k - nI k / 21 * 21 - 10 + 10 + 22 * (nI k / 21 - 10 + 10) = nI (22 * (k / 21) + k % 21) := by decide +kernel
theorem fl_sh : ∀ i, i < 60 → ∀ x, x < 5 → ∀ r, r < 6 → 6 * (5 * nI i + nI x) + nI r = nI (30 * i + 6 * x + r) := by decide +kernel
def m_sg (f : Nat → Int32) : Nat → Int32
  | 0 => 0
  | k + 1 => m_sg f k + f (22 * (k / 21) + k % 21)
theorem m_sg_row {f : Nat → Int32} {a : Nat} : ∀ b, b ≤ 21 → m_sg f (21 * a + b) = m_sg f (21 * a) + m_row f a b := by
  intro b
  induction b with
  | zero => intro _; exact (Int32.add_zero _).symm
  | succ b ih =>
    intro h
    show m_sg f (21 * a + b) + f (22 * ((21 * a + b) / 21) + (21 * a + b) % 21) = m_sg f (21 * a) + (m_row f a b + f (22 * a + b))
    rw [ih (by omega), show (21 * a + b) / 21 = a by omega, show (21 * a + b) % 21 = b by omega, Int32.add_assoc]
theorem m_sg_all {f : Nat → Int32} : ∀ a, m_sg f (21 * a) = m_all f a := by
  intro a
  induction a with
  | zero => rfl
  | succ a ih =>
    show m_sg f (21 * a + 21) = m_all f a + m_row f a 21
    rw [m_sg_row 21 (Nat.le_refl _), ih]
def m_abl (x : Int64) : Int64 := if x < 0 then -x else x
def m_off (a b tw on : Int32) : Int64 := m_abl (a.toInt64 * tw.toInt64 - b.toInt64 * on.toInt64)
def m_nj (fd B : Nat → Int32) (ai : Int32) (i : Nat) (tw on n : Int32) (q : Int64 × Int32) : Nat → Int64 × Int32
  | 0 => q
  | t + 1 => if fd (i + t) - fd i = n ∧ ¬ ai = -1 ∧ ¬ B (i + t) = -1 then ((m_nj fd B ai i tw on n q t).1 + m_off ai (B (i + t)) tw on, (m_nj fd B ai i tw on n q t).2 + 1) else m_nj fd B ai i tw on n q t
def m_ni (fd A B : Nat → Int32) (nf : Nat) (tw on n : Int32) : Nat → Int64 × Int32
  | 0 => (0, 0)
  | i + 1 => m_nj fd B (A i) i tw on n (m_ni fd A B nf tw on n i) (nf - i)
def m_nb (fd A B : Nat → Int32) (nf : Nat) (tw on : Int32) : Nat → Int32 × Int64 × Int64
  | 0 => (-1, 0, 1)
  | d + 1 => if (m_ni fd A B nf tw on (nI d) nf).2 < 3 then m_nb fd A B nf tw on d else if (m_nb fd A B nf tw on d).1 = -1 ∨ (m_ni fd A B nf tw on (nI d) nf).1 * (m_nb fd A B nf tw on d).2.2 < (m_nb fd A B nf tw on d).2.1 * (m_ni fd A B nf tw on (nI d) nf).2.toInt64 then (nI d, (m_ni fd A B nf tw on (nI d) nf).1, (m_ni fd A B nf tw on (nI d) nf).2.toInt64) else m_nb fd A B nf tw on d
theorem nI_e {a b : Nat} (ha : a < 2 ^ 31) (hb : b < 2 ^ 31) : nI a = nI b ↔ a = b := by
  refine ⟨fun h => ?_, fun h => by rw [h]⟩
  have := congrArg Int32.toNatClampNeg h
  rwa [nI_clamp ha, nI_clamp hb] at this
/-- an index that is out, or in -/
theorem m_ix0 {n : Nat} {v : Int32} (hn : n < 2 ^ 31) (h : v < 0 ∨ nI n ≤ v) : ¬ (0 ≤ v ∧ v ≤ nI n - 1) := by
  rintro ⟨h1, h2⟩
  rcases h with h | h
  · exact Int32.not_lt.mpr h1 h
  · rcases Nat.eq_zero_or_pos n with c | c
    · subst c
      exact absurd (Int32.le_trans h1 h2) (by decide)
    · rw [show (1 : Int32) = nI 1 from rfl, pk_sub (by omega)] at h2
      exact Int32.not_le.mpr (nI_lt (a := n - 1) (b := n) (by omega) hn) (Int32.le_trans h h2)
theorem m_ix1 {n k : Nat} (hn : n < 2 ^ 31) (h : k < n) : 0 ≤ nI k ∧ nI k ≤ nI n - 1 := by
  refine ⟨nI_pos' (by omega), ?_⟩
  rw [show (1 : Int32) = nI 1 from rfl, pk_sub (by omega)]
  exact (nI_leI (by omega) (by omega)).mpr (by omega)
def m_tk (i0 : Int32) (co ro : Nat → Int32) (vc vr : Int32) : Nat → Int32
  | 0 => i0
  | k + 1 => if ¬ m_tk i0 co ro vc vr k = 0 then 1 else if co k = vc ∧ ro k = vr then 1 else 0
/-- the images of a source -/
def m_im (f8 f9 f10 f12 f13 : Nat → Int32) (sc : Nat) : Nat × (Nat → Int32) := m_la f10 (fun j => dz_b (m_pc j - f8 j = f12 sc ∧ m_pr j - f9 j = f13 sc)) (0, fun _ => 0) 21
theorem m_im_c {f8 f9 f10 f12 f13 : Nat → Int32} {sc : Nat} : (m_im f8 f9 f10 f12 f13 sc).1 ≤ 441 := m_la_c 21
theorem m_im_j {f8 f9 f10 f12 f13 : Nat → Int32} {sc rk : Nat} (h : rk < (m_im f8 f9 f10 f12 f13 sc).1) : ∃ j, j + 22 < 484 ∧ (m_im f8 f9 f10 f12 f13 sc).2 rk = nI j := by
  obtain ⟨j, h1, h2⟩ := m_la_bd (w := f10) (P := fun j => dz_b (m_pc j - f8 j = f12 sc ∧ m_pr j - f9 j = f13 sc)) (f := fun _ => 0) 21 rk h
  exact ⟨j, by omega, h2⟩
theorem m_im_e {f8 f9 f10 f12 f13 f : Nat → Int32} {sc : Nat} : m_eq (m_la f10 (fun j => dz_b (m_pc j - f8 j = f12 sc ∧ m_pr j - f9 j = f13 sc)) (0, f) 21) (m_im f8 f9 f10 f12 f13 sc) := by
  have h : m_eq ((0, f) : Nat × (Nat → Int32)) (0, fun _ => 0) := ⟨rfl, fun k hk => absurd hk (Nat.not_lt_zero k)⟩
  unfold m_im
  exact m_la_eq h 21
theorem fl_on : ∀ a, a < 21 → (-10 : Int32) ≤ nI a - 10 ∧ nI a - 10 ≤ 10 := by decide +kernel
theorem m_tk0 {i0 : Int32} {co ro : Nat → Int32} {vc vr : Int32} {k : Nat} (h : ¬ m_tk i0 co ro vc vr k = 0) : m_tk i0 co ro vc vr (k + 1) = 1 := if_pos h
/-- lights of a source that is new -/
def m_cl (ns : Nat) (f31 : Nat → Int32) (a b : Nat) (j : Nat) : Int32 := if j % 30 / 6 = ns ∧ (j / 30 < a ∨ (j / 30 = a ∧ j % 6 < b)) then -1 else f31 j
theorem m_cl_0 {ns : Nat} {f31 : Nat → Int32} (j : Nat) : f31 j = m_cl ns f31 0 0 j := by
  unfold m_cl
  rw [if_neg (by omega)]
theorem m_cl_s {ns a b : Nat} {f31 : Nat → Int32} (hn : ns < 5) (hb6 : b < 6) : upd (m_cl ns f31 a b) (30 * a + 6 * ns + b) (-1) = m_cl ns f31 a (b + 1) := by
  funext j
  by_cases c : j = 30 * a + 6 * ns + b
  · rw [c, pk_us]
    unfold m_cl
    rw [if_pos (by omega)]
  · rw [pk_un c]
    unfold m_cl
    by_cases d : j % 30 / 6 = ns ∧ (j / 30 < a ∨ (j / 30 = a ∧ j % 6 < b))
    · rw [if_pos d, if_pos (by omega)]
    · rw [if_neg d, if_neg (by omega)]
theorem m_cl_6 {ns a : Nat} {f31 : Nat → Int32} : m_cl ns f31 a 6 = m_cl ns f31 (a + 1) 0 := by
  funext j
  unfold m_cl
  by_cases d : j % 30 / 6 = ns ∧ (j / 30 < a ∨ (j / 30 = a ∧ j % 6 < 6))
  · rw [if_pos d, if_pos (by omega)]
  · rw [if_neg d, if_neg (by omega)]
/-- lights of a frame that is new -/
def m_ff (nf : Nat) (f31 : Nat → Int32) (V : Nat → Nat → Int32) (a b : Nat) (j : Nat) : Int32 := if j / 30 = nf ∧ (j % 30 / 6 < a ∨ (j % 30 / 6 = a ∧ j % 6 < b)) then V (j % 30 / 6) (j % 6) else f31 j
theorem m_ff_0 {nf : Nat} {f31 : Nat → Int32} {V : Nat → Nat → Int32} (j : Nat) : f31 j = m_ff nf f31 V 0 0 j := by
  unfold m_ff
  rw [if_neg (by omega)]
theorem m_ff_s {nf a b : Nat} {f31 : Nat → Int32} {V : Nat → Nat → Int32} (ha5 : a < 5) (hb6 : b < 6) : upd (m_ff nf f31 V a b) (30 * nf + 6 * a + b) (V a b) = m_ff nf f31 V a (b + 1) := by
  funext j
  by_cases c : j = 30 * nf + 6 * a + b
  · rw [c, pk_us]
    unfold m_ff
    rw [if_pos (by omega), show (30 * nf + 6 * a + b) % 30 / 6 = a by omega, show (30 * nf + 6 * a + b) % 6 = b by omega]
  · rw [pk_un c]
    unfold m_ff
    by_cases d : j / 30 = nf ∧ (j % 30 / 6 < a ∨ (j % 30 / 6 = a ∧ j % 6 < b))
    · rw [if_pos d, if_pos (by omega)]
    · rw [if_neg d, if_neg (by omega)]
theorem m_ff_6 {nf a : Nat} {f31 : Nat → Int32} {V : Nat → Nat → Int32} : m_ff nf f31 V a 6 = m_ff nf f31 V (a + 1) 0 := by
  funext j
  unfold m_ff
  by_cases d : j / 30 = nf ∧ (j % 30 / 6 < a ∨ (j % 30 / 6 = a ∧ j % 6 < 6))
  · rw [if_pos d, if_pos (by omega)]
  · rw [if_neg d, if_neg (by omega)]
/-- the light of an image today -/
def m_li (f8 f9 f10 f12 f13 f14 f16 f17 f18 f20 f21 f22 f23 f24 : Nat → Int32) (nl nx : Nat) (dy grw : Int32) (sc rk j j0 : Nat) : Int32 := m_mst (m_abs (m_times (m_turn (fun j => m_pc j - f8 j) (fun j => m_pr j - f9 j) j)) * m_pos (m_mfl (f14 sc) f16 f17 f18 (nI sc) (dy - (f10 j - f10 j0) * 20 / grw) nl)) f20 f21 f22 f23 f24 (nI sc) (nI rk) dy nx
def m_lv (f8 f9 f10 f12 f13 f14 f16 f17 f18 f20 f21 f22 f23 f24 : Nat → Int32) (ns nl nx : Nat) (dy grw : Int32) (sc rk : Nat) : Int32 := if sc < ns ∧ rk < (m_im f8 f9 f10 f12 f13 sc).1 then m_li f8 f9 f10 f12 f13 f14 f16 f17 f18 f20 f21 f22 f23 f24 nl nx dy grw sc rk ((m_im f8 f9 f10 f12 f13 sc).2 rk).toNatClampNeg ((m_im f8 f9 f10 f12 f13 sc).2 0).toNatClampNeg else -1
theorem m_op_fit (io n : Int32) : fits FieldType.boolean (Value.int (m_op io n)) = true := by
  unfold m_op
  split
  · split <;> rfl
  · rfl
theorem m_two01 {f : Nat → Int32} {v : Int32} {j : Nat} (h : j < 2) : upd (upd f 0 v) 1 v j = (fun _ => v) j := by
  by_cases c : j = 1
  · rw [c, pk_us]
  · rw [pk_un c, show j = 0 by omega, pk_us]
theorem m_tk_1 {i0 : Int32} {co ro : Nat → Int32} {vc vr : Int32} {k : Nat} (h : m_tk i0 co ro vc vr k = 1) : ∀ t, m_tk i0 co ro vc vr (k + t) = 1 := by
  intro t
  induction t with
  | zero => exact h
  | succ t ih => exact if_pos (fun z => absurd (ih.symm.trans z) (by decide))
theorem m_tk1 {i0 : Int32} {co ro : Nat → Int32} {vc vr : Int32} {k n : Nat} (hk : k < n) (h : m_tk i0 co ro vc vr (k + 1) = 1) : m_tk i0 co ro vc vr n = 1 := by
  have := m_tk_1 h (n - (k + 1))
  rwa [show k + 1 + (n - (k + 1)) = n by omega] at this
