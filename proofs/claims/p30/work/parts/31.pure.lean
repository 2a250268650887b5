/-! BOTH SIDES' SUMS ARE THE SAME -/
theorem m_gd1 {l : List Nat} {n j : Nat} (h : j < l.length) : (l ++ [n]).getD j 0 = l.getD j 0 := by simp [List.getD_eq_getElem?_getD, List.getElem?_append_left h]
theorem m_gd2 {l : List Nat} {n : Nat} : (l ++ [n]).getD l.length 0 = n := by simp [List.getD_eq_getElem?_getD]
/-- the numbers of those of a source, in their order -/
def m_fi (fo : Nat → Int32) (sc : Int32) : Nat → List Nat
  | 0 => []
  | k + 1 => if fo k = sc then m_fi fo sc k ++ [k] else m_fi fo sc k
theorem m_fi_lt {fo : Nat → Int32} {sc : Int32} : ∀ (n j : Nat), j < (m_fi fo sc n).length → (m_fi fo sc n).getD j 0 < n ∧ fo ((m_fi fo sc n).getD j 0) = sc := by
  intro n
  induction n with
  | zero => intro j h; exact absurd h (Nat.not_lt_zero _)
  | succ n ih =>
    intro j h
    by_cases c : fo n = sc
    · have e : m_fi fo sc (n + 1) = m_fi fo sc n ++ [n] := if_pos c
      rw [e] at h ⊢
      rw [List.length_append] at h
      by_cases d : j < (m_fi fo sc n).length
      · have := ih j d
        rw [m_gd1 d]
        exact ⟨by omega, this.2⟩
      · have h9 : j = (m_fi fo sc n).length := by
          simp at h
          omega
        rw [h9, m_gd2]
        exact ⟨by omega, c⟩
    · have e : m_fi fo sc (n + 1) = m_fi fo sc n := if_neg c
      rw [e] at h ⊢
      have := ih j h
      exact ⟨by omega, this.2⟩
theorem m_fi_len {fo : Nat → Int32} {sc : Int32} : ∀ n, (m_fi fo sc n).length ≤ n := by
  intro n
  induction n with
  | zero => exact Nat.le_refl _
  | succ n ih =>
    by_cases c : fo n = sc
    · rw [show m_fi fo sc (n + 1) = m_fi fo sc n ++ [n] from if_pos c, List.length_append]
      simp
      omega
    · rw [show m_fi fo sc (n + 1) = m_fi fo sc n from if_neg c]
      omega
theorem m_lgt_c {fl : Int32} {fd fb : Nat → Int32} {fx gx : Nat → Nat} {dy : Int32} : ∀ n, (∀ j, j < n → fx j = gx j) → m_lgt fl fd fb fx dy n = m_lgt fl fd fb gx dy n := by
  intro n
  induction n with
  | zero => intro _; rfl
  | succ n ih =>
    intro h
    show (if dy < fd (fx n) then m_lgt fl fd fb fx dy n else m_lgt fl fd fb fx dy n + fb (fx n)) = (if dy < fd (gx n) then m_lgt fl fd fb gx dy n else m_lgt fl fd fb gx dy n + fb (gx n))
    rw [ih (fun j hj => h j (by omega)), h n (by omega)]
/-- the light of a source: over all flares, or over its own -/
theorem m_mfl_lgt {fl : Int32} {fo fd fb : Nat → Int32} {sc dy : Int32} : ∀ n, m_mfl fl fo fd fb sc dy n = m_lgt fl fd fb (fun j => (m_fi fo sc n).getD j 0) dy (m_fi fo sc n).length := by
  intro n
  induction n with
  | zero => rfl
  | succ n ih =>
    show m_mfl fl fo fd fb sc dy n + (if fo n = sc ∧ fd n ≤ dy then fb n else 0) = _
    by_cases c : fo n = sc
    · have e : m_fi fo sc (n + 1) = m_fi fo sc n ++ [n] := if_pos c
      rw [e, List.length_append, show [n].length = 1 from rfl]
      show _ = (if dy < fd ((m_fi fo sc n ++ [n]).getD (m_fi fo sc n).length 0) then m_lgt fl fd fb (fun j => (m_fi fo sc n ++ [n]).getD j 0) dy (m_fi fo sc n).length else m_lgt fl fd fb (fun j => (m_fi fo sc n ++ [n]).getD j 0) dy (m_fi fo sc n).length + fb ((m_fi fo sc n ++ [n]).getD (m_fi fo sc n).length 0))
      have e1 : (m_fi fo sc n ++ [n]).getD (m_fi fo sc n).length 0 = n := m_gd2
      have e2 : m_lgt fl fd fb (fun j => (m_fi fo sc n ++ [n]).getD j 0) dy (m_fi fo sc n).length = m_mfl fl fo fd fb sc dy n := by
        rw [ih]
        exact m_lgt_c _ (fun j hj => m_gd1 hj)
      rw [e1, e2]
      by_cases d : dy < fd n
      · rw [if_pos d, if_neg (fun z => Int32.not_le.mpr d z.2), Int32.add_zero]
      · rw [if_neg d, if_pos ⟨c, Int32.not_lt.mp d⟩]
    · have e : m_fi fo sc (n + 1) = m_fi fo sc n := if_neg c
      rw [e, if_neg (fun z => c z.1), Int32.add_zero]
      exact ih
theorem m_sts_c {sr sd sw sg : Nat → Int32} {sx tx : Nat → Nat} {rk dy : Int32} : ∀ n, (∀ j, j < n → sx j = tx j) → m_sts sr sd sw sg sx rk dy n = m_sts sr sd sw sg tx rk dy n := by
  intro n
  induction n with
  | zero => intro _; rfl
  | succ n ih =>
    intro h
    show (if sr (sx n) = rk then m_sts sr sd sw sg sx rk dy n + m_more dy (sw (sx n)) (sd (sx n)) (sg (sx n)) else m_sts sr sd sw sg sx rk dy n) = (if sr (tx n) = rk then m_sts sr sd sw sg tx rk dy n + m_more dy (sw (tx n)) (sd (tx n)) (sg (tx n)) else m_sts sr sd sw sg tx rk dy n)
    rw [ih (fun j hj => h j (by omega)), h n (by omega)]
/-- what stars add: over all, or over the source's own -/
theorem m_mst_sts {i0 : Int32} {so sr sd sw sg : Nat → Int32} {sc rk dy : Int32} : ∀ n, m_mst i0 so sr sd sw sg sc rk dy n = i0 + m_sts sr sd sw sg (fun j => (m_fi so sc n).getD j 0) rk dy (m_fi so sc n).length := by
  intro n
  induction n with
  | zero => exact (Int32.add_zero _).symm
  | succ n ih =>
    show m_mst i0 so sr sd sw sg sc rk dy n + (if so n = sc ∧ sr n = rk then m_more dy (sw n) (sd n) (sg n) else 0) = _
    by_cases c : so n = sc
    · have e : m_fi so sc (n + 1) = m_fi so sc n ++ [n] := if_pos c
      rw [e, List.length_append, show [n].length = 1 from rfl]
      show _ = i0 + (if sr ((m_fi so sc n ++ [n]).getD (m_fi so sc n).length 0) = rk then m_sts sr sd sw sg (fun j => (m_fi so sc n ++ [n]).getD j 0) rk dy (m_fi so sc n).length + m_more dy (sw ((m_fi so sc n ++ [n]).getD (m_fi so sc n).length 0)) (sd ((m_fi so sc n ++ [n]).getD (m_fi so sc n).length 0)) (sg ((m_fi so sc n ++ [n]).getD (m_fi so sc n).length 0)) else m_sts sr sd sw sg (fun j => (m_fi so sc n ++ [n]).getD j 0) rk dy (m_fi so sc n).length)
      have e2 : m_sts sr sd sw sg (fun j => (m_fi so sc n ++ [n]).getD j 0) rk dy (m_fi so sc n).length = m_sts sr sd sw sg (fun j => (m_fi so sc n).getD j 0) rk dy (m_fi so sc n).length := m_sts_c _ (fun j hj => m_gd1 hj)
      rw [m_gd2, e2, ih]
      by_cases d : sr n = rk
      · rw [if_pos d, if_pos ⟨c, d⟩, Int32.add_assoc]
      · rw [if_neg d, if_neg (fun z => d z.2), Int32.add_zero]
    · have e : m_fi so sc (n + 1) = m_fi so sc n := if_neg c
      rw [e, if_neg (fun z => c z.1), Int32.add_zero]
      exact ih
theorem m_stp_n {w P : Nat → Int32} {own : Nat} {q : Nat × (Nat → Int32)} (hP : P own = 0 ∨ P own = 1) : nI (m_stp w P own q).1 = nI q.1 + P own := by
  unfold m_stp
  rcases hP with h | h
  · rw [if_pos h, h, Int32.add_zero]
  · rw [if_neg (by rw [h]; decide), h]
    exact (nI_1 q.1).symm
theorem m_lr_n {w P : Nat → Int32} {a : Nat} {q : Nat × (Nat → Int32)} (hP : ∀ j, P j = 0 ∨ P j = 1) : ∀ b, nI (m_lr w P a q b).1 = nI q.1 + m_row P a b := by
  intro b
  induction b with
  | zero => exact (Int32.add_zero _).symm
  | succ b ih =>
    show nI (m_stp w P (22 * a + b) (m_lr w P a q b)).1 = nI q.1 + (m_row P a b + P (22 * a + b))
    rw [m_stp_n (hP _), ih, Int32.add_assoc]
theorem m_la_n {w P : Nat → Int32} {f : Nat → Int32} (hP : ∀ j, P j = 0 ∨ P j = 1) : ∀ a, nI (m_la w P (0, f) a).1 = m_all P a := by
  intro a
  induction a with
  | zero => rfl
  | succ a ih =>
    show nI (m_lr w P a (m_la w P (0, f) a) 21).1 = m_all P a + m_row P a 21
    rw [m_lr_n hP, ih]
theorem dz_b01 {P : Prop} [Decidable P] : dz_b P = 0 ∨ dz_b P = 1 := by
  by_cases c : P
  · exact Or.inr (dz_b1 c)
  · exact Or.inl (dz_b0 c)
/-- the images shot anew are as many as those laid -/
theorem m_im_n {f8 f9 f10 f12 f13 : Nat → Int32} {sc : Nat} : m_all (fun j => dz_b (m_pc j - f8 j = f12 sc ∧ m_pr j - f9 j = f13 sc)) 21 = nI (m_im f8 f9 f10 f12 f13 sc).1 := by
  unfold m_im
  exact (m_la_n (fun j => dz_b01) 21).symm
theorem m_ap_at {S : Nat → Int64} {Q : Nat → Int32} {d v : Int32} {n : Nat} (hn : n ≤ 150) : m_apS d v S n = (if d = nI n then S n + (m_abs v).toInt64 else S n) ∧ m_apP d Q n = (if d = nI n then Q n + 1 else Q n) := by
  unfold m_apS m_apP
  by_cases c : 0 ≤ d ∧ d ≤ 150
  · rw [if_pos c, if_pos c]
    obtain ⟨j, h1, h2, -⟩ := pk_mu (x := d) (L := 151) (Int32.not_lt.mpr c.1) (fun z => absurd (Int32.le_trans z c.2) (by decide)) (by decide)
    subst h2
    rw [nI_clamp (by omega)]
    by_cases e : j = n
    · subst e
      rw [if_pos rfl, if_pos rfl, pk_uLs, pk_us]
      exact ⟨rfl, rfl⟩
    · have e' : ¬ nI j = nI n := fun z => e ((nI_e (by omega) (by omega)).mp z)
      have e2 : ¬ n = j := fun z => e z.symm
      rw [if_neg e', if_neg e', pk_uLn e2, pk_un e2]
      exact ⟨rfl, rfl⟩
  · rw [if_neg c, if_neg c]
    have e' : ¬ d = nI n := fun z => c (by rw [z]; exact ⟨nI_pos' (by omega), (nI_leI (b := 150) (by omega) (by omega)).mpr hn⟩)
    rw [if_neg e', if_neg e']
    exact ⟨rfl, rfl⟩
theorem m_mj_n {fd B : Nat → Int32} {ai bo bb : Int32} {i n : Nat} {q : (Nat → Int64) × (Nat → Int32)} (hn : n ≤ 150) (hA : ¬ ai = -1) (ho : ∀ t, ¬ B (i + t) = -1 → (m_abs (ai * bb - B (i + t) * bo)).toInt64 = m_off ai (B (i + t)) bb bo) : ∀ t, ((m_mj fd B ai i bo bb q t).1 n, (m_mj fd B ai i bo bb q t).2 n) = m_nj fd B ai i bb bo (nI n) (q.1 n, q.2 n) t := by
  intro t
  induction t with
  | zero => rfl
  | succ t ih =>
    rw [show m_nj fd B ai i bb bo (nI n) (q.1 n, q.2 n) (t + 1) = if fd (i + t) - fd i = nI n ∧ ¬ ai = -1 ∧ ¬ B (i + t) = -1 then ((m_nj fd B ai i bb bo (nI n) (q.1 n, q.2 n) t).1 + m_off ai (B (i + t)) bb bo, (m_nj fd B ai i bb bo (nI n) (q.1 n, q.2 n) t).2 + 1) else m_nj fd B ai i bb bo (nI n) (q.1 n, q.2 n) t from rfl, ← ih]
    by_cases c : B (i + t) = -1
    · rw [show m_mj fd B ai i bo bb q (t + 1) = m_mj fd B ai i bo bb q t from if_pos c, if_neg (fun z => z.2.2 c)]
    · rw [show m_mj fd B ai i bo bb q (t + 1) = (m_apS (fd (i + t) - fd i) (ai * bb - B (i + t) * bo) (m_mj fd B ai i bo bb q t).1, m_apP (fd (i + t) - fd i) (m_mj fd B ai i bo bb q t).2) from if_neg c]
      obtain ⟨h1, h2⟩ := m_ap_at (S := (m_mj fd B ai i bo bb q t).1) (Q := (m_mj fd B ai i bo bb q t).2) (d := fd (i + t) - fd i) (v := ai * bb - B (i + t) * bo) hn
      show (m_apS _ _ _ n, m_apP _ _ n) = _
      rw [h1, h2]
      by_cases d : fd (i + t) - fd i = nI n
      · rw [if_pos d, if_pos d, if_pos ⟨d, hA, c⟩, ho t c]
      · rw [if_neg d, if_neg d, if_neg (fun z => d z.1)]
/-- each day's sum and pairs, as the album lays them all at once -/
theorem m_mi_n {fd A B : Nat → Int32} {nf n : Nat} {bo bb : Int32} {q : (Nat → Int64) × (Nat → Int32)} (hn : n ≤ 150) (h0 : q.1 n = 0 ∧ q.2 n = 0) (ho : ∀ i t, ¬ A i = -1 → ¬ B (i + t) = -1 → (m_abs (A i * bb - B (i + t) * bo)).toInt64 = m_off (A i) (B (i + t)) bb bo) : ∀ i, ((m_mi fd A B nf bo bb q i).1 n, (m_mi fd A B nf bo bb q i).2 n) = m_ni fd A B nf bb bo (nI n) i := by
  intro i
  induction i with
  | zero =>
    show (q.1 n, q.2 n) = (0, 0)
    rw [h0.1, h0.2]
  | succ i ih =>
    show _ = m_nj fd B (A i) i bb bo (nI n) (m_ni fd A B nf bb bo (nI n) i) (nf - i)
    by_cases c : A i = -1
    · rw [show m_mi fd A B nf bo bb q (i + 1) = m_mi fd A B nf bo bb q i from if_pos c, ih]
      have key : ∀ (x : Int64 × Int32) (t : Nat), m_nj fd B (A i) i bb bo (nI n) x t = x := by
        intro x t
        induction t with
        | zero => rfl
        | succ t iht => exact (if_neg (fun z => z.2.1 c)).trans iht
      rw [key]
    · rw [show m_mi fd A B nf bo bb q (i + 1) = m_mj fd B (A i) i bo bb (m_mi fd A B nf bo bb q i) (nf - i) from if_neg c, m_mj_n hn c (fun t => ho i t c), ih]
/-- the least day, kept as one goes or looked up in the rows -/
theorem m_nb_best {fd A B : Nat → Int32} {nf : Nat} {tw on : Int32} {S : Nat → Int64} {Q : Nat → Int32} (h : ∀ n, n ≤ 150 → (S n, Q n) = m_ni fd A B nf tw on (nI n) nf) : ∀ d, d ≤ 151 → (m_nb fd A B nf tw on d).1 = m_best S Q d ∧ (m_best S Q d = -1 ∨ ∃ x, x < d ∧ m_best S Q d = nI x ∧ m_nb fd A B nf tw on d = (nI x, S x, (Q x).toInt64)) := by
  intro d
  induction d with
  | zero => intro _; exact ⟨rfl, Or.inl rfl⟩
  | succ d ih =>
    intro hd
    obtain ⟨i1, i2⟩ := ih (by omega)
    have hS : (m_ni fd A B nf tw on (nI d) nf).1 = S d := by rw [← h d (by omega)]
    have hQ : (m_ni fd A B nf tw on (nI d) nf).2 = Q d := by rw [← h d (by omega)]
    have eb : m_best S Q (d + 1) = if Q d < 3 then m_best S Q d else if m_best S Q d = -1 then nI d else if S d * (Q (m_best S Q d).toNatClampNeg).toInt64 < S (m_best S Q d).toNatClampNeg * (Q d).toInt64 then nI d else m_best S Q d := rfl
    have en : m_nb fd A B nf tw on (d + 1) = if Q d < 3 then m_nb fd A B nf tw on d else if (m_nb fd A B nf tw on d).1 = -1 ∨ S d * (m_nb fd A B nf tw on d).2.2 < (m_nb fd A B nf tw on d).2.1 * (Q d).toInt64 then (nI d, S d, (Q d).toInt64) else m_nb fd A B nf tw on d := by
      rw [← hS, ← hQ]
      rfl
    rw [eb, en]
    by_cases c : Q d < 3
    · rw [if_pos c, if_pos c]
      exact ⟨i1, i2.imp id (fun ⟨x, h1, h2⟩ => ⟨x, by omega, h2⟩)⟩
    · rw [if_neg c, if_neg c, i1]
      by_cases c1 : m_best S Q d = -1
      · rw [if_pos c1, if_pos (Or.inl c1)]
        exact ⟨rfl, Or.inr ⟨d, by omega, rfl, rfl⟩⟩
      · obtain ⟨x, h1, h2, h3⟩ := i2.resolve_left c1
        rw [if_neg c1, h2, nI_clamp (by omega), h3]
        have c2 : ¬ nI x = -1 := by rw [← h2]; exact c1
        by_cases c3 : S d * (Q x).toInt64 < S x * (Q d).toInt64
        · rw [if_pos c3, if_pos (Or.inr c3)]
          exact ⟨rfl, Or.inr ⟨d, by omega, rfl, rfl⟩⟩
        · rw [if_neg c3, if_neg (fun z => z.elim c2 c3)]
          exact ⟨rfl, Or.inr ⟨x, by omega, rfl, rfl⟩⟩
