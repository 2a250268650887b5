/-! names for worlds -/
theorem dz_nm {Z : dzG} {G : dzW} {ad : dzA} {H : Heap} {r : dzR} {e : va_E} (h : dz_w Z (dz_u G r e) ad H) : ∃ G' : dzW, dz_w Z G' ad H ∧ G' r = some e ∧ ∀ r' : dzR, r' ≠ r → G' r' = G r' ∧ ad r' = ad r' := ⟨_, h, dz_s, fun _ n => ⟨dz_o n rfl, rfl⟩⟩
theorem dz_nma {Z : dzG} {G : dzW} {ad : dzA} {H : Heap} {r : dzR} {e : va_E} {q : Nat} (h : dz_w Z (dz_u G r e) (dz_a ad r q) H) : ∃ (G' : dzW) (ad' : dzA), dz_w Z G' ad' H ∧ G' r = some e ∧ ad' r = q ∧ ∀ r' : dzR, r' ≠ r → G' r' = G r' ∧ ad' r' = ad r' := ⟨_, _, h, dz_s, dz_as, fun _ n => ⟨dz_o n rfl, dz_ao n⟩⟩
theorem dz_tr {r : dzR} {G2 G1 G0 : dzW} {a2 a1 a0 : dzA} (h1 : G2 r = G1 r ∧ a2 r = a1 r) (h0 : G1 r = G0 r ∧ a1 r = a0 r) : G2 r = G0 r ∧ a2 r = a0 r := ⟨h1.1.trans h0.1, h1.2.trans h0.2⟩
theorem dz_nk {r : dzR} {k i : Nat} (h : r.1 ≠ k) : r ≠ (k, i) := fun e => h (by rw [e])
/-- a cell takes another's role -/
theorem dz_ren {Z : dzG} {G : dzW} {ad : dzA} {H : Heap} {r r0 : dzR} {e : va_E} {q : Nat} (h : dz_w Z G ad H) (h0 : G r0 = some e) (hq : ad r0 = q) (hn : r ≠ r0) : ∃ (G' : dzW) (ad' : dzA), dz_w Z G' ad' H ∧ G' r = some e ∧ ad' r = q ∧ ∀ r' : dzR, r' ≠ r → r' ≠ r0 → G' r' = G r' ∧ ad' r' = ad r' := by
  have hn' : ¬ r0 = r := fun z => hn z.symm
  refine ⟨fun r' => if r' = r then some e else if r' = r0 then none else G r', fun r' => if r' = r then q else ad r', ⟨fun r1 e1 h1 => ?_, fun r1 r2 e1 e2 h1 h2 ha => ?_, fun r1 e1 h1 => ?_⟩, by simp, by simp, fun r' n1 n2 => by simp [n1, n2]⟩
  · by_cases c : r1 = r
    · subst c
      simp at h1
      subst h1
      have := h.1 r0 _ h0
      rw [hq] at this
      simpa using this
    · by_cases c0 : r1 = r0
      · simp [c0, hn'] at h1
      · simp [c, c0] at h1 ⊢
        exact h.1 r1 e1 h1
  · by_cases c1 : r1 = r <;> by_cases c2 : r2 = r
    · rw [c1, c2]
    · by_cases d2 : r2 = r0
      · simp [d2, hn'] at h2
      · simp [c2, d2] at h2
        simp [c1, c2] at ha
        exact absurd (h.2.1 _ _ _ _ h2 h0 (ha.symm.trans hq.symm)) d2
    · by_cases d1 : r1 = r0
      · simp [d1, hn'] at h1
      · simp [c1, d1] at h1
        simp [c1, c2] at ha
        exact absurd (h.2.1 _ _ _ _ h1 h0 (ha.trans hq.symm)) d1
    · by_cases d1 : r1 = r0
      · simp [d1, hn'] at h1
      · by_cases d2 : r2 = r0
        · simp [d2, hn'] at h2
        · simp [c1, d1] at h1
          simp [c2, d2] at h2
          simp [c1, c2] at ha
          exact h.2.1 _ _ _ _ h1 h2 ha
  · by_cases c : r1 = r
    · simp [c]
      rw [← hq]
      exact h.2.2 _ _ h0
    · by_cases c0 : r1 = r0
      · simp [c0, hn'] at h1
      · simp [c, c0] at h1 ⊢
        exact h.2.2 _ _ h1
/-- one cell new, one other read -/
theorem dz_set2 {Z : dzG} {G : dzW} {ad : dzA} {H H0 H1 : Heap} {locs locs1 : List Loc} {r0 r1 : dzR} {a0 a1 : Nat} {e0 e1 e2 : va_E} (h : dz_w Z G ad H) (hS : va_S (dz_A Z) H0 H locs) (h0 : G r0 = some e0) (k0 : ad r0 = a0) (h1 : G r1 = some e1) (k1 : ad r1 = a1) (hP : va_P (dzD Z) vwCl [(a0, e0), (a1, e2)] H1) (hT : va_S (fun q => q = a0 ∨ q = a1) H H1 locs1) : dz_w Z (dz_u G r1 e2) ad H1 ∧ va_S (dz_A Z) H0 H1 locs1 := by
  subst k0 k1
  refine ⟨⟨fun r e hr => ?_, (h.put h1 (H1 := H) (e := e1) (h.1 _ _ h1) (fun _ _ => rfl)).2.1 |> fun _ => ?_, fun r e hr => ?_⟩, ⟨Nat.le_trans hS.1 hT.1, fun q g1 g2 => ?_, fun l hl => ?_⟩⟩
  · by_cases c : r = r1
    · subst c
      rw [dz_s] at hr
      cases hr
      exact hP 1 _ rfl
    · have hr' : G r = some e := by simpa [dz_u, c] using hr
      by_cases c0 : r = r0
      · subst c0
        rw [h0] at hr'
        cases hr'
        exact hP 0 _ rfl
      · refine (h.1 r e hr').kept (hT.2.1 _ (h.lt hr') ?_)
        rintro (z | z)
        · exact c0 (h.2.1 _ _ _ _ hr' h0 z)
        · exact c (h.2.1 _ _ _ _ hr' h1 z)
  · have dom : ∀ r e, dz_u G r1 e2 r = some e → ∃ x, G r = some x := by
      intro r e hr
      by_cases c : r = r1
      · subst c; exact ⟨_, h1⟩
      · exact ⟨e, by simpa [dz_u, c] using hr⟩
    intro r r' e e' hr hr' ha
    obtain ⟨_, d1⟩ := dom r e hr
    obtain ⟨_, d2⟩ := dom r' e' hr'
    exact h.2.1 _ _ _ _ d1 d2 ha
  · by_cases c : r = r1
    · subst c; exact h.2.2 _ _ h1
    · exact h.2.2 _ _ (show G r = some e by simpa [dz_u, c] using hr)
  · rw [hT.2.1 q (Nat.lt_of_lt_of_le g1 hS.1) ?_]
    · exact hS.2.1 q g1 g2
    · rintro (z | z)
      · exact g2 (by rw [z]; exact h.2.2 _ _ h0)
      · exact g2 (by rw [z]; exact h.2.2 _ _ h1)
  · rcases hT.2.2 l hl with z | z
    · show dzB Z ≤ l.base
      rw [z]; exact h.2.2 _ _ h0
    · show dzB Z ≤ l.base
      rw [z]; exact h.2.2 _ _ h1
/-- an array told by another function that agrees below its length -/
theorem dz_re {Z : dzG} {G : dzW} {ad : dzA} {H : Heap} {r : dzR} {n : Nat} {f : Nat → Int32} (g : Nat → Int32) (h : dz_w Z G ad H) (hr : G r = some (eI Z n f)) (e : ∀ j, j < n → f j = g j) : ∃ G' : dzW, dz_w Z G' ad H ∧ G' r = some (eI Z n g) ∧ ∀ r' : dzR, r' ≠ r → G' r' = G r' ∧ ad r' = ad r' := by
  refine ⟨_, h.put hr (H1 := H) (e := eI Z n g) ?_ (fun _ _ => rfl), dz_s, fun _ n => ⟨dz_o n rfl, rfl⟩⟩
  have h0 : H[ad r]? = some (vp_cell (dzI Z) (n, .inl f)) := h.1 _ _ hr
  show H[ad r]? = some (vp_cell (dzI Z) (n, .inl g))
  rw [h0, vp_cell_i, vp_cell_i]
  unfold arrV
  congr 2
  congr 1
  funext j
  show Value.int (f j.1) = Value.int (g j.1)
  rw [e j.1 j.2]
theorem dz_reZ {Z : dzG} {G : dzW} {ad : dzA} {H : Heap} {r : dzR} {n : Nat} {f : Nat → Int32} (g : Nat → Int32) (h : dz_w Z G ad H) (hr : G r = some (eZ Z n f)) (e : ∀ j, j < n → f j = g j) : ∃ G' : dzW, dz_w Z G' ad H ∧ G' r = some (eZ Z n g) ∧ ∀ r' : dzR, r' ≠ r → G' r' = G r' ∧ ad r' = ad r' := by
  refine ⟨_, h.put hr (H1 := H) (e := eZ Z n g) ?_ (fun _ _ => rfl), dz_s, fun _ n => ⟨dz_o n rfl, rfl⟩⟩
  have h0 : H[ad r]? = some (vp_cell (dzZ Z) (n, .inl f)) := h.1 _ _ hr
  show H[ad r]? = some (vp_cell (dzZ Z) (n, .inl g))
  rw [h0, vp_cell_i, vp_cell_i]
  unfold arrV
  congr 2
  congr 1
  funext j
  show Value.int (f j.1) = Value.int (g j.1)
  rw [e j.1 j.2]
/-! numbers and words that both sides share -/
def dz_b (P : Prop) [Decidable P] : Int32 := if P then 1 else 0
theorem dz_bn {P : Prop} [Decidable P] : narrow .boolean (.int (dz_b P)) = .int (dz_b P) := by unfold dz_b; split <;> rfl
theorem dz_b1 {P : Prop} [Decidable P] (h : P) : dz_b P = 1 := if_pos h
theorem dz_b0 {P : Prop} [Decidable P] (h : ¬ P) : dz_b P = 0 := if_neg h
theorem dz_by {P : Prop} [Decidable P] (h : ¬ dz_b P = 0) : P := by
  by_cases c : P
  · exact c
  · exact absurd (dz_b0 c) h
theorem dz_bx {P : Prop} [Decidable P] (h : dz_b P = 0) : ¬ P := fun c => by
  rw [dz_b1 c] at h
  exact absurd h (by decide)
theorem dz_bc {P Q : Prop} [Decidable P] [Decidable Q] (h : P ↔ Q) : dz_b P = dz_b Q := by
  by_cases c : P
  · rw [dz_b1 c, dz_b1 (h.mp c)]
  · rw [dz_b0 c, dz_b0 (fun z => c (h.mpr z))]
theorem dz_in0 {v lo hi : Int32} (h : v < lo ∨ hi < v) : (0 : Int32) = dz_b (lo ≤ v ∧ v ≤ hi) := by
  rw [dz_b0]
  rintro ⟨a, b⟩
  rcases h with h | h
  · exact Int32.not_le.mpr h a
  · exact Int32.not_le.mpr h b
theorem dz_in1 {v lo hi : Int32} (h1 : ¬ v < lo) (h2 : ¬ hi < v) : (1 : Int32) = dz_b (lo ≤ v ∧ v ≤ hi) := (dz_b1 ⟨Int32.not_lt.mp h1, Int32.not_lt.mp h2⟩).symm
theorem dz_an1 {P Q : Prop} [Decidable P] [Decidable Q] (h1 : ¬ dz_b P = 0) (h2 : ¬ dz_b Q = 0) : (1 : Int32) = dz_b (P ∧ Q) := (dz_b1 ⟨dz_by h1, dz_by h2⟩).symm
theorem dz_an0 {P Q : Prop} [Decidable P] [Decidable Q] (h : dz_b P = 0 ∨ dz_b Q = 0) : (0 : Int32) = dz_b (P ∧ Q) := by
  rw [dz_b0]
  rintro ⟨a, b⟩
  rcases h with h | h
  · exact dz_bx h a
  · exact dz_bx h b
def m_abs (x : Int32) : Int32 := if 0 ≤ x then x else 0 - x
theorem m_abs_p {x : Int32} (h : 0 ≤ x) : x = m_abs x := (if_pos h).symm
theorem m_abs_n {x : Int32} (h : ¬ 0 ≤ x) : -x = m_abs x := by
  unfold m_abs
  rw [if_neg h]
  simp
/-- how much a mass bends: by its shape, its strength, the part and the whole way aside -/
def m_bend (sh st b n : Int32) : Int32 := if n = 0 then 0 else if sh = 0 then st * b / n else if sh = 1 then 4 * st * b / (n * n) else st * b / 8
def m_bendR (sh st b n : Int32) : Int32 := if sh = 2 then -(m_bend sh st b n) else m_bend sh st b n
def m_ds (co ro c r : Int32) : Int32 := m_abs (c - co) + m_abs (r - ro)
def m_short (sh st co ro c r : Int32) : Int32 := if sh = 2 then 0 else 2 * st * m_ds co ro c r
/-- what a star adds -/
def m_more (dy wd st ht : Int32) : Int32 := if wd - m_abs (dy - (st + wd)) ≤ 0 then 0 else ht * (wd - m_abs (dy - (st + wd))) / wd
/-- how much the first k masses bend a ray -/
def m_bcol (sh co ro st : Nat → Int32) (cc rr : Int32) : Nat → Int32
  | 0 => 0
  | k + 1 => m_bcol sh co ro st cc rr k + m_bend (sh k) (st k) (cc - co k) (m_ds (co k) (ro k) cc rr)
def m_brow (sh co ro st : Nat → Int32) (cc rr : Int32) : Nat → Int32
  | 0 => 0
  | k + 1 => m_brow sh co ro st cc rr k + m_bendR (sh k) (st k) (rr - ro k) (m_ds (co k) (ro k) cc rr)
def m_bsho (sh co ro st : Nat → Int32) (cc rr : Int32) : Nat → Int32
  | 0 => 0
  | k + 1 => m_bsho sh co ro st cc rr k + m_short (sh k) (st k) (co k) (ro k) cc rr
def m_turn (fc fr : Nat → Int32) (j : Nat) : Int32 := (fc (j + 1) - fc j) * (fr (j + 22) - fr j) - (fr (j + 1) - fr j) * (fc (j + 22) - fc j)
def m_times (n : Int32) : Int32 := if n = 0 then 24 else 24 / n
/-- sums over the field, row by row -/
def m_row (f : Nat → Int32) (a : Nat) : Nat → Int32
  | 0 => 0
  | b + 1 => m_row f a b + f (22 * a + b)
def m_all (f : Nat → Int32) : Nat → Int32
  | 0 => 0
  | a + 1 => m_all f a + m_row f a 21
theorem m_st1 {f : Nat → Int32} {a b : Nat} (h : f (22 * a + b) = 1) : m_all f a + m_row f a b + 1 = m_all f a + m_row f a (b + 1) := by
  show _ = m_all f a + (m_row f a b + f (22 * a + b))
  rw [h, Int32.add_assoc]
theorem m_st0 {f : Nat → Int32} {a b : Nat} (h : f (22 * a + b) = 0) : m_all f a + m_row f a b = m_all f a + m_row f a (b + 1) := by
  show _ = m_all f a + (m_row f a b + f (22 * a + b))
  rw [h, Int32.add_zero]
theorem m_r0 (f : Nat → Int32) (a : Nat) : m_all f a = m_all f a + m_row f a 0 := (Int32.add_zero _).symm
/-- the column and the row of a place -/
def m_pc (j : Nat) : Int32 := nI j - nI j / 22 * 22 - 10
def m_pr (j : Nat) : Int32 := nI j / 22 - 10
theorem fl_gt : ∀ a, a < 22 → (10 < nI a - 10 ↔ a = 21) := by decide +kernel
theorem fl_sc : ∀ a, a < 22 → nI a - 10 + 1 = nI (a + 1) - 10 := by decide +kernel
theorem fl_pl : ∀ a, a < 22 → ∀ b, b < 22 → (nI a - 10 + 10) * 22 + (nI b - 10) + 10 = nI (22 * a + b) := by decide +kernel
theorem fl_pc : ∀ a, a < 22 → ∀ b, b < 22 → m_pc (22 * a + b) = nI b - 10 := by decide +kernel
theorem fl_pr : ∀ a, a < 22 → ∀ b, b < 22 → m_pr (22 * a + b) = nI a - 10 := by decide +kernel
theorem fl_pcj : ∀ j, j < 484 → m_pc j = nI (j % 22) - 10 := by decide +kernel
theorem fl_prj : ∀ j, j < 484 → m_pr j = nI (j / 22) - 10 := by decide +kernel
theorem fl_ab : ∀ x, x < 22 → ∀ y, y < 22 → m_abs (nI x - 10 - (nI y - 10)) = nI (x - y + (y - x)) := by decide +kernel
theorem fl_sq : ∀ k, k < 64 → ¬ nI k = 0 → ¬ nI k * nI k = 0 := by decide +kernel
/-- the masses lie in the field -/
def m_ok (nm : Nat) (co ro : Nat → Int32) : Prop := ∀ k, k < nm → (∃ y, y < 21 ∧ co k = nI y - 10) ∧ ∃ y, y < 21 ∧ ro k = nI y - 10
theorem m_dsn {nm : Nat} {co ro : Nat → Int32} (h : m_ok nm co ro) {x y : Nat} (hx : x < 22) (hy : y < 22) : ∀ k, k < nm → ¬ m_ds (co k) (ro k) (nI x - 10) (nI y - 10) = 0 → ¬ m_ds (co k) (ro k) (nI x - 10) (nI y - 10) * m_ds (co k) (ro k) (nI x - 10) (nI y - 10) = 0 := by
  intro k hk
  obtain ⟨⟨u, hu, eu⟩, v, hv, ev⟩ := h k hk
  have e : m_ds (co k) (ro k) (nI x - 10) (nI y - 10) = nI ((x - u + (u - x)) + (y - v + (v - y))) := by
    unfold m_ds
    rw [eu, ev, fl_ab x hx u (by omega), fl_ab y hy v (by omega), nI_add]
  rw [e]
  exact fl_sq _ (by omega)
theorem lk_0 {x : Int32} {l : List (Int × Int)} {d off : Int} (h : x = 0) (e : Op.lookupswitch.offset l d 0 = off) : Op.lookupswitch.offset l d x.toInt = off := by
  rw [h]
  exact e
theorem lk_d {x : Int32} (h0 : ¬ x = 0) (h1 : ¬ x = 1) : Op.lookupswitch.offset (#[((0 : Int), (26 : Int)), (1, 35)] : Array (Int × Int)).toList 48 x.toInt = 48 := by
  have g0 : ¬ x.toInt = 0 := fun h => h0 (Int32.toInt_inj.mp h)
  have g1 : ¬ x.toInt = 1 := fun h => h1 (Int32.toInt_inj.mp h)
  have h0' : ¬ (0 : Int) = x.toInt := fun h => g0 h.symm
  have h1' : ¬ (1 : Int) = x.toInt := fun h => g1 h.symm
  simp [Op.lookupswitch.offset, g0, g1, h0', h1']
/-! lists -/
def dz_L (Z : dzG) (G : dzW) (ad : dzA) (rl ra : dzR) (c : Nat) (el : Nat → Nat) : Prop := ∃ (mo : Int32) (e n : Nat) (g : Nat → Option Nat), G rl = some (eO 0 [.int mo, .ref e, .int (nI c)]) ∧ c ≤ n ∧ n ≤ 200 ∧ ((n = 0 ∧ e = dz0 Z) ∨ (2 ≤ n ∧ G ra = some (eR Z n g) ∧ ad ra = e ∧ ∀ j, j < c → g j = some (el j)))
theorem dz_P.preL {Z : dzG} {G : dzW} {ad : dzA} {av : List Value} {s : State} {H0 H : Heap} {locs : List Loc} {rl ra : dzR} {c : Nat} {el : Nat → Nat} (hE : dz_E Z s H0) (hS : va_S (dz_A Z) H0 H locs) (hG : dz_w Z G ad H) (hL : dz_L Z G ad rl ra c el) {a9 : Nat} (ha : ad rl = a9) : PreV s H RJx4a65c a9 (dz_P Z G ad (.ref a9 :: av)) av := by
  obtain ⟨mo, e, n, g, h1, -⟩ := hL
  exact dz_P.preV hE hS hG h1 rfl ha
theorem dz_L.frame {Z : dzG} {G G' : dzW} {ad ad' : dzA} {rl ra : dzR} {c : Nat} {el : Nat → Nat} (h : dz_L Z G ad rl ra c el) (h1 : G' rl = G rl) (h2 : G' ra = G ra ∧ ad' ra = ad ra) : dz_L Z G' ad' rl ra c el := by
  obtain ⟨mo, e, n, g, k1, k2, k3, k4⟩ := h
  refine ⟨mo, e, n, g, h1.trans k1, k2, k3, ?_⟩
  rcases k4 with k | ⟨q1, q2, q3, q4⟩
  · exact Or.inl k
  · exact Or.inr ⟨q1, h2.1.trans q2, h2.2.trans q3, q4⟩
theorem dz_L.el {Z : dzG} {G : dzW} {ad : dzA} {rl ra : dzR} {c : Nat} {el el' : Nat → Nat} (h : dz_L Z G ad rl ra c el) (e : ∀ j, j < c → el' j = el j) : dz_L Z G ad rl ra c el' := by
  obtain ⟨mo, e0, n, g, k1, k2, k3, k4⟩ := h
  refine ⟨mo, e0, n, g, k1, k2, k3, ?_⟩
  rcases k4 with k | ⟨q1, q2, q3, q4⟩
  · exact Or.inl k
  · exact Or.inr ⟨q1, q2, q3, fun j hj => by rw [e j hj]; exact q4 j hj⟩
/-- the masses -/
def dz_Rm (Z : dzG) (G : dzW) (ad : dzA) (nm : Nat) (sh co ro st : Nat → Int32) : Prop := G (2, 0) = some (eO 6 [.ref (ad (3, 0)), .ref (ad (5, 0)), .ref (ad (6, 0)), .ref (ad (7, 0))]) ∧ dz_L Z G ad (3, 0) (4, 0) nm (fun i => ad (8, i)) ∧ ∀ i, i < nm → G (8, i) = some (eO 5 [.int (sh i), .int (co i), .int (ro i), .int (st i)])
theorem dz_Rm.frame {Z : dzG} {G G' : dzW} {ad ad' : dzA} {nm : Nat} {sh co ro st : Nat → Int32} (h : dz_Rm Z G ad nm sh co ro st) (f : ∀ r : dzR, (r.1 = 2 ∨ r.1 = 3 ∨ r.1 = 4 ∨ r.1 = 8) → G' r = G r ∧ ad' r = ad r) (g : ∀ r : dzR, (r.1 = 5 ∨ r.1 = 6 ∨ r.1 = 7) → ad' r = ad r) : dz_Rm Z G' ad' nm sh co ro st := by
  obtain ⟨h1, h2, h3⟩ := h
  refine ⟨?_, ?_, fun i hi => (f (8, i) (by simp)).1.trans (h3 i hi)⟩
  · rw [(f (2, 0) (by simp)).1, (f (3, 0) (by simp)).2, g (5, 0) (by simp), g (6, 0) (by simp), g (7, 0) (by simp)]
    exact h1
  · exact (h2.frame (f (3, 0) (by simp)).1 (f (4, 0) (by simp))).el (fun i _ => (f (8, i) (by simp)).2)
theorem dz_Rm.push {Z : dzG} {G G' : dzW} {ad ad' : dzA} {nm : Nat} {sh co ro st : Nat → Int32} {el' : Nat → Nat} (h : dz_Rm Z G ad nm sh co ro st) (hM : G (8, nm) = some (eO 5 [.int (sh nm), .int (co nm), .int (ro nm), .int (st nm)])) (f : ∀ r : dzR, r ≠ (3, 0) → r ≠ (4, 0) → r ≠ (90, 0) → G' r = G r ∧ ad' r = ad r) (hL : dz_L Z G' ad' (3, 0) (4, 0) (nm + 1) el') (hel : ∀ j, j < nm + 1 → ad (8, j) = el' j) (ha : ad' (3, 0) = ad (3, 0)) : dz_Rm Z G' ad' (nm + 1) sh co ro st := by
  obtain ⟨h1, h2, h3⟩ := h
  have ff : ∀ k i, k ≠ 3 → k ≠ 4 → k ≠ 90 → G' (k, i) = G (k, i) ∧ ad' (k, i) = ad (k, i) := fun k i a b c => f (k, i) (fun e => a (congrArg Prod.fst e)) (fun e => b (congrArg Prod.fst e)) (fun e => c (congrArg Prod.fst e))
  refine ⟨?_, hL.el (fun j hj => ((ff 8 j (by decide) (by decide) (by decide)).2.trans (hel j hj))), fun i hi => ?_⟩
  · rw [(ff 2 0 (by decide) (by decide) (by decide)).1, ha, (ff 5 0 (by decide) (by decide) (by decide)).2, (ff 6 0 (by decide) (by decide) (by decide)).2, (ff 7 0 (by decide) (by decide) (by decide)).2]
    exact h1
  · rw [(ff 8 i (by decide) (by decide) (by decide)).1]
    rcases Nat.lt_or_ge i nm with q | q
    · exact h3 i q
    · rw [show i = nm by omega]
      exact hM
/-- the tables of the rays -/
def m_tc (nm : Nat) (sh co ro st : Nat → Int32) (j : Nat) : Int32 := m_pc j - m_bcol sh co ro st (m_pc j) (m_pr j) nm
def m_tr (nm : Nat) (sh co ro st : Nat → Int32) (j : Nat) : Int32 := m_pr j - m_brow sh co ro st (m_pc j) (m_pr j) nm
def m_tw (nm : Nat) (sh co ro st : Nat → Int32) (j : Nat) : Int32 := 5 * (m_bcol sh co ro st (m_pc j) (m_pr j) nm * m_bcol sh co ro st (m_pc j) (m_pr j) nm + m_brow sh co ro st (m_pc j) (m_pr j) nm * m_brow sh co ro st (m_pc j) (m_pr j) nm) - m_bsho sh co ro st (m_pc j) (m_pr j) nm
theorem m_up {f g : Nat → Int32} {k : Nat} {x : Int32} (hk : k < 2 ^ 31) (h : ∀ j, j < k → f j = g j) (hx : x = g k) : ∀ j, j < k + 1 → upd f (nI k).toNatClampNeg x j = g j := by
  intro j hj
  rw [nI_clamp hk]
  by_cases c : j = k
  · subst c
    rw [pk_us, hx]
  · rw [pk_un c]
    exact h j (by omega)
/-! images laid by ranks -/
def m_sh (w : Nat → Int32) (own : Nat) : Nat → (Nat → Int32) → (Nat → Int32) × Nat
  | 0, f => (f, 0)
  | k + 1, f => if w own < w (f k).toNatClampNeg then m_sh w own k (upd f (k + 1) (f k)) else (f, k + 1)
theorem m_sh_s {w : Nat → Int32} {own k : Nat} {f : Nat → Int32} (hk : 0 < k) (h : w own < w (f (k - 1)).toNatClampNeg) : m_sh w own k f = m_sh w own (k - 1) (upd f k (f (k - 1))) := by
  cases k with
  | zero => omega
  | succ k => exact if_pos h
theorem m_sh_e {w : Nat → Int32} {own k : Nat} {f : Nat → Int32} (hk : 0 < k) (h : ¬ w own < w (f (k - 1)).toNatClampNeg) : m_sh w own k f = (f, k) := by
  cases k with
  | zero => omega
  | succ k => exact if_neg h
def m_ins (w : Nat → Int32) (own cnt : Nat) (f : Nat → Int32) : Nat → Int32 := upd (m_sh w own cnt f).1 (m_sh w own cnt f).2 (nI own)
/-- the place 'own' is looked at: it goes among the images if P -/
def m_stp (w : Nat → Int32) (P : Nat → Int32) (own : Nat) (q : Nat × (Nat → Int32)) : Nat × (Nat → Int32) := if P own = 0 then q else (q.1 + 1, m_ins w own q.1 q.2)
def m_lr (w P : Nat → Int32) (a : Nat) (q : Nat × (Nat → Int32)) : Nat → Nat × (Nat → Int32)
  | 0 => q
  | b + 1 => m_stp w P (22 * a + b) (m_lr w P a q b)
def m_la (w P : Nat → Int32) (q : Nat × (Nat → Int32)) : Nat → Nat × (Nat → Int32)
  | 0 => q
  | a + 1 => m_lr w P a (m_la w P q a) 21
/-- all that are laid are places ahead of n -/
def m_bd (n : Nat) (q : Nat × (Nat → Int32)) : Prop := ∀ k, k < q.1 → ∃ j, j < n ∧ q.2 k = nI j
theorem m_sh_bd {w : Nat → Int32} {own n c : Nat} : ∀ (k : Nat) (f : Nat → Int32), k ≤ c → (∀ i, i < c + 1 → i ≠ k → ∃ j, j < n ∧ f i = nI j) → (m_sh w own k f).2 ≤ k ∧ ∀ i, i < c + 1 → i ≠ (m_sh w own k f).2 → ∃ j, j < n ∧ (m_sh w own k f).1 i = nI j := by
  intro k
  induction k with
  | zero => intro f _ h; exact ⟨Nat.le_refl _, h⟩
  | succ k ih =>
    intro f hk h
    by_cases g : w own < w (f k).toNatClampNeg
    · have e : m_sh w own (k + 1) f = m_sh w own k (upd f (k + 1) (f k)) := if_pos g
      rw [e]
      obtain ⟨h1, h2⟩ := ih (upd f (k + 1) (f k)) (by omega) (fun i hi hne => by
        by_cases c1 : i = k + 1
        · subst c1; rw [pk_us]; exact h k (by omega) (by omega)
        · rw [pk_un c1]; exact h i hi c1)
      exact ⟨by omega, h2⟩
    · have e : m_sh w own (k + 1) f = (f, k + 1) := if_neg g
      rw [e]
      exact ⟨Nat.le_refl _, h⟩
theorem m_ins_bd {w : Nat → Int32} {own n c : Nat} {f : Nat → Int32} (ho : own < n) (h : m_bd n (c, f)) : m_bd n (c + 1, m_ins w own c f) := by
  intro i hi
  obtain ⟨h1, h2⟩ := m_sh_bd (w := w) (own := own) (n := n) (c := c) c f (Nat.le_refl _) (fun i hi hne => h i (by show i < c; omega))
  show ∃ j, j < n ∧ upd _ _ _ i = nI j
  by_cases c1 : i = (m_sh w own c f).2
  · rw [c1, pk_us]; exact ⟨own, ho, rfl⟩
  · rw [pk_un c1]; exact h2 i hi c1
theorem m_bd.mono {n n' : Nat} {q : Nat × (Nat → Int32)} (h : m_bd n q) (hn : n ≤ n') : m_bd n' q := fun k hk => by
  obtain ⟨j, h1, h2⟩ := h k hk
  exact ⟨j, by omega, h2⟩
theorem m_stp_bd {w P : Nat → Int32} {own n : Nat} {q : Nat × (Nat → Int32)} (ho : own < n) (h : m_bd n q) : m_bd n (m_stp w P own q) := by
  unfold m_stp
  split
  · exact h
  · exact m_ins_bd ho h
theorem m_lr_bd {w P : Nat → Int32} {a : Nat} {q : Nat × (Nat → Int32)} (h : m_bd (22 * a) q) : ∀ b, m_bd (22 * a + b) (m_lr w P a q b) := by
  intro b
  induction b with
  | zero => exact h
  | succ b ih => exact m_stp_bd (by omega) (ih.mono (by omega))
theorem m_la_bd {w P : Nat → Int32} {f : Nat → Int32} : ∀ a, m_bd (22 * a) (m_la w P (0, f) a) := by
  intro a
  induction a with
  | zero => intro k hk; exact absurd hk (Nat.not_lt_zero _)
  | succ a ih => exact (m_lr_bd ih 21).mono (by omega)
theorem m_stp_c {w P : Nat → Int32} {own : Nat} {q : Nat × (Nat → Int32)} : (m_stp w P own q).1 ≤ q.1 + 1 := by
  unfold m_stp
  split <;> simp
theorem m_lr_c {w P : Nat → Int32} {a : Nat} {q : Nat × (Nat → Int32)} : ∀ b, (m_lr w P a q b).1 ≤ q.1 + b := by
  intro b
  induction b with
  | zero => exact Nat.le_refl _
  | succ b ih => exact Nat.le_trans m_stp_c (by omega)
theorem m_la_c {w P : Nat → Int32} {f : Nat → Int32} : ∀ a, (m_la w P (0, f) a).1 ≤ 21 * a := by
  intro a
  induction a with
  | zero => exact Nat.le_refl _
  | succ a ih => exact Nat.le_trans (m_lr_c 21) (by omega)
/-! what lies behind the last image doesn't count -/
def m_eq (q q' : Nat × (Nat → Int32)) : Prop := q.1 = q'.1 ∧ ∀ k, k < q.1 → q.2 k = q'.2 k
theorem m_sh_eq {w : Nat → Int32} {own c : Nat} : ∀ (k : Nat) (f g : Nat → Int32), k ≤ c → (∀ i, i < c + 1 → i ≠ k → f i = g i) → (m_sh w own k f).2 = (m_sh w own k g).2 ∧ ∀ i, i < c + 1 → i ≠ (m_sh w own k f).2 → (m_sh w own k f).1 i = (m_sh w own k g).1 i := by
  intro k
  induction k with
  | zero => intro f g _ h; exact ⟨rfl, h⟩
  | succ k ih =>
    intro f g hk h
    have hfk : f k = g k := h k (by omega) (by omega)
    by_cases c0 : w own < w (f k).toNatClampNeg
    · have e : m_sh w own (k + 1) f = m_sh w own k (upd f (k + 1) (f k)) := if_pos c0
      have e' : m_sh w own (k + 1) g = m_sh w own k (upd g (k + 1) (g k)) := if_pos (by rw [← hfk]; exact c0)
      rw [e, e']
      refine ih _ _ (by omega) (fun i hi hne => ?_)
      by_cases c1 : i = k + 1
      · subst c1; rw [pk_us, pk_us]; exact hfk
      · rw [pk_un c1, pk_un c1]; exact h i hi c1
    · have e : m_sh w own (k + 1) f = (f, k + 1) := if_neg c0
      have e' : m_sh w own (k + 1) g = (g, k + 1) := if_neg (by rw [← hfk]; exact c0)
      rw [e, e']
      exact ⟨rfl, h⟩
theorem m_stp_eq {w P : Nat → Int32} {own : Nat} {q q' : Nat × (Nat → Int32)} (h : m_eq q q') : m_eq (m_stp w P own q) (m_stp w P own q') := by
  obtain ⟨h1, h2⟩ := h
  unfold m_stp
  split
  · exact ⟨h1, h2⟩
  · refine ⟨by show q.1 + 1 = q'.1 + 1; omega, fun k hk => ?_⟩
    obtain ⟨g1, g2⟩ := m_sh_eq (w := w) (own := own) (c := q.1) q.1 q.2 q'.2 (Nat.le_refl _) (fun i hi hne => h2 i (by omega))
    show upd _ _ _ k = upd _ _ _ k
    rw [← h1, ← g1]
    by_cases c1 : k = (m_sh w own q.1 q.2).2
    · rw [c1, pk_us, pk_us]
    · rw [pk_un c1, pk_un c1]; exact g2 k hk c1
theorem m_lr_eq {w P : Nat → Int32} {a : Nat} {q q' : Nat × (Nat → Int32)} (h : m_eq q q') : ∀ b, m_eq (m_lr w P a q b) (m_lr w P a q' b) := by
  intro b
  induction b with
  | zero => exact h
  | succ b ih => exact m_stp_eq ih
theorem m_la_eq {w P : Nat → Int32} {q q' : Nat × (Nat → Int32)} (h : m_eq q q') : ∀ a, m_eq (m_la w P q a) (m_la w P q' a) := by
  intro a
  induction a with
  | zero => exact h
  | succ a ih => exact m_lr_eq ih 21
/-! lights -/
def m_lgt (fl : Int32) (fd fb : Nat → Int32) (fx : Nat → Nat) (dy : Int32) : Nat → Int32
  | 0 => fl
  | k + 1 => if dy < fd (fx k) then m_lgt fl fd fb fx dy k else m_lgt fl fd fb fx dy k + fb (fx k)
def m_pos (v : Int32) : Int32 := if v < 0 then 0 else v
def m_sts (sr sd sw sg : Nat → Int32) (sx : Nat → Nat) (rk dy : Int32) : Nat → Int32
  | 0 => 0
  | k + 1 => if sr (sx k) = rk then m_sts sr sd sw sg sx rk dy k + m_more dy (sw (sx k)) (sd (sx k)) (sg (sx k)) else m_sts sr sd sw sg sx rk dy k
/-! delays measured -/
def m_apS (d v : Int32) (S : Nat → Int64) : Nat → Int64 := if 0 ≤ d ∧ d ≤ 150 then vp_updL S d.toNatClampNeg (S d.toNatClampNeg + (m_abs v).toInt64) else S
def m_apP (d : Int32) (Q : Nat → Int32) : Nat → Int32 := if 0 ≤ d ∧ d ≤ 150 then upd Q d.toNatClampNeg (Q d.toNatClampNeg + 1) else Q
def m_mj (fdy B : Nat → Int32) (ai : Int32) (i : Nat) (bo bb : Int32) (q : (Nat → Int64) × (Nat → Int32)) : Nat → (Nat → Int64) × (Nat → Int32)
  | 0 => q
  | t + 1 => if B (i + t) = -1 then m_mj fdy B ai i bo bb q t else (m_apS (fdy (i + t) - fdy i) (ai * bb - B (i + t) * bo) (m_mj fdy B ai i bo bb q t).1, m_apP (fdy (i + t) - fdy i) (m_mj fdy B ai i bo bb q t).2)
def m_mi (fdy A B : Nat → Int32) (n : Nat) (bo bb : Int32) (q : (Nat → Int64) × (Nat → Int32)) : Nat → (Nat → Int64) × (Nat → Int32)
  | 0 => q
  | i + 1 => if A i = -1 then m_mi fdy A B n bo bb q i else m_mj fdy B (A i) i bo bb (m_mi fdy A B n bo bb q i) (n - i)
def m_best (S : Nat → Int64) (Q : Nat → Int32) : Nat → Int32
  | 0 => -1
  | d + 1 => if Q d < 3 then m_best S Q d else if m_best S Q d = -1 then nI d else if S d * (Q (m_best S Q d).toNatClampNeg).toInt64 < S (m_best S Q d).toNatClampNeg * (Q d).toInt64 then nI d else m_best S Q d
theorem m_best_in {S : Nat → Int64} {Q : Nat → Int32} : ∀ d, m_best S Q d = -1 ∨ ∃ x, x < d ∧ m_best S Q d = nI x := by
  intro d
  induction d with
  | zero => exact Or.inl rfl
  | succ d ih =>
    have up : m_best S Q d = -1 ∨ ∃ x, x < d + 1 ∧ m_best S Q d = nI x := by
      rcases ih with h | ⟨x, h1, h2⟩
      · exact Or.inl h
      · exact Or.inr ⟨x, by omega, h2⟩
    rw [show m_best S Q (d + 1) = if Q d < 3 then m_best S Q d else if m_best S Q d = -1 then nI d else if S d * (Q (m_best S Q d).toNatClampNeg).toInt64 < S (m_best S Q d).toNatClampNeg * (Q d).toInt64 then nI d else m_best S Q d from rfl]
    split
    · exact up
    · split
      · exact Or.inr ⟨d, by omega, rfl⟩
      · split
        · exact Or.inr ⟨d, by omega, rfl⟩
        · exact up
theorem m_in150 {d : Int32} (h : 0 ≤ d ∧ d ≤ 150) : vp_in d 151 := by
  rw [vp_in_iff]
  obtain ⟨h1, h2⟩ := h
  have g1 := Int32.le_iff_toInt_le.mp h1
  have g2 := Int32.le_iff_toInt_le.mp h2
  have e0 : (0 : Int32).toInt = 0 := by decide
  have e1 : (150 : Int32).toInt = 150 := by decide
  omega
/-- frames -/
def dz_Fr (Z : dzG) (G : dzW) (ad : dzA) (nf : Nat) (fdy : Nat → Int32) (lg : Nat → Nat → Int32) : Prop := G (19, 0) = some (eO 1 [.ref (ad (20, 0)), .ref (ad (22, 0)), .ref (ad (23, 0))]) ∧ dz_L Z G ad (20, 0) (21, 0) nf (fun i => ad (24, i)) ∧ ∀ i, i < nf → G (24, i) = some (eO 4 [.int (fdy i), .ref (ad (25, i))]) ∧ G (25, i) = some (eI Z 30 (lg i))
theorem dz_Fr.frame {Z : dzG} {G G' : dzW} {ad ad' : dzA} {nf : Nat} {fdy : Nat → Int32} {lg : Nat → Nat → Int32} (h : dz_Fr Z G ad nf fdy lg) (f : ∀ r : dzR, (r.1 = 19 ∨ r.1 = 20 ∨ r.1 = 21 ∨ r.1 = 24 ∨ r.1 = 25) → G' r = G r ∧ ad' r = ad r) (g : ∀ r : dzR, (r.1 = 22 ∨ r.1 = 23) → ad' r = ad r) : dz_Fr Z G' ad' nf fdy lg := by
  obtain ⟨h1, h2, h3⟩ := h
  refine ⟨?_, ?_, fun i hi => ⟨?_, (f (25, i) (by simp)).1.trans (h3 i hi).2⟩⟩
  · rw [(f (19, 0) (by simp)).1, (f (20, 0) (by simp)).2, g (22, 0) (by simp), g (23, 0) (by simp)]
    exact h1
  · exact (h2.frame (f (20, 0) (by simp)).1 (f (21, 0) (by simp))).el (fun i _ => (f (24, i) (by simp)).2)
  · rw [(f (24, i) (by simp)).1, (f (25, i) (by simp)).2]
    exact (h3 i hi).1
theorem m_upL {f : Nat → Int64} {k : Nat} {v : Int64} (hk : k < 2 ^ 31) (h : ∀ j, j < k → f j = v) : ∀ j, j < k + 1 → vp_updL f (nI k).toNatClampNeg v j = v := by
  intro j hj
  rw [nI_clamp hk]
  by_cases c : j = k
  · subst c
    rw [pk_uLs]
  · rw [pk_uLn c]
    exact h j (by omega)
theorem dz_Fr.push {Z : dzG} {G G' : dzW} {ad ad' : dzA} {nf : Nat} {fdy : Nat → Int32} {lg : Nat → Nat → Int32} {el' : Nat → Nat} (h : dz_Fr Z G ad nf fdy lg) (hM : G (24, nf) = some (eO 4 [.int (fdy nf), .ref (ad (25, nf))]) ∧ G (25, nf) = some (eI Z 30 (lg nf))) (f : ∀ r : dzR, r ≠ (20, 0) → r ≠ (21, 0) → r ≠ (90, 0) → G' r = G r ∧ ad' r = ad r) (hL : dz_L Z G' ad' (20, 0) (21, 0) (nf + 1) el') (hel : ∀ j, j < nf + 1 → ad (24, j) = el' j) (ha : ad' (20, 0) = ad (20, 0)) : dz_Fr Z G' ad' (nf + 1) fdy lg := by
  obtain ⟨h1, h2, h3⟩ := h
  have ff : ∀ k i, k ≠ 20 → k ≠ 21 → k ≠ 90 → G' (k, i) = G (k, i) ∧ ad' (k, i) = ad (k, i) := fun k i a b c => f (k, i) (fun e => a (congrArg Prod.fst e)) (fun e => b (congrArg Prod.fst e)) (fun e => c (congrArg Prod.fst e))
  refine ⟨?_, hL.el (fun j hj => ((ff 24 j (by decide) (by decide) (by decide)).2.trans (hel j hj))), fun i hi => ?_⟩
  · rw [(ff 19 0 (by decide) (by decide) (by decide)).1, ha, (ff 22 0 (by decide) (by decide) (by decide)).2, (ff 23 0 (by decide) (by decide) (by decide)).2]
    exact h1
  · rw [(ff 24 i (by decide) (by decide) (by decide)).1, (ff 25 i (by decide) (by decide) (by decide)).1, (ff 25 i (by decide) (by decide) (by decide)).2]
    rcases Nat.lt_or_ge i nf with q | q
    · exact h3 i q
    · rw [show i = nf by omega]
      exact hM
/-! votes -/
def m_vt (f : Nat → Int32) : Nat → Int32
  | 0 => 0
  | k + 1 => if f k = 0 then m_vt f k else m_vt f k + 1
def m_op (io n : Int32) : Int32 := if io = 0 then (if n < 3 then 0 else 1) else 1
def m_bl (x : Int32) : Prop := narrow .boolean (.int x) = .int x
theorem m_bl.nar {x : Int32} (h : m_bl x) : vp_nar .boolean x = x := by
  unfold vp_nar
  rw [show narrow .boolean (.int x) = .int x from h]
theorem m_bl.b (P : Prop) [Decidable P] : m_bl (dz_b P) := dz_bn
theorem m_op_bl (io n : Int32) : m_bl (m_op io n) := by
  unfold m_op
  split
  · split <;> rfl
  · rfl
