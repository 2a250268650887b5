/-! THE REFERENCE'S OWN WORDS -/
theorem fl_cl : ∀ a, a < 22 → ∀ b, b < 22 → nI b - 10 + 10 + 22 * (nI a - 10 + 10) = nI (22 * a + b) := by decide +kernel
theorem fl_g11 : ∀ a, a < 23 → (11 < nI a - 10 ↔ a = 22) := by decide +kernel
theorem fl_s22 : ∀ a, a < 23 → nI a - 10 + 1 = nI (a + 1) - 10 := by decide +kernel
/-- how much the rays of a place are bent -/
def m_bc (nm : Nat) (sh co ro st : Nat → Int32) (j : Nat) : Int32 := m_bcol sh co ro st (m_pc j) (m_pr j) nm
def m_br (nm : Nat) (sh co ro st : Nat → Int32) (j : Nat) : Int32 := m_brow sh co ro st (m_pc j) (m_pr j) nm
/-- the light of a source, of the flares that it has among all -/
def m_mfl (fl : Int32) (fo fd fb : Nat → Int32) (sc dy : Int32) : Nat → Int32
  | 0 => fl
  | k + 1 => m_mfl fl fo fd fb sc dy k + if fo k = sc ∧ fd k ≤ dy then fb k else 0
def m_mst (i0 : Int32) (so sr sd sw sg : Nat → Int32) (sc rk dy : Int32) : Nat → Int32
  | 0 => i0
  | k + 1 => m_mst i0 so sr sd sw sg sc rk dy k + if so k = sc ∧ sr k = rk then m_more dy (sw k) (sd k) (sg k) else 0
theorem m_up22 {f g : Nat → Int32} {k : Nat} {x : Int32} (h : ∀ j, j < k → f j = g j) (hx : x = g k) : ∀ j, j < k + 1 → upd f k x j = g j := by
  intro j hj
  by_cases c : j = k
  · subst c
    rw [pk_us, hx]
  · rw [pk_un c]
    exact h j (by omega)
