/-! THE CLASS'S OWN WORDS -/
/-- the sources, and the places of their images -/
def dz_So (G : dzW) (ad : dzA) (ns : Nat) (cnt : Nat → Nat) (col row fl : Nat → Int32) : Prop := ∀ i, i < ns → G (11, i) = some (eO 7 [.int (col i), .int (row i), .int (fl i), .ref (ad (12, i)), .int (nI (cnt i)), .ref (ad (13, i)), .ref (ad (15, i))])
theorem dz_So.frame {G G' : dzW} {ad ad' : dzA} {ns : Nat} {cnt : Nat → Nat} {col row fl : Nat → Int32} (h : dz_So G ad ns cnt col row fl) (f : ∀ r : dzR, r.1 = 11 → G' r = G r ∧ ad' r = ad r) (g : ∀ r : dzR, (r.1 = 12 ∨ r.1 = 13 ∨ r.1 = 15) → ad' r = ad r) : dz_So G' ad' ns cnt col row fl := by
  intro i hi
  rw [(f (11, i) rfl).1, g (12, i) (by simp), g (13, i) (by simp), g (15, i) (by simp)]
  exact h i hi
def dz_Pl (Z : dzG) (G : dzW) (ns : Nat) (pl : Nat → Nat → Int32) : Prop := ∀ i, i < ns → G (12, i) = some (eI Z 441 (pl i))
theorem dz_Pl.frame {Z : dzG} {G G' : dzW} {ad ad' : dzA} {ns : Nat} {pl : Nat → Nat → Int32} (h : dz_Pl Z G ns pl) (f : ∀ r : dzR, r.1 = 12 → G' r = G r ∧ ad' r = ad r) : dz_Pl Z G' ns pl := fun i hi => (f (12, i) rfl).1.trans (h i hi)
def dz_Fl (Z : dzG) (G : dzW) (ad : dzA) (ns : Nat) (nfl : Nat → Nat) (fx : Nat → Nat → Nat) (fd fb : Nat → Int32) : Prop := ∀ i, i < ns → dz_L Z G ad (13, i) (14, i) (nfl i) (fun j => ad (17, fx i j)) ∧ ∀ j, j < nfl i → G (17, fx i j) = some (eO 3 [.int (fd (fx i j)), .int (fb (fx i j))])
theorem dz_Fl.frame {Z : dzG} {G G' : dzW} {ad ad' : dzA} {ns : Nat} {nfl : Nat → Nat} {fx : Nat → Nat → Nat} {fd fb : Nat → Int32} (h : dz_Fl Z G ad ns nfl fx fd fb) (f : ∀ r : dzR, (r.1 = 13 ∨ r.1 = 14 ∨ r.1 = 17) → G' r = G r ∧ ad' r = ad r) : dz_Fl Z G' ad' ns nfl fx fd fb := by
  intro i hi
  refine ⟨((h i hi).1.frame (f (13, i) (by simp)).1 (f (14, i) (by simp))).el (fun j _ => (f (17, fx i j) (by simp)).2), fun j hj => (f (17, fx i j) (by simp)).1.trans ((h i hi).2 j hj)⟩
def dz_St (Z : dzG) (G : dzW) (ad : dzA) (ns : Nat) (nst : Nat → Nat) (sx : Nat → Nat → Nat) (sr sd sw sg : Nat → Int32) : Prop := ∀ i, i < ns → dz_L Z G ad (15, i) (16, i) (nst i) (fun j => ad (18, sx i j)) ∧ ∀ j, j < nst i → G (18, sx i j) = some (eO 8 [.int (sr (sx i j)), .int (sd (sx i j)), .int (sw (sx i j)), .int (sg (sx i j))])
theorem dz_St.frame {Z : dzG} {G G' : dzW} {ad ad' : dzA} {ns : Nat} {nst : Nat → Nat} {sx : Nat → Nat → Nat} {sr sd sw sg : Nat → Int32} (h : dz_St Z G ad ns nst sx sr sd sw sg) (f : ∀ r : dzR, (r.1 = 15 ∨ r.1 = 16 ∨ r.1 = 18) → G' r = G r ∧ ad' r = ad r) : dz_St Z G' ad' ns nst sx sr sd sw sg := by
  intro i hi
  refine ⟨((h i hi).1.frame (f (15, i) (by simp)).1 (f (16, i) (by simp))).el (fun j _ => (f (18, sx i j) (by simp)).2), fun j hj => (f (18, sx i j) (by simp)).1.trans ((h i hi).2 j hj)⟩
/-- what a throw leaves: the world as it was -/
theorem dz_xc {Z : dzG} {G : dzW} {ad : dzA} {s t : State} {H : Heap} {locs : List Loc} {X : String} (hG : dz_w Z G ad H) (hS : va_S (dz_A Z) s.heap H locs) (hz : H.size ≤ t.heap.size) (hk : ∀ q : Nat, q < H.size → t.heap[q]? = H[q]?) : dz_XC Z G ad (fun E => E = X) X s t := ⟨rfl, hG.kept hk, ⟨Nat.le_trans hS.1 hz, fun q h1 h2 => (hk q (Nat.lt_of_lt_of_le h1 hS.1)).trans (hS.2.1 q h1 h2)⟩⟩
theorem m_ix5 {k : Nat} (h : k < 6) : (0 : Int32) ≤ nI k ∧ nI k ≤ 5 := m_ix1 (n := 6) (by omega) h
