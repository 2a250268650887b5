/-! ONE SOURCE CHANGED -/
theorem m_ifs {α : Type} {i k : Nat} {a b : α} (h : i ≠ k) : (if i < k + 1 then a else b) = (if i < k then a else b) := by
  by_cases c : i < k
  · rw [if_pos c, if_pos (by omega)]
  · rw [if_neg c, if_neg (by omega)]
theorem dz_So.set {G G' : dzW} {ad ad' : dzA} {ns k : Nat} {cnt cnt' : Nat → Nat} {col row fl : Nat → Int32} (h : dz_So G ad ns cnt col row fl) (f : ∀ i, i ≠ k → G' (11, i) = G (11, i)) (g : ∀ r : dzR, (r.1 = 12 ∨ r.1 = 13 ∨ r.1 = 15) → ad' r = ad r) (hk : G' (11, k) = some (eO 7 [.int (col k), .int (row k), .int (fl k), .ref (ad (12, k)), .int (nI (cnt' k)), .ref (ad (13, k)), .ref (ad (15, k))])) (hc : ∀ i, i ≠ k → cnt' i = cnt i) : dz_So G' ad' ns cnt' col row fl := by
  intro i hi
  rw [g (12, i) (by simp), g (13, i) (by simp), g (15, i) (by simp)]
  by_cases c : i = k
  · subst c; exact hk
  · rw [f i c, hc i c]; exact h i hi
theorem dz_So.cong {G : dzW} {ad : dzA} {ns : Nat} {cnt cnt' : Nat → Nat} {col row fl : Nat → Int32} (h : dz_So G ad ns cnt col row fl) (hc : ∀ i, i < ns → cnt' i = cnt i) : dz_So G ad ns cnt' col row fl := by
  intro i hi
  rw [hc i hi]
  exact h i hi
theorem dz_Pl.set {Z : dzG} {G G' : dzW} {ns k : Nat} {pl pl' : Nat → Nat → Int32} (h : dz_Pl Z G ns pl) (f : ∀ i, i ≠ k → G' (12, i) = G (12, i)) (hk : G' (12, k) = some (eI Z 441 (pl' k))) (hc : ∀ i, i ≠ k → pl' i = pl i) : dz_Pl Z G' ns pl' := by
  intro i hi
  by_cases c : i = k
  · subst c; exact hk
  · rw [f i c, hc i c]; exact h i hi
theorem dz_Pl.cong {Z : dzG} {G : dzW} {ns : Nat} {pl pl' : Nat → Nat → Int32} (h : dz_Pl Z G ns pl) (hc : ∀ i, i < ns → pl' i = pl i) : dz_Pl Z G ns pl' := by
  intro i hi
  rw [hc i hi]
  exact h i hi
theorem dz_St.set {Z : dzG} {G G' : dzW} {ad ad' : dzA} {ns k : Nat} {nst nst' : Nat → Nat} {sx : Nat → Nat → Nat} {sr sd sw sg : Nat → Int32} (h : dz_St Z G ad ns nst sx sr sd sw sg) (f : ∀ r : dzR, (r.1 = 15 ∨ r.1 = 16 ∨ r.1 = 18) → r ≠ (15, k) → r ≠ (16, k) → G' r = G r ∧ ad' r = ad r) (hk : dz_L Z G' ad' (15, k) (16, k) 0 (fun j => ad' (18, sx k j))) (hc : ∀ i, i ≠ k → nst' i = nst i) (h0 : nst' k = 0) : dz_St Z G' ad' ns nst' sx sr sd sw sg := by
  intro i hi
  by_cases c : i = k
  · subst c
    rw [h0]
    exact ⟨hk, fun j hj => absurd hj (Nat.not_lt_zero _)⟩
  · rw [hc i c]
    refine ⟨((h i hi).1.frame (f (15, i) (by simp) (dz_n2 c) (dz_n rfl)).1 (f (16, i) (by simp) (dz_n rfl) (dz_n2 c))).el (fun j _ => (f (18, sx i j) (by simp) (dz_n rfl) (dz_n rfl)).2), fun j hj => (f (18, sx i j) (by simp) (dz_n rfl) (dz_n rfl)).1.trans ((h i hi).2 j hj)⟩
theorem dz_St.cong {Z : dzG} {G : dzW} {ad : dzA} {ns : Nat} {nst nst' : Nat → Nat} {sx : Nat → Nat → Nat} {sr sd sw sg : Nat → Int32} (h : dz_St Z G ad ns nst sx sr sd sw sg) (hc : ∀ i, i < ns → nst' i = nst i) : dz_St Z G ad ns nst' sx sr sd sw sg := by
  intro i hi
  rw [hc i hi]
  exact h i hi
/-- the lights of a frame that is new, as the class sets them -/
def m_fc (cnt : Nat → Nat) (V : Nat → Nat → Int32) (a b : Nat) (j : Nat) : Int32 := if (j / 6 < a ∨ (j / 6 = a ∧ j % 6 < b)) ∧ j % 6 < cnt (j / 6) then V (j / 6) (j % 6) else -1
theorem m_fc_0 {cnt : Nat → Nat} {V : Nat → Nat → Int32} (j : Nat) : (fun _ => (-1 : Int32)) j = m_fc cnt V 0 0 j := by
  unfold m_fc
  rw [if_neg (by omega)]
theorem m_fc_s {cnt : Nat → Nat} {V : Nat → Nat → Int32} {a b : Nat} (hb6 : b < 6) (hb : b < cnt a) : upd (m_fc cnt V a b) (6 * a + b) (V a b) = m_fc cnt V a (b + 1) := by
  funext j
  by_cases c : j = 6 * a + b
  · rw [c, pk_us]
    unfold m_fc
    rw [show (6 * a + b) / 6 = a by omega, show (6 * a + b) % 6 = b by omega, if_pos ⟨Or.inr ⟨rfl, by omega⟩, hb⟩]
  · rw [pk_un c]
    unfold m_fc
    by_cases d : (j / 6 < a ∨ (j / 6 = a ∧ j % 6 < b)) ∧ j % 6 < cnt (j / 6)
    · rw [if_pos d, if_pos ⟨by omega, d.2⟩]
    · rw [if_neg d, if_neg (fun z => d ⟨by omega, z.2⟩)]
theorem m_fc_6 {cnt : Nat → Nat} {V : Nat → Nat → Int32} {a mm : Nat} (h : mm = min (cnt a) 6) : m_fc cnt V a mm = m_fc cnt V (a + 1) 0 := by
  funext j
  unfold m_fc
  by_cases d : (j / 6 < a ∨ (j / 6 = a ∧ j % 6 < mm)) ∧ j % 6 < cnt (j / 6)
  · rw [if_pos d, if_pos ⟨by omega, d.2⟩]
  · rw [if_neg d, if_neg (fun z => d ⟨?_, z.2⟩)]
    obtain ⟨z1, z2⟩ := z
    rcases z1 with z1 | z1
    · by_cases e : j / 6 = a
      · rw [e] at z2
        exact Or.inr ⟨e, by omega⟩
      · omega
    · omega
theorem dz_Rm.cong {Z : dzG} {G : dzW} {ad : dzA} {nm : Nat} {sh co ro st sh' co' ro' st' : Nat → Int32} (h : dz_Rm Z G ad nm sh co ro st) (e : ∀ k, k < nm → sh' k = sh k ∧ co' k = co k ∧ ro' k = ro k ∧ st' k = st k) : dz_Rm Z G ad nm sh' co' ro' st' := ⟨h.1, h.2.1, fun i hi => by rw [(e i hi).1, (e i hi).2.1, (e i hi).2.2.1, (e i hi).2.2.2]; exact h.2.2 i hi⟩
theorem dz_Fr.cong {Z : dzG} {G : dzW} {ad : dzA} {nf : Nat} {fdy fdy' : Nat → Int32} {lg lg' : Nat → Nat → Int32} (h : dz_Fr Z G ad nf fdy lg) (e : ∀ k, k < nf → fdy' k = fdy k ∧ lg' k = lg k) : dz_Fr Z G ad nf fdy' lg' := ⟨h.1, h.2.1, fun i hi => by rw [(e i hi).1, (e i hi).2]; exact h.2.2 i hi⟩
/-- a mass that is two -/
theorem dz_Rm.two {Z : dzG} {G G' : dzW} {ad ad' : dzA} {nm k : Nat} {sh co ro st st' : Nat → Int32} (h : dz_Rm Z G ad nm sh co ro st) (hk : k < nm) (f : ∀ r : dzR, r ≠ (8, k) → r ≠ (8, nm) → G' r = G r ∧ ad' r = ad r) (h1 : G' (8, k) = some (eO 5 [.int (sh k), .int (co k), .int (ro k), .int (st' k)])) (h2 : ad' (8, k) = ad (8, k)) (e : ∀ j, j < nm → j ≠ k → st' j = st j) : dz_Rm Z G' ad' nm sh co ro st' := by
  obtain ⟨a1, a2, a3⟩ := h
  have ha : ∀ i, i < nm → ad' (8, i) = ad (8, i) := fun i hi => by
    by_cases c : i = k
    · rw [c]; exact h2
    · exact (f (8, i) (dz_n2 c) (dz_n2 (by omega))).2
  refine ⟨?_, ?_, fun i hi => ?_⟩
  · rw [(f (2, 0) (dz_n rfl) (dz_n rfl)).1, (f (3, 0) (dz_n rfl) (dz_n rfl)).2, (f (5, 0) (dz_n rfl) (dz_n rfl)).2, (f (6, 0) (dz_n rfl) (dz_n rfl)).2, (f (7, 0) (dz_n rfl) (dz_n rfl)).2]
    exact a1
  · exact (a2.frame (f (3, 0) (dz_n rfl) (dz_n rfl)).1 (f (4, 0) (dz_n rfl) (dz_n rfl))).el ha
  · by_cases c : i = k
    · rw [c]; exact h1
    · rw [(f (8, i) (dz_n2 c) (dz_n2 (by omega))).1, e i hi c]
      exact a3 i hi
theorem m_min6 {a : Nat} (h : a ≤ 441) : (if (6 : Int32) < nI a then (6 : Int32) else nI a) = nI (min a 6) := by
  show (if nI 6 < nI a then nI 6 else nI a) = nI (min a 6)
  by_cases c : 6 < a
  · rw [if_pos ((nI_ltI (a := 6) (by omega) (by omega)).mpr c), show min a 6 = 6 by omega]
  · rw [if_neg (fun z => c ((nI_ltI (a := 6) (by omega) (by omega)).mp z)), show min a 6 = a by omega]
theorem dz_Fr.frame2 {Z : dzG} {G G' : dzW} {ad ad' : dzA} {nf : Nat} {fdy : Nat → Int32} {lg : Nat → Nat → Int32} (h : dz_Fr Z G ad nf fdy lg) (f : ∀ r : dzR, r ≠ (24, nf) → r ≠ (25, nf) → G' r = G r ∧ ad' r = ad r) : dz_Fr Z G' ad' nf fdy lg := by
  obtain ⟨h1, h2, h3⟩ := h
  refine ⟨?_, ?_, fun i hi => ⟨?_, (f (25, i) (dz_n rfl) (dz_n2 (by omega))).1.trans (h3 i hi).2⟩⟩
  · rw [(f (19, 0) (dz_n rfl) (dz_n rfl)).1, (f (20, 0) (dz_n rfl) (dz_n rfl)).2, (f (22, 0) (dz_n rfl) (dz_n rfl)).2, (f (23, 0) (dz_n rfl) (dz_n rfl)).2]
    exact h1
  · exact (h2.frame (f (20, 0) (dz_n rfl) (dz_n rfl)).1 (f (21, 0) (dz_n rfl) (dz_n rfl))).el (fun i hi => (f (24, i) (dz_n2 (by omega)) (dz_n rfl)).2)
  · rw [(f (24, i) (dz_n2 (by omega)) (dz_n rfl)).1, (f (25, i) (dz_n rfl) (dz_n2 (by omega))).2]
    exact (h3 i hi).1
theorem dz_Rm.frame2 {Z : dzG} {G G' : dzW} {ad ad' : dzA} {nm : Nat} {sh co ro st : Nat → Int32} (h : dz_Rm Z G ad nm sh co ro st) (f : ∀ r : dzR, r ≠ (8, nm) → G' r = G r ∧ ad' r = ad r) : dz_Rm Z G' ad' nm sh co ro st := by
  obtain ⟨a1, a2, a3⟩ := h
  refine ⟨?_, (a2.frame (f (3, 0) (dz_n rfl)).1 (f (4, 0) (dz_n rfl))).el (fun i hi => (f (8, i) (dz_n2 (by omega))).2), fun i hi => (f (8, i) (dz_n2 (by omega))).1.trans (a3 i hi)⟩
  rw [(f (2, 0) (dz_n rfl)).1, (f (3, 0) (dz_n rfl)).2, (f (5, 0) (dz_n rfl)).2, (f (6, 0) (dz_n rfl)).2, (f (7, 0) (dz_n rfl)).2]
  exact a1
