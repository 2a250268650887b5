set_option maxHeartbeats 2000000 in
theorem t_mass (l : Launch) (hst : l.stackTraces = false) {Z : dzG} {G : dzW} {ad : dzA} {aX : Nat} {S : lwS} (hC : lwC Z G ad aX S) (hB : lwB S) (v1 v2 v3 v4 : Int32) : lw_T l yL_mass wsL_mass Z G ad aX S [.ref aX, .int v1, .int v2, .int v3, .int v4] (fun x S' => 0 ≤ x ∧ (S'.1 1 = S.1 1 ∧ S'.2.2 12 = S.2.2 12 ∧ S'.2.2 13 = S.2.2 13) ∧ S'.1 4 = 0 ∧ S'.2.1 0 = S.2.1 0 ∧ S'.2.1 5 = S.2.1 5 ∧ S'.2.1 6 = S.2.1 6) := by
  have hB0 := hB
  obtain ⟨⟨⟨b1, b2, b3⟩, ⟨b4, b5⟩, ⟨b6, b7⟩, ⟨b8, b9⟩, ⟨b10, b11, b12, b13⟩, b14, b15, b16⟩, hF⟩ := hB
  by_cases c1 : ((((0 : Int32) ≤ v1 ∧ v1 ≤ 2) ∧ ((((-10) : Int32) ≤ v2 ∧ v2 ≤ 10) ∧ ((-10) ≤ v3 ∧ v3 ≤ 10))) ∧ ((1 : Int32) ≤ v4 ∧ v4 ≤ 8))
  · by_cases c2 : (S.1 0) = 6
    · exact dz_po (dz_wide (cl_D_mass_full l hst v1 v2 v3 v4 hC b1 c1 c2) (by decide) (by decide) (by decide) (by decide)) (fun x G1 ad1 h => by obtain ⟨rfl, rfl, rfl⟩ := h; exact ⟨fun r h => ⟨rfl, rfl⟩, S, hC, hB0, Or.inl ⟨Or.inr (Or.inr rfl), rfl⟩⟩)
    · have h6 : ∀ k, k < (S.1 0) + 1 → 1 ≤ upd (S.2.2 6) (S.1 0) v4 k ∧ upd (S.2.2 6) (S.1 0) v4 k ≤ 8 := by
        intro k hk
        by_cases c : k = (S.1 0)
        · rw [c, pk_us]; exact c1.2
        · rw [pk_un c]; exact b3 k (by omega)
      exact dz_po (dz_wide (cl_D_mass_ok l v1 v2 v3 v4 hC b10 b4 (by omega) (m_ok_add b2 c1.1.2.1 c1.1.2.2) c1) (by decide) (by decide) (by decide) (by decide)) (fun x G1 ad1 h => by obtain ⟨rfl, h1, h2⟩ := h; exact ⟨h1, _, lwC.mk h2, lwB.mk ⟨⟨by omega, (m_ok_add b2 c1.1.2.1 c1.1.2.2), h6⟩, ⟨b4, b5⟩, ⟨b6, b7⟩, ⟨by omega, fun k hk => absurd hk (Nat.not_lt_zero _)⟩, ⟨by omega, fun i h => absurd h (Nat.succ_ne_zero i), fun j hj => absurd hj (by omega), fun i x hi => absurd hi (Nat.not_lt_zero _)⟩, b14, b15, b16⟩ hF, Or.inr ⟨nI_pos' (by omega), ⟨rfl, rfl, rfl⟩, rfl, rfl, rfl, rfl⟩⟩)
  · exact dz_po (dz_wide (cl_D_mass_bad l hst v1 v2 v3 v4 hC c1) (by decide) (by decide) (by decide) (by decide)) (fun x G1 ad1 h => by obtain ⟨rfl, rfl, rfl⟩ := h; exact ⟨fun r h => ⟨rfl, rfl⟩, S, hC, hB0, Or.inl ⟨Or.inr (Or.inl rfl), rfl⟩⟩)
set_option maxHeartbeats 2000000 in
theorem t_two (l : Launch) (hst : l.stackTraces = false) {Z : dzG} {G : dzW} {ad : dzA} {aX : Nat} {S : lwS} (hC : lwC Z G ad aX S) (hB : lwB S) (v1 v2 v3 : Int32) : lw_T l yL_two wsL_two Z G ad aX S [.ref aX, .int v1, .int v2, .int v3] (fun x S' => 0 ≤ x ∧ (S'.1 1 = S.1 1 ∧ S'.2.2 12 = S.2.2 12 ∧ S'.2.2 13 = S.2.2 13) ∧ S'.1 4 = 0 ∧ S'.2.1 0 = S.2.1 0 ∧ S'.2.1 5 = S.2.1 5 ∧ S'.2.1 6 = S.2.1 6) := by
  have hB0 := hB
  obtain ⟨⟨⟨b1, b2, b3⟩, ⟨b4, b5⟩, ⟨b6, b7⟩, ⟨b8, b9⟩, ⟨b10, b11, b12, b13⟩, b14, b15, b16⟩, hF⟩ := hB
  rcases m_idx (n := (S.1 0)) (by omega) v1 with c1 | ⟨k, hk, rfl⟩
  · exact dz_po (dz_wide (cl_D_two_no l hst v1 v2 v3 hC b1 c1) (by decide) (by decide) (by decide) (by decide)) (fun x G1 ad1 h => by obtain ⟨rfl, rfl, rfl⟩ := h; exact ⟨fun r h => ⟨rfl, rfl⟩, S, hC, hB0, Or.inl ⟨Or.inl rfl, rfl⟩⟩)
  · by_cases c2 : ((((-10) : Int32) ≤ v2 ∧ v2 ≤ 10) ∧ ((-10) ≤ v3 ∧ v3 ≤ 10))
    · by_cases c3 : (S.2.2 6) k = 1 ∨ (S.1 0) = 6
      · exact dz_po (dz_wide (cl_D_two_cant l hst k v2 v3 hC b1 hk c2 (c3.imp (fun z => by simp [z]) id)) (by decide) (by decide) (by decide) (by decide)) (fun x G1 ad1 h => by obtain ⟨rfl, rfl, rfl⟩ := h; exact ⟨fun r h => ⟨rfl, rfl⟩, S, hC, hB0, Or.inl ⟨Or.inr (Or.inr rfl), rfl⟩⟩)
      · have c4 : ¬ (S.2.2 6) k = 1 := fun z => c3 (Or.inl z)
        have c6 : ¬ (S.1 0) = 6 := fun z => c3 (Or.inr z)
        obtain ⟨q1, q2, q3, q4⟩ := m_half (b3 k hk) c4
        have h6 : ∀ j, j < (S.1 0) + 1 → 1 ≤ upd (upd (S.2.2 6) k ((S.2.2 6) k / 2)) (S.1 0) ((S.2.2 6) k - (S.2.2 6) k / 2) j ∧ upd (upd (S.2.2 6) k ((S.2.2 6) k / 2)) (S.1 0) ((S.2.2 6) k - (S.2.2 6) k / 2) j ≤ 8 := by
          intro j hj
          by_cases c : j = (S.1 0)
          · rw [c, pk_us]; exact q4
          · rw [pk_un c]
            by_cases d : j = k
            · rw [d, pk_us]; exact q3
            · rw [pk_un d]; exact b3 j (by omega)
        exact dz_po (dz_wide (cl_D_two_ok l k v2 v3 hC b10 b4 (by omega) (m_ok_add b2 c2.1 c2.2) hk c2 q1 q2) (by decide) (by decide) (by decide) (by decide)) (fun x G1 ad1 h => by obtain ⟨rfl, h1, h2⟩ := h; exact ⟨h1, _, lwC.mk h2, lwB.mk ⟨⟨by omega, (m_ok_add b2 c2.1 c2.2), h6⟩, ⟨b4, b5⟩, ⟨b6, b7⟩, ⟨by omega, fun k hk => absurd hk (Nat.not_lt_zero _)⟩, ⟨by omega, fun i h => absurd h (Nat.succ_ne_zero i), fun j hj => absurd hj (by omega), fun i x hi => absurd hi (Nat.not_lt_zero _)⟩, b14, b15, b16⟩ hF, Or.inr ⟨nI_pos' (by omega), ⟨rfl, rfl, rfl⟩, rfl, rfl, rfl, rfl⟩⟩)
    · exact dz_po (dz_wide (cl_D_two_bad l hst k v2 v3 hC b1 hk c2) (by decide) (by decide) (by decide) (by decide)) (fun x G1 ad1 h => by obtain ⟨rfl, rfl, rfl⟩ := h; exact ⟨fun r h => ⟨rfl, rfl⟩, S, hC, hB0, Or.inl ⟨Or.inr (Or.inl rfl), rfl⟩⟩)
set_option maxHeartbeats 2000000 in
theorem t_source (l : Launch) (hst : l.stackTraces = false) {Z : dzG} {G : dzW} {ad : dzA} {aX : Nat} {S : lwS} (hC : lwC Z G ad aX S) (hB : lwB S) (v1 v2 v3 : Int32) : lw_T l yL_source wsL_source Z G ad aX S [.ref aX, .int v1, .int v2, .int v3] (fun x S' => 0 ≤ x ∧ (S'.1 1 = S.1 1 + 1 ∧ S'.2.2 12 = upd (S.2.2 12) (S.1 1) v1 ∧ S'.2.2 13 = upd (S.2.2 13) (S.1 1) v2) ∧ (S'.1 4 = S.1 4 ∧ ∀ j, j < 30 * S.1 4 → S'.2.2 31 j = S.2.2 31 j) ∧ S'.2.1 0 = S.2.1 0 ∧ S'.2.1 5 = S.2.1 5 ∧ S'.2.1 6 = S.2.1 6) := by
  have hB0 := hB
  obtain ⟨⟨⟨b1, b2, b3⟩, ⟨b4, b5⟩, ⟨b6, b7⟩, ⟨b8, b9⟩, ⟨b10, b11, b12, b13⟩, b14, b15, b16⟩, hF⟩ := hB
  by_cases c1 : (((((-10) : Int32) ≤ v1 ∧ v1 ≤ 10) ∧ ((-10) ≤ v2 ∧ v2 ≤ 10)) ∧ ((1 : Int32) ≤ v3 ∧ v3 ≤ 100))
  · by_cases c2 : m_tk (dz_b ((S.1 1) = 5)) (S.2.2 12) (S.2.2 13) v1 v2 (S.1 1) = 0
    · have c3 : (S.1 1) ≤ 4 := by
        rcases Nat.lt_or_ge (S.1 1) 5 with q | q
        · omega
        · have e1 : dz_b ((S.1 1) = 5) = 1 := dz_b1 (by omega)
          have e2 := m_tk_1 (i0 := 1) (co := (S.2.2 12)) (ro := (S.2.2 13)) (vc := v1) (vr := v2) (k := 0) rfl (S.1 1)
          rw [Nat.zero_add] at e2
          rw [e1, e2] at c2
          exact absurd c2 (by decide)
      have c4 : m_tk 0 (S.2.2 12) (S.2.2 13) v1 v2 (S.1 1) = 0 := by
        have c5 := c2
        rw [dz_b0 (show ¬ (S.1 1) = 5 by omega)] at c5
        exact c5
      have h14 : ∀ i, i < (S.1 1) + 1 → 1 ≤ upd (S.2.2 14) (S.1 1) v3 i ∧ upd (S.2.2 14) (S.1 1) v3 i ≤ 100 := by
        intro i hi
        by_cases c : i = (S.1 1)
        · rw [c, pk_us]; exact c1.2
        · rw [pk_un c]; exact b5 i (by omega)
      have h31 : ∀ j, j < 30 * (S.1 4) → m_cl (S.1 1) (S.2.2 31) (S.1 4) 0 j = -1 ∨ (0 ≤ m_cl (S.1 1) (S.2.2 31) (S.1 4) 0 j ∧ m_cl (S.1 1) (S.2.2 31) (S.1 4) 0 j ≤ 118400) := by
        intro j hj
        unfold m_cl
        split
        · exact Or.inl rfl
        · exact b12 j hj
      have h33 : ∀ j, j < 30 * (S.1 4) → m_cl (S.1 1) (S.2.2 31) (S.1 4) 0 j = (S.2.2 31) j := by
        intro j hj
        unfold m_cl
        split
        · rename_i c
          have z := b13 (j / 30) (j % 30) (by omega) (by omega) (by omega)
          rw [show 30 * (j / 30) + j % 30 = j by omega] at z
          exact z.symm
        · rfl
      have hF2 : ∀ i, i < (S.1 1) + 1 → ((-10 ≤ upd (S.2.2 12) (S.1 1) v1 i ∧ upd (S.2.2 12) (S.1 1) v1 i ≤ 10) ∧ (-10 ≤ upd (S.2.2 13) (S.1 1) v2 i ∧ upd (S.2.2 13) (S.1 1) v2 i ≤ 10)) := by
        intro i hi
        by_cases c : i = (S.1 1)
        · rw [c, pk_us, pk_us]; exact c1.1
        · rw [pk_un c, pk_un c]; exact hF i (by omega)
      have h32 : ∀ i x, i < (S.1 4) → x < 30 → (S.1 1) + 1 ≤ x / 6 → m_cl (S.1 1) (S.2.2 31) (S.1 4) 0 (30 * i + x) = -1 := by
        intro i x hi hx h
        unfold m_cl
        split
        · rfl
        · exact b13 i x hi hx (by omega)
      exact dz_po (dz_wide (cl_D_source_ok l v1 v2 v3 hC c3 c1 c4 (fun k hk => (b7 k hk).2) (fun k hk => (b9 k hk).1) b13) (by decide) (by decide) (by decide) (by decide)) (fun x G1 ad1 h => by obtain ⟨rfl, h1, h2⟩ := h; exact ⟨h1, _, lwC.mk h2, lwB.mk ⟨⟨b1, b2, b3⟩, ⟨by omega, h14⟩, ⟨b6, fun k hk => ⟨(b7 k hk).1, (b7 k hk).2.imp (fun i h => ⟨by omega, h.2⟩)⟩⟩, ⟨b8, fun k hk => ⟨(b9 k hk).1.imp (fun i h => ⟨by omega, h.2⟩), (b9 k hk).2⟩⟩, ⟨b10, b11, h31, h32⟩, b14, b15, b16⟩ hF2, Or.inr ⟨nI_pos' (by omega), ⟨rfl, rfl, rfl⟩, ⟨rfl, h33⟩, rfl, rfl, rfl⟩⟩)
    · have c3 : 5 ≤ (S.1 1) ∨ ¬ m_tk 0 (S.2.2 12) (S.2.2 13) v1 v2 (S.1 1) = 0 := by
        by_cases c : (S.1 1) = 5
        · exact Or.inl (by omega)
        · right
          have c5 := c2
          rw [dz_b0 c] at c5
          exact c5
      exact dz_po (dz_wide (cl_D_source_full l hst v1 v2 v3 hC b4 c1 c3) (by decide) (by decide) (by decide) (by decide)) (fun x G1 ad1 h => by obtain ⟨rfl, rfl, rfl⟩ := h; exact ⟨fun r h => ⟨rfl, rfl⟩, S, hC, hB0, Or.inl ⟨Or.inr (Or.inr rfl), rfl⟩⟩)
  · exact dz_po (dz_wide (cl_D_source_bad l hst v1 v2 v3 hC c1) (by decide) (by decide) (by decide) (by decide)) (fun x G1 ad1 h => by obtain ⟨rfl, rfl, rfl⟩ := h; exact ⟨fun r h => ⟨rfl, rfl⟩, S, hC, hB0, Or.inl ⟨Or.inr (Or.inl rfl), rfl⟩⟩)
set_option maxHeartbeats 2000000 in
theorem t_flare (l : Launch) (hst : l.stackTraces = false) {Z : dzG} {G : dzW} {ad : dzA} {aX : Nat} {S : lwS} (hC : lwC Z G ad aX S) (hB : lwB S) (v1 v2 : Int32) : lw_T l yL_flare wsL_flare Z G ad aX S [.ref aX, .int v1, .int v2] (fun x S' => 0 ≤ x ∧ (S'.1 1 = S.1 1 ∧ S'.2.2 12 = S.2.2 12 ∧ S'.2.2 13 = S.2.2 13) ∧ (S'.1 4 = S.1 4 ∧ ∀ j, j < 30 * S.1 4 → S'.2.2 31 j = S.2.2 31 j) ∧ S'.2.1 0 = S.2.1 0 ∧ S'.2.1 5 = S.2.1 5 ∧ S'.2.1 6 = S.2.1 6) := by
  have hB0 := hB
  obtain ⟨⟨⟨b1, b2, b3⟩, ⟨b4, b5⟩, ⟨b6, b7⟩, ⟨b8, b9⟩, ⟨b10, b11, b12, b13⟩, b14, b15, b16⟩, hF⟩ := hB
  rcases m_idx (n := (S.1 1)) (by omega) v1 with c1 | ⟨sc, hsc, rfl⟩
  · exact dz_po (dz_wide (cl_D_flare_no l hst v1 v2 hC c1) (by decide) (by decide) (by decide) (by decide)) (fun x G1 ad1 h => by obtain ⟨rfl, rfl, rfl⟩ := h; exact ⟨fun r h => ⟨rfl, rfl⟩, S, hC, hB0, Or.inl ⟨Or.inl rfl, rfl⟩⟩)
  · by_cases c2 : (((-100) : Int32) ≤ v2 ∧ v2 ≤ 100)
    · by_cases c3 : (S.1 2) = 40
      · exact dz_po (dz_wide (cl_D_flare_full l hst sc v2 hC hsc b4 c2 c3) (by decide) (by decide) (by decide) (by decide)) (fun x G1 ad1 h => by obtain ⟨rfl, rfl, rfl⟩ := h; exact ⟨fun r h => ⟨rfl, rfl⟩, S, hC, hB0, Or.inl ⟨Or.inr (Or.inr rfl), rfl⟩⟩)
      · have h7 : ∀ k, k < (S.1 2) + 1 → (-100 ≤ upd (S.2.2 18) (S.1 2) v2 k ∧ upd (S.2.2 18) (S.1 2) v2 k ≤ 100) ∧ ∃ i, i < (S.1 1) ∧ upd (S.2.2 16) (S.1 2) (nI sc) k = nI i := by
          intro k hk
          by_cases c : k = (S.1 2)
          · rw [c, pk_us, pk_us]; exact ⟨c2, sc, hsc, rfl⟩
          · rw [pk_un c, pk_un c]; exact b7 k (by omega)
        exact dz_po (dz_wide (cl_D_flare_ok l sc v2 hC hsc b4 c2 (by omega)) (by decide) (by decide) (by decide) (by decide)) (fun x G1 ad1 h => by obtain ⟨rfl, h1, h2⟩ := h; exact ⟨h1, _, lwC.mk h2, lwB.mk ⟨⟨b1, b2, b3⟩, ⟨b4, b5⟩, ⟨by omega, h7⟩, ⟨b8, b9⟩, ⟨b10, b11, b12, b13⟩, b14, b15, b16⟩ hF, Or.inr ⟨q_pos0, ⟨rfl, rfl, rfl⟩, ⟨rfl, fun j hj => rfl⟩, rfl, rfl, rfl⟩⟩)
    · exact dz_po (dz_wide (cl_D_flare_bad l hst sc v2 hC hsc b4 c2) (by decide) (by decide) (by decide) (by decide)) (fun x G1 ad1 h => by obtain ⟨rfl, rfl, rfl⟩ := h; exact ⟨fun r h => ⟨rfl, rfl⟩, S, hC, hB0, Or.inl ⟨Or.inr (Or.inl rfl), rfl⟩⟩)
set_option maxHeartbeats 2000000 in
theorem t_cross (l : Launch) (hst : l.stackTraces = false) {Z : dzG} {G : dzW} {ad : dzA} {aX : Nat} {S : lwS} (hC : lwC Z G ad aX S) (hB : lwB S) (v1 v2 v3 v4 : Int32) : lw_T l yL_cross wsL_cross Z G ad aX S [.ref aX, .int v1, .int v2, .int v3, .int v4] (fun x S' => 0 ≤ x ∧ (S'.1 1 = S.1 1 ∧ S'.2.2 12 = S.2.2 12 ∧ S'.2.2 13 = S.2.2 13) ∧ (S'.1 4 = S.1 4 ∧ ∀ j, j < 30 * S.1 4 → S'.2.2 31 j = S.2.2 31 j) ∧ S'.2.1 0 = S.2.1 0 ∧ S'.2.1 5 = S.2.1 5 ∧ S'.2.1 6 = S.2.1 6) := by
  have hB0 := hB
  obtain ⟨⟨⟨b1, b2, b3⟩, ⟨b4, b5⟩, ⟨b6, b7⟩, ⟨b8, b9⟩, ⟨b10, b11, b12, b13⟩, b14, b15, b16⟩, hF⟩ := hB
  rcases m_idx (n := (S.1 1)) (by omega) v1 with c1 | ⟨sc, hsc, rfl⟩
  · exact dz_po (dz_wide (cl_D_cross_no l hst v1 v2 v3 v4 hC c1) (by decide) (by decide) (by decide) (by decide)) (fun x G1 ad1 h => by obtain ⟨rfl, rfl, rfl⟩ := h; exact ⟨fun r h => ⟨rfl, rfl⟩, S, hC, hB0, Or.inl ⟨Or.inl rfl, rfl⟩⟩)
  · rcases m_idx (n := (m_ix (S.1 0) (S.2.2 3) (S.2.2 4) (S.2.2 5) (S.2.2 6) (S.2.2 12) (S.2.2 13) sc).1) (Nat.lt_of_le_of_lt m_im_c (by decide)) v2 with c2 | ⟨rk, hrk, rfl⟩
    · exact dz_po (dz_wide (cl_D_cross_out l hst sc v2 v3 v4 hC hsc b4 c2) (by decide) (by decide) (by decide) (by decide)) (fun x G1 ad1 h => by obtain ⟨rfl, rfl, rfl⟩ := h; exact ⟨fun r h => ⟨rfl, rfl⟩, S, hC, hB0, Or.inl ⟨Or.inl rfl, rfl⟩⟩)
    · by_cases c3 : (((1 : Int32) ≤ v3 ∧ v3 ≤ 50) ∧ ((1 : Int32) ≤ v4 ∧ v4 ≤ 1000))
      · by_cases c4 : (S.1 3) = 20
        · exact dz_po (dz_wide (cl_D_cross_full l hst sc rk v3 v4 hC hsc b4 hrk c3 c4) (by decide) (by decide) (by decide) (by decide)) (fun x G1 ad1 h => by obtain ⟨rfl, rfl, rfl⟩ := h; exact ⟨fun r h => ⟨rfl, rfl⟩, S, hC, hB0, Or.inl ⟨Or.inr (Or.inr rfl), rfl⟩⟩)
        · have h9 : ∀ k, k < (S.1 3) + 1 → (∃ i, i < (S.1 1) ∧ upd (S.2.2 20) (S.1 3) (nI sc) k = nI i) ∧ (0 ≤ upd (S.2.2 22) (S.1 3) (S.2.1 0) k ∧ upd (S.2.2 22) (S.1 3) (S.2.1 0) k ≤ 2000) ∧ (1 ≤ upd (S.2.2 23) (S.1 3) v3 k ∧ upd (S.2.2 23) (S.1 3) v3 k ≤ 50) ∧ (1 ≤ upd (S.2.2 24) (S.1 3) v4 k ∧ upd (S.2.2 24) (S.1 3) v4 k ≤ 1000) := by
            intro k hk
            by_cases c : k = (S.1 3)
            · rw [c, pk_us, pk_us, pk_us, pk_us]; exact ⟨⟨sc, hsc, rfl⟩, b14, c3.1, c3.2⟩
            · rw [pk_un c, pk_un c, pk_un c, pk_un c]; exact b9 k (by omega)
          exact dz_po (dz_wide (cl_D_cross_ok l sc rk v3 v4 hC hsc b4 hrk c3 (by omega)) (by decide) (by decide) (by decide) (by decide)) (fun x G1 ad1 h => by obtain ⟨rfl, h1, h2⟩ := h; exact ⟨h1, _, lwC.mk h2, lwB.mk ⟨⟨b1, b2, b3⟩, ⟨b4, b5⟩, ⟨b6, b7⟩, ⟨by omega, h9⟩, ⟨b10, b11, b12, b13⟩, b14, b15, b16⟩ hF, Or.inr ⟨Int32.le_refl _, ⟨rfl, rfl, rfl⟩, ⟨rfl, fun j hj => rfl⟩, rfl, rfl, rfl⟩⟩)
      · exact dz_po (dz_wide (cl_D_cross_bad l hst sc rk v3 v4 hC hsc b4 hrk c3) (by decide) (by decide) (by decide) (by decide)) (fun x G1 ad1 h => by obtain ⟨rfl, rfl, rfl⟩ := h; exact ⟨fun r h => ⟨rfl, rfl⟩, S, hC, hB0, Or.inl ⟨Or.inr (Or.inl rfl), rfl⟩⟩)
set_option maxHeartbeats 2000000 in
theorem t_season (l : Launch) (hst : l.stackTraces = false) {Z : dzG} {G : dzW} {ad : dzA} {aX : Nat} {S : lwS} (hC : lwC Z G ad aX S) (hB : lwB S) (v1 v2 : Int32) : lw_T l yL_season wsL_season Z G ad aX S [.ref aX, .int v1, .int v2] (fun x S' => 0 ≤ x ∧ (S'.1 1 = S.1 1 ∧ S'.2.2 12 = S.2.2 12 ∧ S'.2.2 13 = S.2.2 13) ∧ (S'.1 4 = S.1 4 ∧ ∀ j, j < 30 * S.1 4 → S'.2.2 31 j = S.2.2 31 j) ∧ S'.2.1 0 = S.2.1 0 ∧ S'.2.1 5 = S.2.1 5 ∧ S'.2.1 6 = S.2.1 6) := by
  have hB0 := hB
  obtain ⟨⟨⟨b1, b2, b3⟩, ⟨b4, b5⟩, ⟨b6, b7⟩, ⟨b8, b9⟩, ⟨b10, b11, b12, b13⟩, b14, b15, b16⟩, hF⟩ := hB
  by_cases c1 : ((((0 : Int32) ≤ v1 ∧ v1 ≤ 99)) ∧ (v1 ≤ v2 ∧ v2 ≤ 99))
  · exact dz_po (dz_wide (cl_D_season_ok l v1 v2 hC c1) (by decide) (by decide) (by decide) (by decide)) (fun x G1 ad1 h => by obtain ⟨rfl, h1, h2⟩ := h; exact ⟨h1, _, lwC.mk h2, lwB.mk hB0.1 hF, Or.inr ⟨Int32.le_refl _, ⟨rfl, rfl, rfl⟩, ⟨rfl, fun j hj => rfl⟩, rfl, rfl, rfl⟩⟩)
  · exact dz_po (dz_wide (cl_D_season_bad l hst v1 v2 hC c1) (by decide) (by decide) (by decide) (by decide)) (fun x G1 ad1 h => by obtain ⟨rfl, rfl, rfl⟩ := h; exact ⟨fun r h => ⟨rfl, rfl⟩, S, hC, hB0, Or.inl ⟨Or.inr (Or.inl rfl), rfl⟩⟩)
