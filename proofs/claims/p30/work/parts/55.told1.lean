set_option maxHeartbeats 2000000 in
theorem t_cloud (l : Launch) (hst : l.stackTraces = false) {Z : dzG} {G : dzW} {ad : dzA} {aX : Nat} {S : lwS} (hC : lwC Z G ad aX S) (hB : lwB S) (v1 : Int32) : lw_T l yL_cloud wsL_cloud Z G ad aX S [.ref aX, .int v1] (fun x S' => 0 ≤ x ∧ (S'.1 1 = S.1 1 ∧ S'.2.2 12 = S.2.2 12 ∧ S'.2.2 13 = S.2.2 13) ∧ (S'.1 4 = S.1 4 ∧ ∀ j, j < 30 * S.1 4 → S'.2.2 31 j = S.2.2 31 j) ∧ S'.2.1 0 = S.2.1 0 ∧ S'.2.1 5 = S.2.1 5 ∧ S'.2.1 6 = S.2.1 6) := by
  have hB0 := hB
  obtain ⟨⟨⟨b1, b2, b3⟩, ⟨b4, b5⟩, ⟨b6, b7⟩, ⟨b8, b9⟩, ⟨b10, b11, b12, b13⟩, b14, b15, b16⟩, hF⟩ := hB
  by_cases c1 : ((0 : Int32) ≤ v1 ∧ v1 ≤ 50)
  · exact dz_po (dz_wide (cl_D_cloud_ok l v1 hC c1) (by decide) (by decide) (by decide) (by decide)) (fun x G1 ad1 h => by obtain ⟨rfl, h1, h2⟩ := h; exact ⟨h1, _, lwC.mk h2, lwB.mk hB0.1 hF, Or.inr ⟨q_add0 b14 c1, ⟨rfl, rfl, rfl⟩, ⟨rfl, fun j hj => rfl⟩, rfl, rfl, rfl⟩⟩)
  · exact dz_po (dz_wide (cl_D_cloud_bad l hst v1 hC c1) (by decide) (by decide) (by decide) (by decide)) (fun x G1 ad1 h => by obtain ⟨rfl, rfl, rfl⟩ := h; exact ⟨fun r h => ⟨rfl, rfl⟩, S, hC, hB0, Or.inl ⟨Or.inr (Or.inl rfl), rfl⟩⟩)
set_option maxHeartbeats 2000000 in
theorem t_world (l : Launch) (hst : l.stackTraces = false) {Z : dzG} {G : dzW} {ad : dzA} {aX : Nat} {S : lwS} (hC : lwC Z G ad aX S) (hB : lwB S) (v1 : Int32) : lw_T l yL_world wsL_world Z G ad aX S [.ref aX, .int v1] (fun x S' => 0 ≤ x ∧ (S'.1 1 = S.1 1 ∧ S'.2.2 12 = S.2.2 12 ∧ S'.2.2 13 = S.2.2 13) ∧ (S'.1 4 = S.1 4 ∧ ∀ j, j < 30 * S.1 4 → S'.2.2 31 j = S.2.2 31 j) ∧ S'.2.1 0 = S.2.1 0 ∧ S'.2.1 5 = S.2.1 5 ∧ S'.2.1 6 = S.2.1 6) := by
  have hB0 := hB
  obtain ⟨⟨⟨b1, b2, b3⟩, ⟨b4, b5⟩, ⟨b6, b7⟩, ⟨b8, b9⟩, ⟨b10, b11, b12, b13⟩, b14, b15, b16⟩, hF⟩ := hB
  by_cases c1 : ((40 : Int32) ≤ v1 ∧ v1 ≤ 100)
  · by_cases c2 : (S.1 4) = 0
    · exact dz_po (dz_wide (cl_D_world_ok l v1 hC b10 c1 c2) (by decide) (by decide) (by decide) (by decide)) (fun x G1 ad1 h => by obtain ⟨rfl, h1, h2⟩ := h; exact ⟨h1, _, lwC.mk h2, lwB.mk ⟨⟨b1, b2, b3⟩, ⟨b4, b5⟩, ⟨b6, b7⟩, ⟨b8, b9⟩, ⟨b10, b11, b12, b13⟩, b14, c1, b16⟩ hF, Or.inr ⟨Int32.le_trans (by decide) b15.1, ⟨rfl, rfl, rfl⟩, ⟨rfl, fun j hj => rfl⟩, rfl, rfl, rfl⟩⟩)
    · exact dz_po (dz_wide (cl_D_world_fr l hst v1 hC b10 c1 (by omega)) (by decide) (by decide) (by decide) (by decide)) (fun x G1 ad1 h => by obtain ⟨rfl, rfl, rfl⟩ := h; exact ⟨fun r h => ⟨rfl, rfl⟩, S, hC, hB0, Or.inl ⟨Or.inr (Or.inr rfl), rfl⟩⟩)
  · exact dz_po (dz_wide (cl_D_world_bad l hst v1 hC c1) (by decide) (by decide) (by decide) (by decide)) (fun x G1 ad1 h => by obtain ⟨rfl, rfl, rfl⟩ := h; exact ⟨fun r h => ⟨rfl, rfl⟩, S, hC, hB0, Or.inl ⟨Or.inr (Or.inl rfl), rfl⟩⟩)
set_option maxHeartbeats 2000000 in
theorem t_pass (l : Launch) (hst : l.stackTraces = false) {Z : dzG} {G : dzW} {ad : dzA} {aX : Nat} {S : lwS} (hC : lwC Z G ad aX S) (hB : lwB S) (v1 : Int32) : lw_T l yL_pass wsL_pass Z G ad aX S [.ref aX, .int v1] (fun x S' => 0 ≤ x ∧ (S'.1 1 = S.1 1 ∧ S'.2.2 12 = S.2.2 12 ∧ S'.2.2 13 = S.2.2 13) ∧ (S'.1 4 = S.1 4 ∧ ∀ j, j < 30 * S.1 4 → S'.2.2 31 j = S.2.2 31 j) ∧ S'.2.1 0 = S.2.1 0 + v1 ∧ S'.2.1 5 = S.2.1 5 ∧ S'.2.1 6 = S.2.1 6) := by
  have hB0 := hB
  obtain ⟨⟨⟨b1, b2, b3⟩, ⟨b4, b5⟩, ⟨b6, b7⟩, ⟨b8, b9⟩, ⟨b10, b11, b12, b13⟩, b14, b15, b16⟩, hF⟩ := hB
  by_cases c1 : ((1 : Int32) ≤ v1 ∧ v1 ≤ 100)
  · by_cases c2 : 2000 < (S.2.1 0) + v1
    · exact dz_po (dz_wide (cl_D_pass_late l hst v1 hC c1 c2) (by decide) (by decide) (by decide) (by decide)) (fun x G1 ad1 h => by obtain ⟨rfl, rfl, rfl⟩ := h; exact ⟨fun r h => ⟨rfl, rfl⟩, S, hC, hB0, Or.inl ⟨Or.inr (Or.inr rfl), rfl⟩⟩)
    · obtain ⟨p1, p2⟩ := m_pass b14 c1 c2
      exact dz_po (dz_wide (cl_D_pass_ok l v1 hC c1 c2) (by decide) (by decide) (by decide) (by decide)) (fun x G1 ad1 h => by obtain ⟨rfl, h1, h2⟩ := h; exact ⟨h1, _, lwC.mk h2, lwB.mk ⟨⟨b1, b2, b3⟩, ⟨b4, b5⟩, ⟨b6, b7⟩, ⟨b8, b9⟩, ⟨b10, fun i h => Int32.le_trans (b11 i h) p1, b12, b13⟩, p2, b15, b16⟩ hF, Or.inr ⟨p2.1, ⟨rfl, rfl, rfl⟩, ⟨rfl, fun j hj => rfl⟩, rfl, rfl, rfl⟩⟩)
  · exact dz_po (dz_wide (cl_D_pass_bad l hst v1 hC c1) (by decide) (by decide) (by decide) (by decide)) (fun x G1 ad1 h => by obtain ⟨rfl, rfl, rfl⟩ := h; exact ⟨fun r h => ⟨rfl, rfl⟩, S, hC, hB0, Or.inl ⟨Or.inr (Or.inl rfl), rfl⟩⟩)
set_option maxHeartbeats 2000000 in
theorem t_frame (l : Launch) (hst : l.stackTraces = false) {Z : dzG} {G : dzW} {ad : dzA} {aX : Nat} {S : lwS} (hC : lwC Z G ad aX S) (hB : lwB S) : lw_T l yL_frame wsL_frame Z G ad aX S [.ref aX] (fun x S' => x = nI (S.1 4) ∧ S.1 4 ≤ 59 ∧ (S'.1 1 = S.1 1 ∧ S'.2.2 12 = S.2.2 12 ∧ S'.2.2 13 = S.2.2 13) ∧ S'.1 4 = S.1 4 + 1 ∧ (∀ j, j < 30 * S.1 4 → S'.2.2 31 j = S.2.2 31 j) ∧ (∀ a b, a < 5 → b < 6 → S'.2.2 31 (30 * S.1 4 + 6 * a + b) = s_lv S' a b) ∧ S'.2.1 0 = S.2.1 0 ∧ S'.2.1 5 = S.2.1 5 ∧ S'.2.1 6 = S.2.1 6) := by
  have hB0 := hB
  obtain ⟨⟨⟨b1, b2, b3⟩, ⟨b4, b5⟩, ⟨b6, b7⟩, ⟨b8, b9⟩, ⟨b10, b11, b12, b13⟩, b14, b15, b16⟩, hF⟩ := hB
  have g1 : 1 ≤ (S.2.1 4) := Int32.le_trans (show (1 : Int32) ≤ 40 from by decide) b15.1
  have g2 : ¬ (S.2.1 4) = 0 := fun z => by rw [z] at b15; exact absurd b15.1 (by decide)
  have hsw1 : ∀ k, k < (S.1 3) → 1 ≤ (S.2.2 23) k ∧ ¬ (S.2.2 23) k = 0 := fun k hk => ⟨(b9 k hk).2.2.1.1, fun z => by have z1 := (b9 k hk).2.2.1.1; rw [z] at z1; exact absurd z1 (by decide)⟩
  have hsw2 : ∀ k, k < (S.1 3) → ¬ (S.2.2 23) k = 0 := fun k hk => (hsw1 k hk).2
  by_cases c1 : ((((S.2.1 1) ≤ (S.2.1 0) - (S.2.1 0) / 100 * 100 ∧ (S.2.1 0) - (S.2.1 0) / 100 * 100 ≤ (S.2.1 2)) ∧ ¬ (S.2.1 0) < (S.2.1 3)) ∧ ((S.1 4) < 60 ∧ ((S.1 4) = 0 ∨ (S.2.2 30) ((S.1 4) - 1) < (S.2.1 0))))
  · have c9 : (S.1 4) < 60 := c1.2.1
    have hlv : ∀ a b, (m_lv (m_bc (S.1 0) (S.2.2 3) (S.2.2 4) (S.2.2 5) (S.2.2 6)) (m_br (S.1 0) (S.2.2 3) (S.2.2 4) (S.2.2 5) (S.2.2 6)) (m_tw (S.1 0) (S.2.2 3) (S.2.2 4) (S.2.2 5) (S.2.2 6)) (S.2.2 12) (S.2.2 13) (S.2.2 14) (S.2.2 16) (S.2.2 17) (S.2.2 18) (S.2.2 20) (S.2.2 21) (S.2.2 22) (S.2.2 23) (S.2.2 24) (S.1 1) (S.1 2) (S.1 3) (S.2.1 0) (S.2.1 4)) a b = -1 ∨ (0 ≤ (m_lv (m_bc (S.1 0) (S.2.2 3) (S.2.2 4) (S.2.2 5) (S.2.2 6)) (m_br (S.1 0) (S.2.2 3) (S.2.2 4) (S.2.2 5) (S.2.2 6)) (m_tw (S.1 0) (S.2.2 3) (S.2.2 4) (S.2.2 5) (S.2.2 6)) (S.2.2 12) (S.2.2 13) (S.2.2 14) (S.2.2 16) (S.2.2 17) (S.2.2 18) (S.2.2 20) (S.2.2 21) (S.2.2 22) (S.2.2 23) (S.2.2 24) (S.1 1) (S.1 2) (S.1 3) (S.2.1 0) (S.2.1 4)) a b ∧ (m_lv (m_bc (S.1 0) (S.2.2 3) (S.2.2 4) (S.2.2 5) (S.2.2 6)) (m_br (S.1 0) (S.2.2 3) (S.2.2 4) (S.2.2 5) (S.2.2 6)) (m_tw (S.1 0) (S.2.2 3) (S.2.2 4) (S.2.2 5) (S.2.2 6)) (S.2.2 12) (S.2.2 13) (S.2.2 14) (S.2.2 16) (S.2.2 17) (S.2.2 18) (S.2.2 20) (S.2.2 21) (S.2.2 22) (S.2.2 23) (S.2.2 24) (S.1 1) (S.1 2) (S.1 3) (S.2.1 0) (S.2.1 4)) a b ≤ 118400) := m_lvb b5 b6 (fun k hk => (b7 k hk).1) b8 (fun k hk => (b9 k hk).2) b14
    have h30 : ∀ i, i + 1 = (S.1 4) + 1 → upd (S.2.2 30) (S.1 4) (S.2.1 0) i ≤ (S.2.1 0) := fun i h => by
      rw [show i = (S.1 4) by omega, pk_us]
      exact Int32.le_refl _
    have h31 : ∀ j, j < 30 * ((S.1 4) + 1) → m_ff (S.1 4) (S.2.2 31) (m_lv (m_bc (S.1 0) (S.2.2 3) (S.2.2 4) (S.2.2 5) (S.2.2 6)) (m_br (S.1 0) (S.2.2 3) (S.2.2 4) (S.2.2 5) (S.2.2 6)) (m_tw (S.1 0) (S.2.2 3) (S.2.2 4) (S.2.2 5) (S.2.2 6)) (S.2.2 12) (S.2.2 13) (S.2.2 14) (S.2.2 16) (S.2.2 17) (S.2.2 18) (S.2.2 20) (S.2.2 21) (S.2.2 22) (S.2.2 23) (S.2.2 24) (S.1 1) (S.1 2) (S.1 3) (S.2.1 0) (S.2.1 4)) 5 0 j = -1 ∨ (0 ≤ m_ff (S.1 4) (S.2.2 31) (m_lv (m_bc (S.1 0) (S.2.2 3) (S.2.2 4) (S.2.2 5) (S.2.2 6)) (m_br (S.1 0) (S.2.2 3) (S.2.2 4) (S.2.2 5) (S.2.2 6)) (m_tw (S.1 0) (S.2.2 3) (S.2.2 4) (S.2.2 5) (S.2.2 6)) (S.2.2 12) (S.2.2 13) (S.2.2 14) (S.2.2 16) (S.2.2 17) (S.2.2 18) (S.2.2 20) (S.2.2 21) (S.2.2 22) (S.2.2 23) (S.2.2 24) (S.1 1) (S.1 2) (S.1 3) (S.2.1 0) (S.2.1 4)) 5 0 j ∧ m_ff (S.1 4) (S.2.2 31) (m_lv (m_bc (S.1 0) (S.2.2 3) (S.2.2 4) (S.2.2 5) (S.2.2 6)) (m_br (S.1 0) (S.2.2 3) (S.2.2 4) (S.2.2 5) (S.2.2 6)) (m_tw (S.1 0) (S.2.2 3) (S.2.2 4) (S.2.2 5) (S.2.2 6)) (S.2.2 12) (S.2.2 13) (S.2.2 14) (S.2.2 16) (S.2.2 17) (S.2.2 18) (S.2.2 20) (S.2.2 21) (S.2.2 22) (S.2.2 23) (S.2.2 24) (S.1 1) (S.1 2) (S.1 3) (S.2.1 0) (S.2.1 4)) 5 0 j ≤ 118400) := by
      intro j hj
      by_cases c : j / 30 = (S.1 4) ∧ (j % 30 / 6 < 5 ∨ (j % 30 / 6 = 5 ∧ j % 6 < 0))
      · rw [show m_ff (S.1 4) (S.2.2 31) (m_lv (m_bc (S.1 0) (S.2.2 3) (S.2.2 4) (S.2.2 5) (S.2.2 6)) (m_br (S.1 0) (S.2.2 3) (S.2.2 4) (S.2.2 5) (S.2.2 6)) (m_tw (S.1 0) (S.2.2 3) (S.2.2 4) (S.2.2 5) (S.2.2 6)) (S.2.2 12) (S.2.2 13) (S.2.2 14) (S.2.2 16) (S.2.2 17) (S.2.2 18) (S.2.2 20) (S.2.2 21) (S.2.2 22) (S.2.2 23) (S.2.2 24) (S.1 1) (S.1 2) (S.1 3) (S.2.1 0) (S.2.1 4)) 5 0 j = (m_lv (m_bc (S.1 0) (S.2.2 3) (S.2.2 4) (S.2.2 5) (S.2.2 6)) (m_br (S.1 0) (S.2.2 3) (S.2.2 4) (S.2.2 5) (S.2.2 6)) (m_tw (S.1 0) (S.2.2 3) (S.2.2 4) (S.2.2 5) (S.2.2 6)) (S.2.2 12) (S.2.2 13) (S.2.2 14) (S.2.2 16) (S.2.2 17) (S.2.2 18) (S.2.2 20) (S.2.2 21) (S.2.2 22) (S.2.2 23) (S.2.2 24) (S.1 1) (S.1 2) (S.1 3) (S.2.1 0) (S.2.1 4)) (j % 30 / 6) (j % 6) from if_pos c]
        exact hlv _ _
      · rw [show m_ff (S.1 4) (S.2.2 31) (m_lv (m_bc (S.1 0) (S.2.2 3) (S.2.2 4) (S.2.2 5) (S.2.2 6)) (m_br (S.1 0) (S.2.2 3) (S.2.2 4) (S.2.2 5) (S.2.2 6)) (m_tw (S.1 0) (S.2.2 3) (S.2.2 4) (S.2.2 5) (S.2.2 6)) (S.2.2 12) (S.2.2 13) (S.2.2 14) (S.2.2 16) (S.2.2 17) (S.2.2 18) (S.2.2 20) (S.2.2 21) (S.2.2 22) (S.2.2 23) (S.2.2 24) (S.1 1) (S.1 2) (S.1 3) (S.2.1 0) (S.2.1 4)) 5 0 j = (S.2.2 31) j from if_neg c]
        exact b12 j (by omega)
    have h32 : ∀ i x, i < (S.1 4) + 1 → x < 30 → (S.1 1) ≤ x / 6 → m_ff (S.1 4) (S.2.2 31) (m_lv (m_bc (S.1 0) (S.2.2 3) (S.2.2 4) (S.2.2 5) (S.2.2 6)) (m_br (S.1 0) (S.2.2 3) (S.2.2 4) (S.2.2 5) (S.2.2 6)) (m_tw (S.1 0) (S.2.2 3) (S.2.2 4) (S.2.2 5) (S.2.2 6)) (S.2.2 12) (S.2.2 13) (S.2.2 14) (S.2.2 16) (S.2.2 17) (S.2.2 18) (S.2.2 20) (S.2.2 21) (S.2.2 22) (S.2.2 23) (S.2.2 24) (S.1 1) (S.1 2) (S.1 3) (S.2.1 0) (S.2.1 4)) 5 0 (30 * i + x) = -1 := by
      intro i x hi hx h
      by_cases c : (30 * i + x) / 30 = (S.1 4) ∧ ((30 * i + x) % 30 / 6 < 5 ∨ ((30 * i + x) % 30 / 6 = 5 ∧ (30 * i + x) % 6 < 0))
      · rw [show m_ff (S.1 4) (S.2.2 31) (m_lv (m_bc (S.1 0) (S.2.2 3) (S.2.2 4) (S.2.2 5) (S.2.2 6)) (m_br (S.1 0) (S.2.2 3) (S.2.2 4) (S.2.2 5) (S.2.2 6)) (m_tw (S.1 0) (S.2.2 3) (S.2.2 4) (S.2.2 5) (S.2.2 6)) (S.2.2 12) (S.2.2 13) (S.2.2 14) (S.2.2 16) (S.2.2 17) (S.2.2 18) (S.2.2 20) (S.2.2 21) (S.2.2 22) (S.2.2 23) (S.2.2 24) (S.1 1) (S.1 2) (S.1 3) (S.2.1 0) (S.2.1 4)) 5 0 (30 * i + x) = (m_lv (m_bc (S.1 0) (S.2.2 3) (S.2.2 4) (S.2.2 5) (S.2.2 6)) (m_br (S.1 0) (S.2.2 3) (S.2.2 4) (S.2.2 5) (S.2.2 6)) (m_tw (S.1 0) (S.2.2 3) (S.2.2 4) (S.2.2 5) (S.2.2 6)) (S.2.2 12) (S.2.2 13) (S.2.2 14) (S.2.2 16) (S.2.2 17) (S.2.2 18) (S.2.2 20) (S.2.2 21) (S.2.2 22) (S.2.2 23) (S.2.2 24) (S.1 1) (S.1 2) (S.1 3) (S.2.1 0) (S.2.1 4)) ((30 * i + x) % 30 / 6) ((30 * i + x) % 6) from if_pos c]
        exact if_neg (fun z => by have := z.1; omega)
      · rw [show m_ff (S.1 4) (S.2.2 31) (m_lv (m_bc (S.1 0) (S.2.2 3) (S.2.2 4) (S.2.2 5) (S.2.2 6)) (m_br (S.1 0) (S.2.2 3) (S.2.2 4) (S.2.2 5) (S.2.2 6)) (m_tw (S.1 0) (S.2.2 3) (S.2.2 4) (S.2.2 5) (S.2.2 6)) (S.2.2 12) (S.2.2 13) (S.2.2 14) (S.2.2 16) (S.2.2 17) (S.2.2 18) (S.2.2 20) (S.2.2 21) (S.2.2 22) (S.2.2 23) (S.2.2 24) (S.1 1) (S.1 2) (S.1 3) (S.2.1 0) (S.2.1 4)) 5 0 (30 * i + x) = (S.2.2 31) (30 * i + x) from if_neg c]
        exact b13 i x (by omega) hx h
    have h34 : ∀ j, j < 30 * (S.1 4) → m_ff (S.1 4) (S.2.2 31) (m_lv (m_bc (S.1 0) (S.2.2 3) (S.2.2 4) (S.2.2 5) (S.2.2 6)) (m_br (S.1 0) (S.2.2 3) (S.2.2 4) (S.2.2 5) (S.2.2 6)) (m_tw (S.1 0) (S.2.2 3) (S.2.2 4) (S.2.2 5) (S.2.2 6)) (S.2.2 12) (S.2.2 13) (S.2.2 14) (S.2.2 16) (S.2.2 17) (S.2.2 18) (S.2.2 20) (S.2.2 21) (S.2.2 22) (S.2.2 23) (S.2.2 24) (S.1 1) (S.1 2) (S.1 3) (S.2.1 0) (S.2.1 4)) 5 0 j = (S.2.2 31) j := fun j hj => if_neg (by omega)
    have h35 : ∀ a b, a < 5 → b < 6 → m_ff (S.1 4) (S.2.2 31) (m_lv (m_bc (S.1 0) (S.2.2 3) (S.2.2 4) (S.2.2 5) (S.2.2 6)) (m_br (S.1 0) (S.2.2 3) (S.2.2 4) (S.2.2 5) (S.2.2 6)) (m_tw (S.1 0) (S.2.2 3) (S.2.2 4) (S.2.2 5) (S.2.2 6)) (S.2.2 12) (S.2.2 13) (S.2.2 14) (S.2.2 16) (S.2.2 17) (S.2.2 18) (S.2.2 20) (S.2.2 21) (S.2.2 22) (S.2.2 23) (S.2.2 24) (S.1 1) (S.1 2) (S.1 3) (S.2.1 0) (S.2.1 4)) 5 0 (30 * (S.1 4) + 6 * a + b) = s_lv S a b := fun a b ha hb => (if_pos (by omega)).trans (by rw [show (30 * (S.1 4) + 6 * a + b) % 30 / 6 = a by omega, show (30 * (S.1 4) + 6 * a + b) % 6 = b by omega])
    rcases Nat.eq_zero_or_pos (S.1 4) with c2 | c2
    · exact dz_po (dz_wide (cl_D_frame_okE l  hC b4 b6 b8 g1 g2 hsw1 c1.1 (by omega) c2) (by decide) (by decide) (by decide) (by decide)) (fun x G1 ad1 h => by obtain ⟨rfl, h1, h2⟩ := h; exact ⟨h1, _, lwC.mk h2, lwB.mk ⟨⟨b1, b2, b3⟩, ⟨b4, b5⟩, ⟨b6, b7⟩, ⟨b8, b9⟩, ⟨by omega, h30, h31, h32⟩, b14, b15, b16⟩ hF, Or.inr ⟨rfl, by omega, ⟨rfl, rfl, rfl⟩, rfl, h34, h35, rfl, rfl, rfl⟩⟩)
    · have c3 : ¬ (S.2.2 30) ((S.1 4) - 1) = (S.2.1 0) := fun z => by have q := c1.2.2.resolve_left (by omega); rw [z] at q; exact Int32.lt_irrefl q
      exact dz_po (dz_wide (cl_D_frame_okN l  hC b4 b6 b8 g1 g2 hsw1 c1.1 (by omega) c2 c3) (by decide) (by decide) (by decide) (by decide)) (fun x G1 ad1 h => by obtain ⟨rfl, h1, h2⟩ := h; exact ⟨h1, _, lwC.mk h2, lwB.mk ⟨⟨b1, b2, b3⟩, ⟨b4, b5⟩, ⟨b6, b7⟩, ⟨b8, b9⟩, ⟨by omega, h30, h31, h32⟩, b14, b15, b16⟩ hF, Or.inr ⟨rfl, by omega, ⟨rfl, rfl, rfl⟩, rfl, h34, h35, rfl, rfl, rfl⟩⟩)
  · rcases Nat.eq_zero_or_pos (S.1 4) with c2 | c2
    · exact dz_po (dz_wide (cl_D_frame_noE l hst  hC b10 c2 (fun z => c1 ⟨z, by omega, Or.inl c2⟩)) (by decide) (by decide) (by decide) (by decide)) (fun x G1 ad1 h => by obtain ⟨rfl, rfl, rfl⟩ := h; exact ⟨fun r h => ⟨rfl, rfl⟩, S, hC, hB0, Or.inl ⟨Or.inr (Or.inr rfl), rfl⟩⟩)
    · exact dz_po (dz_wide (cl_D_frame_noN l hst  hC b10 c2 (fun z => c1 ⟨z.1, by have := z.2.2; omega, Or.inr (m_lt (b11 ((S.1 4) - 1) (by omega)) z.2.1)⟩)) (by decide) (by decide) (by decide) (by decide)) (fun x G1 ad1 h => by obtain ⟨rfl, rfl, rfl⟩ := h; exact ⟨fun r h => ⟨rfl, rfl⟩, S, hC, hB0, Or.inl ⟨Or.inr (Or.inr rfl), rfl⟩⟩)
set_option maxHeartbeats 2000000 in
theorem t_book (l : Launch) (hst : l.stackTraces = false) {Z : dzG} {G : dzW} {ad : dzA} {aX : Nat} {S : lwS} (hC : lwC Z G ad aX S) (hB : lwB S) (v1 v2 v3 v4 : Int32) : lw_T l yL_book wsL_book Z G ad aX S [.ref aX, .int v1, .int v2, .int v3, .int v4] (fun x S' => x = S.2.1 5 + 1 ∧ (S'.1 1 = S.1 1 ∧ S'.2.2 12 = S.2.2 12 ∧ S'.2.2 13 = S.2.2 13) ∧ (S'.1 4 = S.1 4 ∧ ∀ j, j < 30 * S.1 4 → S'.2.2 31 j = S.2.2 31 j) ∧ S'.2.1 0 = S.2.1 0 ∧ S'.2.1 5 = S.2.1 5 + 1 ∧ S'.2.1 6 = S.2.1 6 ∧ ∃ k, k < 2 ∧ v1 = nI k ∧ S'.2.2 34 k = nI (S'.1 0) ∧ S'.1 0 ≤ 6) := by
  have hB0 := hB
  obtain ⟨⟨⟨b1, b2, b3⟩, ⟨b4, b5⟩, ⟨b6, b7⟩, ⟨b8, b9⟩, ⟨b10, b11, b12, b13⟩, b14, b15, b16⟩, hF⟩ := hB
  rcases m_idx (n := 2) (by decide) v1 with c1 | ⟨k, hk, rfl⟩
  · have hb1 : ¬ ((0 : Int32) ≤ v1 ∧ v1 < 2) := fun z => c1.elim (fun q => Int32.not_lt.mpr z.1 q) (fun q => Int32.not_lt.mpr q z.2)
    have hb2 : ¬ ((0 : Int32) ≤ v1 ∧ v1 ≤ 1) := fun z => hb1 ⟨z.1, Int32.lt_of_le_of_lt z.2 (by decide)⟩
    rcases m_idx (n := (S.1 1)) (by omega) v2 with c2 | ⟨sc, hsc, rfl⟩
    · exact dz_po (dz_wide (cl_D_book_h1 l hst v1 v2 v3 v4 hC hb1 c2) (by decide) (by decide) (by decide) (by decide)) (fun x G1 ad1 h => by obtain ⟨rfl, rfl, rfl⟩ := h; exact ⟨fun r h => ⟨rfl, rfl⟩, S, hC, hB0, Or.inl ⟨Or.inl rfl, rfl⟩⟩)
    · exact dz_po (dz_wide (cl_D_book_h2 l hst sc v1 v3 v4 hC hsc b4 hb1) (by decide) (by decide) (by decide) (by decide)) (fun x G1 ad1 h => by obtain ⟨rfl, rfl, rfl⟩ := h; exact ⟨fun r h => ⟨rfl, rfl⟩, S, hC, hB0, Or.inl ⟨Or.inl rfl, rfl⟩⟩)
  · rcases m_idx (n := (S.1 1)) (by omega) v2 with c2 | ⟨sc, hsc, rfl⟩
    · exact dz_po (dz_wide (cl_D_book_s l hst k v2 v3 v4 hC hk c2) (by decide) (by decide) (by decide) (by decide)) (fun x G1 ad1 h => by obtain ⟨rfl, rfl, rfl⟩ := h; exact ⟨fun r h => ⟨rfl, rfl⟩, S, hC, hB0, Or.inl ⟨Or.inl rfl, rfl⟩⟩)
    · rcases m_idx (n := (m_ix (S.1 0) (S.2.2 3) (S.2.2 4) (S.2.2 5) (S.2.2 6) (S.2.2 12) (S.2.2 13) sc).1) (Nat.lt_of_le_of_lt m_im_c (by decide)) v3 with c3 | ⟨rk, hrk, rfl⟩
      · exact dz_po (dz_wide (cl_D_book_out1 l hst sc k v3 v4 hC hsc b4 hk c3) (by decide) (by decide) (by decide) (by decide)) (fun x G1 ad1 h => by obtain ⟨rfl, rfl, rfl⟩ := h; exact ⟨fun r h => ⟨rfl, rfl⟩, S, hC, hB0, Or.inl ⟨Or.inl rfl, rfl⟩⟩)
      · rcases m_idx (n := (m_ix (S.1 0) (S.2.2 3) (S.2.2 4) (S.2.2 5) (S.2.2 6) (S.2.2 12) (S.2.2 13) sc).1) (Nat.lt_of_le_of_lt m_im_c (by decide)) v4 with c4 | ⟨ot, hot, rfl⟩
        · exact dz_po (dz_wide (cl_D_book_out2 l hst sc k rk v4 hC hsc b4 hk c4) (by decide) (by decide) (by decide) (by decide)) (fun x G1 ad1 h => by obtain ⟨rfl, rfl, rfl⟩ := h; exact ⟨fun r h => ⟨rfl, rfl⟩, S, hC, hB0, Or.inl ⟨Or.inl rfl, rfl⟩⟩)
        · by_cases c5 : rk = ot
          · subst c5
            exact dz_po (dz_wide (cl_D_book_same l hst sc k rk hC hsc b4 hk hrk) (by decide) (by decide) (by decide) (by decide)) (fun x G1 ad1 h => by obtain ⟨rfl, rfl, rfl⟩ := h; exact ⟨fun r h => ⟨rfl, rfl⟩, S, hC, hB0, Or.inl ⟨Or.inr (Or.inl rfl), rfl⟩⟩)
          · obtain ⟨j, hjj, hij⟩ := m_im_j hrk
            obtain ⟨jo, hjo, hio⟩ := m_im_j hot
            by_cases c6 : rk < 6 ∧ ot < 6
            · exact dz_po (dz_wide (cl_D_book_in l k sc rk ot j jo hC hk b1 hsc b4 b10 hrk hij hjj hot hio hjo c5 c6.1 c6.2 b12) (by decide) (by decide) (by decide) (by decide)) (fun x G1 ad1 h => by obtain ⟨rfl, h1, h2⟩ := h; exact ⟨h1, _, lwC.mk h2, lwB.mk hB0.1 hF, Or.inr ⟨rfl, ⟨rfl, rfl, rfl⟩, ⟨rfl, fun j hj => rfl⟩, rfl, rfl, rfl, k, hk, rfl, pk_us, b1⟩⟩)
            · exact dz_po (dz_wide (cl_D_book_outm l k sc rk ot j jo hC hk b1 hsc b4 b10 hrk hij hjj hot hio hjo c5 (by omega)) (by decide) (by decide) (by decide) (by decide)) (fun x G1 ad1 h => by obtain ⟨rfl, h1, h2⟩ := h; exact ⟨h1, _, lwC.mk h2, lwB.mk hB0.1 hF, Or.inr ⟨rfl, ⟨rfl, rfl, rfl⟩, ⟨rfl, fun j hj => rfl⟩, rfl, rfl, rfl, k, hk, rfl, pk_us, b1⟩⟩)
set_option maxHeartbeats 2000000 in
theorem t_vote (l : Launch) (hst : l.stackTraces = false) {Z : dzG} {G : dzW} {ad : dzA} {aX : Nat} {S : lwS} (hC : lwC Z G ad aX S) (hB : lwB S) (v1 v2 : Int32) (hbv : m_bl v2) : lw_T l yL_vote wsL_vote Z G ad aX S [.ref aX, .int v1, .int v2] (fun x S' => x = (if S'.2.1 6 = 0 then 0 else 1) ∧ (S'.1 1 = S.1 1 ∧ S'.2.2 12 = S.2.2 12 ∧ S'.2.2 13 = S.2.2 13) ∧ (S'.1 4 = S.1 4 ∧ ∀ j, j < 30 * S.1 4 → S'.2.2 31 j = S.2.2 31 j) ∧ S'.2.1 0 = S.2.1 0 ∧ S'.2.1 5 = S.2.1 5 ∧ (¬ S.2.1 6 = 0 → ¬ S'.2.1 6 = 0)) := by
  have hB0 := hB
  obtain ⟨⟨⟨b1, b2, b3⟩, ⟨b4, b5⟩, ⟨b6, b7⟩, ⟨b8, b9⟩, ⟨b10, b11, b12, b13⟩, b14, b15, b16⟩, hF⟩ := hB
  rcases m_idx (n := 5) (by decide) v1 with c1 | ⟨k, hk, rfl⟩
  · have hb1 : ¬ ((0 : Int32) ≤ v1 ∧ v1 < 5) := fun z => c1.elim (fun q => Int32.not_lt.mpr z.1 q) (fun q => Int32.not_lt.mpr q z.2)
    have hb2 : ¬ ((0 : Int32) ≤ v1 ∧ v1 ≤ 4) := fun z => hb1 ⟨z.1, Int32.lt_of_le_of_lt z.2 (by decide)⟩
    exact dz_po (dz_wide (cl_D_vote_bad l hst v1 v2 hC hb1) (by decide) (by decide) (by decide) (by decide)) (fun x G1 ad1 h => by obtain ⟨rfl, rfl, rfl⟩ := h; exact ⟨fun r h => ⟨rfl, rfl⟩, S, hC, hB0, Or.inl ⟨Or.inl rfl, rfl⟩⟩)
  · exact dz_po (dz_wide (cl_D_vote_ok l k v2 hC hk hbv) (by decide) (by decide) (by decide) (by decide)) (fun x G1 ad1 h => by obtain ⟨rfl, h1, h2⟩ := h; exact ⟨h1, _, lwC.mk h2, lwB.mk ⟨⟨b1, b2, b3⟩, ⟨b4, b5⟩, ⟨b6, b7⟩, ⟨b8, b9⟩, ⟨b10, b11, b12, b13⟩, b14, b15, m_op_bl _ _⟩ hF, Or.inr ⟨rfl, ⟨rfl, rfl, rfl⟩, ⟨rfl, fun j hj => rfl⟩, rfl, rfl, q_op⟩⟩)
set_option maxHeartbeats 2000000 in
theorem t_measured (l : Launch) (hst : l.stackTraces = false) {Z : dzG} {G : dzW} {ad : dzA} {aX : Nat} {S : lwS} (hC : lwC Z G ad aX S) (hB : lwB S) (v1 v2 v3 : Int32) : lw_T l yL_measured wsL_measured Z G ad aX S [.ref aX, .int v1, .int v2, .int v3] (fun x S' => S' = S ∧ (0 ≤ x ∨ x = -1)) := by
  have hB0 := hB
  obtain ⟨⟨⟨b1, b2, b3⟩, ⟨b4, b5⟩, ⟨b6, b7⟩, ⟨b8, b9⟩, ⟨b10, b11, b12, b13⟩, b14, b15, b16⟩, hF⟩ := hB
  rcases m_idx (n := (S.1 1)) (by omega) v1 with c1 | ⟨sc, hsc, rfl⟩
  · exact dz_po (dz_wide (cl_D_meas_no l hst v1 v2 v3 hC c1) (by decide) (by decide) (by decide) (by decide)) (fun x G1 ad1 h => by obtain ⟨rfl, rfl, rfl⟩ := h; exact ⟨fun r h => ⟨rfl, rfl⟩, S, hC, hB0, Or.inl ⟨Or.inl rfl, rfl⟩⟩)
  · rcases m_idx (n := (m_ix (S.1 0) (S.2.2 3) (S.2.2 4) (S.2.2 5) (S.2.2 6) (S.2.2 12) (S.2.2 13) sc).1) (Nat.lt_of_le_of_lt m_im_c (by decide)) v2 with c2 | ⟨rk, hrk, rfl⟩
    · exact dz_po (dz_wide (cl_D_meas_out1 l hst sc v2 v3 hC hsc b4 c2) (by decide) (by decide) (by decide) (by decide)) (fun x G1 ad1 h => by obtain ⟨rfl, rfl, rfl⟩ := h; exact ⟨fun r h => ⟨rfl, rfl⟩, S, hC, hB0, Or.inl ⟨Or.inl rfl, rfl⟩⟩)
    · rcases m_idx (n := (m_ix (S.1 0) (S.2.2 3) (S.2.2 4) (S.2.2 5) (S.2.2 6) (S.2.2 12) (S.2.2 13) sc).1) (Nat.lt_of_le_of_lt m_im_c (by decide)) v3 with c3 | ⟨ot, hot, rfl⟩
      · exact dz_po (dz_wide (cl_D_meas_out2 l hst sc rk v3 hC hsc b4 c3) (by decide) (by decide) (by decide) (by decide)) (fun x G1 ad1 h => by obtain ⟨rfl, rfl, rfl⟩ := h; exact ⟨fun r h => ⟨rfl, rfl⟩, S, hC, hB0, Or.inl ⟨Or.inl rfl, rfl⟩⟩)
      · by_cases c4 : rk = ot ∨ 6 ≤ rk ∨ 6 ≤ ot
        · exact dz_po (dz_wide (cl_D_meas_bad l hst sc rk ot hC hsc b4 hrk hot c4) (by decide) (by decide) (by decide) (by decide)) (fun x G1 ad1 h => by obtain ⟨rfl, rfl, rfl⟩ := h; exact ⟨fun r h => ⟨rfl, rfl⟩, S, hC, hB0, Or.inl ⟨Or.inr (Or.inl rfl), rfl⟩⟩)
        · obtain ⟨j, hjj, hij⟩ := m_im_j hrk
          obtain ⟨jo, hjo, hio⟩ := m_im_j hot
          exact dz_po (dz_wide (cl_D_meas_ok l sc rk ot j jo hC hsc b4 b10 hrk hij hjj hot hio hjo (fun z => c4 (Or.inl z)) (by omega) (by omega) b12) (by decide) (by decide) (by decide) (by decide)) (fun x G1 ad1 h => by obtain ⟨rfl, h1, h2⟩ := h; exact ⟨h1, S, h2, hB0, Or.inr ⟨rfl, q_nb⟩⟩)
