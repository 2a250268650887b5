/-! A SKY AND THE LAW'S OWN NUMBERS -/
def lw_I (k : Nat) (S : lwS) (nv : Nat → Int32) : Prop := (nv 1 = nI (S.1 1) ∧ S.1 1 ≤ 2 ∧ ∀ i, i < S.1 1 → nv (3 + 2 * i) = S.2.2 12 i ∧ nv (4 + 2 * i) = S.2.2 13 i) ∧ ((nv 19 = -1 ∧ S.1 4 = 0) ∨ ∃ t, t < S.1 4 ∧ nv 19 = nI t ∧ ∀ j, j < 12 → (nv (7 + j) = -2000000001 ∧ S.2.2 31 (30 * t + j) = -1) ∨ nv (7 + j) = S.2.2 31 (30 * t + j)) ∧ (nv 20 = 1 → ¬ S.2.1 6 = 0) ∧ (∃ d, d ≤ 5 * k ∧ S.2.1 0 = nI d) ∧ ∃ b, b ≤ k ∧ S.2.1 5 = nI b
theorem q_ups {f : Nat → Int32} {k : Nat} : upd f k (f k) = f := by
  funext j
  by_cases c : j = k
  · rw [c, pk_us]
  · rw [pk_un c]
theorem q_nn {x : Int32} (h : 0 ≤ x) : ¬ lw_ref x ∧ ¬ x = -5 := by
  refine ⟨?_, ?_⟩
  · rintro (z | z | z)
    · rw [z] at h; exact absurd h (by decide)
    · rw [z] at h; exact absurd h (by decide)
    · rw [z] at h; exact absurd h (by decide)
  · intro z
    rw [z] at h
    exact absurd h (by decide)
theorem q_r5 {x : Int32} (h : lw_ref x) : ¬ x = -5 := by
  intro z
  rw [z] at h
  exact absurd h (by decide)
theorem I_mono {k : Nat} {S : lwS} {nv : Nat → Int32} (h : lw_I k S nv) : lw_I (k + 1) S nv := by
  obtain ⟨h1, h2, h3, ⟨d, h4, h5⟩, b, h6, h7⟩ := h
  exact ⟨h1, h2, h3, ⟨d, by omega, h5⟩, b, by omega, h7⟩
theorem I_ref {k : Nat} {S S' : lwS} {nv : Nat → Int32} (e : S' = S) (h : lw_I k S nv) : lw_I (k + 1) S' nv := by
  rw [e]
  exact I_mono h
abbrev q_1 (S S' : lwS) : Prop := S'.1 1 = S.1 1 ∧ S'.2.2 12 = S.2.2 12 ∧ S'.2.2 13 = S.2.2 13
abbrev q_2 (S S' : lwS) : Prop := S'.1 4 = S.1 4 ∧ ∀ j, j < 30 * S.1 4 → S'.2.2 31 j = S.2.2 31 j
theorem q_kept {S S' : lwS} {nv nv' : Nat → Int32} (h2 : q_2 S S') (hn : nv' 19 = nv 19 ∧ ∀ j, j < 12 → nv' (7 + j) = nv (7 + j)) (h : (nv 19 = -1 ∧ S.1 4 = 0) ∨ ∃ t, t < S.1 4 ∧ nv 19 = nI t ∧ ∀ j, j < 12 → (nv (7 + j) = -2000000001 ∧ S.2.2 31 (30 * t + j) = -1) ∨ nv (7 + j) = S.2.2 31 (30 * t + j)) : (nv' 19 = -1 ∧ S'.1 4 = 0) ∨ ∃ t, t < S'.1 4 ∧ nv' 19 = nI t ∧ ∀ j, j < 12 → (nv' (7 + j) = -2000000001 ∧ S'.2.2 31 (30 * t + j) = -1) ∨ nv' (7 + j) = S'.2.2 31 (30 * t + j) := by
  rcases h with ⟨a, b⟩ | ⟨t, ht, h19, hk⟩
  · exact Or.inl ⟨hn.1.trans a, h2.1.trans b⟩
  · refine Or.inr ⟨t, by rw [h2.1]; exact ht, hn.1.trans h19, fun j hj => ?_⟩
    rw [hn.2 j hj, h2.2 (30 * t + j) (by omega)]
    exact hk j hj
theorem I_same {k : Nat} {S S' : lwS} {nv : Nat → Int32} (h1 : q_1 S S') (h2 : q_2 S S') (h3 : S'.2.1 0 = S.2.1 0) (h4 : S'.2.1 5 = S.2.1 5) (h5 : S'.2.1 6 = S.2.1 6) (h : lw_I k S nv) : lw_I (k + 1) S' nv := by
  obtain ⟨⟨a1, a2, a3⟩, a4, a5, ⟨d, a6, a7⟩, b, a8, a9⟩ := h
  refine ⟨⟨by rw [h1.1]; exact a1, by rw [h1.1]; exact a2, fun i hi => ?_⟩, q_kept h2 ⟨rfl, fun _ _ => rfl⟩ a4, fun z => by rw [h5]; exact a5 z, ⟨d, by omega, h3.trans a7⟩, b, by omega, h4.trans a9⟩
  rw [h1.2.1, h1.2.2]
  exact a3 i (by rw [← h1.1]; exact hi)
theorem I_mass {k : Nat} {S S' : lwS} {nv : Nat → Int32} (h1 : q_1 S S') (h2 : S'.1 4 = 0) (h3 : S'.2.1 0 = S.2.1 0) (h4 : S'.2.1 5 = S.2.1 5) (h5 : S'.2.1 6 = S.2.1 6) (h : lw_I k S nv) : lw_I (k + 1) S' (upd nv 19 (-1)) := by
  obtain ⟨⟨a1, a2, a3⟩, a4, a5, ⟨d, a6, a7⟩, b, a8, a9⟩ := h
  refine ⟨⟨by rw [h1.1, pk_un (by decide)]; exact a1, by rw [h1.1]; exact a2, fun i hi => ?_⟩, Or.inl ⟨pk_us, h2⟩, fun z => by rw [pk_un (by decide)] at z; rw [h5]; exact a5 z, ⟨d, by omega, h3.trans a7⟩, b, by omega, h4.trans a9⟩
  rw [h1.1] at hi
  rw [h1.2.1, h1.2.2, pk_un (by omega), pk_un (by omega)]
  exact a3 i hi
theorem I_source {k : Nat} {S S' : lwS} {nv : Nat → Int32} {v1 v2 : Int32} (hs : S.1 1 < 2) (h1 : S'.1 1 = S.1 1 + 1 ∧ S'.2.2 12 = upd (S.2.2 12) (S.1 1) v1 ∧ S'.2.2 13 = upd (S.2.2 13) (S.1 1) v2) (h2 : q_2 S S') (h3 : S'.2.1 0 = S.2.1 0) (h4 : S'.2.1 5 = S.2.1 5) (h5 : S'.2.1 6 = S.2.1 6) (h : lw_I k S nv) : lw_I (k + 1) S' (upd (upd (upd nv (3 + 2 * S.1 1) v1) (4 + 2 * S.1 1) v2) 1 (nI (S.1 1 + 1))) := by
  obtain ⟨⟨a1, a2, a3⟩, a4, a5, ⟨d, a6, a7⟩, b, a8, a9⟩ := h
  refine ⟨⟨by rw [h1.1]; exact pk_us, by rw [h1.1]; omega, fun i hi => ?_⟩, q_kept (nv := nv) h2 ⟨by rw [pk_un (by decide), pk_un (by omega), pk_un (by omega)], fun j hj => by rw [pk_un (by omega), pk_un (by omega), pk_un (by omega)]⟩ a4, fun z => by rw [pk_un (by decide), pk_un (by omega), pk_un (by omega)] at z; rw [h5]; exact a5 z, ⟨d, by omega, h3.trans a7⟩, b, by omega, h4.trans a9⟩
  rw [h1.1] at hi
  rw [h1.2.1, h1.2.2]
  by_cases c : i = S.1 1
  · rw [c, pk_un (by omega), pk_un (by omega), pk_us, pk_us, pk_un (by omega), pk_us, pk_us]
    exact ⟨rfl, rfl⟩
  · exact ⟨((pk_un (by omega)).trans ((pk_un (by omega)).trans (pk_un (by omega)))).trans ((a3 i (by omega)).1.trans (pk_un c).symm), ((pk_un (by omega)).trans ((pk_un (by omega)).trans (pk_un (by omega)))).trans ((a3 i (by omega)).2.trans (pk_un c).symm)⟩
theorem I_pass {k w : Nat} {S S' : lwS} {nv : Nat → Int32} (hw : w ≤ 5) (h1 : q_1 S S') (h2 : q_2 S S') (h3 : S'.2.1 0 = S.2.1 0 + nI w) (h4 : S'.2.1 5 = S.2.1 5) (h5 : S'.2.1 6 = S.2.1 6) (h : lw_I k S nv) : lw_I (k + 1) S' nv := by
  obtain ⟨⟨a1, a2, a3⟩, a4, a5, ⟨d, a6, a7⟩, b, a8, a9⟩ := h
  refine ⟨⟨by rw [h1.1]; exact a1, by rw [h1.1]; exact a2, fun i hi => ?_⟩, q_kept h2 ⟨rfl, fun _ _ => rfl⟩ a4, fun z => by rw [h5]; exact a5 z, ⟨d + w, by omega, by rw [h3, a7, nI_add]⟩, b, by omega, h4.trans a9⟩
  rw [h1.2.1, h1.2.2]
  exact a3 i (by rw [← h1.1]; exact hi)
theorem I_book {k : Nat} {S S' : lwS} {nv : Nat → Int32} (h1 : q_1 S S') (h2 : q_2 S S') (h3 : S'.2.1 0 = S.2.1 0) (h4 : S'.2.1 5 = S.2.1 5 + 1) (h5 : S'.2.1 6 = S.2.1 6) (h : lw_I k S nv) : lw_I (k + 1) S' nv := by
  obtain ⟨⟨a1, a2, a3⟩, a4, a5, ⟨d, a6, a7⟩, b, a8, a9⟩ := h
  refine ⟨⟨by rw [h1.1]; exact a1, by rw [h1.1]; exact a2, fun i hi => ?_⟩, q_kept h2 ⟨rfl, fun _ _ => rfl⟩ a4, fun z => by rw [h5]; exact a5 z, ⟨d, by omega, h3.trans a7⟩, b + 1, by omega, by rw [h4, a9]; exact nI_1 b⟩
  rw [h1.2.1, h1.2.2]
  exact a3 i (by rw [← h1.1]; exact hi)
theorem I_b0 {k : Nat} {S : lwS} {nv : Nat → Int32} (hk : k < 1000) (h : lw_I k S nv) : 0 ≤ S.2.1 5 + 1 := by
  obtain ⟨-, -, -, -, b, a8, a9⟩ := h
  rw [a9, nI_1]
  exact nI_pos' (by omega)
theorem I_day {k : Nat} {S : lwS} {nv : Nat → Int32} (hk : k < 31) (h : lw_I k S nv) : ∃ d, d ≤ 160 ∧ S.2.1 0 = nI d := by
  obtain ⟨-, -, -, ⟨d, a6, a7⟩, -⟩ := h
  exact ⟨d, by omega, a7⟩
/-- a vote: the books are open now, or stay as they were -/
theorem I_vote {k : Nat} {S S' : lwS} {nv : Nat → Int32} {u : Int32} (h1 : q_1 S S') (h2 : q_2 S S') (h3 : S'.2.1 0 = S.2.1 0) (h4 : S'.2.1 5 = S.2.1 5) (h5 : u = 1 → ¬ S'.2.1 6 = 0) (h : lw_I k S nv) : lw_I (k + 1) S' (upd nv 20 u) := by
  obtain ⟨⟨a1, a2, a3⟩, a4, a5, ⟨d, a6, a7⟩, b, a8, a9⟩ := h
  refine ⟨⟨by rw [h1.1, pk_un (by decide)]; exact a1, by rw [h1.1]; exact a2, fun i hi => ?_⟩, q_kept (nv := nv) h2 ⟨pk_un (by decide), fun j hj => pk_un (by omega)⟩ a4, fun z => by rw [pk_us] at z; exact h5 z, ⟨d, by omega, h3.trans a7⟩, b, by omega, h4.trans a9⟩
  rw [h1.1] at hi
  rw [h1.2.1, h1.2.2, pk_un (by omega), pk_un (by omega)]
  exact a3 i hi
/-- twelve numbers from 7 on -/
def q_wr (nv : Nat → Int32) (g : Nat → Int32) : Nat → (Nat → Int32)
  | 0 => nv
  | k + 1 => upd (q_wr nv g k) (7 + k) (g k)
theorem q_wr_o {nv g : Nat → Int32} {i : Nat} : ∀ n, (i < 7 ∨ 7 + n ≤ i) → q_wr nv g n i = nv i := by
  intro n
  induction n with
  | zero => intro _; rfl
  | succ n ih =>
    intro h
    show upd (q_wr nv g n) (7 + n) (g n) i = nv i
    rw [pk_un (by omega)]
    exact ih (by omega)
theorem q_wr_i {nv g : Nat → Int32} {j : Nat} : ∀ n, j < n → q_wr nv g n (7 + j) = g j := by
  intro n
  induction n with
  | zero => intro h; exact absurd h (Nat.not_lt_zero _)
  | succ n ih =>
    intro h
    show upd (q_wr nv g n) (7 + n) (g n) (7 + j) = g j
    by_cases c : j = n
    · rw [c, pk_us]
    · rw [pk_un (by omega)]
      exact ih (by omega)
/-- what seen() answers of a frame that is there -/
def s_sv (S : lwS) (t j : Nat) : Int32 := if j / 6 < S.1 1 then S.2.2 31 (30 * t + j) else -2000000001
theorem r_seenV (l : Launch) (hst : l.stackTraces = false) {Z : dzG} {G : dzW} {ad : dzA} {aX : Nat} {S : lwS} (hC : lwC Z G ad aX S) (hB : lwB S) {i j : Nat} (hi : i < S.1 4) (hj : j < 12) : lw_A l yL_seen wsL_seen Z G ad [.ref aX, .int (nI i), .int (nI (j / 6)), .int (nI (j % 6))] (s_sv S i j) := by
  unfold s_sv
  by_cases c : j / 6 < S.1 1
  · rw [if_pos c]
    have z := dz_RW (r_seen l hst hC hB hi c (show j % 6 < 6 by omega))
    rw [show 30 * i + (6 * (j / 6) + j % 6) = 30 * i + j by omega] at z
    exact dz_wide z (by decide) (by decide) (by decide) (by decide)
  · rw [if_neg c]
    exact dz_wide (cl_D_seen_no2 l hst i (nI (j / 6)) (nI (j % 6)) hC hB.nf6 hi (Or.inr (nI_le (by omega) (by omega)))) (by decide) (by decide) (by decide) (by decide)
theorem I_frame {k w : Nat} {S S1 S2 : lwS} {nv : Nat → Int32} (hB1 : lwB S1) (hw : w ≤ 5) (h1 : q_1 S S1) (hf : S1.1 4 = S.1 4 + 1) (h3 : S1.2.1 0 = S.2.1 0) (h4 : S1.2.1 5 = S.2.1 5) (h5 : S1.2.1 6 = S.2.1 6) (g1 : q_1 S1 S2) (g2 : q_2 S1 S2) (g3 : S2.2.1 0 = S1.2.1 0 + nI w) (g4 : S2.2.1 5 = S1.2.1 5) (g5 : S2.2.1 6 = S1.2.1 6) (h : lw_I k S nv) : lw_I (k + 1) S2 (q_wr (upd nv 19 (nI (S.1 4))) (s_sv S1 (S.1 4)) 12) := by
  obtain ⟨⟨a1, a2, a3⟩, a4, a5, ⟨d, a6, a7⟩, b, a8, a9⟩ := h
  have o1 : ∀ i, i < 7 → q_wr (upd nv 19 (nI (S.1 4))) (s_sv S1 (S.1 4)) 12 i = nv i := fun i hi => (q_wr_o 12 (Or.inl hi)).trans (pk_un (by omega))
  have e1 : S2.1 1 = S.1 1 := g1.1.trans h1.1
  refine ⟨⟨by rw [o1 1 (by decide), e1]; exact a1, by rw [e1]; exact a2, fun i hi => ?_⟩, Or.inr ⟨S.1 4, by rw [g2.1, hf]; omega, (q_wr_o 12 (Or.inr (by decide))).trans pk_us, fun j hj => ?_⟩, fun z => ?_, ⟨d + w, by omega, by rw [g3, h3, a7, nI_add]⟩, b, by omega, g4.trans (h4.trans a9)⟩
  · rw [e1] at hi
    rw [o1 _ (by omega), o1 _ (by omega), g1.2.1, g1.2.2, h1.2.1, h1.2.2]
    exact a3 i hi
  · rw [q_wr_i 12 hj, g2.2 (30 * S.1 4 + j) (by rw [hf]; omega)]
    unfold s_sv
    by_cases c : j / 6 < S1.1 1
    · rw [if_pos c]
      exact Or.inr rfl
    · rw [if_neg c]
      exact Or.inl ⟨rfl, hB1.1.2.2.2.2.1.2.2.2 (S.1 4) j (by rw [hf]; omega) (by omega) (by omega)⟩
  · rw [q_wr_o 12 (Or.inr (by decide)), pk_un (by decide)] at z
    rw [g5, h5]
    exact a5 z
/-- days pass -/
theorem t_passK (l : Launch) (hst : l.stackTraces = false) {Z : dzG} {G : dzW} {ad : dzA} {aX : Nat} {S : lwS} (hC : lwC Z G ad aX S) (hB : lwB S) {w : Nat} (hd : ∃ d, d ≤ 160 ∧ S.2.1 0 = nI d) (h1 : 1 ≤ w) (h5 : w ≤ 5) : dzWr l yL_pass wsL_pass 10 300 5 600 Z G ad [.ref aX, .int (nI w)] rv_i (fun x G1 ad1 => (∀ r : dzR, r.1 = 60 → G1 r = G r ∧ ad1 r = ad r) ∧ ∃ S' : lwS, lwC Z G1 ad1 aX S' ∧ lwB S' ∧ 0 ≤ x ∧ q_1 S S' ∧ q_2 S S' ∧ S'.2.1 0 = S.2.1 0 + nI w ∧ S'.2.1 5 = S.2.1 5 ∧ S'.2.1 6 = S.2.1 6) := by
  have hB0 := hB
  obtain ⟨⟨⟨b1, b2, b3⟩, ⟨b4, b5⟩, ⟨b6, b7⟩, ⟨b8, b9⟩, ⟨b10, b11, b12, b13⟩, b14, b15, b16⟩, hF⟩ := hB
  have c1 : (1 : Int32) ≤ nI w ∧ nI w ≤ 100 := ⟨nI_le (a := 1) h1 (by omega), nI_le (b := 100) (by omega) (by decide)⟩
  have c2 : ¬ 2000 < S.2.1 0 + nI w := by
    obtain ⟨d, hd1, hd2⟩ := hd
    rw [hd2, nI_add]
    exact nI_nlt (b := d + w) (a := 2000) (by omega) (by decide)
  obtain ⟨p1, p2⟩ := m_pass b14 c1 c2
  exact dz_po (dz_wide (cl_D_pass_ok l (nI w) hC c1 c2) (by decide) (by decide) (by decide) (by decide)) (fun x G1 ad1 h => by obtain ⟨rfl, k1, k2⟩ := h; exact ⟨k1, _, lwC.mk k2, lwB.mk ⟨⟨b1, b2, b3⟩, ⟨b4, b5⟩, ⟨b6, b7⟩, ⟨b8, b9⟩, ⟨b10, fun i h => Int32.le_trans (b11 i h) p1, b12, b13⟩, p2, b15, b16⟩ hF, p2.1, ⟨rfl, rfl, rfl⟩, ⟨rfl, fun j hj => rfl⟩, rfl, rfl, rfl⟩)
theorem q_div {a b : Nat} (ha : a < 2 ^ 31) (hb : b < 2 ^ 31) (h0 : 0 < b) : nI a / nI b = nI (a / b) := by
  apply Int32.toInt_inj.mp
  have hq : a / b ≤ a := Nat.div_le_self _ _
  rw [Jvm.Kit.i32_div (by rintro ⟨z, -⟩; rw [nI_toInt ha] at z; omega), nI_toInt ha, nI_toInt hb, nI_toInt (by omega)]
  rfl
theorem q_rem {a b : Nat} (ha : a < 2 ^ 31) (hb : b < 2 ^ 31) (h0 : 0 < b) : nI a - nI a / nI b * nI b = nI (a % b) := by
  have hq : a / b * b ≤ a := Nat.div_mul_le_self a b
  have hm : a / b ≤ a := Nat.div_le_self a b
  have e1 : nI (a / b) * nI b = nI (a / b * b) := (Int32.ofNat_mul _ _).symm
  rw [q_div ha hb h0, e1]
  have e2 : nI a = nI (a % b) + nI (a / b * b) := by
    rw [nI_add]
    exact congrArg nI (by rw [Nat.mul_comm]; exact (Nat.mod_add_div a b).symm)
  rw [e2]
  exact Int32.add_sub_cancel _ _
theorem q_20 {n : Nat} (hn : n < 2 ^ 31) : ∃ c, c < 20 ∧ nI n - nI n / 20 * 20 = nI c := ⟨n % 20, Nat.mod_lt _ (by decide), q_rem (b := 20) hn (by decide) (by decide)⟩
