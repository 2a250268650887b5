/-! WHERE IMAGES LIE, BY RISING WAYS -/
theorem q_sh_all {w : Nat → Int32} {own c : Nat} {Gd : Int32 → Prop} : ∀ (k : Nat) (f : Nat → Int32), k ≤ c → (∀ i, i < c + 1 → i ≠ k → Gd (f i)) → (m_sh w own k f).2 ≤ k ∧ ∀ i, i < c + 1 → i ≠ (m_sh w own k f).2 → Gd ((m_sh w own k f).1 i) := by
  intro k
  induction k with
  | zero => intro f _ h; exact ⟨Nat.le_refl _, h⟩
  | succ k ih =>
    intro f hk h
    by_cases g : w own < w (f k).toNatClampNeg
    · have e : m_sh w own (k + 1) f = m_sh w own k (upd f (k + 1) (f k)) := if_pos g
      rw [e]
      obtain ⟨h1, h2⟩ := ih (upd f (k + 1) (f k)) (by omega) (fun i hi hne => by
        by_cases c1 : i = k + 1
        · subst c1; rw [pk_us]; exact h k (by omega) (by omega)
        · rw [pk_un c1]; exact h i hi c1)
      exact ⟨by omega, h2⟩
    · have e : m_sh w own (k + 1) f = (f, k + 1) := if_neg g
      rw [e]
      exact ⟨Nat.le_refl _, h⟩
theorem q_sh_so {w : Nat → Int32} {own c : Nat} : ∀ (k : Nat) (f : Nat → Int32), k ≤ c → (∀ i, i < c → i ≠ k → i + 1 ≠ k → w (f i).toNatClampNeg ≤ w (f (i + 1)).toNatClampNeg) → (∀ i, i + 1 = k → k < c → w (f i).toNatClampNeg ≤ w (f (k + 1)).toNatClampNeg) → (k < c → w own ≤ w (f (k + 1)).toNatClampNeg) →
    (∀ i, i < c → i ≠ (m_sh w own k f).2 → i + 1 ≠ (m_sh w own k f).2 → w ((m_sh w own k f).1 i).toNatClampNeg ≤ w ((m_sh w own k f).1 (i + 1)).toNatClampNeg) ∧ ((m_sh w own k f).2 < c → w own ≤ w ((m_sh w own k f).1 ((m_sh w own k f).2 + 1)).toNatClampNeg) ∧ ∀ i, i + 1 = (m_sh w own k f).2 → w ((m_sh w own k f).1 i).toNatClampNeg ≤ w own := by
  intro k
  induction k with
  | zero => intro f _ h1 _ h3; exact ⟨h1, h3, fun i hi => absurd hi (Nat.succ_ne_zero i)⟩
  | succ k ih =>
    intro f hk h1 h2 h3
    by_cases g : w own < w (f k).toNatClampNeg
    · have e : m_sh w own (k + 1) f = m_sh w own k (upd f (k + 1) (f k)) := if_pos g
      rw [e]
      refine ih (upd f (k + 1) (f k)) (by omega) (fun i hi n1 n2 => ?_) (fun i hi hc => ?_) (fun hc => ?_)
      · by_cases c1 : i = k + 1
        · subst c1
          rw [pk_us, pk_un (show k + 1 + 1 ≠ k + 1 by omega)]
          exact h2 k rfl hi
        · rw [pk_un c1, pk_un (show i + 1 ≠ k + 1 by omega)]
          exact h1 i hi c1 (by omega)
      · rw [pk_us, pk_un (show i ≠ k + 1 by omega)]
        have q := h1 i (by omega) (by omega) (by omega)
        rwa [show i + 1 = k from hi] at q
      · rw [pk_us]
        exact Int32.le_of_lt g
    · have e : m_sh w own (k + 1) f = (f, k + 1) := if_neg g
      rw [e]
      refine ⟨h1, h3, fun i hi => ?_⟩
      rw [show i = k from Nat.succ.inj hi]
      exact Int32.not_lt.mp g
/-- images are places of the field whose rays come from the source, by rising ways -/
def q_go (w P : Nat → Int32) (q : Nat × (Nat → Int32)) : Prop := (∀ k, k < q.1 → ∃ j, (j % 22 < 21 ∧ j / 22 < 21 ∧ ¬ P j = 0) ∧ q.2 k = nI j) ∧ ∀ k, k + 1 < q.1 → w (q.2 k).toNatClampNeg ≤ w (q.2 (k + 1)).toNatClampNeg
theorem q_stp {w P : Nat → Int32} {own : Nat} {q : Nat × (Nat → Int32)} (ho : own % 22 < 21 ∧ own / 22 < 21) (h : q_go w P q) : q_go w P (m_stp w P own q) := by
  unfold m_stp
  by_cases cP : P own = 0
  · rw [if_pos cP]
    exact h
  · rw [if_neg cP]
    obtain ⟨h1, h2⟩ := h
    obtain ⟨a1, a2⟩ := q_sh_all (w := w) (own := own) (c := q.1) (Gd := fun v => ∃ j, (j % 22 < 21 ∧ j / 22 < 21 ∧ ¬ P j = 0) ∧ v = nI j) q.1 q.2 (Nat.le_refl _) (fun i hi hn => h1 i (by omega))
    obtain ⟨b1, b2, b3⟩ := q_sh_so (w := w) (own := own) (c := q.1) q.1 q.2 (Nat.le_refl _) (fun i hi n1 n2 => h2 i (by omega)) (fun i hi hc => absurd hc (Nat.lt_irrefl _)) (fun hc => absurd hc (Nat.lt_irrefl _))
    refine ⟨fun k hk => ?_, fun k hk => ?_⟩
    · show ∃ j, _ ∧ upd _ _ _ k = nI j
      by_cases c1 : k = (m_sh w own q.1 q.2).2
      · rw [c1, pk_us]
        exact ⟨own, ⟨ho.1, ho.2, cP⟩, rfl⟩
      · rw [pk_un c1]
        exact a2 k hk c1
    · show w (upd _ _ _ k).toNatClampNeg ≤ w (upd _ _ _ (k + 1)).toNatClampNeg
      have hk' : k < q.1 := by
        have : k + 1 < q.1 + 1 := hk
        omega
      by_cases c1 : k = (m_sh w own q.1 q.2).2
      · rw [c1, pk_us, pk_un (show (m_sh w own q.1 q.2).2 + 1 ≠ (m_sh w own q.1 q.2).2 by omega), nI_clamp (show own < 2 ^ 31 by omega)]
        exact b2 (by omega)
      · by_cases c2 : k + 1 = (m_sh w own q.1 q.2).2
        · rw [c2, pk_us, pk_un c1, nI_clamp (show own < 2 ^ 31 by omega)]
          exact b3 k c2
        · rw [pk_un c1, pk_un c2]
          exact b1 k hk' c1 c2
theorem q_lr {w P : Nat → Int32} {a : Nat} {q : Nat × (Nat → Int32)} (ha : a < 21) (h : q_go w P q) : ∀ b, b ≤ 21 → q_go w P (m_lr w P a q b) := by
  intro b
  induction b with
  | zero => intro _; exact h
  | succ b ih => exact fun hb => q_stp ⟨by omega, by omega⟩ (ih (by omega))
theorem q_la {w P : Nat → Int32} {f : Nat → Int32} : ∀ a, a ≤ 21 → q_go w P (m_la w P (0, f) a) := by
  intro a
  induction a with
  | zero => exact fun _ => ⟨fun k hk => absurd hk (Nat.not_lt_zero _), fun k hk => absurd hk (Nat.not_lt_zero _)⟩
  | succ a ih => exact fun ha => q_lr (by omega) (ih (by omega)) 21 (Nat.le_refl _)
/-! COUNTS OVER THE FIELD -/
def q_n (g : Nat → Nat) : Nat → Nat
  | 0 => 0
  | k + 1 => q_n g k + g (22 * (k / 21) + k % 21)
theorem q_n_sg {f : Nat → Int32} {g : Nat → Nat} (h : ∀ j, f j = nI (g j)) : ∀ n, m_sg f n = nI (q_n g n) := by
  intro n
  induction n with
  | zero => rfl
  | succ n ih =>
    show m_sg f n + f (22 * (n / 21) + n % 21) = nI (q_n g n + g (22 * (n / 21) + n % 21))
    rw [ih, h, nI_add]
theorem q_n_all {f : Nat → Int32} {g : Nat → Nat} (h : ∀ j, f j = nI (g j)) : m_all f 21 = nI (q_n g 441) := (m_sg_all 21).symm.trans (q_n_sg h 441)
theorem q_n_add {g h k : Nat → Nat} (e : ∀ j, k j = g j + h j) : ∀ n, q_n k n = q_n g n + q_n h n := by
  intro n
  induction n with
  | zero => rfl
  | succ n ih =>
    show q_n k n + k (22 * (n / 21) + n % 21) = (q_n g n + g (22 * (n / 21) + n % 21)) + (q_n h n + h (22 * (n / 21) + n % 21))
    rw [ih, e]
    omega
theorem q_n_le {g : Nat → Nat} (e : ∀ j, g j ≤ 1) : ∀ n, q_n g n ≤ n := by
  intro n
  induction n with
  | zero => exact Nat.le_refl _
  | succ n ih =>
    show q_n g n + g (22 * (n / 21) + n % 21) ≤ n + 1
    have := e (22 * (n / 21) + n % 21)
    omega
theorem q_n_one {g : Nat → Nat} (e : ∀ j, g j = 1) : ∀ n, q_n g n = n := by
  intro n
  induction n with
  | zero => rfl
  | succ n ih =>
    show q_n g n + g (22 * (n / 21) + n % 21) = n + 1
    rw [e, ih]
def q_b (P : Prop) [Decidable P] : Nat := if P then 1 else 0
theorem q_b_i {P : Prop} [Decidable P] : dz_b P = nI (q_b P) := by
  unfold dz_b q_b
  split <;> rfl
theorem q_b_1 {P : Prop} [Decidable P] : q_b P ≤ 1 := by
  unfold q_b
  split <;> omega
/-- the cell that is number k -/
abbrev q_c (k : Nat) : Int32 := nI (k % 21) - 10
abbrev q_r (k : Nat) : Int32 := nI (k / 21) - 10
/-- of the first n cells, how many are c, r -/
def q_h (c r : Int32) : Nat → Nat
  | 0 => 0
  | k + 1 => q_h c r k + q_b (c = q_c k ∧ r = q_r k)
abbrev q_fld (c r : Int32) : Prop := ((-10 : Int32) ≤ c ∧ c ≤ 10) ∧ ((-10 : Int32) ≤ r ∧ r ≤ 10)
theorem q_sub10 {a b : Nat} (ha : a < 21) (hb : b < 21) (h : nI a - 10 = nI b - 10) : a = b := by
  have h10 : (10 : Int32).toInt = 10 := by decide
  have h2 : (nI a - 10).toInt = (nI b - 10).toInt := congrArg Int32.toInt h
  rw [Jvm.Kit.i32_sub (by rw [nI_toInt (by omega), h10]; omega) (by rw [nI_toInt (by omega), h10]; omega), Jvm.Kit.i32_sub (by rw [nI_toInt (by omega), h10]; omega) (by rw [nI_toInt (by omega), h10]; omega), nI_toInt (by omega), nI_toInt (by omega)] at h2
  omega
theorem q_h_in {a b : Nat} (ha : a < 21) (hb : b < 21) : ∀ n, n ≤ 441 → q_h (nI a - 10) (nI b - 10) n = if 21 * b + a < n then 1 else 0 := by
  intro n
  induction n with
  | zero => intro _; exact (if_neg (Nat.not_lt_zero _)).symm
  | succ n ih =>
    intro hn
    show q_h (nI a - 10) (nI b - 10) n + q_b (nI a - 10 = q_c n ∧ nI b - 10 = q_r n) = _
    rw [ih (by omega)]
    unfold q_b
    by_cases c : n = 21 * b + a
    · rw [if_pos (show nI a - 10 = q_c n ∧ nI b - 10 = q_r n by
        refine ⟨?_, ?_⟩
        · show _ = nI (n % 21) - 10
          rw [show n % 21 = a by omega]
        · show _ = nI (n / 21) - 10
          rw [show n / 21 = b by omega]), if_neg (by omega), if_pos (by omega)]
    · rw [if_neg (show ¬ (nI a - 10 = q_c n ∧ nI b - 10 = q_r n) from fun z => c (by
        have z1 := q_sub10 ha (Nat.mod_lt _ (by decide)) z.1
        have z2 := q_sub10 hb (by omega) z.2
        omega))]
      by_cases d : 21 * b + a < n
      · rw [if_pos d, if_pos (by omega)]
      · rw [if_neg d, if_neg (by omega)]
theorem q_fl21 : ∀ a, a < 21 → (-10 : Int32) ≤ nI a - 10 ∧ nI a - 10 ≤ 10 := by decide +kernel
theorem q_h_out {c r : Int32} (h : ¬ q_fld c r) : ∀ n, n ≤ 441 → q_h c r n = 0 := by
  intro n
  induction n with
  | zero => intro _; rfl
  | succ n ih =>
    intro hn
    show q_h c r n + q_b (c = q_c n ∧ r = q_r n) = 0
    rw [ih (by omega)]
    unfold q_b
    rw [if_neg (fun z => h (by rw [z.1, z.2]; exact ⟨q_fl21 _ (Nat.mod_lt _ (by decide)), q_fl21 _ (by omega)⟩))]
/-- each ray comes from one cell, or from beyond -/
theorem q_h_1 (c r : Int32) {n : Nat} (hn : n ≤ 441) : q_b (¬ q_fld c r) + q_h c r n ≤ 1 := by
  unfold q_b
  by_cases h : q_fld c r
  · obtain ⟨a, ha, rfl⟩ := m_fld h.1
    obtain ⟨b, hb, rfl⟩ := m_fld h.2
    rw [if_neg (fun z => z h), q_h_in ha hb n hn]
    split <;> omega
  · rw [if_pos h, q_h_out h n hn]
    exact Nat.le_refl _
theorem q_h_441 (c r : Int32) : q_b (¬ q_fld c r) + q_h c r 441 = 1 := by
  unfold q_b
  by_cases h : q_fld c r
  · obtain ⟨a, ha, rfl⟩ := m_fld h.1
    obtain ⟨b, hb, rfl⟩ := m_fld h.2
    rw [if_neg (fun z => z h), q_h_in ha hb 441 (Nat.le_refl _), if_pos (by omega)]
  · rw [if_pos h, q_h_out h 441 (Nat.le_refl _)]
/-- what is lost, and what comes from the first n cells -/
def q_al (tc tr : Nat → Int32) (n : Nat) : Nat := q_n (fun j => q_b (¬ q_fld (tc j) (tr j)) + q_h (tc j) (tr j) n) 441
theorem q_al_0 (tc tr : Nat → Int32) : q_al tc tr 0 = q_n (fun j => q_b (¬ q_fld (tc j) (tr j))) 441 := rfl
theorem q_al_s (tc tr : Nat → Int32) (n : Nat) : q_al tc tr (n + 1) = q_al tc tr n + q_n (fun j => q_b (tc j = q_c n ∧ tr j = q_r n)) 441 :=
  q_n_add (fun j => (Nat.add_assoc _ _ _).symm) 441
theorem q_al_le (tc tr : Nat → Int32) {n : Nat} (hn : n ≤ 441) : q_al tc tr n ≤ 441 := q_n_le (fun j => q_h_1 _ _ hn) 441
theorem q_al_441 (tc tr : Nat → Int32) : q_al tc tr 441 = 441 := q_n_one (fun j => q_h_441 _ _) 441
