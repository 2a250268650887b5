section DZL
variable {p : Program} {l : Launch} {e : Env} {R : Room} {s : State} {m : MethodId} {args : Array Value} {below : List Frame} {meth : Method} {c : Code} {H : Heap} {locs : List Loc} {Q : State → Prop}
/-- a loop that makes cells -/
theorem dz_la {α : Type} (μ : α → Nat) (cf sf : α → Nat) (I : α → Heap → List Loc → Prop) (f : α → JFrame) (hs : ∀ (a : α) (H : Heap) (locs : List Loc), I a H locs → (∀ (b : α) (H' : Heap) (locs' : List Loc), μ b < μ a → I b H' locs' → W p l e R s m args below meth c H' locs' (cf b) (sf b) Q (f b)) → W p l e R s m args below meth c H locs (cf a) (sf a) Q (f a)) (a0 : α) (h0 : I a0 H locs) : W p l e R s m args below meth c H locs (cf a0) (sf a0) Q (f a0) := by
  have key : ∀ (n : Nat) (a : α) (H : Heap) (locs : List Loc), μ a < n → I a H locs → W p l e R s m args below meth c H locs (cf a) (sf a) Q (f a) := by
    intro n
    induction n with
    | zero => intro a H locs h; omega
    | succ n ih => exact fun a H locs h hI => hs a H locs hI (fun b H' locs' hb hIb => ih b H' locs' (by omega) hIb)
  exact key (μ a0 + 1) a0 H locs (by omega) h0
end DZL
theorem q_m21 : ∀ k, k < 441 → nI k - nI k / 21 * 21 = nI (k % 21) ∧ nI k / 21 = nI (k / 21) := by decide +kernel
theorem q_d6 : ∀ k, k < 12 → nI k / 6 = nI (k / 6) ∧ nI k - nI k / 6 * 6 = nI (k % 6) := by decide +kernel
theorem q_mul6 : ∀ n, n < 3 → 6 * nI n = nI (6 * n) := by decide +kernel
theorem q_pred {n : Nat} (h : 0 < n) : nI n - 1 = nI (n - 1) := by
  cases n with
  | zero => omega
  | succ n => exact nI_pred n
theorem q_lt {a b : Nat} (h : ¬ nI b ≤ nI a) (hb : b < 2 ^ 31) (ha : a < 2 ^ 31) : a < b := by
  rcases Nat.lt_or_ge a b with q | q
  · exact q
  · exact absurd (nI_le q ha) h
theorem q_end {a b : Nat} (h : nI b ≤ nI a) (ha : a ≤ b) (hb : b < 2 ^ 31) : a = b := by
  rcases Nat.lt_or_ge a b with z | z
  · exact absurd h (nI_ge z hb)
  · omega
theorem q_be1 {tc tr : Nat → Int32} {k : Nat} (h : ¬ q_fld (tc (22 * (k / 21) + k % 21)) (tr (22 * (k / 21) + k % 21))) : nI (q_n (fun j => q_b (¬ q_fld (tc j) (tr j))) k) + 1 = nI (q_n (fun j => q_b (¬ q_fld (tc j) (tr j))) (k + 1)) := by
  show _ = nI (q_n _ k + q_b (¬ q_fld (tc (22 * (k / 21) + k % 21)) (tr (22 * (k / 21) + k % 21))))
  unfold q_b
  rw [if_pos h]
  exact nI_add _ 1
theorem q_be0 {tc tr : Nat → Int32} {k : Nat} (h : q_fld (tc (22 * (k / 21) + k % 21)) (tr (22 * (k / 21) + k % 21))) : nI (q_n (fun j => q_b (¬ q_fld (tc j) (tr j))) k) + 0 = nI (q_n (fun j => q_b (¬ q_fld (tc j) (tr j))) (k + 1)) := by
  show _ = nI (q_n _ k + q_b (¬ q_fld (tc (22 * (k / 21) + k % 21)) (tr (22 * (k / 21) + k % 21))))
  unfold q_b
  rw [if_neg (fun z => z h)]
  exact nI_add _ 0
/-- the way ahead of rank k -/
def q_bf (S : lwS) (sc : Nat) : Nat → Int32
  | 0 => -2000000000
  | k + 1 => s_tw S (s_pl S sc k)
theorem q_bf_le {S : lwS} (hB : lwB S) {sc rk : Nat} (hsc : sc < S.1 1) (h : rk < (s_ix S sc).1) : q_bf S sc rk ≤ s_tw S (s_pl S sc rk) := by
  cases rk with
  | zero => exact s_far hB hsc h
  | succ rk => exact s_rise h
theorem q_t24 (n : Int32) : ¬ m_times n < -24 ∧ ¬ 24 < m_times n := by
  obtain ⟨h1, h2⟩ := m_times_b n
  refine ⟨fun z => ?_, fun z => ?_⟩
  · have z' := Int32.lt_iff_toInt_lt.mp z
    rw [show (-24 : Int32).toInt = -24 from by decide] at z'
    omega
  · have z' := Int32.lt_iff_toInt_lt.mp z
    rw [show (24 : Int32).toInt = 24 from by decide] at z'
    omega
/-- the sum of what is asked, of what the calls answer -/
def lw_s0 (dy : Int32) (nf : Nat) (x vd : Int32) (vf : Int32 → Int32 → Int32 → Int32) : Int32 := dy + 3 * nI nf + 5 * vd + 7 * vf (x - x / 21 * 21 - 10) (x / 21 - x / 21 / 21 * 21 - 10) (if x - x / 2 * 2 = 0 then 1 else 0)
def lw_sm (a : Int32) (vi : Int32 → Int32) (vo : Int32 → Int32 → Int32 → Int32) (vl : Int32 → Int32 → Int32) (vb vh : Int32 → Int32) (vs : Int32 → Int32 → Int32 → Int32) : Nat → Int32
  | 0 => a
  | k + 1 => 31 * lw_sm a vi vo vl vb vh vs k + vi (nI k) + 3 * vo (nI k - nI k / 2 * 2) (nI k) (nI k + 1) + 5 * vl (nI k - nI k / 2 * 2) (nI k) + 7 * vb (nI k - nI k / 2 * 2) + 11 * vh (nI k - nI k / 2 * 2) + 13 * vs (nI k) (nI k - nI k / 2 * 2) (nI k)
