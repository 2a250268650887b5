/-! THE WORLD BY ROLES: G says what the cell of a role holds, ad where it lies; any number of cells, none apart by hand: roles that differ lie apart -/
abbrev dzR : Type := Nat × Nat
abbrev dzW : Type := (Nat × Nat) → Option va_E
abbrev dzA : Type := (Nat × Nat) → Nat
/-- what never changes: the classes' numbers and slots, the arrays' classes (int, long, boolean, Object), the first cell that is ours, the empty list's array, the class object of Object[] -/
abbrev dzG : Type := va_G × (Nat × Nat × Nat × Nat) × Nat × Nat × Nat
abbrev dzD (Z : dzG) : va_G := Z.1
abbrev dzI (Z : dzG) : Nat := Z.2.1.1
abbrev dzJ (Z : dzG) : Nat := Z.2.1.2.1
abbrev dzZ (Z : dzG) : Nat := Z.2.1.2.2.1
abbrev dzO (Z : dzG) : Nat := Z.2.1.2.2.2
abbrev dzB (Z : dzG) : Nat := Z.2.2.1
abbrev dz0 (Z : dzG) : Nat := Z.2.2.2.1
abbrev dzMi (Z : dzG) : Nat := Z.2.2.2.2
abbrev dzT (Z : dzG) : List (ClassId × FieldType) := [(dzI Z, .int), (dzJ Z, .long), (dzZ Z, .boolean), (dzO Z, .object "java/lang/Object")]
abbrev dz_A (Z : dzG) : Nat → Prop := fun q => dzB Z ≤ q
abbrev eO (ci : Nat) (fs : List Value) : va_E := .inr (ci, fs)
abbrev eI (Z : dzG) (n : Nat) (f : Nat → Int32) : va_E := .inl (dzI Z, n, .inl f)
abbrev eJ (Z : dzG) (n : Nat) (f : Nat → Int64) : va_E := .inl (dzJ Z, n, .inr (.inl f))
abbrev eZ (Z : dzG) (n : Nat) (f : Nat → Int32) : va_E := .inl (dzZ Z, n, .inl f)
abbrev eR (Z : dzG) (n : Nat) (f : Nat → Option Nat) : va_E := .inl (dzO Z, n, .inr (.inr (.inr (.inr f))))
def dz_u (G : dzW) (r : dzR) (e : va_E) : dzW := fun r' => if r' = r then some e else G r'
def dz_a (ad : dzA) (r : dzR) (q : Nat) : dzA := fun r' => if r' = r then q else ad r'
theorem dz_s {G : dzW} {r : dzR} {e : va_E} : dz_u G r e r = some e := by simp [dz_u]
theorem dz_o {G : dzW} {r r' : dzR} {e : va_E} {x : Option va_E} (h : r' ≠ r) (hx : G r' = x) : dz_u G r e r' = x := by simp [dz_u, h, hx]
theorem dz_as {ad : dzA} {r : dzR} {q : Nat} : dz_a ad r q r = q := by simp [dz_a]
theorem dz_ao {ad : dzA} {r r' : dzR} {q : Nat} (h : r' ≠ r) : dz_a ad r q r' = ad r' := by simp [dz_a, h]
theorem dz_n {k k' i j : Nat} (h : Nat.beq k k' = false) : ((k, i) : Nat × Nat) ≠ (k', j) := by
  intro e
  cases e
  rw [Nat.beq_refl] at h
  cases h
theorem dz_n2 {k i j : Nat} (h : i ≠ j) : ((k, i) : Nat × Nat) ≠ (k, j) := by
  intro e
  cases e
  exact h rfl
def dz_w (Z : dzG) (G : dzW) (ad : dzA) (H : Heap) : Prop := (∀ r e, G r = some e → va_at (dzD Z) vwCl (ad r, e) H) ∧ (∀ r r' e e', G r = some e → G r' = some e' → ad r = ad r' → r = r') ∧ ∀ r e, G r = some e → dzB Z ≤ ad r
theorem dz_w.P {Z : dzG} {G : dzW} {ad : dzA} {H : Heap} (h : dz_w Z G ad H) {r : dzR} {e : va_E} (hr : G r = some e) : va_P (dzD Z) vwCl [(ad r, e)] H := by
  intro k q hk
  have hz : k < 1 := (List.getElem?_eq_some_iff.mp hk).1
  rw [show k = 0 by omega] at hk
  cases hk
  exact h.1 r e hr
theorem dz_w.lt {Z : dzG} {G : dzW} {ad : dzA} {H : Heap} (h : dz_w Z G ad H) {r : dzR} {e : va_E} (hr : G r = some e) : ad r < H.size := (h.1 r e hr).lt
theorem dz_w.put {Z : dzG} {G : dzW} {ad : dzA} {H H1 : Heap} {r : dzR} {e0 e : va_E} (h : dz_w Z G ad H) (hr : G r = some e0) (he : va_at (dzD Z) vwCl (ad r, e) H1) (oq : ∀ q : Nat, q ≠ ad r → H1[q]? = H[q]?) : dz_w Z (dz_u G r e) ad H1 := by
  have key : ∀ r' e', dz_u G r e r' = some e' → (r' = r ∧ e' = e) ∨ (r' ≠ r ∧ G r' = some e') := by
    intro r' e' h'
    by_cases c : r' = r
    · subst c
      rw [dz_s] at h'
      exact Or.inl ⟨rfl, (Option.some.inj h').symm⟩
    · exact Or.inr ⟨c, by simpa [dz_u, c] using h'⟩
  have dom : ∀ r' e', dz_u G r e r' = some e' → ∃ e2, G r' = some e2 := by
    intro r' e' h'
    rcases key r' e' h' with ⟨rfl, -⟩ | ⟨-, h2⟩
    · exact ⟨_, hr⟩
    · exact ⟨_, h2⟩
  refine ⟨fun r' e' h' => ?_, fun r1 r2 e1 e2 h1 h2 ha => ?_, fun r' e' h' => ?_⟩
  · rcases key r' e' h' with ⟨rfl, rfl⟩ | ⟨c, h2⟩
    · exact he
    · exact (h.1 r' e' h2).kept (oq _ (fun z => c (h.2.1 _ _ _ _ h2 hr z)))
  · obtain ⟨_, d1⟩ := dom r1 e1 h1
    obtain ⟨_, d2⟩ := dom r2 e2 h2
    exact h.2.1 _ _ _ _ d1 d2 ha
  · obtain ⟨_, d1⟩ := dom r' e' h'
    exact h.2.2 _ _ d1
theorem dz_w.new {Z : dzG} {G : dzW} {ad : dzA} {H H1 : Heap} {e : va_E} {q : Nat} (h : dz_w Z G ad H) (hq : q = H.size) (hB : dzB Z ≤ H.size) (he : va_at (dzD Z) vwCl (q, e) H1) (ok : ∀ x : Nat, x < H.size → H1[x]? = H[x]?) (r : dzR) : dz_w Z (dz_u G r e) (dz_a ad r q) H1 := by
  subst hq
  have key : ∀ r' e', dz_u G r e r' = some e' → (r' = r ∧ e' = e ∧ dz_a ad r H.size r' = H.size) ∨ (r' ≠ r ∧ G r' = some e' ∧ dz_a ad r H.size r' = ad r') := by
    intro r' e' h'
    by_cases c : r' = r
    · subst c
      rw [dz_s] at h'
      exact Or.inl ⟨rfl, (Option.some.inj h').symm, dz_as⟩
    · exact Or.inr ⟨c, by simpa [dz_u, c] using h', dz_ao c⟩
  refine ⟨fun r' e' h' => ?_, fun r1 r2 e1 e2 h1 h2 ha => ?_, fun r' e' h' => ?_⟩
  · rcases key r' e' h' with ⟨rfl, rfl, z⟩ | ⟨c, h2, z⟩
    · rw [z]; exact he
    · rw [z]; exact (h.1 r' e' h2).kept (ok _ (h.lt h2))
  · rcases key r1 e1 h1 with ⟨c1, -, z1⟩ | ⟨c1, k1, z1⟩ <;> rcases key r2 e2 h2 with ⟨c2, -, z2⟩ | ⟨c2, k2, z2⟩
    · rw [c1, c2]
    · rw [z1, z2] at ha
      have := h.lt k2
      omega
    · rw [z1, z2] at ha
      have := h.lt k1
      omega
    · rw [z1, z2] at ha
      exact h.2.1 _ _ _ _ k1 k2 ha
  · rcases key r' e' h' with ⟨-, -, z⟩ | ⟨-, h2, z⟩
    · rw [z]; exact hB
    · rw [z]; exact h.2.2 _ _ h2
/-- cells beside the world's may come -/
theorem dz_w.kept {Z : dzG} {G : dzW} {ad : dzA} {H H1 : Heap} (h : dz_w Z G ad H) (ok : ∀ x : Nat, x < H.size → H1[x]? = H[x]?) : dz_w Z G ad H1 := ⟨fun r e hr => (h.1 r e hr).kept (ok _ (h.lt hr)), h.2.1, h.2.2⟩
/-- the same by other words for the same -/
theorem dz_w.cong {Z : dzG} {G G' : dzW} {ad : dzA} {H : Heap} (h : dz_w Z G ad H) (e : ∀ r, G r = G' r) : dz_w Z G' ad H := by
  rw [show G' = G from funext fun r => (e r).symm]
  exact h
/-- a world that forgets cells -/
theorem dz_w.less {Z : dzG} {G G' : dzW} {ad ad' : dzA} {H : Heap} (h : dz_w Z G ad H) (e : ∀ r x, G' r = some x → G r = some x ∧ ad' r = ad r) : dz_w Z G' ad' H := by
  refine ⟨fun r x hr => ?_, fun r r' x x' h1 h2 ha => ?_, fun r x hr => ?_⟩
  · rw [(e r x hr).2]; exact h.1 r x (e r x hr).1
  · rw [(e r x h1).2, (e r' x' h2).2] at ha
    exact h.2.1 _ _ _ _ (e r x h1).1 (e r' x' h2).1 ha
  · rw [(e r x hr).2]; exact h.2.2 r x (e r x hr).1
/-! what a method finds of the machine's own -/
def dz_nest : List Cond := [.fieldLinkNest "Delaylens" 254 "Delaylens$Source" "column" "I" "Delaylens", .fieldLinkNest "Delaylens" 257 "Delaylens$Source" "row" "I" "Delaylens", .fieldLinkNest "Delaylens$Album" 40 "Delaylens$Frame" "day" "I" "Delaylens", .fieldLinkNest "Delaylens$Source" 74 "Delaylens$Flare" "day" "I" "Delaylens", .fieldLinkNest "Delaylens$Source" 77 "Delaylens$Flare" "more" "I" "Delaylens", .fieldLinkNest "Delaylens$Source" 90 "Delaylens$Star" "rank" "I" "Delaylens",
  .methodLinkNest "Delaylens" 32 ⟨"Delaylens$Album", "<init>", "()V"⟩ "Delaylens", .methodLinkNest "Delaylens$Album" 71 ⟨"Delaylens", "isWithin", "(III)Z"⟩ "Delaylens", .methodLinkNest "Delaylens$Frame" 29 ⟨"Delaylens", "isWithin", "(III)Z"⟩ "Delaylens", .methodLinkNest "Delaylens$Rays" 67 ⟨"Delaylens", "isInField", "(II)Z"⟩ "Delaylens"]
theorem dz_nestW {w : Cond} (h : w ∈ dz_nest) {s U : State} (hW : s.WarmedH U.vm) (hZ : va_Nw w s) : va_Nw w U := by
  simp only [dz_nest, List.mem_cons, List.not_mem_nil, or_false] at h
  rcases h with rfl | rfl | rfl | rfl | rfl | rfl | rfl | rfl | rfl | rfl
  all_goals first | exact va_Nw.warmF hW hZ | exact va_Nw.warmM hW hZ
def dz_cast : List (String × String) := [("Delaylens$Mass", "java/lang/Object"), ("Delaylens$Source", "java/lang/Object"), ("Delaylens$Flare", "java/lang/Object"), ("Delaylens$Star", "java/lang/Object"), ("Delaylens$Frame", "java/lang/Object"), ("java/lang/IllegalArgumentException", "java/lang/IllegalArgumentException"), ("java/lang/IllegalStateException", "java/lang/IllegalStateException"), ("java/lang/IndexOutOfBoundsException", "java/lang/IndexOutOfBoundsException")]
/-- exceptions that a handler of another passes on -/
def dz_nc : List (String × String) := [("java/lang/IllegalArgumentException", "java/lang/IllegalStateException"), ("java/lang/IllegalArgumentException", "java/lang/IndexOutOfBoundsException"), ("java/lang/IllegalStateException", "java/lang/IllegalArgumentException"), ("java/lang/IllegalStateException", "java/lang/IndexOutOfBoundsException"), ("java/lang/IndexOutOfBoundsException", "java/lang/IllegalArgumentException"), ("java/lang/IndexOutOfBoundsException", "java/lang/IllegalStateException")]
def dz_dcl : List MethodName := [Bundle.initS "java/lang/RuntimeException", Bundle.initS "java/lang/Exception", Bundle.initS Bundle.tN]
def dz_strs : List (Nat × String) := [(101, "no such mass"), (104, "no cell of the field"), (109, "the mass cannot be two"), (115, "no such cell or light"), (124, "no room for a source"), (142, "no such source"), (144, "too much more or less light"), (146, "there were 40 flares"), (165, "no such source or image"), (167, "no such width or height"), (169, "there are 20 stars"), (178, "no such season"), (180, "no such number of days"), (182, "no such growth"), (187, "there are frames"), (196, "no frame can be taken"), (205, "days end at 2000"), (214, "no such house, source or image"), (216, "both images are the same"), (232, "no such mind"), (278, "no such thing is told of an image"), (293, "no such frame or source"), (295, "a frame has 6 images of a source"), (302, "both images are the same, or one is not in frames"), (304, "no such house"), (306, "the books are blind"), (314, "the house booked nothing"), (69, "no such shape, cell or strength"), (80, "there are 6 masses")]
def dz_X (Z : dzG) (U : State) : Prop := va_AO "java/lang/Object" U ∧ (∀ q ∈ dz_cast, va_Nw (.castable q.1 q.2) U) ∧ (∀ w ∈ dz_nest, va_Nw w U) ∧ (∀ q ∈ dz_strs, ∃ a : Nat, vk_R "Delaylens" q.1 q.2 a U) ∧ va_Dc U ∧ va_Mi "[Ljava/lang/Object;" (dzMi Z) U ∧ (∀ q ∈ dz_nc, va_Nc q.1 q.2 U) ∧ ∀ x ∈ dz_dcl, va_Nw (.declares x) U

theorem dz_X.go {Z : dzG} {s U : State} (hW : s.WarmedH U.vm) (h : dz_X Z s) : dz_X Z U := by
  obtain ⟨h1, h2, h3, h4, h5, h6, h7, h8⟩ := h
  refine ⟨h1.moved hW.alike, fun q hq => va_Nw.warmC hW (h2 q hq), fun w hw => dz_nestW hw hW (h3 w hw), fun q hq => ?_, h5.moved hW.alike, h6.moved hW.alike, fun q hq => (h7 q hq).moved hW.alike, fun x hx => va_Nw.warmD hW (h8 x hx)⟩
  obtain ⟨a, ha⟩ := h4 q hq
  exact ⟨a, vk_R.warm hW ha⟩
theorem dz_X.frame {Z : dzG} {U : State} {g : JFrame} {mk : MethodId} {a : Array Value} (h : dz_X Z U) : dz_X Z (U.calling g mk a) := by
  obtain ⟨h1, h2, h3, h4, h5, h6, h7, h8⟩ := h
  have al : U.vm.Alike (U.calling g mk a).vm := Vm.Alike.refl U.vm
  refine ⟨h1.moved al, fun q hq => va_Nw.same rfl rfl (h2 q hq), fun w hw => ?_, fun q hq => ?_, h5.moved al, h6.moved al, fun q hq => (h7 q hq).moved al, fun x hx => va_Nw.same rfl rfl (h8 x hx)⟩
  · have k := h3 w hw
    simp only [dz_nest, List.mem_cons, List.not_mem_nil, or_false] at hw
    rcases hw with rfl | rfl | rfl | rfl | rfl | rfl | rfl | rfl | rfl | rfl
    all_goals exact va_Nw.same rfl rfl k
  · obtain ⟨b, hb⟩ := h4 q hq
    exact ⟨b, vk_R.same rfl hb⟩
/-- what holds beside the world, of the tables of s and the heap H -/
def dz_E (Z : dzG) (s : State) (H : Heap) : Prop := va_K (dzD Z) vwCl (dzT Z) s ∧ dzB Z ≤ H.size ∧ va_Z "java/util/ArrayList" "DEFAULTCAPACITY_EMPTY_ELEMENTDATA" "[Ljava/lang/Object;" (.ref (dz0 Z)) (dz_A Z) s H ∧ (va_T (.object "java/lang/Object") (dz0 Z) 0 (fun _ => .null) (dz_A Z) s H ∧ dz0 Z < dzB Z) ∧ (vx_Zq Bundle.tN "UNASSIGNED_STACK" Bundle.steD (dz_A Z) s H ∧ vx_Zq Bundle.tN "SUPPRESSED_SENTINEL" Bundle.listD (dz_A Z) s H) ∧ dz_X Z s
theorem dz_E.moved {Z : dzG} {s U : State} {H : Heap} (hvm : s.vm.Alike U.vm) (hX : dz_X Z U) (h : dz_E Z s H) : dz_E Z U H := by
  obtain ⟨h1, h2, h3, h4, ⟨h5, h6⟩, -⟩ := h
  exact ⟨va_K.moved hvm h1, h2, h3.moved hvm, ⟨h4.1.moved hvm, h4.2⟩, ⟨h5.moved hvm, h6.moved hvm⟩, hX⟩
theorem dz_E.kept {Z : dzG} {s : State} {H0 H : Heap} {locs : List Loc} (h : dz_E Z s H0) (hS : va_S (dz_A Z) H0 H locs) : dz_E Z s H := by
  obtain ⟨h1, h2, h3, ⟨h4, h4'⟩, ⟨h5, h6⟩, h7⟩ := h
  have hq : ∀ a : Nat, a < H0.size → ¬ dz_A Z a → H[a]? = H0[a]? := fun a g1 g2 => hS.2.1 a g1 g2
  exact ⟨h1, Nat.le_trans h2 hS.1, h3.kept hq, ⟨h4.kept hq, h4'⟩, ⟨h5.kept hq, h6.kept hq⟩, h7⟩
/-- a state of the whole: the world G at the places ad, and the rest -/
def dz_U (Z : dzG) (G : dzW) (ad : dzA) (U : State) : Prop := dz_w Z G ad U.heap ∧ dz_E Z U U.heap
theorem dz_U.frame {Z : dzG} {G : dzW} {ad : dzA} {U : State} {g : JFrame} {mk : MethodId} {a : Array Value} (h : dz_U Z G ad U) : dz_U Z G ad (U.calling g mk a) := ⟨h.1, h.2.moved (U := U.calling g mk a) (Vm.Alike.refl U.vm) h.2.2.2.2.2.2.frame⟩
theorem dz_U.of {Z : dzG} {G : dzW} {ad : dzA} {s U : State} {H0 H : Heap} {locs : List Loc} (hE : dz_E Z s H0) (hS : va_S (dz_A Z) H0 H locs) (hG : dz_w Z G ad H) (hU : U.heap = H) (hW : s.WarmedH U.vm) : dz_U Z G ad U := by
  subst hU
  exact ⟨hG, (hE.kept hS).moved hW.alike (hE.2.2.2.2.2.go hW)⟩
abbrev dz_P (Z : dzG) (G : dzW) (ad : dzA) (av : List Value) : Array Value → State → Prop := va_Pc av (dz_U Z G ad)
theorem dz_P.blind {Z : dzG} {G : dzW} {ad : dzA} {av : List Value} : FrameBlind (dz_P Z G ad av) := fun _ _ _ _ q => ⟨q.1, q.2.frame⟩
theorem dz_P.pre {Z : dzG} {G : dzW} {ad : dzA} {av : List Value} {s : State} {H0 H : Heap} {locs : List Loc} (hE : dz_E Z s H0) (hS : va_S (dz_A Z) H0 H locs) (hG : dz_w Z G ad H) : PreS s H (dz_P Z G ad av) av := ⟨dz_P.blind, fun _ hU hW => ⟨rfl, dz_U.of hE hS hG hU hW⟩⟩
theorem dz_P.preV {Z : dzG} {G : dzW} {ad : dzA} {av : List Value} {s : State} {H0 H : Heap} {locs : List Loc} {r : dzR} {ci : Nat} {fs : List Value} {C : String} {T : u_T} {N : Nat} (hE : dz_E Z s H0) (hS : va_S (dz_A Z) H0 H locs) (hG : dz_w Z G ad H) (hr : G r = some (.inr (ci, fs))) (hc : vwCl[ci]? = some (C, T, N)) {a9 : Nat} (ha : ad r = a9) : PreV s H C a9 (dz_P Z G ad (.ref a9 :: av)) av := by
  subst ha
  exact ⟨dz_P.blind, va_recv hE.1 (hG.P hr) hc (q0 := 0) rfl, fun _ hU hW => ⟨rfl, dz_U.of hE hS hG hU hW⟩⟩
/-- rooms -/
abbrev dz_rm (fr lo mc ms : Nat) : Room := { frames := fr, cells := mc, slots := ms, locals := lo }
/-- a contract of a method that only reads: its answer -/
def dz_Q (v : Option Value) : Array Value → State → Outcome → State → Prop := fun _ st o t => o = .returned v ∧ t.heap = st.heap
abbrev dzRd (l : Launch) (y : MethodName) (ws : List Cond) (fr lo : Nat) (Z : dzG) (G : dzW) (ad : dzA) (av : List Value) (v : Option Value) : Prop := Met l y ws (dz_rm fr lo 0 0) (dz_P Z G ad av) (dz_Q v) 0 0 (fun _ => False)
/-- a contract of a method that writes, or makes cells: its answer f x, and the new world -/
def dz_M {α : Type} (Z : dzG) (f : α → Option Value) (Po : α → dzW → dzA → Prop) : Array Value → State → Outcome → State → Prop := fun _ st o t => (∃ (x : α) (G : dzW) (ad : dzA), o = .returned (f x) ∧ Po x G ad ∧ dz_U Z G ad t) ∧ va_F (dz_A Z) st t
abbrev dzWr {α : Type} (l : Launch) (y : MethodName) (ws : List Cond) (fr lo mc ms : Nat) (Z : dzG) (G : dzW) (ad : dzA) (av : List Value) (f : α → Option Value) (Po : α → dzW → dzA → Prop) : Prop := Met l y ws (dz_rm fr lo mc ms) (dz_P Z G ad av) (dz_M Z f Po) mc ms (dz_A Z)
abbrev rv_i : Int32 → Option Value := fun x => some (.int x)
abbrev rv_v : Unit → Option Value := fun _ => none
abbrev rv_r : Nat → Option Value := fun a => some (.ref a)
/-- one that may throw: the exception E with XP E, the world as it was -/
def dz_XC (Z : dzG) (G : dzW) (ad : dzA) (XP : String → Prop) : String → State → State → Prop := fun E st t => XP E ∧ dz_w Z G ad t.heap ∧ va_F (dz_A Z) st t
abbrev dzTh {α : Type} (l : Launch) (y : MethodName) (ws : List Cond) (fr lo mc ms : Nat) (Z : dzG) (G : dzW) (ad : dzA) (av : List Value) (f : α → Option Value) (Po : α → dzW → dzA → Prop) (XP : String → Prop) : Prop := vx_Met l y ws (dz_rm fr lo mc ms) (dz_P Z G ad av) (dz_M Z f Po) (dz_XC Z G ad XP) mc ms (dz_A Z)
section DZW
variable {p : Program} {l : Launch} {e : Env} {R : Room} {s : State} {m : MethodId} {args : Array Value} {below : List Frame} {meth : Method} {c : Code} {H : Heap} {locs : List Loc} {cells slots : Nat} {Q : State → Prop}
variable {cc : ByteArray} {pc : Nat} {ls : Array Slot} {rest st0 : List Value} {Z : dzG} {G : dzW} {ad : dzA} {r : dzR} {H0 : Heap}
/-! reading -/
theorem dz_get (hx : p.tables.exec = Jvm.exec) (hb : c.code = cc) {own ref C : String} {T : u_T} {N ci index : Nat} {Ts : List Cond} (hts : ∀ w ∈ Ts, w.before args s = true) (hin : ∀ w ∈ u_ws C T N, w ∈ Ts) (hown : s.vm.findClass own = some m.cls) (hE : dz_E Z s H0) (hG : dz_w Z G ad H) {a9 : Nat} (ha : ad r = a9) {fs : List Value} (he : G r = some (.inr (ci, fs))) (hc : vwCl[ci]? = some (C, T, N)) (k : Nat) (hk : k < N) (hlink : (Cond.fieldLink own index ref (T k).2.1 (T k).2.2.1).before args s = true) (hsame : ∀ x, s.fieldFound? (T k).1 (T k).2.1 (T k).2.2.1 = some x → s.fieldFound? ref (T k).2.1 (T k).2.2.1 = some x) {v : Value} (hv : fs[k]? = some v) (hdg : decode cc pc = .ok (.getfield index, 3))
    (kk : W p l e R s m args below meth c H locs cells slots Q (F0 m (pc + 3) ls (v :: rest))) : W p l e R s m args below meth c H locs cells slots Q (F0 m pc ls (.ref a9 :: rest)) := by
  subst ha
  exact va_get hx hb hts hin hown hE.1 (hG.P he) 0 rfl hc k hk hlink hsame hv hdg kk
theorem dz_getN (hx : p.tables.exec = Jvm.exec) (hb : c.code = cc) {own ref C host : String} {T : u_T} {N ci index : Nat} {Ts : List Cond} (hts : ∀ w ∈ Ts, w.before args s = true) (hin : ∀ w ∈ u_ws C T N, w ∈ Ts) (hown : s.vm.findClass own = some m.cls) (hE : dz_E Z s H0) (hG : dz_w Z G ad H) {a9 : Nat} (ha : ad r = a9) {fs : List Value} (he : G r = some (.inr (ci, fs))) (hc : vwCl[ci]? = some (C, T, N)) (k : Nat) (hk : k < N) (hlink : Cond.fieldLinkNest own index ref (T k).2.1 (T k).2.2.1 host ∈ dz_nest) (hsame : ∀ x, s.fieldFound? (T k).1 (T k).2.1 (T k).2.2.1 = some x → s.fieldFound? ref (T k).2.1 (T k).2.2.1 = some x) {v : Value} (hv : fs[k]? = some v) (hdg : decode cc pc = .ok (.getfield index, 3))
    (kk : W p l e R s m args below meth c H locs cells slots Q (F0 m (pc + 3) ls (v :: rest))) : W p l e R s m args below meth c H locs cells slots Q (F0 m pc ls (.ref a9 :: rest)) := by
  subst ha
  exact va_getN hx hb hts hin hown hE.1 (hG.P he) 0 rfl hc k hk (va_Nw.use rfl (hE.2.2.2.2.2.2.2.1 _ hlink)) hsame hv hdg kk
theorem dz_iald (hx : p.tables.exec = Jvm.exec) (hb : c.code = cc) (hE : dz_E Z s H0) (hG : dz_w Z G ad H) {a9 : Nat} (ha : ad r = a9) {n : Nat} {f : Nat → Int32} (he : G r = some (eI Z n f)) {i : Int32} (hin : vp_in i n) (hdg : decode cc pc = .ok (.iaload, 1))
    (kk : W p l e R s m args below meth c H locs cells slots Q (F0 m (pc + 1) ls (.int (f i.toNatClampNeg) :: rest))) : W p l e R s m args below meth c H locs cells slots Q (F0 m pc ls (.int i :: .ref a9 :: rest)) := by
  subst ha
  exact va_iald hx hb hE.1 (hG.P he) 0 0 rfl rfl hin hdg kk
theorem dz_lald (hx : p.tables.exec = Jvm.exec) (hb : c.code = cc) (hE : dz_E Z s H0) (hG : dz_w Z G ad H) {a9 : Nat} (ha : ad r = a9) {n : Nat} {f : Nat → Int64} (he : G r = some (eJ Z n f)) {i : Int32} (hin : vp_in i n) (hdg : decode cc pc = .ok (.laload, 1))
    (kk : W p l e R s m args below meth c H locs cells slots Q (F0 m (pc + 1) ls (.long (f i.toNatClampNeg) :: rest))) : W p l e R s m args below meth c H locs cells slots Q (F0 m pc ls (.int i :: .ref a9 :: rest)) := by
  subst ha
  exact va_lald hx hb hE.1 (hG.P he) 0 1 rfl rfl hin hdg kk
theorem dz_zald (hx : p.tables.exec = Jvm.exec) (hb : c.code = cc) (hE : dz_E Z s H0) (hG : dz_w Z G ad H) {a9 : Nat} (ha : ad r = a9) {n : Nat} {f : Nat → Int32} (he : G r = some (eZ Z n f)) {i : Int32} (hin : vp_in i n) (hdg : decode cc pc = .ok (.baload, 1))
    (kk : W p l e R s m args below meth c H locs cells slots Q (F0 m (pc + 1) ls (.int (f i.toNatClampNeg) :: rest))) : W p l e R s m args below meth c H locs cells slots Q (F0 m pc ls (.int i :: .ref a9 :: rest)) := by
  subst ha
  exact va_zald hx hb hE.1 (hG.P he) 0 2 rfl rfl hin hdg kk
theorem dz_aald (hx : p.tables.exec = Jvm.exec) (hb : c.code = cc) (hE : dz_E Z s H0) (hG : dz_w Z G ad H) {a9 : Nat} (ha : ad r = a9) {n : Nat} {f : Nat → Option Nat} (he : G r = some (eR Z n f)) {i : Int32} (hin : vp_in i n) (hdg : decode cc pc = .ok (.aaload, 1))
    (kk : W p l e R s m args below meth c H locs cells slots Q (F0 m (pc + 1) ls (va_rf (f i.toNatClampNeg) :: rest))) : W p l e R s m args below meth c H locs cells slots Q (F0 m pc ls (.int i :: .ref a9 :: rest)) := by
  subst ha
  exact va_aldq hx hb hE.1 (hG.P he) 0 3 rfl rfl hin hdg kk
theorem dz_alen (hx : p.tables.exec = Jvm.exec) (hb : c.code = cc) (hE : dz_E Z s H0) (hG : dz_w Z G ad H) {a9 : Nat} (ha : ad r = a9) {cA : Nat} {a : vp_A} (he : G r = some (.inl (cA, a))) (t0 : Nat) {ty : FieldType} (ht : (dzT Z)[t0]? = some (cA, ty)) (hdg : decode cc pc = .ok (.arraylength, 1))
    (kk : W p l e R s m args below meth c H locs cells slots Q (F0 m (pc + 1) ls (.int (nI a.1) :: rest))) : W p l e R s m args below meth c H locs cells slots Q (F0 m pc ls (.ref a9 :: rest)) := by
  subst ha
  exact va_alen hx hb hE.1 (hG.P he) 0 t0 rfl ht rfl hdg kk
/-- the empty list's array -/
theorem dz_alen0 (hx : p.tables.exec = Jvm.exec) (hb : c.code = cc) (hE : dz_E Z s H0) (hS : va_S (dz_A Z) H0 H locs) (hdg : decode cc pc = .ok (.arraylength, 1))
    (kk : W p l e R s m args below meth c H locs cells slots Q (F0 m (pc + 1) ls (.int 0 :: rest))) : W p l e R s m args below meth c H locs cells slots Q (F0 m pc ls (.ref (dz0 Z) :: rest)) := by
  obtain ⟨cell, g1, g2, -, -, g5, -, -⟩ := (hE.kept hS).2.2.2.1.1
  exact W.alen hx hb g1 g2 g5 rfl rfl hdg kk
/-! writing -/
theorem dz_put (hx : p.tables.exec = Jvm.exec) (hb : c.code = cc) {own ref C : String} {T : u_T} {N ci index : Nat} {Ts : List Cond} (hts : ∀ w ∈ Ts, w.before args s = true) (hin : ∀ w ∈ u_ws C T N, w ∈ Ts) (ty0 : Nat → FieldType) (hty : ∀ k, k < N → parseFieldDescriptor (T k).2.2.1 = some (ty0 k)) (hnm : ∀ a, a < N → ∀ b, b < N → a ≠ b → (T a).2.1 ≠ (T b).2.1) (hown : s.vm.findClass own = some m.cls) (hE : dz_E Z s H0) (hG : dz_w Z G ad H) {a9 : Nat} (ha : ad r = a9) (hS : va_S (dz_A Z) H0 H locs) {fs : List Value} (he : G r = some (.inr (ci, fs))) (hc : vwCl[ci]? = some (C, T, N)) (k : Nat) (hk : k < N) (hlink : (Cond.fieldLink own index ref (T k).2.1 (T k).2.2.1).before args s = true) (hsame : ∀ x, s.fieldFound? (T k).1 (T k).2.1 (T k).2.2.1 = some x → s.fieldFound? ref (T k).2.1 (T k).2.2.1 = some x) (hfin : (T k).2.2.2 = false) {ty : FieldType} {v : Value} (hd : parseFieldDescriptor (T k).2.2.1 = some ty) (hn : narrow ty v = v) (hfit : fits ty v = true) {fs' : List Value} (hfs : fs.set k v = fs') (hl : k < fs.length) (hdg : decode cc pc = .ok (.putfield index, 3))
    (kk : ∀ (H1 : Heap) (locs1 : List Loc), dz_w Z (dz_u G r (.inr (ci, fs'))) ad H1 → va_S (dz_A Z) H0 H1 locs1 → W p l e R s m args below meth c H1 locs1 cells slots Q (F0 m (pc + 3) ls rest)) : W p l e R s m args below meth c H locs cells slots Q (F0 m pc ls (v :: .ref a9 :: rest)) := by
  subst ha
  subst hfs
  have hap := va_apart (own := own) hts hin ty0 hty hnm hE.1 hc
  obtain ⟨r0, h1, cell, q1, q2, q3, q4⟩ := hG.1 _ _ he
  have hr : r0 = (C, T, N) := Option.some.inj (h1.symm.trans hc)
  subst hr
  obtain ⟨hSl, hfc, kC, hkC, hkind⟩ := hE.1.1 ci _ hc
  obtain ⟨cf, kf, fi, f, hi, hsl⟩ := hSl k hk
  have hlay := hts _ (hin _ (u_in_lay hk))
  unfold u_lay at hlay
  rw [if_neg (by rw [hfin]; decide)] at hlay
  have hst := (u_facts hfc hkC (u_lays hts hin hk) hi).1
  have h6 := u_store hfc hkC hkind hlay hi hd hn hfit
  refine W.putK hx hb (f := f) ⟨hown, hlink, ⟨_, _, _, hsame _ hi⟩, hst⟩ (by rw [q2]; exact h6) q1 q3 (by rw [hsl]; exact k2_hasslot (q4 k hk)) rfl rfl hdg fun H' e1 e2 e3 => ?_
  rw [hsl] at e1 ⊢
  exact kk H' _ (hG.put he ⟨_, hc, t_OB.to (V := updV (vp_V fs) k v) ⟨_, e1, q2, q3, t_set q4 hap hk v⟩ (fun j _ => vp_updV_set hl v j)⟩ e3) (hS.put e2 e3 (hG.2.2 _ _ he))
theorem dz_putF (hx : p.tables.exec = Jvm.exec) (hb : c.code = cc) {own ref C : String} {T : u_T} {N ci index : Nat} {Ts : List Cond} (hts : ∀ w ∈ Ts, w.before args s = true) (hin : ∀ w ∈ u_ws C T N, w ∈ Ts) (ty0 : Nat → FieldType) (hty : ∀ k, k < N → parseFieldDescriptor (T k).2.2.1 = some (ty0 k)) (hnm : ∀ a, a < N → ∀ b, b < N → a ≠ b → (T a).2.1 ≠ (T b).2.1) (hown : s.vm.findClass own = some m.cls) (hE : dz_E Z s H0) (hG : dz_w Z G ad H) {a9 : Nat} (ha : ad r = a9) (hS : va_S (dz_A Z) H0 H locs) {fs : List Value} (he : G r = some (.inr (ci, fs))) (hc : vwCl[ci]? = some (C, T, N)) (k : Nat) (hk : k < N) (hlink : (Cond.fieldLink own index ref (T k).2.1 (T k).2.2.1).before args s = true) (hsame : ∀ x, s.fieldFound? (T k).1 (T k).2.1 (T k).2.2.1 = some x → s.fieldFound? ref (T k).2.1 (T k).2.2.1 = some x) (hfin : (T k).2.2.2 = true) (hin2 : meth.name = "<init>") (hdecl : (T k).1 = own) {ty : FieldType} {v : Value} (hd : parseFieldDescriptor (T k).2.2.1 = some ty) (hn : narrow ty v = v) (hfit : fits ty v = true) {fs' : List Value} (hfs : fs.set k v = fs') (hl : k < fs.length) (hdg : decode cc pc = .ok (.putfield index, 3))
    (kk : ∀ (H1 : Heap) (locs1 : List Loc), dz_w Z (dz_u G r (.inr (ci, fs'))) ad H1 → va_S (dz_A Z) H0 H1 locs1 → W p l e R s m args below meth c H1 locs1 cells slots Q (F0 m (pc + 3) ls rest)) : W p l e R s m args below meth c H locs cells slots Q (F0 m pc ls (v :: .ref a9 :: rest)) := by
  subst ha
  subst hfs
  have hap := va_apart (own := own) hts hin ty0 hty hnm hE.1 hc
  obtain ⟨r0, h1, cell, q1, q2, q3, q4⟩ := hG.1 _ _ he
  have hr : r0 = (C, T, N) := Option.some.inj (h1.symm.trans hc)
  subst hr
  obtain ⟨hSl, hfc, kC, hkC, hkind⟩ := hE.1.1 ci _ hc
  obtain ⟨cf, kf, fi, f, hi, hsl⟩ := hSl k hk
  have hlay := hts _ (hin _ (u_in_lay hk))
  unfold u_lay at hlay
  rw [if_pos hfin] at hlay
  have hst := (u_facts hfc hkC (u_lays hts hin hk) hi).1
  have hcf : m.cls = cf := by
    obtain ⟨_, _, c', _, _, _, -, -, hf', -, -, -, hown2, -⟩ := Cond.laysFinal_spec hlay
    have e1 : c' = cf := by have := hi.symm.trans hf'; simp at this; exact this.1.symm
    rw [hdecl] at hown2
    rw [← e1]; exact Option.some.inj (hown.symm.trans hown2)
  have h6 := u_fits hfc hkC hkind (Or.inr hlay) hi hd hn hfit
  refine W.putFinK hx hb hown hlink (hsame _ hi) hst hcf hin2 (by rw [q2]; exact h6) q1 q3 (by rw [hsl]; exact k2_hasslot (q4 k hk)) rfl rfl hdg fun H' e1 e2 e3 => ?_
  rw [hsl] at e1 ⊢
  exact kk H' _ (hG.put he ⟨_, hc, t_OB.to (V := updV (vp_V fs) k v) ⟨_, e1, q2, q3, t_set q4 hap hk v⟩ (fun j _ => vp_updV_set hl v j)⟩ e3) (hS.put e2 e3 (hG.2.2 _ _ he))
theorem dz_iast (hx : p.tables.exec = Jvm.exec) (hb : c.code = cc) (hE : dz_E Z s H0) (hG : dz_w Z G ad H) {a9 : Nat} (ha : ad r = a9) (hS : va_S (dz_A Z) H0 H locs) {n : Nat} {f : Nat → Int32} (he : G r = some (eI Z n f)) {i x : Int32} (hin : vp_in i n) (hdg : decode cc pc = .ok (.iastore, 1))
    (kk : ∀ (H1 : Heap) (locs1 : List Loc), dz_w Z (dz_u G r (eI Z n (upd f i.toNatClampNeg x))) ad H1 → va_S (dz_A Z) H0 H1 locs1 → W p l e R s m args below meth c H1 locs1 cells slots Q (F0 m (pc + 1) ls rest)) : W p l e R s m args below meth c H locs cells slots Q (F0 m pc ls (.int x :: .int i :: .ref a9 :: rest)) := by
  subst ha
  have h0 : H[ad r]? = some (vp_cell (dzI Z) (n, .inl f)) := hG.1 _ _ he
  refine W.iast hx hb h0 ((hE.1.2 0 _ rfl).1 n (fun j => .int (f j))) (fun q => by cases q) (by show ¬ (i < 0 ∨ (arrV _ _ _).slots.size ≤ _); rw [arrV_size]; exact hin) rfl rfl hdg fun H1 e1 z oq => ?_
  refine kk H1 _ (hG.put he ?_ oq) (hS.put z oq (hG.2.2 _ _ he))
  show H1[ad r]? = some (vp_cell _ _)
  rw [e1, vp_cell_i, vp_cell_i, arrV_store]
  congr 2
  funext q
  by_cases hq : q = i.toNatClampNeg
  · subst hq
    simp [updV, upd]
  · simp [updV, upd, hq]
theorem dz_zast (hx : p.tables.exec = Jvm.exec) (hb : c.code = cc) (hE : dz_E Z s H0) (hG : dz_w Z G ad H) {a9 : Nat} (ha : ad r = a9) (hS : va_S (dz_A Z) H0 H locs) {n : Nat} {f : Nat → Int32} (he : G r = some (eZ Z n f)) {i x : Int32} (hin : vp_in i n) (hdg : decode cc pc = .ok (.bastore, 1))
    (kk : ∀ (H1 : Heap) (locs1 : List Loc), dz_w Z (dz_u G r (eZ Z n (upd f i.toNatClampNeg (vp_nar .boolean x)))) ad H1 → va_S (dz_A Z) H0 H1 locs1 → W p l e R s m args below meth c H1 locs1 cells slots Q (F0 m (pc + 1) ls rest)) : W p l e R s m args below meth c H locs cells slots Q (F0 m pc ls (.int x :: .int i :: .ref a9 :: rest)) := by
  subst ha
  have h0 : H[ad r]? = some (vp_cell (dzZ Z) (n, .inl f)) := hG.1 _ _ he
  refine W.zast hx hb h0 ((hE.1.2 2 _ rfl).1 n (fun j => .int (f j))) (fun q => by cases q) (by show ¬ (i < 0 ∨ (arrV _ _ _).slots.size ≤ _); rw [arrV_size]; exact hin) rfl rfl hdg fun H1 e1 z oq => ?_
  refine kk H1 _ (hG.put he ?_ oq) (hS.put z oq (hG.2.2 _ _ he))
  show H1[ad r]? = some (vp_cell _ _)
  rw [e1, vp_cell_i, vp_cell_i, arrV_store]
  congr 2
  funext q
  by_cases hq : q = i.toNatClampNeg
  · subst hq
    simp [updV, upd, vp_nar]
    try rfl
  · simp [updV, upd, hq]
theorem dz_last (hx : p.tables.exec = Jvm.exec) (hb : c.code = cc) (hE : dz_E Z s H0) (hG : dz_w Z G ad H) {a9 : Nat} (ha : ad r = a9) (hS : va_S (dz_A Z) H0 H locs) {n : Nat} {f : Nat → Int64} (he : G r = some (eJ Z n f)) {i : Int32} {x : Int64} (hin : vp_in i n) (hdg : decode cc pc = .ok (.lastore, 1))
    (kk : ∀ (H1 : Heap) (locs1 : List Loc), dz_w Z (dz_u G r (eJ Z n (vp_updL f i.toNatClampNeg x))) ad H1 → va_S (dz_A Z) H0 H1 locs1 → W p l e R s m args below meth c H1 locs1 cells slots Q (F0 m (pc + 1) ls rest)) : W p l e R s m args below meth c H locs cells slots Q (F0 m pc ls (.long x :: .int i :: .ref a9 :: rest)) := by
  subst ha
  have h0 : H[ad r]? = some (vp_cell (dzJ Z) (n, .inr (.inl f))) := hG.1 _ _ he
  refine W.last hx hb h0 ((hE.1.2 1 _ rfl).1 n (fun j => .long (f j))) (fun q => by cases q) (by show ¬ (i < 0 ∨ (arrV _ _ _).slots.size ≤ _); rw [arrV_size]; exact hin) rfl rfl hdg fun H1 e1 z oq => ?_
  refine kk H1 _ (hG.put he ?_ oq) (hS.put z oq (hG.2.2 _ _ he))
  show H1[ad r]? = some (vp_cell _ _)
  rw [e1, vp_cell_l, vp_cell_l, arrV_store]
  congr 2
  funext q
  by_cases hq : q = i.toNatClampNeg
  · subst hq
    simp [updV, vp_updL]
  · simp [updV, vp_updL, hq]
theorem dz_aastN (hx : p.tables.exec = Jvm.exec) (hb : c.code = cc) (hE : dz_E Z s H0) (hG : dz_w Z G ad H) {a9 : Nat} (ha : ad r = a9) (hS : va_S (dz_A Z) H0 H locs) {n : Nat} {f : Nat → Option Nat} (he : G r = some (eR Z n f)) {i : Int32} (hin : vp_in i n) (hdg : decode cc pc = .ok (.aastore, 1))
    (kk : ∀ (H1 : Heap) (locs1 : List Loc), dz_w Z (dz_u G r (eR Z n (va_up f i.toNatClampNeg none))) ad H1 → va_S (dz_A Z) H0 H1 locs1 → W p l e R s m args below meth c H1 locs1 cells slots Q (F0 m (pc + 1) ls rest)) : W p l e R s m args below meth c H locs cells slots Q (F0 m pc ls (.null :: .int i :: .ref a9 :: rest)) := by
  subst ha
  have h0 : H[ad r]? = some (vp_cell (dzO Z) (n, .inr (.inr (.inr (.inr f))))) := hG.1 _ _ he
  refine va_WaastN (C := "java/lang/Object") hx hb h0 ((hE.1.2 3 _ rfl).1 n (fun j => va_rf (f j))) (fun h => by cases h) (by show ¬ (i < 0 ∨ (arrV _ _ _).slots.size ≤ _); rw [arrV_size]; exact hin) rfl rfl hdg fun H1 e1 z oq => ?_
  refine kk H1 _ (hG.put he ?_ oq) (hS.put z oq (hG.2.2 _ _ he))
  show H1[ad r]? = some (vp_cell _ _)
  rw [e1, vp_cell_q, vp_cell_q, arrV_store]
  congr 2
  funext q
  by_cases hq : q = i.toNatClampNeg
  · subst hq
    simp [updV, va_up, va_rf]
  · simp [updV, va_up, hq]
theorem dz_aast (hx : p.tables.exec = Jvm.exec) (hb : c.code = cc) (hE : dz_E Z s H0) (hG : dz_w Z G ad H) {a9 : Nat} (ha : ad r = a9) (hS : va_S (dz_A Z) H0 H locs) {n : Nat} {f : Nat → Option Nat} (he : G r = some (eR Z n f)) {v : Nat} (hr : ∃ C : String, (C, "java/lang/Object") ∈ dz_cast ∧ ∃ cellV : Cell, H[v]? = some cellV ∧ cellV.vm.isStatics = false ∧ s.vm.findClass C = some cellV.cls) {i : Int32} (hin : vp_in i n) (hdg : decode cc pc = .ok (.aastore, 1))
    (kk : ∀ (H1 : Heap) (locs1 : List Loc), dz_w Z (dz_u G r (eR Z n (va_up f i.toNatClampNeg (some v)))) ad H1 → va_S (dz_A Z) H0 H1 locs1 → W p l e R s m args below meth c H1 locs1 cells slots Q (F0 m (pc + 1) ls rest)) : W p l e R s m args below meth c H locs cells slots Q (F0 m pc ls (.ref v :: .int i :: .ref a9 :: rest)) := by
  subst ha
  have h0 : H[ad r]? = some (vp_cell (dzO Z) (n, .inr (.inr (.inr (.inr f))))) := hG.1 _ _ he
  obtain ⟨C, hC, cellV, g1, g2, g3⟩ := hr
  obtain ⟨kC, hkC, -⟩ := Vm.findClass_spec g3
  have hasg := vb_asgC (hE.2.2.2.2.2.2.1 _ hC)
  obtain ⟨kA, comp, k1, k2, k3, -⟩ := (hE.1.2 3 _ rfl).2
  have hlt : i.toNatClampNeg < n := Nat.not_le.mp fun q => hin (Or.inr q)
  have hi0 : ¬ i < 0 := fun q => hin (Or.inl q)
  obtain ⟨kE, hkE, -⟩ := Vm.findClass_spec k3
  refine W.aast hx hb h0 (fun q h => by cases h) (fun h => by cases h) k1 k2 rfl hkE ⟨hi0, by show _ < (arrV _ _ _).slots.size; rw [arrV_size]; exact hlt⟩ g1 (fun q h => by rw [h] at g2; cases g2) hkC (hasg comp cellV.cls k3 g3) rfl rfl hdg fun H1 e1 z oq => ?_
  refine kk H1 _ (hG.put he ?_ oq) (hS.put z oq (hG.2.2 _ _ he))
  show H1[ad r]? = some (vp_cell _ _)
  rw [e1, vp_cell_q, vp_cell_q, arrV_store]
  congr 2
  funext q
  by_cases hq : q = i.toNatClampNeg
  · subst hq
    simp [updV, va_up, va_rf]
  · simp [updV, va_up, hq]
/-! making -/
theorem dz_new {c0 : Code} (hx : p.tables.exec = Jvm.exec) (hb : c0.code = cc) {own C : String} {T : u_T} {N ci index : Nat} {Ts : List Cond} (hts : ∀ w ∈ Ts, w.before args s = true) (hin : ∀ w ∈ u_ws C T N, w ∈ Ts) (ty : Nat → FieldType) (hty : ∀ k, k < N → parseFieldDescriptor (T k).2.2.1 = some (ty k)) (hown : s.vm.findClass own = some m.cls) (hcl : (Cond.classLink own index C).before args s = true) (hinst : (Cond.instantiable C N).before args s = true) (hini : (Cond.initialized C).before args s = true)
    (hE : dz_E Z s H0) (hG : dz_w Z G ad H) (hS : va_S (dz_A Z) H0 H locs) (r : dzR) (hc : vwCl[ci]? = some (C, T, N)) {fs : List Value} (hfs : ∀ j, j < N → defaultValue (ty j) = vp_V fs j) (hcells : cells + 1 ≤ R.cells) (hslots : slots + N ≤ R.slots) (hdg : decode cc pc = .ok (.new index, 3))
    (kk : ∀ (q : Nat) (H1 : Heap), dz_w Z (dz_u G r (.inr (ci, fs))) (dz_a ad r q) H1 → va_S (dz_A Z) H0 H1 locs →
      W p l e R s m args below meth c0 H1 locs (cells + 1) (slots + N) Q (F0 m (pc + 3) ls (.ref q :: rest))) : W p l e R s m args below meth c0 H locs cells slots Q (F0 m pc ls rest) := by
  have hKn := hE.1.1 ci _ hc
  refine W.newcK hx hb hown hcl hinst hini rfl hdg hcells hslots hKn.2.1 rfl fun H1 kC hkC e1 z1 o1 => ?_
  exact kk H.size H1 (hG.new (H1 := H1) (e := .inr (ci, fs)) rfl (Nat.le_trans hE.2.1 hS.1) ⟨_, hc, (u_born ty hts hin hKn hkC e1 hty).to hfs⟩ o1 r) ⟨Nat.le_trans hS.1 (by omega), fun x h1 h2 => (o1 x (Nat.lt_of_lt_of_le h1 hS.1)).trans (hS.2.1 x h1 h2), hS.2.2⟩
/-- a new array of a kind whose class the tables' row t0 has -/
theorem dz_newa (hx : p.tables.exec = Jvm.exec) (hb : c.code = cc) {atype : ArrayType} (harr : (Cond.arrayClass (newarray.typeOf atype)).before args s = true) (hE : dz_E Z s H0) (hG : dz_w Z G ad H) (hS : va_S (dz_A Z) H0 H locs) (r : dzR)
    {n : Int32} {N' : Nat} {a0 : vp_A} {cA : Nat} (t0 : Nat) (ht : (dzT Z)[t0]? = some (cA, newarray.typeOf atype)) (ha : vp_cell cA a0 = arrV cA N' (fun _ => defaultValue (newarray.typeOf atype))) (hn : ¬ n < 0) (hN : n.toNatClampNeg = N') (hbytes : N' * componentBytes (newarray.typeOf atype) ≤ 536870912) (hcells : cells + 1 ≤ R.cells) (hslots : slots + N' ≤ R.slots) (hdg : decode cc pc = .ok (.newarray atype, 2))
    (kk : ∀ (q : Nat) (H1 : Heap), dz_w Z (dz_u G r (.inl (cA, a0))) (dz_a ad r q) H1 → va_S (dz_A Z) H0 H1 locs →
      W p l e R s m args below meth c H1 locs (cells + 1) (slots + N') Q (F0 m (pc + 2) ls (.ref q :: rest))) : W p l e R s m args below meth c H locs cells slots Q (F0 m pc ls (.int n :: rest)) := by
  refine va_newaK hx hb harr rfl hdg rfl hn hN hbytes hcells hslots rfl fun H1 cB e1 z1 o1 hAr hNm => ?_
  have hcc : cA = cB := by
    have h3 : s.vm.findClass ("[" ++ (newarray.typeOf atype).toString) = some cA := by
      have h4 := (hE.1.2 t0 _ ht).2
      cases atype <;> exact h4
    exact Option.some.inj (h3.symm.trans hNm)
  subst hcc
  refine kk H.size H1 (hG.new rfl (Nat.le_trans hE.2.1 hS.1) ?_ o1 r) ⟨Nat.le_trans hS.1 (by omega), fun x h1 h2 => (o1 x (Nat.lt_of_lt_of_le h1 hS.1)).trans (hS.2.1 x h1 h2), hS.2.2⟩
  show H1[H.size]? = some (vp_cell _ _)
  rw [ha]
  exact e1
theorem dz_newq (hx : p.tables.exec = Jvm.exec) (hb : c.code = cc) {own : String} {index : Nat} (hown : s.vm.findClass own = some m.cls) (hclink : (Cond.classLink own index "java/lang/Object").before args s = true) (hE : dz_E Z s H0) (hG : dz_w Z G ad H) (hS : va_S (dz_A Z) H0 H locs) (r : dzR)
    {n : Int32} {N' : Nat} (hn : ¬ n < 0) (hN : n.toNatClampNeg = N') (hbytes : N' * 4 ≤ 536870912) (hcells : cells + 1 ≤ R.cells) (hslots : slots + N' ≤ R.slots) (hdg : decode cc pc = .ok (.anewarray index, 3))
    (kk : ∀ (q : Nat) (H1 : Heap), dz_w Z (dz_u G r (eR Z N' (fun _ => none))) (dz_a ad r q) H1 → va_S (dz_A Z) H0 H1 locs →
      W p l e R s m args below meth c H1 locs (cells + 1) (slots + N') Q (F0 m (pc + 3) ls (.ref q :: rest))) : W p l e R s m args below meth c H locs cells slots Q (F0 m pc ls (.int n :: rest)) := by
  subst hN
  refine W.anew hx hb hown hclink (va_AO.use hE.2.2.2.2.2.1) rfl hdg rfl hn hbytes hcells hslots fun cA kA comp f1 f2 f3 f4 => ?_
  generalize hH1 : H.push ({ cls := cA, slots := Array.replicate n.toNatClampNeg .null, vm := .none } : Cell) = H1
  have z1 : H1.size = H.size + 1 := by rw [← hH1, Array.size_push]
  have e1 : H1[H.size]? = some (arrV cA n.toNatClampNeg (fun _ => .null)) := by rw [← hH1, Array.getElem?_push_size, ← arrV_new]
  have o1 : ∀ q : Nat, q < H.size → H1[q]? = H[q]? := fun q hq => by rw [← hH1, Array.getElem?_push, if_neg (Nat.ne_of_lt hq)]
  have hcc : cA = dzO Z := by
    obtain ⟨-, -, -, -, -, h4⟩ := (hE.1.2 3 _ rfl).2
    exact Option.some.inj (f1.symm.trans h4)
  subst hcc
  refine kk H.size H1 (hG.new rfl (Nat.le_trans hE.2.1 hS.1) ?_ o1 r) ⟨Nat.le_trans hS.1 (by omega), fun x h1 h2 => (o1 x (Nat.lt_of_lt_of_le h1 hS.1)).trans (hS.2.1 x h1 h2), hS.2.2⟩
  show H1[H.size]? = some (vp_cell _ _)
  rw [vp_cell_q]
  exact e1
/-- a cast to the object's own class -/
theorem dz_cst (hx : p.tables.exec = Jvm.exec) (hb : c.code = cc) {own C : String} {T : u_T} {N ci index : Nat} (hown : s.vm.findClass own = some m.cls) (hlink : (Cond.classLink own index C).before args s = true) (hE : dz_E Z s H0) (hG : dz_w Z G ad H) {a9 : Nat} (ha : ad r = a9) {fs : List Value} (he : G r = some (.inr (ci, fs))) (hc : vwCl[ci]? = some (C, T, N)) (hdg : decode cc pc = .ok (.checkcast index, 3))
    (k : W p l e R s m args below meth c H locs cells slots Q (F0 m (pc + 3) ls (.ref a9 :: rest))) : W p l e R s m args below meth c H locs cells slots Q (F0 m pc ls (.ref a9 :: rest)) := by
  subst ha
  exact va_castS hx hb hown hlink (hE.1.1 ci _ hc).2 (va_recv hE.1 (hG.P he) hc (q0 := 0) rfl) hdg k
/-! calls -/
theorem dz_kR {v : Option Value} {av : Array Value} (hr : va_Run p l e R s m args below meth c H locs cells slots 0 0 (F0 m pc ls st0) rest (dz_Q v av) (fun _ => False))
    (kk : W p l e R s m args below meth c H locs cells slots Q (F0 m (pc + 3) ls (v.toList ++ rest))) : W p l e R s m args below meth c H locs cells slots Q (F0 m pc ls st0) := by
  intro T hT X
  obtain ⟨v', st₀, t, T', L, h0, X', hL, e1, e2, ⟨hv, hh⟩, st⟩ := hr T hT X
  cases hv
  obtain ⟨t2, a1, b1⟩ := kk T' (by rw [e1, hh, h0]) (Stand.forget X' (fun q h => (hL q h).elim))
  exact ⟨t2, st t2 a1, b1⟩
theorem dz_kM {α : Type} {f : α → Option Value} {Po : α → dzW → dzA → Prop} {av : Array Value} {mc ms : Nat} (hr : va_Run p l e R s m args below meth c H locs cells slots mc ms (F0 m pc ls st0) rest (dz_M Z f Po av) (dz_A Z)) (hS : va_S (dz_A Z) H0 H locs)
    (kk : ∀ (x : α) (G' : dzW) (ad' : dzA) (H1 : Heap) (locs1 : List Loc), Po x G' ad' → dz_w Z G' ad' H1 → va_S (dz_A Z) H0 H1 locs1 → W p l e R s m args below meth c H1 locs1 (cells + mc) (slots + ms) Q (F0 m (pc + 3) ls ((f x).toList ++ rest))) : W p l e R s m args below meth c H locs cells slots Q (F0 m pc ls st0) := by
  intro T hT X
  obtain ⟨v', st₀, t, T', L, h0, X', hL, e1, e2, ⟨⟨x, G', ad', hv, hp, hU⟩, hF⟩, st⟩ := hr T hT X
  cases hv
  obtain ⟨-, -, k3⟩ := vx_keep (A1 := dz_A Z) h0 e1 hS (fun q _ h => h) (fun q h => h) hL hF
  obtain ⟨t2, a1, b1⟩ := kk x G' ad' T'.heap (locs ++ L) hp (by rw [e1]; exact hU.1) k3 T' rfl X'
  exact ⟨t2, st t2 a1, b1⟩
theorem dz_kRi {x : Int32} {av : Array Value} (hr : va_Run p l e R s m args below meth c H locs cells slots 0 0 (F0 m pc ls st0) rest (dz_Q (some (.int x)) av) (fun _ => False))
    (kk : W p l e R s m args below meth c H locs cells slots Q (F0 m (pc + 3) ls (.int x :: rest))) : W p l e R s m args below meth c H locs cells slots Q (F0 m pc ls st0) := dz_kR hr kk
theorem dz_kRr {x : Nat} {av : Array Value} (hr : va_Run p l e R s m args below meth c H locs cells slots 0 0 (F0 m pc ls st0) rest (dz_Q (some (.ref x)) av) (fun _ => False))
    (kk : W p l e R s m args below meth c H locs cells slots Q (F0 m (pc + 3) ls (.ref x :: rest))) : W p l e R s m args below meth c H locs cells slots Q (F0 m pc ls st0) := dz_kR hr kk
theorem dz_kRq {x : Option Nat} {av : Array Value} (hr : va_Run p l e R s m args below meth c H locs cells slots 0 0 (F0 m pc ls st0) rest (dz_Q (some (va_rf x)) av) (fun _ => False))
    (kk : W p l e R s m args below meth c H locs cells slots Q (F0 m (pc + 3) ls (va_rf x :: rest))) : W p l e R s m args below meth c H locs cells slots Q (F0 m pc ls st0) := dz_kR hr kk
theorem dz_kRn {av : Array Value} (hr : va_Run p l e R s m args below meth c H locs cells slots 0 0 (F0 m pc ls st0) rest (dz_Q (some .null) av) (fun _ => False))
    (kk : W p l e R s m args below meth c H locs cells slots Q (F0 m (pc + 3) ls (.null :: rest))) : W p l e R s m args below meth c H locs cells slots Q (F0 m pc ls st0) := dz_kR hr kk
theorem dz_kMi {Po : Int32 → dzW → dzA → Prop} {av : Array Value} {mc ms : Nat} (hr : va_Run p l e R s m args below meth c H locs cells slots mc ms (F0 m pc ls st0) rest (dz_M Z rv_i Po av) (dz_A Z)) (hS : va_S (dz_A Z) H0 H locs)
    (kk : ∀ (x : Int32) (G' : dzW) (ad' : dzA) (H1 : Heap) (locs1 : List Loc), Po x G' ad' → dz_w Z G' ad' H1 → va_S (dz_A Z) H0 H1 locs1 → W p l e R s m args below meth c H1 locs1 (cells + mc) (slots + ms) Q (F0 m (pc + 3) ls (.int x :: rest))) : W p l e R s m args below meth c H locs cells slots Q (F0 m pc ls st0) := dz_kM hr hS kk
theorem dz_kMv {Po : Unit → dzW → dzA → Prop} {av : Array Value} {mc ms : Nat} (hr : va_Run p l e R s m args below meth c H locs cells slots mc ms (F0 m pc ls st0) rest (dz_M Z rv_v Po av) (dz_A Z)) (hS : va_S (dz_A Z) H0 H locs)
    (kk : ∀ (G' : dzW) (ad' : dzA) (H1 : Heap) (locs1 : List Loc), Po () G' ad' → dz_w Z G' ad' H1 → va_S (dz_A Z) H0 H1 locs1 → W p l e R s m args below meth c H1 locs1 (cells + mc) (slots + ms) Q (F0 m (pc + 3) ls rest)) : W p l e R s m args below meth c H locs cells slots Q (F0 m pc ls st0) := dz_kM hr hS (fun _ => kk)
theorem dz_kMr {Po : Nat → dzW → dzA → Prop} {av : Array Value} {mc ms : Nat} (hr : va_Run p l e R s m args below meth c H locs cells slots mc ms (F0 m pc ls st0) rest (dz_M Z rv_r Po av) (dz_A Z)) (hS : va_S (dz_A Z) H0 H locs)
    (kk : ∀ (x : Nat) (G' : dzW) (ad' : dzA) (H1 : Heap) (locs1 : List Loc), Po x G' ad' → dz_w Z G' ad' H1 → va_S (dz_A Z) H0 H1 locs1 → W p l e R s m args below meth c H1 locs1 (cells + mc) (slots + ms) Q (F0 m (pc + 3) ls (.ref x :: rest))) : W p l e R s m args below meth c H locs cells slots Q (F0 m pc ls st0) := dz_kM hr hS kk
/-! a place where roads meet; loops -/
theorem dz_cut {α : Type} {P : α → Prop} (f : α → JFrame) {g : JFrame} (h1 : ∀ v, P v → W p l e R s m args below meth c H locs cells slots Q (f v)) (h2 : (∀ v, P v → W p l e R s m args below meth c H locs cells slots Q (f v)) → W p l e R s m args below meth c H locs cells slots Q g) : W p l e R s m args below meth c H locs cells slots Q g := h2 h1
theorem dz_lp {α : Type} (μ : α → Nat) (I : α → Prop) (f : α → JFrame) (hs : ∀ a, I a → (∀ b, μ b < μ a → I b → W p l e R s m args below meth c H locs cells slots Q (f b)) → W p l e R s m args below meth c H locs cells slots Q (f a)) (a0 : α) (h0 : I a0) : W p l e R s m args below meth c H locs cells slots Q (f a0) := by
  have key : ∀ (n : Nat) (a : α), μ a < n → I a → W p l e R s m args below meth c H locs cells slots Q (f a) := by
    intro n
    induction n with
    | zero => intro a h; omega
    | succ n ih => exact fun a h hI => hs a hI (fun b hb hIb => ih b (by omega) hIb)
  exact key (μ a0 + 1) a0 (by omega) h0
/-- a loop that writes -/
theorem dz_lw {α : Type} (μ : α → Nat) (I : α → Heap → List Loc → Prop) (f : α → JFrame) (hs : ∀ (a : α) (H : Heap) (locs : List Loc), I a H locs → (∀ (b : α) (H' : Heap) (locs' : List Loc), μ b < μ a → I b H' locs' → W p l e R s m args below meth c H' locs' cells slots Q (f b)) → W p l e R s m args below meth c H locs cells slots Q (f a)) (a0 : α) (h0 : I a0 H locs) : W p l e R s m args below meth c H locs cells slots Q (f a0) := by
  have key : ∀ (n : Nat) (a : α) (H : Heap) (locs : List Loc), μ a < n → I a H locs → W p l e R s m args below meth c H locs cells slots Q (f a) := by
    intro n
    induction n with
    | zero => intro a H locs h; omega
    | succ n ih => exact fun a H locs h hI => hs a H locs hI (fun b H' locs' hb hIb => ih b H' locs' (by omega) hIb)
  exact key (μ a0 + 1) a0 H locs (by omega) h0
/-! ends -/
theorem dz_end {args : Array Value} {v : Option Value} {H : Heap} {t : State} (hH : H = s.heap) (ht : t.heap = H) : dz_Q v args s (.returned v) t := ⟨rfl, ht.trans hH⟩
theorem dz_endM {α : Type} {f : α → Option Value} {Po : α → dzW → dzA → Prop} {av : Array Value} (x : α) (hE : dz_E Z s s.heap) (hS : va_S (dz_A Z) s.heap H locs) (hG : dz_w Z G ad H) (hp : Po x G ad) {t : State} (ht : t.heap = H) (hW : s.WarmedH t.vm) : dz_M Z f Po av s (.returned (f x)) t := ⟨⟨x, G, ad, rfl, hp, dz_U.of hE hS hG ht hW⟩, hS.F ht⟩
end DZW
