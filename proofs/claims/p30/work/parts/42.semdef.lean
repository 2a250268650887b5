/-! THE WHOLE STATE -/
abbrev eCO (ad : dzA) (nl nx : Nat) (dy ssf sst cfr grw : Int32) : va_E := eO 9 [.ref (ad (2, 0)), .ref (ad (9, 0)), .int (nI nl), .int (nI nx), .ref (ad (19, 0)), .ref (ad (26, 0)), .int dy, .int ssf, .int sst, .int cfr, .int grw]
/-- the images of source i, by the masses -/
abbrev m_ix (nm : Nat) (f3 f4 f5 f6 f12 f13 : Nat → Int32) (i : Nat) : Nat × (Nat → Int32) := m_im (m_bc nm f3 f4 f5 f6) (m_br nm f3 f4 f5 f6) (m_tw nm f3 f4 f5 f6) f12 f13 i
/-- the class -/
def dz_Cl (Z : dzG) (G : dzW) (ad : dzA) (aX : Nat) (nm ns nl nx nf : Nat) (dy ssf sst cfr grw bkk iop : Int32) (f3 f4 f5 f6 f12 f13 f14 f16 f17 f18 f20 f21 f22 f23 f24 f30 f31 f33 f34 f35 : Nat → Int32) : Prop :=
  ad (1, 0) = aX ∧ G (1, 0) = some (eCO ad nl nx dy ssf sst cfr grw) ∧ dz_Rm Z G ad nm f3 f4 f5 f6 ∧ (G (5, 0) = some (eI Z 484 (m_tc nm f3 f4 f5 f6)) ∧ G (6, 0) = some (eI Z 484 (m_tr nm f3 f4 f5 f6)) ∧ G (7, 0) = some (eI Z 484 (m_tw nm f3 f4 f5 f6))) ∧ dz_L Z G ad (9, 0) (10, 0) ns (fun i => ad (11, i)) ∧ dz_So G ad ns (fun i => (m_ix nm f3 f4 f5 f6 f12 f13 i).1) f12 f13 f14 ∧ (∃ pl : Nat → Nat → Int32, dz_Pl Z G ns pl ∧ ∀ i k, i < ns → k < (m_ix nm f3 f4 f5 f6 f12 f13 i).1 → pl i k = (m_ix nm f3 f4 f5 f6 f12 f13 i).2 k) ∧ dz_Fl Z G ad ns (fun i => (m_fi f16 (nI i) nl).length) (fun i j => (m_fi f16 (nI i) nl).getD j 0) f17 f18 ∧ dz_St Z G ad ns (fun i => (m_fi f20 (nI i) nx).length) (fun i j => (m_fi f20 (nI i) nx).getD j 0) f21 f22 f23 f24 ∧ (∃ lg : Nat → Nat → Int32, dz_Fr Z G ad nf f30 lg ∧ ∀ i x, i < nf → x < 30 → lg i x = f31 (30 * i + x)) ∧ (∃ (S : Nat → Int64) (Q : Nat → Int32), G (22, 0) = some (eJ Z 151 S) ∧ G (23, 0) = some (eI Z 151 Q)) ∧ G (26, 0) = some (eO 2 [.ref (ad (27, 0)), .ref (ad (28, 0)), .int bkk, .ref (ad (29, 0)), .int iop]) ∧ G (27, 0) = some (eI Z 2 f33) ∧ G (28, 0) = some (eI Z 2 f34) ∧ G (29, 0) = some (eZ Z 5 f35)
theorem dz_Cl.frame {Z : dzG} {G G' : dzW} {ad ad' : dzA} {aX : Nat} {nm ns nl nx nf : Nat} {dy ssf sst cfr grw bkk iop : Int32} {f3 f4 f5 f6 f12 f13 f14 f16 f17 f18 f20 f21 f22 f23 f24 f30 f31 f33 f34 f35 : Nat → Int32} (h : dz_Cl Z G ad aX nm ns nl nx nf dy ssf sst cfr grw bkk iop f3 f4 f5 f6 f12 f13 f14 f16 f17 f18 f20 f21 f22 f23 f24 f30 f31 f33 f34 f35) (f : ∀ r : dzR, r.1 < 39 → G' r = G r ∧ ad' r = ad r) : dz_Cl Z G' ad' aX nm ns nl nx nf dy ssf sst cfr grw bkk iop f3 f4 f5 f6 f12 f13 f14 f16 f17 f18 f20 f21 f22 f23 f24 f30 f31 f33 f34 f35 := by
  obtain ⟨ca, co, cR, ⟨c5, c6, c7⟩, cl, cs, ⟨pl, cp, cpe⟩, cf, ct, ⟨lg, cF, cFe⟩, ⟨S, Q, cS, cQ⟩, cb, c27, c28, c29⟩ := h
  refine ⟨(f _ (by decide)).2.trans ca, ?_, cR.frame (fun r h => f r (by omega)) (fun r h => (f r (by omega)).2), ⟨(f _ (by decide)).1.trans c5, (f _ (by decide)).1.trans c6, (f _ (by decide)).1.trans c7⟩, (cl.frame (f _ (by decide)).1 (f _ (by decide))).el (fun i _ => (f (11, i) (by show 11 < 39; decide)).2), cs.frame (fun r h => f r (by omega)) (fun r h => (f r (by omega)).2), ⟨pl, cp.frame (fun r h => f r (by omega)), cpe⟩, cf.frame (fun r h => f r (by omega)), ct.frame (fun r h => f r (by omega)), ⟨lg, cF.frame (fun r h => f r (by omega)) (fun r h => (f r (by omega)).2), cFe⟩, ⟨S, Q, (f _ (by decide)).1.trans cS, (f _ (by decide)).1.trans cQ⟩, ?_, (f _ (by decide)).1.trans c27, (f _ (by decide)).1.trans c28, (f _ (by decide)).1.trans c29⟩
  · unfold eCO at co ⊢
    rw [(f (1, 0) (by decide)).1, (f (2, 0) (by decide)).2, (f (9, 0) (by decide)).2, (f (19, 0) (by decide)).2, (f (26, 0) (by decide)).2]
    exact co
  · rw [(f (26, 0) (by decide)).1, (f (27, 0) (by decide)).2, (f (28, 0) (by decide)).2, (f (29, 0) (by decide)).2]
    exact cb
/-- the numbers' bounds -/
def dz_Bd (nm ns nl nx nf : Nat) (dy grw iop : Int32) (f4 f5 f6 f14 f16 f18 f20 f22 f23 f24 f30 f31 : Nat → Int32) : Prop := (nm ≤ 6 ∧ m_ok nm f4 f5 ∧ ∀ k, k < nm → 1 ≤ f6 k ∧ f6 k ≤ 8) ∧ (ns ≤ 5 ∧ ∀ i, i < ns → 1 ≤ f14 i ∧ f14 i ≤ 100) ∧ (nl ≤ 40 ∧ ∀ k, k < nl → (-100 ≤ f18 k ∧ f18 k ≤ 100) ∧ ∃ i, i < ns ∧ f16 k = nI i) ∧ (nx ≤ 20 ∧ ∀ k, k < nx → (∃ i, i < ns ∧ f20 k = nI i) ∧ (0 ≤ f22 k ∧ f22 k ≤ 2000) ∧ (1 ≤ f23 k ∧ f23 k ≤ 50) ∧ (1 ≤ f24 k ∧ f24 k ≤ 1000)) ∧ (nf ≤ 60 ∧ (∀ i, i + 1 = nf → f30 i ≤ dy) ∧ (∀ j, j < 30 * nf → f31 j = -1 ∨ (0 ≤ f31 j ∧ f31 j ≤ 118400)) ∧ ∀ i x, i < nf → x < 30 → ns ≤ x / 6 → f31 (30 * i + x) = -1) ∧ (0 ≤ dy ∧ dy ≤ 2000) ∧ (40 ≤ grw ∧ grw ≤ 100) ∧ m_bl iop
theorem dz_po {α : Type} {l : Launch} {y : MethodName} {ws : List Cond} {fr lo mc ms : Nat} {Z : dzG} {G : dzW} {ad : dzA} {av : List Value} {f : α → Option Value} {Po Po' : α → dzW → dzA → Prop} (h : dzWr l y ws fr lo mc ms Z G ad av f Po) (k : ∀ x G1 ad1, Po x G1 ad1 → Po' x G1 ad1) : dzWr l y ws fr lo mc ms Z G ad av f Po' := by
  intro p e ha hf1 hf2 s m args below hfr hap hP hK
  obtain ⟨n, o, h1, h2, h3, ⟨⟨x, G1, ad1, h4, h5, h6⟩, h7⟩, L, h8, h9⟩ := h p e ha hf1 hf2 s m args below hfr hap hP hK
  exact ⟨n, o, h1, h2, h3, ⟨⟨x, G1, ad1, h4, k _ _ _ h5, h6⟩, h7⟩, L, h8, h9⟩
/-- a contract in a wider room -/
theorem dz_wide {α : Type} {l : Launch} {y : MethodName} {ws : List Cond} {fr lo mc ms fr' lo' mc' ms' : Nat} {Z : dzG} {G : dzW} {ad : dzA} {av : List Value} {f : α → Option Value} {Po : α → dzW → dzA → Prop} (h : dzWr l y ws fr lo mc ms Z G ad av f Po) (q1 : fr ≤ fr') (q2 : lo ≤ lo') (q3 : mc ≤ mc') (q4 : ms ≤ ms') : dzWr l y ws fr' lo' mc' ms' Z G ad av f Po := by
  intro p e ha hf1 hf2 s m args below hfr hap hP hK
  obtain ⟨a1, a2, a3, a4, a5, a6, a7, a8⟩ := (Spec.appliesLoose_iff hfr).mp hap
  have r : s.hasRoom e.platform (dz_rm fr lo mc ms) = true := by
    simp only [State.hasRoom, Bool.and_eq_true, decide_eq_true_eq] at a7 ⊢
    obtain ⟨⟨⟨⟨k1, k2, k3, k4, k5, k6⟩, k7⟩, k8⟩, k9⟩ := a7
    simp only [headSpec] at k1 k2 k3 k4 k5 k7 k8
    refine ⟨⟨⟨⟨?_, ?_, ?_, ?_, ?_, k6⟩, ?_⟩, ?_⟩, k9⟩
    all_goals (first | exact Nat.le_trans (by omega) k1 | exact Nat.le_trans (by omega) k2 | exact Nat.le_trans (by omega) k3 | exact Nat.le_trans (by omega) k4 | exact Nat.le_trans (by omega) k5 | exact Nat.le_trans (by omega) k7 | exact Nat.le_trans (by omega) k8)
  obtain ⟨n, o, h1, h2, h3, hq, L, hF, hL⟩ := h p e ha hf1 hf2 s m args below hfr ((Spec.appliesLoose_iff hfr).mpr ⟨a1, a2, a3, a4, a5, a6, r, a8⟩) hP hK
  refine ⟨n, o, h1, h2, h3, hq, L, ⟨hF.1, hF.2.1, ?_⟩, hL⟩
  obtain ⟨e1, e2, e3, e4, e5, e6⟩ := hF.2.2
  exact ⟨e1, e2, Nat.le_trans e3 (Nat.add_le_add_left q3 _), e4, Nat.le_trans e5 q4, e6⟩
theorem dz_wideR {l : Launch} {y : MethodName} {ws : List Cond} {fr lo fr' lo' : Nat} {Z : dzG} {G : dzW} {ad : dzA} {av : List Value} {v : Option Value} (h : dzRd l y ws fr lo Z G ad av v) (q1 : fr ≤ fr') (q2 : lo ≤ lo') : dzRd l y ws fr' lo' Z G ad av v := by
  intro p e ha hf1 hf2 s m args below hfr hap hP hK
  obtain ⟨a1, a2, a3, a4, a5, a6, a7, a8⟩ := (Spec.appliesLoose_iff hfr).mp hap
  have r : s.hasRoom e.platform (dz_rm fr lo 0 0) = true := by
    simp only [State.hasRoom, Bool.and_eq_true, decide_eq_true_eq] at a7 ⊢
    obtain ⟨⟨⟨⟨k1, k2, k3, k4, k5, k6⟩, k7⟩, k8⟩, k9⟩ := a7
    simp only [headSpec] at k1 k2 k3 k4 k5 k7 k8
    refine ⟨⟨⟨⟨?_, ?_, ?_, ?_, ?_, k6⟩, ?_⟩, ?_⟩, k9⟩
    all_goals (first | exact Nat.le_trans (by omega) k1 | exact Nat.le_trans (by omega) k2 | exact Nat.le_trans (by omega) k3 | exact Nat.le_trans (by omega) k4 | exact Nat.le_trans (by omega) k5 | exact Nat.le_trans (by omega) k7 | exact Nat.le_trans (by omega) k8)
  exact h p e ha hf1 hf2 s m args below hfr ((Spec.appliesLoose_iff hfr).mpr ⟨a1, a2, a3, a4, a5, a6, r, a8⟩) hP hK
/-- a wrapper's contract: its answer, the law's own cells as they were, the class as it is now -/
abbrev lw_C (l : Launch) (yL : MethodName) (wsL : List Cond) (frL loL mcL msL : Nat) (Z : dzG) (G : dzW) (ad : dzA) (AL : List Value) (v : Int32) (Cl' : dzW → dzA → Prop) : Prop := dzWr l yL wsL frL loL mcL msL Z G ad AL rv_i (fun x G1 ad1 => x = v ∧ (∀ r : dzR, r.1 = 60 → G1 r = G r ∧ ad1 r = ad r) ∧ Cl' G1 ad1)
/-- the numbers of a sky: counts, single numbers, rows -/
abbrev lwS : Type := (Nat → Nat) × (Nat → Int32) × (Nat → Nat → Int32)
def lwMk (nm ns nl nx nf : Nat) (dy ssf sst cfr grw bkk iop : Int32) (f3 f4 f5 f6 f12 f13 f14 f16 f17 f18 f20 f21 f22 f23 f24 f30 f31 f33 f34 f35 : Nat → Int32) : lwS := (fun k => match k with | 0 => nm | 1 => ns | 2 => nl | 3 => nx | 4 => nf | _ => 0, fun k => match k with | 0 => dy | 1 => ssf | 2 => sst | 3 => cfr | 4 => grw | 5 => bkk | 6 => iop | _ => 0, fun k => match k with | 3 => f3 | 4 => f4 | 5 => f5 | 6 => f6 | 12 => f12 | 13 => f13 | 14 => f14 | 16 => f16 | 17 => f17 | 18 => f18 | 20 => f20 | 21 => f21 | 22 => f22 | 23 => f23 | 24 => f24 | 30 => f30 | 31 => f31 | 33 => f33 | 34 => f34 | 35 => f35 | _ => fun _ => 0)
def lwC (Z : dzG) (G : dzW) (ad : dzA) (aX : Nat) (S : lwS) : Prop := dz_Cl Z G ad aX (S.1 0) (S.1 1) (S.1 2) (S.1 3) (S.1 4) (S.2.1 0) (S.2.1 1) (S.2.1 2) (S.2.1 3) (S.2.1 4) (S.2.1 5) (S.2.1 6) (S.2.2 3) (S.2.2 4) (S.2.2 5) (S.2.2 6) (S.2.2 12) (S.2.2 13) (S.2.2 14) (S.2.2 16) (S.2.2 17) (S.2.2 18) (S.2.2 20) (S.2.2 21) (S.2.2 22) (S.2.2 23) (S.2.2 24) (S.2.2 30) (S.2.2 31) (S.2.2 33) (S.2.2 34) (S.2.2 35)
theorem lwC.frame {Z : dzG} {G G' : dzW} {ad ad' : dzA} {aX : Nat} {S : lwS} (h : lwC Z G ad aX S) (f : ∀ r : dzR, r.1 < 39 → G' r = G r ∧ ad' r = ad r) : lwC Z G' ad' aX S := dz_Cl.frame h f
theorem lwC.obj {Z : dzG} {G : dzW} {ad : dzA} {aX : Nat} {S : lwS} (h : lwC Z G ad aX S) : ad (1, 0) = aX ∧ ∃ fs, G (1, 0) = some (.inr (9, fs)) := ⟨h.1, _, h.2.1⟩
theorem lwC.mk {Z : dzG} {G : dzW} {ad : dzA} {aX : Nat} {nm ns nl nx nf : Nat} {dy ssf sst cfr grw bkk iop : Int32} {f3 f4 f5 f6 f12 f13 f14 f16 f17 f18 f20 f21 f22 f23 f24 f30 f31 f33 f34 f35 : Nat → Int32} (h : dz_Cl Z G ad aX nm ns nl nx nf dy ssf sst cfr grw bkk iop f3 f4 f5 f6 f12 f13 f14 f16 f17 f18 f20 f21 f22 f23 f24 f30 f31 f33 f34 f35) : lwC Z G ad aX (lwMk nm ns nl nx nf dy ssf sst cfr grw bkk iop f3 f4 f5 f6 f12 f13 f14 f16 f17 f18 f20 f21 f22 f23 f24 f30 f31 f33 f34 f35) := h
/-- the bounds of a sky's numbers -/
def lwB (S : lwS) : Prop := dz_Bd (S.1 0) (S.1 1) (S.1 2) (S.1 3) (S.1 4) (S.2.1 0) (S.2.1 4) (S.2.1 6) (S.2.2 4) (S.2.2 5) (S.2.2 6) (S.2.2 14) (S.2.2 16) (S.2.2 18) (S.2.2 20) (S.2.2 22) (S.2.2 23) (S.2.2 24) (S.2.2 30) (S.2.2 31) ∧ ∀ i, i < S.1 1 → ((-10 ≤ S.2.2 12 i ∧ S.2.2 12 i ≤ 10) ∧ (-10 ≤ S.2.2 13 i ∧ S.2.2 13 i ≤ 10))
theorem lwB.mk {nm ns nl nx nf : Nat} {dy ssf sst cfr grw bkk iop : Int32} {f3 f4 f5 f6 f12 f13 f14 f16 f17 f18 f20 f21 f22 f23 f24 f30 f31 f33 f34 f35 : Nat → Int32} (h : dz_Bd nm ns nl nx nf dy grw iop f4 f5 f6 f14 f16 f18 f20 f22 f23 f24 f30 f31) (h2 : ∀ i, i < ns → ((-10 ≤ f12 i ∧ f12 i ≤ 10) ∧ (-10 ≤ f13 i ∧ f13 i ≤ 10))) : lwB (lwMk nm ns nl nx nf dy ssf sst cfr grw bkk iop f3 f4 f5 f6 f12 f13 f14 f16 f17 f18 f20 f21 f22 f23 f24 f30 f31 f33 f34 f35) := ⟨h, h2⟩
abbrev s_ix (S : lwS) (i : Nat) : Nat × (Nat → Int32) := m_ix (S.1 0) (S.2.2 3) (S.2.2 4) (S.2.2 5) (S.2.2 6) (S.2.2 12) (S.2.2 13) i
abbrev s_tc (S : lwS) : Nat → Int32 := m_tc (S.1 0) (S.2.2 3) (S.2.2 4) (S.2.2 5) (S.2.2 6)
abbrev s_tr (S : lwS) : Nat → Int32 := m_tr (S.1 0) (S.2.2 3) (S.2.2 4) (S.2.2 5) (S.2.2 6)
abbrev s_tw (S : lwS) : Nat → Int32 := m_tw (S.1 0) (S.2.2 3) (S.2.2 4) (S.2.2 5) (S.2.2 6)
