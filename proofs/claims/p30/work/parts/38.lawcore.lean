/-! THE LAW'S WRAPPERS: a method with handlers that returns; a call that throws for sure -/
theorem dz_ofWH {l : Launch} {y : MethodName} {ws ws' : List Cond} {rm : Room} {Pc : Array Value → State → Prop} {Qc : Array Value → State → Outcome → State → Prop} {mc ms : Nat} {free : Addr → Prop} {cc : ByteArray} {maxL : Nat} {ret : Option FieldType} {hh : List (Nat × Nat × Nat × Nat)}
    (hy : plainName y.cls = true) (hw : ws = Cond.codeWith y cc maxL ret hh :: ws')
    (body : ∀ p e s m args below meth c s₁, BodyLoose p l y (headSpec ws rm) cc maxL ret e s m args below meth c s₁ → c.maxLocals = maxL → Pc args s →
      W p l e (headSpec ws rm).room s m args below meth c s.heap [] 0 0 (MQ below Qc args s mc ms free) (entryFrame m args maxL)) : Met l y ws rm Pc Qc mc ms free := by
  refine MetFree.of_bodyS (code := cc) (maxLocals := maxL) (ret := ret) hy ?_ ?_
  · intro args s m h hn
    obtain ⟨m9, meth, c, hn9, h1, h2, h3, h4, -, h5, h6, -⟩ := Cond.codeWith_spec (atoms_spec (ws := ws) h _ (by rw [hw]; exact List.mem_cons_self))
    cases hn.symm.trans hn9
    exact ⟨meth, c, h1, h2, h3, h4, h5, h6⟩
  · intro p e s m args below meth c s₁ B hml hP _
    have hh0 : s₁.heap = s.heap := by rw [B.state]; rfl
    obtain ⟨t, a1, o, b1, b2, b3⟩ := body p e s m args below meth c s₁ B hml hP s₁ hh0 (Stand.of_body B)
    exact ⟨t, o, a1, b1, b2, b3⟩
section DZK
variable {p : Program} {l : Launch} {e : Env} {R : Room} {s : State} {m : MethodId} {args : Array Value} {below : List Frame} {meth : Method} {c : Code} {H H0 : Heap} {locs : List Loc} {cells slots : Nat} {Q : State → Prop} {Z : dzG} {G : dzW} {ad : dzA} {ls : Array Slot} {pc : Nat} {st0 rest : List Value}
theorem dz_kX {XP : String → Prop} {av : Array Value} {mc ms : Nat} (hr : vx_Run p l e R s m args below meth c H locs cells slots mc ms (F0 m pc ls st0) rest ((fun (_ : Array Value) (_ : State) (_ : Outcome) (_ : State) => False) av) (dz_XC Z G ad XP) (dz_A Z)) (hS : va_S (dz_A Z) H0 H locs)
    (kk : ∀ (E : String) (q : Nat) (ce : Cell) (H1 : Heap) (locs1 : List Loc), XP E → dz_w Z G ad H1 → va_S (dz_A Z) H0 H1 locs1 → H1[q]? = some ce → ce.vm = .none → s.vm.findClass E = some ce.cls → vx_W p l e R s m args below meth c H1 locs1 (cells + mc) (slots + ms) Q (F0 m pc ls rest) q) : W p l e R s m args below meth c H locs cells slots Q (F0 m pc ls st0) := by
  intro T hT X
  rcases hr T hT X with ⟨v, st₀, t, T', L, h0, X', hL, e1, e2, hq, st⟩ | ⟨q, st₀, t, T', L, E, ce, h0, X', hL, e1, e2, hXC, hce, hcv, hcl, st⟩
  · exact hq.elim
  · obtain ⟨hp, hw, hF⟩ := hXC
    obtain ⟨-, -, k3⟩ := vx_keep (A1 := dz_A Z) h0 e1 hS (fun q _ h => h) (fun q h => h) hL hF
    obtain ⟨t2, a1, b1⟩ := kk E q ce T'.heap (locs ++ L) hp (by rw [e1]; exact hw) k3 (by rw [e1]; exact hce) hcv hcl T' rfl X'
    exact ⟨t2, st.trans a1, b1⟩
end DZK
/-- what only reads, told as what writes -/
theorem dz_RW {l : Launch} {y : MethodName} {ws : List Cond} {fr lo : Nat} {Z : dzG} {G : dzW} {ad : dzA} {av : List Value} {x : Int32} (h : dzRd l y ws fr lo Z G ad av (some (.int x))) : dzWr l y ws fr lo 0 0 Z G ad av rv_i (fun (y : Int32) G1 ad1 => y = x ∧ G1 = G ∧ ad1 = ad) := by
  intro p e ha hf1 hf2 s m args below hfr hap hP hK
  obtain ⟨n, o, h1, h2, h3, ⟨h4, h5⟩, L, h6, h7⟩ := h p e ha hf1 hf2 s m args below hfr hap hP hK
  exact ⟨n, o, h1, h2, h3, ⟨⟨x, G, ad, h4, ⟨rfl, rfl, rfl⟩, dz_U.of hP.2.2 va_S.rf hP.2.1 h5 h6.2.1⟩, Nat.le_of_eq (by rw [h5]), fun q _ _ => by rw [h5]⟩, L, h6, fun q hq => (h7 q hq).elim⟩
