/-! THE CLAIM OUT OF ONE WALK OF THE LAW'S BODY. Your part is whole_start (and what it stands on); all else here is the same for every law, but numbers. -/
def R_law : String := "DelaylensLaw"
def lw_P (b : Addr) (xs : List Int32) (args : Array Value) (s : State) : Prop := args = #[.ref b] ∧ s.IntsAt b xs ∧ xs.length ≤ 2560 ∧ (Jvm.Cond.and given_1 narrow_1).before args s = true
def lw_Q (_ : Array Value) (s : State) (o : Outcome) (t : State) : Prop := o = .returned (some (.int 1)) ∧ Framed s o t [] 601024 7293034
def lw_Z (below : List Frame) (a : Array Value) (s : State) : State → Prop := fun t => ∃ o, t.status = .running ∧ Ended t below o ∧ lw_Q a s o t
/-- the law's own end, with 1 on the stack, nothing written that was there before, its room as the claim has it -/
theorem lw_ret {p : Program} {l : Launch} {e : Env} {s : State} {m : MethodId} {below : List Frame} {meth : Method} {c : Code} {b : Nat} (hx : p.tables.exec = Jvm.exec) (hb : c.code = code) (hr : meth.sig.returnType = ret) (hlocks : meth.locks = false) {pc : Nat} {H : Heap} {ls : Array Slot} (hdg : decode code pc = .ok (.ireturn, 1)) : W p l e room_1 s m #[Value.ref b] below meth c H [] 601024 7293034 (lw_Z below #[Value.ref b] s) (F0 m pc ls [.int 1]) := by
  intro T hT X
  obtain ⟨fs, hret, hrun, hended, hW, hframe⟩ := X.leave (v := some (.int 1)) (hlocks := hlocks) (fun h => by rw [hr] at h; cases h)
  have hmeth' : T.vm.method? m = some meth := X.method'
  refine ⟨T.setFrames fs, ?_, .returned (some (.int 1)), hrun, hended, rfl, ⟨_, rfl⟩, hW, hframe⟩
  jvm_step X.here [X.here.top, hx, hb, hdg, hmeth', hr, ret, narrow_b1]
  (try refine ⟨rfl, ?_⟩); (try refine ⟨rfl, ?_⟩)
  first | (intro acts; rw [hret _ acts rfl rfl rfl]) | rw [hret _ _ rfl rfl rfl]
  exact Steps.refl _
theorem lw_rX {Z : dzG} {aX aM aO : Nat} {G : dzW} {ad : dzA} (h : lwI Z aX aM aO G ad) : ((∃ fs, G (1, 0) = some (.inr (9, fs))) ∧ ad (1, 0) = aX) ∧ ((∃ fs, G (39, 0) = some (.inr (10, fs))) ∧ ad (39, 0) = aM) := by
  obtain ⟨nm, ns, nl, nx, nf, th, dy, ssf, sst, cfr, grw, bkk, iop, f3, f4, f5, f6, f12, f13, f14, f16, f17, f18, f20, f21, f22, f23, f24, f30, f31, f33, f34, f35, fo, ⟨c1, c2, -⟩, ⟨m1, ⟨my, m2⟩, -⟩, -⟩ := h
  exact ⟨⟨⟨_, c2⟩, c1⟩, ⟨⟨_, m2⟩, m1⟩⟩
theorem lw_lt {k L : Nat} (hk : k ≤ 2560) (hL : L ≤ 2560) : (nI L - 5 < nI k) ↔ L < k + 5 := by
  have h5 : (5 : Int32).toInt = 5 := by decide
  have hL1 := nI_toInt (n := L) (by omega)
  have hk1 := nI_toInt (n := k) (by omega)
  have h1 : (nI L - 5).toInt = (L : Int) - 5 := by
    rw [Jvm.Kit.i32_sub (by rw [hL1, h5]; omega) (by rw [hL1, h5]; omega), hL1, h5]
  rw [Int32.lt_iff_toInt_lt, h1, hk1]
  omega
set_option maxHeartbeats 4000000 in
set_option maxRecDepth 100000 in
theorem lw_loop {p : Program} {l : Launch} {e : Env} {s : State} {m : MethodId} {below : List Frame} {meth : Method} {c : Code} {b L : Nat} {xs : Nat → Int32} {Z : dzG} (hst : l.stackTraces = false) (K : lw_K p s m c b L xs Z) (hr : meth.sig.returnType = ret) (hlocks : meth.locks = false) {aX aM aO : Nat} :
    ∀ (n k : Nat), L < k + n → k ≤ L → ∀ (G : dzW) (ad : dzA) (H : Heap) (locs : List Loc) (ls : Array Slot), lwI Z aX aM aO G ad → dz_w Z G ad H → va_S (dz_A Z) s.heap H locs → lv_has ls 7 [(4, .int (nI k)), (3, .ref aO), (2, .ref aM), (1, .ref aX), (0, .ref b)] → W p l e room_1 s m #[Value.ref b] below meth c H locs (100 + 4 * k) (7000 + 140 * k) (lw_Z below #[Value.ref b] s) (F0 m 23 ls []) := by
  obtain ⟨hx, hb, hml, hown, hts, hX, hbl, hB, hE, hL9⟩ := id K
  have hbA : ¬ dz_A Z b := by show ¬ dzB Z ≤ b; omega
  intro n
  induction n with
  | zero => intro k h1 h2; exact absurd h1 (by omega)
  | succ n ih =>
    intro k hn hkL G ad H locs ls hI hG hS hl
    refine lv_iload hx hb dL_law_23 (lv_at hl 0 rfl) ?_
    refine lv_aload_n hx hb dL_law_25 rfl (lv_at hl 4 rfl) ?_
    refine va_slen hx hb hX hbl hbA hS dL_law_26 ?_
    refine lv_iconst (v := 5) hx hb dL_law_27 (by decide) ?_
    refine lv_isub hx hb dL_law_28 ?_
    refine lv_icmp_gt (tgt := 1867) hx hb dL_law_29 (by decide) (fun c_1 => ?_) (fun c_1 => ?_)
    · refine lv_iconst (v := 1) hx hb dL_law_1867 (by decide) ?_
      refine va_forget (fun q hq => by have := hS.2.2 q hq; rw [← hB]; exact this) ?_
      refine W.widen (k := 601024) (n := 7293034) (by omega) (by omega) ?_
      exact lw_ret hx hb hr hlocks dL_law_1868
    · have hk : k + 5 ≤ L := by
        rcases Nat.lt_or_ge L (k + 5) with q | q
        · exact absurd ((lw_lt (by omega) (by omega)).mpr q) c_1
        · exact q
      have hce : 100 + 4 * k + 20 ≤ 601024 := by omega
      have hsl : 7000 + 140 * k + 700 ≤ 7293034 := by omega
      have tail : ∀ (G2 : dzW) (ad2 : dzA) (H2 : Heap) (locs2 : List Loc) (ls2 : Array Slot), lwI Z aX aM aO G2 ad2 → dz_w Z G2 ad2 H2 → va_S (dz_A Z) s.heap H2 locs2 → lv_has ls2 7 [(4, .int (nI k)), (3, .ref aO), (2, .ref aM), (1, .ref aX), (0, .ref b)] → W p l e room_1 s m #[Value.ref b] below meth c H2 locs2 (100 + 4 * k + 20) (7000 + 140 * k + 700) (lw_Z below #[Value.ref b] s) (F0 m 1861 ls2 []) := by
        intro G2 ad2 H2 locs2 ls2 hI2 hG2 hS2 hl2
        obtain ⟨v9, ev9⟩ : ∃ y : Int32, y = nI k + 5 := ⟨_, rfl⟩
        refine lv_iinc (v := v9) (lv' := [(4, .int v9), (3, .ref aO), (2, .ref aM), (1, .ref aX), (0, .ref b)]) hx hb dL_law_1861 hl2 (k := 0) rfl (by rw [ev9]; rfl) (by decide) rfl (fun ls hl => ?_)
        refine lv_goto (tgt := 23) hx hb dL_law_1864 (by decide) ?_
        obtain rfl : v9 = nI (k + 5) := ev9.trans (show nI k + nI 5 = nI (k + 5) from nI_add _ _)
        exact W.widen (by omega) (by omega) (ih (k + 5) (by omega) hk G2 ad2 H2 locs2 ls hI2 hG2 hS2 hl)
      obtain ⟨hXr, hMr⟩ := lw_rX hI
      refine lv_aload_n hx hb dL_law_32 rfl (lv_at hl 4 rfl) ?_
      refine lv_iload hx hb dL_law_33 (lv_at hl 0 rfl) ?_
      refine va_sld hx hb hX hbl hbA hS (vp_in_nI (by omega) (by omega)) dL_law_35 ?_
      refine lv_bipush (v := 31) hx hb dL_law_36 (by decide) ?_
      refine lv_iand hx hb dL_law_38 ?_
      refine lv_topi (fun q1 eq1 => ?_)
      obtain ⟨j, hj, ej⟩ := pk_andE (xs (nI k).toNatClampNeg) (m := 31) 5 (by decide)
      obtain rfl : q1 = nI j := eq1.trans ej
      have h27 : j = 0 ∨ j = 1 ∨ j = 2 ∨ j = 3 ∨ j = 4 ∨ j = 5 ∨ j = 6 ∨ j = 7 ∨ j = 8 ∨ j = 9 ∨ j = 10 ∨ j = 11 ∨ j = 12 ∨ j = 13 ∨ j = 14 ∨ j = 15 ∨ j = 16 ∨ j = 17 ∨ j = 18 ∨ j = 19 ∨ j = 20 ∨ j = 21 ∨ j = 22 ∨ j = 23 ∨ j = 24 ∨ j = 25 ∨ j = 26 ∨ 27 ≤ j := by omega
      rcases h27 with rfl | rfl | rfl | rfl | rfl | rfl | rfl | rfl | rfl | rfl | rfl | rfl | rfl | rfl | rfl | rfl | rfl | rfl | rfl | rfl | rfl | rfl | rfl | rfl | rfl | rfl | rfl | h27
      · refine lv_tableIn (off := 121) (tgt := 160) hx hb dL_law_39 (by decide) (by decide) (by decide) (by decide) ?_
        exact lw_s_mass K hk hl hG hS hce hsl (st_mass l hst hI (xs (k + 1)) (xs (k + 2)) (xs (k + 3)) (xs (k + 4))) tail
      · refine lv_tableIn (off := 213) (tgt := 252) hx hb dL_law_39 (by decide) (by decide) (by decide) (by decide) ?_
        exact lw_s_two K hk hl hG hS hce hsl (st_two l hst hI (xs (k + 1)) (xs (k + 2)) (xs (k + 3))) tail
      · refine lv_tableIn (off := 293) (tgt := 332) hx hb dL_law_39 (by decide) (by decide) (by decide) (by decide) ?_
        exact lw_s_source K hk hl hG hS hce hsl (st_source l hst hI (xs (k + 1)) (xs (k + 2)) (xs (k + 3))) tail
      · refine lv_tableIn (off := 373) (tgt := 412) hx hb dL_law_39 (by decide) (by decide) (by decide) (by decide) ?_
        exact lw_s_flare K hk hl hG hS hce hsl (st_flare l hst hI (xs (k + 1)) (xs (k + 2))) tail
      · refine lv_tableIn (off := 441) (tgt := 480) hx hb dL_law_39 (by decide) (by decide) (by decide) (by decide) ?_
        obtain ⟨cv9, q9⟩ := st_cross l hst hI (xs (k + 1)) (xs (k + 2)) (xs (k + 3)) (xs (k + 4))
        exact lw_s_cross K hk hl hG hS hce hsl q9 tail
      · refine lv_tableIn (off := 513) (tgt := 552) hx hb dL_law_39 (by decide) (by decide) (by decide) (by decide) ?_
        obtain ⟨cv9, q9⟩ := st_season l hst hI (xs (k + 1)) (xs (k + 2))
        exact lw_s_season K hk hl hG hS hce hsl q9 tail
      · refine lv_tableIn (off := 561) (tgt := 600) hx hb dL_law_39 (by decide) (by decide) (by decide) (by decide) ?_
        exact lw_s_cloud K hk hl hG hS hce hsl (st_cloud l hst hI (xs (k + 1))) tail
      · refine lv_tableIn (off := 617) (tgt := 656) hx hb dL_law_39 (by decide) (by decide) (by decide) (by decide) ?_
        exact lw_s_world K hk hl hG hS hce hsl (st_world l hst hI (xs (k + 1))) tail
      · refine lv_tableIn (off := 673) (tgt := 712) hx hb dL_law_39 (by decide) (by decide) (by decide) (by decide) ?_
        exact lw_s_frame K hk hl hG hS hce hsl (st_frame l hst hI) tail
      · refine lv_tableIn (off := 717) (tgt := 756) hx hb dL_law_39 (by decide) (by decide) (by decide) (by decide) ?_
        exact lw_s_pass K hk hl hG hS hce hsl (st_pass l hst hI (xs (k + 1))) tail
      · refine lv_tableIn (off := 773) (tgt := 812) hx hb dL_law_39 (by decide) (by decide) (by decide) (by decide) ?_
        exact lw_s_book K hk hl hG hS hce hsl (st_book l hst hI (xs (k + 1)) (xs (k + 2)) (xs (k + 3)) (xs (k + 4))) tail
      · refine lv_tableIn (off := 865) (tgt := 904) hx hb dL_law_39 (by decide) (by decide) (by decide) (by decide) ?_
        exact lw_s_vote K hk hl hG hS hce hsl (fun bv hbv => st_vote l hst hI (xs (k + 1)) bv hbv) tail
      · refine lv_tableIn (off := 956) (tgt := 995) hx hb dL_law_39 (by decide) (by decide) (by decide) (by decide) ?_
        exact lw_s_day K hk hl hG hS hce hsl hXr hMr (st_day l hI) tail
      · refine lv_tableIn (off := 969) (tgt := 1008) hx hb dL_law_39 (by decide) (by decide) (by decide) (by decide) ?_
        exact lw_s_from K hk hl hG hS hce hsl (fun bv hbv => st_from l hst hI (xs (k + 1)) (xs (k + 2)) bv) tail
      · refine lv_tableIn (off := 1065) (tgt := 1104) hx hb dL_law_39 (by decide) (by decide) (by decide) (by decide) ?_
        exact lw_s_images K hk hl hG hS hce hsl (st_images l hst hI (xs (k + 1))) tail
      · refine lv_tableIn (off := 1121) (tgt := 1160) hx hb dL_law_39 (by decide) (by decide) (by decide) (by decide) ?_
        exact lw_s_imagesAnew K hk hl hG hS hce hsl (st_imagesAnew l hst hI (xs (k + 1))) tail
      · refine lv_tableIn (off := 1177) (tgt := 1216) hx hb dL_law_39 (by decide) (by decide) (by decide) (by decide) ?_
        exact lw_s_imageOf K hk hl hG hS hce hsl (st_imageOf l hst hI (xs (k + 1)) (xs (k + 2)) (xs (k + 3))) tail
      · refine lv_tableIn (off := 1257) (tgt := 1296) hx hb dL_law_39 (by decide) (by decide) (by decide) (by decide) ?_
        exact lw_s_hits K hk hl hG hS hce hsl (st_hits l hst hI (xs (k + 1)) (xs (k + 2))) tail
      · refine lv_tableIn (off := 1325) (tgt := 1364) hx hb dL_law_39 (by decide) (by decide) (by decide) (by decide) ?_
        exact lw_s_lost K hk hl hG hS hce hsl hXr hMr (st_lost l hI) tail
      · refine lv_tableIn (off := 1338) (tgt := 1377) hx hb dL_law_39 (by decide) (by decide) (by decide) (by decide) ?_
        exact lw_s_delay K hk hl hG hS hce hsl (st_delay l hst hI (xs (k + 1)) (xs (k + 2)) (xs (k + 3))) tail
      · refine lv_tableIn (off := 1418) (tgt := 1457) hx hb dL_law_39 (by decide) (by decide) (by decide) (by decide) ?_
        exact lw_s_light K hk hl hG hS hce hsl (st_light l hst hI (xs (k + 1)) (xs (k + 2))) tail
      · refine lv_tableIn (off := 1486) (tgt := 1525) hx hb dL_law_39 (by decide) (by decide) (by decide) (by decide) ?_
        exact lw_s_frames K hk hl hG hS hce hsl hXr hMr (st_frames l hI) tail
      · refine lv_tableIn (off := 1499) (tgt := 1538) hx hb dL_law_39 (by decide) (by decide) (by decide) (by decide) ?_
        exact lw_s_seen K hk hl hG hS hce hsl (st_seen l hst hI (xs (k + 1)) (xs (k + 2)) (xs (k + 3))) tail
      · refine lv_tableIn (off := 1579) (tgt := 1618) hx hb dL_law_39 (by decide) (by decide) (by decide) (by decide) ?_
        exact lw_s_measured K hk hl hG hS hce hsl (st_measured l hst hI (xs (k + 1)) (xs (k + 2)) (xs (k + 3))) tail
      · refine lv_tableIn (off := 1659) (tgt := 1698) hx hb dL_law_39 (by decide) (by decide) (by decide) (by decide) ?_
        exact lw_s_booked K hk hl hG hS hce hsl (st_booked l hst hI (xs (k + 1))) tail
      · refine lv_tableIn (off := 1715) (tgt := 1754) hx hb dL_law_39 (by decide) (by decide) (by decide) (by decide) ?_
        exact lw_s_isFresh K hk hl hG hS hce hsl (st_isFresh l hst hI (xs (k + 1))) tail
      · refine lv_tableIn (off := 1778) (tgt := 1817) hx hb dL_law_39 (by decide) (by decide) (by decide) (by decide) ?_
        exact lw_s_dispute K hk hl hG hS hce hsl (st_dispute l hst hI) tail
      · refine lv_tableOut (tgt := 1861) hx hb dL_law_39 (Or.inr (by rw [nI_toInt (by omega)]; omega)) (by decide) ?_
        exact tail G ad H locs ls hI hG hS hl |> W.widen (by omega) (by omega)
