/-! THE LAW'S STEPS -/
theorem lw_cmp {x y : Int64} (h : x = y) : lg_cmp x y = 0 := by
  subst h
  unfold lg_cmp
  rw [if_neg (by exact Int64.lt_irrefl), if_pos rfl]
def lw_K (p : Program) (s : State) (m : MethodId) (c : Code) (b L : Nat) (xs : Nat → Int32) (Z : dzG) : Prop := p.tables.exec = Jvm.exec ∧ c.code = cL_law ∧ c.maxLocals = 7 ∧ s.vm.findClass RL = some m.cls ∧ (∀ w ∈ wsL_law, w.before #[Value.ref b] s = true) ∧ va_X b L xs s s.heap ∧ b < s.heap.size ∧ dzB Z = s.heap.size ∧ dz_E Z s s.heap ∧ L ≤ 2560
set_option maxHeartbeats 4000000 in
set_option maxRecDepth 100000 in
theorem lw_s_mass {p : Program} {l : Launch} {e : Env} {s : State} {m : MethodId} {below : List Frame} {meth : Method} {c : Code} {b L : Nat} {xs : Nat → Int32} {Z : dzG} (K : lw_K p s m c b L xs Z) {G : dzW} {ad : dzA} {aX aM aO k cells slots : Nat} {H : Heap} {locs : List Loc} {ls : Array Slot} {Q : State → Prop} (hk : k + 5 ≤ L) (hl : lv_has ls 7 [(4, .int (nI k)), (3, .ref aO), (2, .ref aM), (1, .ref aX), (0, .ref b)]) (hG : dz_w Z G ad H) (hS : va_S (dz_A Z) s.heap H locs) (hce : cells + 20 ≤ 601024) (hsl : slots + 700 ≤ 7293034) {Nx : dzW → dzA → Prop} (hst : lw_Ok l Z G ad aM aO yL_mass wsL_mass yX9_mass wsX9_mass [.ref aX, .int (xs (k + 1)), .int (xs (k + 2)), .int (xs (k + 3)), .int (xs (k + 4)), .ref aO] [.ref aM, .int (xs (k + 1)), .int (xs (k + 2)), .int (xs (k + 3)), .int (xs (k + 4))] rv_i (fun y => y.toInt64) Nx) (next : ∀ (G2 : dzW) (ad2 : dzA) (H2 : Heap) (locs2 : List Loc) (ls2 : Array Slot), Nx G2 ad2 → dz_w Z G2 ad2 H2 → va_S (dz_A Z) s.heap H2 locs2 → lv_has ls2 7 [(4, .int (nI k)), (3, .ref aO), (2, .ref aM), (1, .ref aX), (0, .ref b)] → W p l e room_1 s m #[Value.ref b] below meth c H2 locs2 (cells + 20) (slots + 700) Q (F0 m 1861 ls2 [])) : W p l e room_1 s m #[Value.ref b] below meth c H locs cells slots Q (F0 m 160 ls []) := by
  obtain ⟨hx, hb, hml, hown, hts, hX, hbl, hB, hE, hL9⟩ := K
  have hbA : ¬ dz_A Z b := by show ¬ dzB Z ≤ b; omega
  obtain ⟨kx, frL, loL, mcL, msL, frM, loM, PL, PM, ⟨q01, q02, q03, q04, q05, q06⟩, hL, hLr, hM, hend⟩ := hst
  refine lv_aload_n hx hb dL_law_160 rfl (lv_at hl 3 rfl) ?_
  refine lv_aload_n hx hb dL_law_161 rfl (lv_at hl 4 rfl) ?_
  refine lv_iload hx hb dL_law_162 (lv_at hl 0 rfl) ?_
  refine lv_iconst (v := 1) hx hb dL_law_164 (by decide) ?_
  refine lv_iadd hx hb dL_law_165 ?_
  refine lv_topi (fun q1 eq1 => ?_)
  obtain rfl : q1 = nI (k + 1) := (show q1 = nI k + nI 1 from eq1).trans (nI_add _ _)
  refine va_sld hx hb hX hbl hbA hS (vp_in_nI (by omega) (by omega)) dL_law_166 ?_
  refine lv_topi (fun q2 eq2 => ?_)
  obtain rfl : q2 = xs (k + 1) := eq2.trans (by rw [nI_clamp (by omega)])
  refine lv_aload_n hx hb dL_law_167 rfl (lv_at hl 4 rfl) ?_
  refine lv_iload hx hb dL_law_168 (lv_at hl 0 rfl) ?_
  refine lv_iconst (v := 2) hx hb dL_law_170 (by decide) ?_
  refine lv_iadd hx hb dL_law_171 ?_
  refine lv_topi (fun q3 eq3 => ?_)
  obtain rfl : q3 = nI (k + 2) := (show q3 = nI k + nI 2 from eq3).trans (nI_add _ _)
  refine va_sld hx hb hX hbl hbA hS (vp_in_nI (by omega) (by omega)) dL_law_172 ?_
  refine lv_topi (fun q4 eq4 => ?_)
  obtain rfl : q4 = xs (k + 2) := eq4.trans (by rw [nI_clamp (by omega)])
  refine lv_aload_n hx hb dL_law_173 rfl (lv_at hl 4 rfl) ?_
  refine lv_iload hx hb dL_law_174 (lv_at hl 0 rfl) ?_
  refine lv_iconst (v := 3) hx hb dL_law_176 (by decide) ?_
  refine lv_iadd hx hb dL_law_177 ?_
  refine lv_topi (fun q5 eq5 => ?_)
  obtain rfl : q5 = nI (k + 3) := (show q5 = nI k + nI 3 from eq5).trans (nI_add _ _)
  refine va_sld hx hb hX hbl hbA hS (vp_in_nI (by omega) (by omega)) dL_law_178 ?_
  refine lv_topi (fun q6 eq6 => ?_)
  obtain rfl : q6 = xs (k + 3) := eq6.trans (by rw [nI_clamp (by omega)])
  refine lv_aload_n hx hb dL_law_179 rfl (lv_at hl 4 rfl) ?_
  refine lv_iload hx hb dL_law_180 (lv_at hl 0 rfl) ?_
  refine lv_iconst (v := 4) hx hb dL_law_182 (by decide) ?_
  refine lv_iadd hx hb dL_law_183 ?_
  refine lv_topi (fun q7 eq7 => ?_)
  obtain rfl : q7 = nI (k + 4) := (show q7 = nI k + nI 4 from eq7).trans (nI_add _ _)
  refine va_sld hx hb hX hbl hbA hS (vp_in_nI (by omega) (by omega)) dL_law_184 ?_
  refine lv_topi (fun q8 eq8 => ?_)
  obtain rfl : q8 = xs (k + 4) := eq8.trans (by rw [nI_clamp (by omega)])
  refine lv_aload_n hx hb dL_law_185 rfl (lv_at hl 1 rfl) ?_
  refine dz_kMi (vx_runSW (As := [_, _, _, _, _, _]) ⟨hx, hb, hml, hown, hts⟩ hL (vx_cwSW 6 hts gL_law_L_mass rfl rfl rfl (by decide +kernel) ⟨by show frL + 1 ≤ 12; omega, by show 8 + (7 + 11) + loL ≤ 454; omega⟩) (dz_P.pre hE hS hG) rfl rfl hl.1 rfl (lv_room (Nat.le_of_ble_eq_true rfl)) dL_law_186 ⟨by show cells + mcL ≤ 601024; omega, by show slots + msL ≤ 7293034; omega⟩) hS (fun x G1 ad1 H locs hp hG hS => ?_)
  obtain ⟨hxk, hp⟩ := hp
  obtain ⟨⟨fs, hMo⟩, hMa⟩ := hLr G1 ad1 hp
  refine lv_istore (lv' := [(5, .int x), (4, .int (nI k)), (3, .ref aO), (2, .ref aM), (1, .ref aX), (0, .ref b)]) hx hb dL_law_189 hl (by decide) rfl (fun ls hl => ?_)
  refine lv_aload_n hx hb dL_law_191 rfl (lv_at hl 3 rfl) ?_
  refine lv_aload_n hx hb dL_law_192 rfl (lv_at hl 5 rfl) ?_
  refine lv_iload hx hb dL_law_193 (lv_at hl 1 rfl) ?_
  refine lv_iconst (v := 1) hx hb dL_law_195 (by decide) ?_
  refine lv_iadd hx hb dL_law_196 ?_
  refine lv_topi (fun q9 eq9 => ?_)
  obtain rfl : q9 = nI (k + 1) := (show q9 = nI k + nI 1 from eq9).trans (nI_add _ _)
  refine va_sld hx hb hX hbl hbA hS (vp_in_nI (by omega) (by omega)) dL_law_197 ?_
  refine lv_topi (fun q10 eq10 => ?_)
  obtain rfl : q10 = xs (k + 1) := eq10.trans (by rw [nI_clamp (by omega)])
  refine lv_aload_n hx hb dL_law_198 rfl (lv_at hl 5 rfl) ?_
  refine lv_iload hx hb dL_law_199 (lv_at hl 1 rfl) ?_
  refine lv_iconst (v := 2) hx hb dL_law_201 (by decide) ?_
  refine lv_iadd hx hb dL_law_202 ?_
  refine lv_topi (fun q11 eq11 => ?_)
  obtain rfl : q11 = nI (k + 2) := (show q11 = nI k + nI 2 from eq11).trans (nI_add _ _)
  refine va_sld hx hb hX hbl hbA hS (vp_in_nI (by omega) (by omega)) dL_law_203 ?_
  refine lv_topi (fun q12 eq12 => ?_)
  obtain rfl : q12 = xs (k + 2) := eq12.trans (by rw [nI_clamp (by omega)])
  refine lv_aload_n hx hb dL_law_204 rfl (lv_at hl 5 rfl) ?_
  refine lv_iload hx hb dL_law_205 (lv_at hl 1 rfl) ?_
  refine lv_iconst (v := 3) hx hb dL_law_207 (by decide) ?_
  refine lv_iadd hx hb dL_law_208 ?_
  refine lv_topi (fun q13 eq13 => ?_)
  obtain rfl : q13 = nI (k + 3) := (show q13 = nI k + nI 3 from eq13).trans (nI_add _ _)
  refine va_sld hx hb hX hbl hbA hS (vp_in_nI (by omega) (by omega)) dL_law_209 ?_
  refine lv_topi (fun q14 eq14 => ?_)
  obtain rfl : q14 = xs (k + 3) := eq14.trans (by rw [nI_clamp (by omega)])
  refine lv_aload_n hx hb dL_law_210 rfl (lv_at hl 5 rfl) ?_
  refine lv_iload hx hb dL_law_211 (lv_at hl 1 rfl) ?_
  refine lv_iconst (v := 4) hx hb dL_law_213 (by decide) ?_
  refine lv_iadd hx hb dL_law_214 ?_
  refine lv_topi (fun q15 eq15 => ?_)
  obtain rfl : q15 = nI (k + 4) := (show q15 = nI k + nI 4 from eq15).trans (nI_add _ _)
  refine va_sld hx hb hX hbl hbA hS (vp_in_nI (by omega) (by omega)) dL_law_215 ?_
  refine lv_topi (fun q16 eq16 => ?_)
  obtain rfl : q16 = xs (k + 4) := eq16.trans (by rw [nI_clamp (by omega)])
  refine dz_kMi (va_runV (As := [_, _, _, _]) ⟨hx, hb, hml, hown, hts⟩ (hM G1 ad1 hp) (cwV 4 hts gL_law_X9_mass rfl rfl rfl (by decide +kernel) ⟨by show frM + 1 ≤ 12; omega, by show 8 + (6 + 11) + loM ≤ 454; omega⟩) (dz_P.preV hE hS hG hMo rfl hMa) rfl rfl hl.1 rfl (lv_room (Nat.le_of_ble_eq_true rfl)) dL_law_216 ⟨by show cells + mcL + 0 ≤ 601024; omega, by show slots + msL + 0 ≤ 7293034; omega⟩) hS (fun y G2 ad2 H locs hq hG hS => ?_)
  obtain ⟨⟨hMa2, nm2, ns2, nl2, nx2, nf2, my2, dy2, td2, ssf2, sst2, cfr2, grw2, bkk2, iop2, hMo2⟩, h50, hN⟩ := hend G1 ad1 y G2 ad2 hp hq
  refine lv_istore (lv' := [(6, .int y), (5, .int x), (4, .int (nI k)), (3, .ref aO), (2, .ref aM), (1, .ref aX), (0, .ref b)]) hx hb dL_law_219 hl (by decide) rfl (fun ls hl => ?_)
  refine lv_aload_n hx hb dL_law_221 rfl (lv_at hl 4 rfl) ?_
  refine dz_kRi (va_runV (As := []) ⟨hx, hb, hml, hown, hts⟩ (c_X9_thrown l Z G2 ad2 aM nm2 ns2 nl2 nx2 nf2 my2 kx dy2 td2 ssf2 sst2 cfr2 grw2 bkk2 iop2 hMa2 hMo2) (cwV 0 hts gL_law_X9_thrown rfl rfl rfl (by decide +kernel) ⟨Nat.le_of_ble_eq_true rfl, Nat.le_of_ble_eq_true rfl⟩) (dz_P.preV hE hS hG hMo2 rfl hMa2) rfl rfl hl.1 rfl (lv_room (Nat.le_of_ble_eq_true rfl)) dL_law_222 ⟨by show cells + mcL + 0 + 0 ≤ 601024; omega, by show slots + msL + 0 + 0 ≤ 7293034; omega⟩) ?_
  refine lv_iload hx hb dL_law_225 (lv_at hl 1 rfl) ?_
  refine lv_icmp_eq (tgt := 232) hx hb dL_law_227 (by decide) (fun c_227 => ?_) (fun c_227 => absurd hxk.symm c_227)
  refine lv_iload hx hb dL_law_232 (lv_at hl 1 rfl) ?_
  refine lv_if_ne (tgt := 249) hx hb dL_law_234 (by decide) (fun c_234 => ?_) (fun c_234 => ?_)
  · refine lv_goto (tgt := 1861) hx hb dL_law_249 (by decide) ?_
    refine W.widen (k := cells + 20) (n := slots + 700) (by omega) (by omega) ?_
    exact next G2 ad2 _ _ _ hN hG hS (lv_sub hl [2, 3, 4, 5, 6] rfl)
  · obtain ⟨fo9, h5, ha5, hv5⟩ := h50 (hxk.symm.trans c_234)
    refine lv_aload_n hx hb dL_law_237 rfl (lv_at hl 3 rfl) ?_
    refine lv_iconst (v := 0) hx hb dL_law_238 (by decide) ?_
    refine dz_lald hx hb hE hG ha5 h5 (by unfold vp_in; decide) dL_law_239 ?_
    refine lv_iload hx hb dL_law_240 (lv_at hl 0 rfl) ?_
    refine lv_i2l hx hb dL_law_242 rfl ?_
    refine W.lcmp hx hb dL_law_243 ?_
    refine lv_topi (fun q17 eq17 => ?_)
    obtain rfl : q17 = 0 := eq17.trans (lw_cmp hv5)
    refine lv_if_eq (tgt := 249) hx hb dL_law_244 (by decide) (fun c_244 => ?_) (fun c_244 => absurd rfl c_244)
    refine lv_goto (tgt := 1861) hx hb dL_law_249 (by decide) ?_
    refine W.widen (k := cells + 20) (n := slots + 700) (by omega) (by omega) ?_
    exact next G2 ad2 _ _ _ hN hG hS (lv_sub hl [2, 3, 4, 5, 6] rfl)

set_option maxHeartbeats 4000000 in
set_option maxRecDepth 100000 in
theorem lw_s_two {p : Program} {l : Launch} {e : Env} {s : State} {m : MethodId} {below : List Frame} {meth : Method} {c : Code} {b L : Nat} {xs : Nat → Int32} {Z : dzG} (K : lw_K p s m c b L xs Z) {G : dzW} {ad : dzA} {aX aM aO k cells slots : Nat} {H : Heap} {locs : List Loc} {ls : Array Slot} {Q : State → Prop} (hk : k + 5 ≤ L) (hl : lv_has ls 7 [(4, .int (nI k)), (3, .ref aO), (2, .ref aM), (1, .ref aX), (0, .ref b)]) (hG : dz_w Z G ad H) (hS : va_S (dz_A Z) s.heap H locs) (hce : cells + 20 ≤ 601024) (hsl : slots + 700 ≤ 7293034) {Nx : dzW → dzA → Prop} (hst : lw_Ok l Z G ad aM aO yL_two wsL_two yX9_two wsX9_two [.ref aX, .int (xs (k + 1)), .int (xs (k + 2)), .int (xs (k + 3)), .ref aO] [.ref aM, .int (xs (k + 1)), .int (xs (k + 2)), .int (xs (k + 3))] rv_i (fun y => y.toInt64) Nx) (next : ∀ (G2 : dzW) (ad2 : dzA) (H2 : Heap) (locs2 : List Loc) (ls2 : Array Slot), Nx G2 ad2 → dz_w Z G2 ad2 H2 → va_S (dz_A Z) s.heap H2 locs2 → lv_has ls2 7 [(4, .int (nI k)), (3, .ref aO), (2, .ref aM), (1, .ref aX), (0, .ref b)] → W p l e room_1 s m #[Value.ref b] below meth c H2 locs2 (cells + 20) (slots + 700) Q (F0 m 1861 ls2 [])) : W p l e room_1 s m #[Value.ref b] below meth c H locs cells slots Q (F0 m 252 ls []) := by
  obtain ⟨hx, hb, hml, hown, hts, hX, hbl, hB, hE, hL9⟩ := K
  have hbA : ¬ dz_A Z b := by show ¬ dzB Z ≤ b; omega
  obtain ⟨kx, frL, loL, mcL, msL, frM, loM, PL, PM, ⟨q01, q02, q03, q04, q05, q06⟩, hL, hLr, hM, hend⟩ := hst
  refine lv_aload_n hx hb dL_law_252 rfl (lv_at hl 3 rfl) ?_
  refine lv_aload_n hx hb dL_law_253 rfl (lv_at hl 4 rfl) ?_
  refine lv_iload hx hb dL_law_254 (lv_at hl 0 rfl) ?_
  refine lv_iconst (v := 1) hx hb dL_law_256 (by decide) ?_
  refine lv_iadd hx hb dL_law_257 ?_
  refine lv_topi (fun q1 eq1 => ?_)
  obtain rfl : q1 = nI (k + 1) := (show q1 = nI k + nI 1 from eq1).trans (nI_add _ _)
  refine va_sld hx hb hX hbl hbA hS (vp_in_nI (by omega) (by omega)) dL_law_258 ?_
  refine lv_topi (fun q2 eq2 => ?_)
  obtain rfl : q2 = xs (k + 1) := eq2.trans (by rw [nI_clamp (by omega)])
  refine lv_aload_n hx hb dL_law_259 rfl (lv_at hl 4 rfl) ?_
  refine lv_iload hx hb dL_law_260 (lv_at hl 0 rfl) ?_
  refine lv_iconst (v := 2) hx hb dL_law_262 (by decide) ?_
  refine lv_iadd hx hb dL_law_263 ?_
  refine lv_topi (fun q3 eq3 => ?_)
  obtain rfl : q3 = nI (k + 2) := (show q3 = nI k + nI 2 from eq3).trans (nI_add _ _)
  refine va_sld hx hb hX hbl hbA hS (vp_in_nI (by omega) (by omega)) dL_law_264 ?_
  refine lv_topi (fun q4 eq4 => ?_)
  obtain rfl : q4 = xs (k + 2) := eq4.trans (by rw [nI_clamp (by omega)])
  refine lv_aload_n hx hb dL_law_265 rfl (lv_at hl 4 rfl) ?_
  refine lv_iload hx hb dL_law_266 (lv_at hl 0 rfl) ?_
  refine lv_iconst (v := 3) hx hb dL_law_268 (by decide) ?_
  refine lv_iadd hx hb dL_law_269 ?_
  refine lv_topi (fun q5 eq5 => ?_)
  obtain rfl : q5 = nI (k + 3) := (show q5 = nI k + nI 3 from eq5).trans (nI_add _ _)
  refine va_sld hx hb hX hbl hbA hS (vp_in_nI (by omega) (by omega)) dL_law_270 ?_
  refine lv_topi (fun q6 eq6 => ?_)
  obtain rfl : q6 = xs (k + 3) := eq6.trans (by rw [nI_clamp (by omega)])
  refine lv_aload_n hx hb dL_law_271 rfl (lv_at hl 1 rfl) ?_
  refine dz_kMi (vx_runSW (As := [_, _, _, _, _]) ⟨hx, hb, hml, hown, hts⟩ hL (vx_cwSW 5 hts gL_law_L_two rfl rfl rfl (by decide +kernel) ⟨by show frL + 1 ≤ 12; omega, by show 8 + (6 + 11) + loL ≤ 454; omega⟩) (dz_P.pre hE hS hG) rfl rfl hl.1 rfl (lv_room (Nat.le_of_ble_eq_true rfl)) dL_law_272 ⟨by show cells + mcL ≤ 601024; omega, by show slots + msL ≤ 7293034; omega⟩) hS (fun x G1 ad1 H locs hp hG hS => ?_)
  obtain ⟨hxk, hp⟩ := hp
  obtain ⟨⟨fs, hMo⟩, hMa⟩ := hLr G1 ad1 hp
  refine lv_istore (lv' := [(5, .int x), (4, .int (nI k)), (3, .ref aO), (2, .ref aM), (1, .ref aX), (0, .ref b)]) hx hb dL_law_275 hl (by decide) rfl (fun ls hl => ?_)
  refine lv_aload_n hx hb dL_law_277 rfl (lv_at hl 3 rfl) ?_
  refine lv_aload_n hx hb dL_law_278 rfl (lv_at hl 5 rfl) ?_
  refine lv_iload hx hb dL_law_279 (lv_at hl 1 rfl) ?_
  refine lv_iconst (v := 1) hx hb dL_law_281 (by decide) ?_
  refine lv_iadd hx hb dL_law_282 ?_
  refine lv_topi (fun q7 eq7 => ?_)
  obtain rfl : q7 = nI (k + 1) := (show q7 = nI k + nI 1 from eq7).trans (nI_add _ _)
  refine va_sld hx hb hX hbl hbA hS (vp_in_nI (by omega) (by omega)) dL_law_283 ?_
  refine lv_topi (fun q8 eq8 => ?_)
  obtain rfl : q8 = xs (k + 1) := eq8.trans (by rw [nI_clamp (by omega)])
  refine lv_aload_n hx hb dL_law_284 rfl (lv_at hl 5 rfl) ?_
  refine lv_iload hx hb dL_law_285 (lv_at hl 1 rfl) ?_
  refine lv_iconst (v := 2) hx hb dL_law_287 (by decide) ?_
  refine lv_iadd hx hb dL_law_288 ?_
  refine lv_topi (fun q9 eq9 => ?_)
  obtain rfl : q9 = nI (k + 2) := (show q9 = nI k + nI 2 from eq9).trans (nI_add _ _)
  refine va_sld hx hb hX hbl hbA hS (vp_in_nI (by omega) (by omega)) dL_law_289 ?_
  refine lv_topi (fun q10 eq10 => ?_)
  obtain rfl : q10 = xs (k + 2) := eq10.trans (by rw [nI_clamp (by omega)])
  refine lv_aload_n hx hb dL_law_290 rfl (lv_at hl 5 rfl) ?_
  refine lv_iload hx hb dL_law_291 (lv_at hl 1 rfl) ?_
  refine lv_iconst (v := 3) hx hb dL_law_293 (by decide) ?_
  refine lv_iadd hx hb dL_law_294 ?_
  refine lv_topi (fun q11 eq11 => ?_)
  obtain rfl : q11 = nI (k + 3) := (show q11 = nI k + nI 3 from eq11).trans (nI_add _ _)
  refine va_sld hx hb hX hbl hbA hS (vp_in_nI (by omega) (by omega)) dL_law_295 ?_
  refine lv_topi (fun q12 eq12 => ?_)
  obtain rfl : q12 = xs (k + 3) := eq12.trans (by rw [nI_clamp (by omega)])
  refine dz_kMi (va_runV (As := [_, _, _]) ⟨hx, hb, hml, hown, hts⟩ (hM G1 ad1 hp) (cwV 3 hts gL_law_X9_two rfl rfl rfl (by decide +kernel) ⟨by show frM + 1 ≤ 12; omega, by show 8 + (7 + 11) + loM ≤ 454; omega⟩) (dz_P.preV hE hS hG hMo rfl hMa) rfl rfl hl.1 rfl (lv_room (Nat.le_of_ble_eq_true rfl)) dL_law_296 ⟨by show cells + mcL + 0 ≤ 601024; omega, by show slots + msL + 0 ≤ 7293034; omega⟩) hS (fun y G2 ad2 H locs hq hG hS => ?_)
  obtain ⟨⟨hMa2, nm2, ns2, nl2, nx2, nf2, my2, dy2, td2, ssf2, sst2, cfr2, grw2, bkk2, iop2, hMo2⟩, h50, hN⟩ := hend G1 ad1 y G2 ad2 hp hq
  refine lv_istore (lv' := [(6, .int y), (5, .int x), (4, .int (nI k)), (3, .ref aO), (2, .ref aM), (1, .ref aX), (0, .ref b)]) hx hb dL_law_299 hl (by decide) rfl (fun ls hl => ?_)
  refine lv_aload_n hx hb dL_law_301 rfl (lv_at hl 4 rfl) ?_
  refine dz_kRi (va_runV (As := []) ⟨hx, hb, hml, hown, hts⟩ (c_X9_thrown l Z G2 ad2 aM nm2 ns2 nl2 nx2 nf2 my2 kx dy2 td2 ssf2 sst2 cfr2 grw2 bkk2 iop2 hMa2 hMo2) (cwV 0 hts gL_law_X9_thrown rfl rfl rfl (by decide +kernel) ⟨Nat.le_of_ble_eq_true rfl, Nat.le_of_ble_eq_true rfl⟩) (dz_P.preV hE hS hG hMo2 rfl hMa2) rfl rfl hl.1 rfl (lv_room (Nat.le_of_ble_eq_true rfl)) dL_law_302 ⟨by show cells + mcL + 0 + 0 ≤ 601024; omega, by show slots + msL + 0 + 0 ≤ 7293034; omega⟩) ?_
  refine lv_iload hx hb dL_law_305 (lv_at hl 1 rfl) ?_
  refine lv_icmp_eq (tgt := 312) hx hb dL_law_307 (by decide) (fun c_307 => ?_) (fun c_307 => absurd hxk.symm c_307)
  refine lv_iload hx hb dL_law_312 (lv_at hl 1 rfl) ?_
  refine lv_if_ne (tgt := 329) hx hb dL_law_314 (by decide) (fun c_314 => ?_) (fun c_314 => ?_)
  · refine lv_goto (tgt := 1861) hx hb dL_law_329 (by decide) ?_
    refine W.widen (k := cells + 20) (n := slots + 700) (by omega) (by omega) ?_
    exact next G2 ad2 _ _ _ hN hG hS (lv_sub hl [2, 3, 4, 5, 6] rfl)
  · obtain ⟨fo9, h5, ha5, hv5⟩ := h50 (hxk.symm.trans c_314)
    refine lv_aload_n hx hb dL_law_317 rfl (lv_at hl 3 rfl) ?_
    refine lv_iconst (v := 0) hx hb dL_law_318 (by decide) ?_
    refine dz_lald hx hb hE hG ha5 h5 (by unfold vp_in; decide) dL_law_319 ?_
    refine lv_iload hx hb dL_law_320 (lv_at hl 0 rfl) ?_
    refine lv_i2l hx hb dL_law_322 rfl ?_
    refine W.lcmp hx hb dL_law_323 ?_
    refine lv_topi (fun q13 eq13 => ?_)
    obtain rfl : q13 = 0 := eq13.trans (lw_cmp hv5)
    refine lv_if_eq (tgt := 329) hx hb dL_law_324 (by decide) (fun c_324 => ?_) (fun c_324 => absurd rfl c_324)
    refine lv_goto (tgt := 1861) hx hb dL_law_329 (by decide) ?_
    refine W.widen (k := cells + 20) (n := slots + 700) (by omega) (by omega) ?_
    exact next G2 ad2 _ _ _ hN hG hS (lv_sub hl [2, 3, 4, 5, 6] rfl)

set_option maxHeartbeats 4000000 in
set_option maxRecDepth 100000 in
theorem lw_s_source {p : Program} {l : Launch} {e : Env} {s : State} {m : MethodId} {below : List Frame} {meth : Method} {c : Code} {b L : Nat} {xs : Nat → Int32} {Z : dzG} (K : lw_K p s m c b L xs Z) {G : dzW} {ad : dzA} {aX aM aO k cells slots : Nat} {H : Heap} {locs : List Loc} {ls : Array Slot} {Q : State → Prop} (hk : k + 5 ≤ L) (hl : lv_has ls 7 [(4, .int (nI k)), (3, .ref aO), (2, .ref aM), (1, .ref aX), (0, .ref b)]) (hG : dz_w Z G ad H) (hS : va_S (dz_A Z) s.heap H locs) (hce : cells + 20 ≤ 601024) (hsl : slots + 700 ≤ 7293034) {Nx : dzW → dzA → Prop} (hst : lw_Ok l Z G ad aM aO yL_source wsL_source yX9_source wsX9_source [.ref aX, .int (xs (k + 1)), .int (xs (k + 2)), .int (xs (k + 3)), .ref aO] [.ref aM, .int (xs (k + 1)), .int (xs (k + 2)), .int (xs (k + 3))] rv_i (fun y => y.toInt64) Nx) (next : ∀ (G2 : dzW) (ad2 : dzA) (H2 : Heap) (locs2 : List Loc) (ls2 : Array Slot), Nx G2 ad2 → dz_w Z G2 ad2 H2 → va_S (dz_A Z) s.heap H2 locs2 → lv_has ls2 7 [(4, .int (nI k)), (3, .ref aO), (2, .ref aM), (1, .ref aX), (0, .ref b)] → W p l e room_1 s m #[Value.ref b] below meth c H2 locs2 (cells + 20) (slots + 700) Q (F0 m 1861 ls2 [])) : W p l e room_1 s m #[Value.ref b] below meth c H locs cells slots Q (F0 m 332 ls []) := by
  obtain ⟨hx, hb, hml, hown, hts, hX, hbl, hB, hE, hL9⟩ := K
  have hbA : ¬ dz_A Z b := by show ¬ dzB Z ≤ b; omega
  obtain ⟨kx, frL, loL, mcL, msL, frM, loM, PL, PM, ⟨q01, q02, q03, q04, q05, q06⟩, hL, hLr, hM, hend⟩ := hst
  refine lv_aload_n hx hb dL_law_332 rfl (lv_at hl 3 rfl) ?_
  refine lv_aload_n hx hb dL_law_333 rfl (lv_at hl 4 rfl) ?_
  refine lv_iload hx hb dL_law_334 (lv_at hl 0 rfl) ?_
  refine lv_iconst (v := 1) hx hb dL_law_336 (by decide) ?_
  refine lv_iadd hx hb dL_law_337 ?_
  refine lv_topi (fun q1 eq1 => ?_)
  obtain rfl : q1 = nI (k + 1) := (show q1 = nI k + nI 1 from eq1).trans (nI_add _ _)
  refine va_sld hx hb hX hbl hbA hS (vp_in_nI (by omega) (by omega)) dL_law_338 ?_
  refine lv_topi (fun q2 eq2 => ?_)
  obtain rfl : q2 = xs (k + 1) := eq2.trans (by rw [nI_clamp (by omega)])
  refine lv_aload_n hx hb dL_law_339 rfl (lv_at hl 4 rfl) ?_
  refine lv_iload hx hb dL_law_340 (lv_at hl 0 rfl) ?_
  refine lv_iconst (v := 2) hx hb dL_law_342 (by decide) ?_
  refine lv_iadd hx hb dL_law_343 ?_
  refine lv_topi (fun q3 eq3 => ?_)
  obtain rfl : q3 = nI (k + 2) := (show q3 = nI k + nI 2 from eq3).trans (nI_add _ _)
  refine va_sld hx hb hX hbl hbA hS (vp_in_nI (by omega) (by omega)) dL_law_344 ?_
  refine lv_topi (fun q4 eq4 => ?_)
  obtain rfl : q4 = xs (k + 2) := eq4.trans (by rw [nI_clamp (by omega)])
  refine lv_aload_n hx hb dL_law_345 rfl (lv_at hl 4 rfl) ?_
  refine lv_iload hx hb dL_law_346 (lv_at hl 0 rfl) ?_
  refine lv_iconst (v := 3) hx hb dL_law_348 (by decide) ?_
  refine lv_iadd hx hb dL_law_349 ?_
  refine lv_topi (fun q5 eq5 => ?_)
  obtain rfl : q5 = nI (k + 3) := (show q5 = nI k + nI 3 from eq5).trans (nI_add _ _)
  refine va_sld hx hb hX hbl hbA hS (vp_in_nI (by omega) (by omega)) dL_law_350 ?_
  refine lv_topi (fun q6 eq6 => ?_)
  obtain rfl : q6 = xs (k + 3) := eq6.trans (by rw [nI_clamp (by omega)])
  refine lv_aload_n hx hb dL_law_351 rfl (lv_at hl 1 rfl) ?_
  refine dz_kMi (vx_runSW (As := [_, _, _, _, _]) ⟨hx, hb, hml, hown, hts⟩ hL (vx_cwSW 5 hts gL_law_L_source rfl rfl rfl (by decide +kernel) ⟨by show frL + 1 ≤ 12; omega, by show 8 + (6 + 11) + loL ≤ 454; omega⟩) (dz_P.pre hE hS hG) rfl rfl hl.1 rfl (lv_room (Nat.le_of_ble_eq_true rfl)) dL_law_352 ⟨by show cells + mcL ≤ 601024; omega, by show slots + msL ≤ 7293034; omega⟩) hS (fun x G1 ad1 H locs hp hG hS => ?_)
  obtain ⟨hxk, hp⟩ := hp
  obtain ⟨⟨fs, hMo⟩, hMa⟩ := hLr G1 ad1 hp
  refine lv_istore (lv' := [(5, .int x), (4, .int (nI k)), (3, .ref aO), (2, .ref aM), (1, .ref aX), (0, .ref b)]) hx hb dL_law_355 hl (by decide) rfl (fun ls hl => ?_)
  refine lv_aload_n hx hb dL_law_357 rfl (lv_at hl 3 rfl) ?_
  refine lv_aload_n hx hb dL_law_358 rfl (lv_at hl 5 rfl) ?_
  refine lv_iload hx hb dL_law_359 (lv_at hl 1 rfl) ?_
  refine lv_iconst (v := 1) hx hb dL_law_361 (by decide) ?_
  refine lv_iadd hx hb dL_law_362 ?_
  refine lv_topi (fun q7 eq7 => ?_)
  obtain rfl : q7 = nI (k + 1) := (show q7 = nI k + nI 1 from eq7).trans (nI_add _ _)
  refine va_sld hx hb hX hbl hbA hS (vp_in_nI (by omega) (by omega)) dL_law_363 ?_
  refine lv_topi (fun q8 eq8 => ?_)
  obtain rfl : q8 = xs (k + 1) := eq8.trans (by rw [nI_clamp (by omega)])
  refine lv_aload_n hx hb dL_law_364 rfl (lv_at hl 5 rfl) ?_
  refine lv_iload hx hb dL_law_365 (lv_at hl 1 rfl) ?_
  refine lv_iconst (v := 2) hx hb dL_law_367 (by decide) ?_
  refine lv_iadd hx hb dL_law_368 ?_
  refine lv_topi (fun q9 eq9 => ?_)
  obtain rfl : q9 = nI (k + 2) := (show q9 = nI k + nI 2 from eq9).trans (nI_add _ _)
  refine va_sld hx hb hX hbl hbA hS (vp_in_nI (by omega) (by omega)) dL_law_369 ?_
  refine lv_topi (fun q10 eq10 => ?_)
  obtain rfl : q10 = xs (k + 2) := eq10.trans (by rw [nI_clamp (by omega)])
  refine lv_aload_n hx hb dL_law_370 rfl (lv_at hl 5 rfl) ?_
  refine lv_iload hx hb dL_law_371 (lv_at hl 1 rfl) ?_
  refine lv_iconst (v := 3) hx hb dL_law_373 (by decide) ?_
  refine lv_iadd hx hb dL_law_374 ?_
  refine lv_topi (fun q11 eq11 => ?_)
  obtain rfl : q11 = nI (k + 3) := (show q11 = nI k + nI 3 from eq11).trans (nI_add _ _)
  refine va_sld hx hb hX hbl hbA hS (vp_in_nI (by omega) (by omega)) dL_law_375 ?_
  refine lv_topi (fun q12 eq12 => ?_)
  obtain rfl : q12 = xs (k + 3) := eq12.trans (by rw [nI_clamp (by omega)])
  refine dz_kMi (va_runV (As := [_, _, _]) ⟨hx, hb, hml, hown, hts⟩ (hM G1 ad1 hp) (cwV 3 hts gL_law_X9_source rfl rfl rfl (by decide +kernel) ⟨by show frM + 1 ≤ 12; omega, by show 8 + (8 + 11) + loM ≤ 454; omega⟩) (dz_P.preV hE hS hG hMo rfl hMa) rfl rfl hl.1 rfl (lv_room (Nat.le_of_ble_eq_true rfl)) dL_law_376 ⟨by show cells + mcL + 0 ≤ 601024; omega, by show slots + msL + 0 ≤ 7293034; omega⟩) hS (fun y G2 ad2 H locs hq hG hS => ?_)
  obtain ⟨⟨hMa2, nm2, ns2, nl2, nx2, nf2, my2, dy2, td2, ssf2, sst2, cfr2, grw2, bkk2, iop2, hMo2⟩, h50, hN⟩ := hend G1 ad1 y G2 ad2 hp hq
  refine lv_istore (lv' := [(6, .int y), (5, .int x), (4, .int (nI k)), (3, .ref aO), (2, .ref aM), (1, .ref aX), (0, .ref b)]) hx hb dL_law_379 hl (by decide) rfl (fun ls hl => ?_)
  refine lv_aload_n hx hb dL_law_381 rfl (lv_at hl 4 rfl) ?_
  refine dz_kRi (va_runV (As := []) ⟨hx, hb, hml, hown, hts⟩ (c_X9_thrown l Z G2 ad2 aM nm2 ns2 nl2 nx2 nf2 my2 kx dy2 td2 ssf2 sst2 cfr2 grw2 bkk2 iop2 hMa2 hMo2) (cwV 0 hts gL_law_X9_thrown rfl rfl rfl (by decide +kernel) ⟨Nat.le_of_ble_eq_true rfl, Nat.le_of_ble_eq_true rfl⟩) (dz_P.preV hE hS hG hMo2 rfl hMa2) rfl rfl hl.1 rfl (lv_room (Nat.le_of_ble_eq_true rfl)) dL_law_382 ⟨by show cells + mcL + 0 + 0 ≤ 601024; omega, by show slots + msL + 0 + 0 ≤ 7293034; omega⟩) ?_
  refine lv_iload hx hb dL_law_385 (lv_at hl 1 rfl) ?_
  refine lv_icmp_eq (tgt := 392) hx hb dL_law_387 (by decide) (fun c_387 => ?_) (fun c_387 => absurd hxk.symm c_387)
  refine lv_iload hx hb dL_law_392 (lv_at hl 1 rfl) ?_
  refine lv_if_ne (tgt := 409) hx hb dL_law_394 (by decide) (fun c_394 => ?_) (fun c_394 => ?_)
  · refine lv_goto (tgt := 1861) hx hb dL_law_409 (by decide) ?_
    refine W.widen (k := cells + 20) (n := slots + 700) (by omega) (by omega) ?_
    exact next G2 ad2 _ _ _ hN hG hS (lv_sub hl [2, 3, 4, 5, 6] rfl)
  · obtain ⟨fo9, h5, ha5, hv5⟩ := h50 (hxk.symm.trans c_394)
    refine lv_aload_n hx hb dL_law_397 rfl (lv_at hl 3 rfl) ?_
    refine lv_iconst (v := 0) hx hb dL_law_398 (by decide) ?_
    refine dz_lald hx hb hE hG ha5 h5 (by unfold vp_in; decide) dL_law_399 ?_
    refine lv_iload hx hb dL_law_400 (lv_at hl 0 rfl) ?_
    refine lv_i2l hx hb dL_law_402 rfl ?_
    refine W.lcmp hx hb dL_law_403 ?_
    refine lv_topi (fun q13 eq13 => ?_)
    obtain rfl : q13 = 0 := eq13.trans (lw_cmp hv5)
    refine lv_if_eq (tgt := 409) hx hb dL_law_404 (by decide) (fun c_404 => ?_) (fun c_404 => absurd rfl c_404)
    refine lv_goto (tgt := 1861) hx hb dL_law_409 (by decide) ?_
    refine W.widen (k := cells + 20) (n := slots + 700) (by omega) (by omega) ?_
    exact next G2 ad2 _ _ _ hN hG hS (lv_sub hl [2, 3, 4, 5, 6] rfl)

set_option maxHeartbeats 4000000 in
set_option maxRecDepth 100000 in
theorem lw_s_flare {p : Program} {l : Launch} {e : Env} {s : State} {m : MethodId} {below : List Frame} {meth : Method} {c : Code} {b L : Nat} {xs : Nat → Int32} {Z : dzG} (K : lw_K p s m c b L xs Z) {G : dzW} {ad : dzA} {aX aM aO k cells slots : Nat} {H : Heap} {locs : List Loc} {ls : Array Slot} {Q : State → Prop} (hk : k + 5 ≤ L) (hl : lv_has ls 7 [(4, .int (nI k)), (3, .ref aO), (2, .ref aM), (1, .ref aX), (0, .ref b)]) (hG : dz_w Z G ad H) (hS : va_S (dz_A Z) s.heap H locs) (hce : cells + 20 ≤ 601024) (hsl : slots + 700 ≤ 7293034) {Nx : dzW → dzA → Prop} (hst : lw_Ok l Z G ad aM aO yL_flare wsL_flare yX9_flare wsX9_flare [.ref aX, .int (xs (k + 1)), .int (xs (k + 2)), .ref aO] [.ref aM, .int (xs (k + 1)), .int (xs (k + 2))] rv_i (fun y => y.toInt64) Nx) (next : ∀ (G2 : dzW) (ad2 : dzA) (H2 : Heap) (locs2 : List Loc) (ls2 : Array Slot), Nx G2 ad2 → dz_w Z G2 ad2 H2 → va_S (dz_A Z) s.heap H2 locs2 → lv_has ls2 7 [(4, .int (nI k)), (3, .ref aO), (2, .ref aM), (1, .ref aX), (0, .ref b)] → W p l e room_1 s m #[Value.ref b] below meth c H2 locs2 (cells + 20) (slots + 700) Q (F0 m 1861 ls2 [])) : W p l e room_1 s m #[Value.ref b] below meth c H locs cells slots Q (F0 m 412 ls []) := by
  obtain ⟨hx, hb, hml, hown, hts, hX, hbl, hB, hE, hL9⟩ := K
  have hbA : ¬ dz_A Z b := by show ¬ dzB Z ≤ b; omega
  obtain ⟨kx, frL, loL, mcL, msL, frM, loM, PL, PM, ⟨q01, q02, q03, q04, q05, q06⟩, hL, hLr, hM, hend⟩ := hst
  refine lv_aload_n hx hb dL_law_412 rfl (lv_at hl 3 rfl) ?_
  refine lv_aload_n hx hb dL_law_413 rfl (lv_at hl 4 rfl) ?_
  refine lv_iload hx hb dL_law_414 (lv_at hl 0 rfl) ?_
  refine lv_iconst (v := 1) hx hb dL_law_416 (by decide) ?_
  refine lv_iadd hx hb dL_law_417 ?_
  refine lv_topi (fun q1 eq1 => ?_)
  obtain rfl : q1 = nI (k + 1) := (show q1 = nI k + nI 1 from eq1).trans (nI_add _ _)
  refine va_sld hx hb hX hbl hbA hS (vp_in_nI (by omega) (by omega)) dL_law_418 ?_
  refine lv_topi (fun q2 eq2 => ?_)
  obtain rfl : q2 = xs (k + 1) := eq2.trans (by rw [nI_clamp (by omega)])
  refine lv_aload_n hx hb dL_law_419 rfl (lv_at hl 4 rfl) ?_
  refine lv_iload hx hb dL_law_420 (lv_at hl 0 rfl) ?_
  refine lv_iconst (v := 2) hx hb dL_law_422 (by decide) ?_
  refine lv_iadd hx hb dL_law_423 ?_
  refine lv_topi (fun q3 eq3 => ?_)
  obtain rfl : q3 = nI (k + 2) := (show q3 = nI k + nI 2 from eq3).trans (nI_add _ _)
  refine va_sld hx hb hX hbl hbA hS (vp_in_nI (by omega) (by omega)) dL_law_424 ?_
  refine lv_topi (fun q4 eq4 => ?_)
  obtain rfl : q4 = xs (k + 2) := eq4.trans (by rw [nI_clamp (by omega)])
  refine lv_aload_n hx hb dL_law_425 rfl (lv_at hl 1 rfl) ?_
  refine dz_kMi (vx_runSW (As := [_, _, _, _]) ⟨hx, hb, hml, hown, hts⟩ hL (vx_cwSW 4 hts gL_law_L_flare rfl rfl rfl (by decide +kernel) ⟨by show frL + 1 ≤ 12; omega, by show 8 + (5 + 11) + loL ≤ 454; omega⟩) (dz_P.pre hE hS hG) rfl rfl hl.1 rfl (lv_room (Nat.le_of_ble_eq_true rfl)) dL_law_426 ⟨by show cells + mcL ≤ 601024; omega, by show slots + msL ≤ 7293034; omega⟩) hS (fun x G1 ad1 H locs hp hG hS => ?_)
  obtain ⟨hxk, hp⟩ := hp
  obtain ⟨⟨fs, hMo⟩, hMa⟩ := hLr G1 ad1 hp
  refine lv_istore (lv' := [(5, .int x), (4, .int (nI k)), (3, .ref aO), (2, .ref aM), (1, .ref aX), (0, .ref b)]) hx hb dL_law_429 hl (by decide) rfl (fun ls hl => ?_)
  refine lv_aload_n hx hb dL_law_431 rfl (lv_at hl 3 rfl) ?_
  refine lv_aload_n hx hb dL_law_432 rfl (lv_at hl 5 rfl) ?_
  refine lv_iload hx hb dL_law_433 (lv_at hl 1 rfl) ?_
  refine lv_iconst (v := 1) hx hb dL_law_435 (by decide) ?_
  refine lv_iadd hx hb dL_law_436 ?_
  refine lv_topi (fun q5 eq5 => ?_)
  obtain rfl : q5 = nI (k + 1) := (show q5 = nI k + nI 1 from eq5).trans (nI_add _ _)
  refine va_sld hx hb hX hbl hbA hS (vp_in_nI (by omega) (by omega)) dL_law_437 ?_
  refine lv_topi (fun q6 eq6 => ?_)
  obtain rfl : q6 = xs (k + 1) := eq6.trans (by rw [nI_clamp (by omega)])
  refine lv_aload_n hx hb dL_law_438 rfl (lv_at hl 5 rfl) ?_
  refine lv_iload hx hb dL_law_439 (lv_at hl 1 rfl) ?_
  refine lv_iconst (v := 2) hx hb dL_law_441 (by decide) ?_
  refine lv_iadd hx hb dL_law_442 ?_
  refine lv_topi (fun q7 eq7 => ?_)
  obtain rfl : q7 = nI (k + 2) := (show q7 = nI k + nI 2 from eq7).trans (nI_add _ _)
  refine va_sld hx hb hX hbl hbA hS (vp_in_nI (by omega) (by omega)) dL_law_443 ?_
  refine lv_topi (fun q8 eq8 => ?_)
  obtain rfl : q8 = xs (k + 2) := eq8.trans (by rw [nI_clamp (by omega)])
  refine dz_kMi (va_runV (As := [_, _]) ⟨hx, hb, hml, hown, hts⟩ (hM G1 ad1 hp) (cwV 2 hts gL_law_X9_flare rfl rfl rfl (by decide +kernel) ⟨by show frM + 1 ≤ 12; omega, by show 8 + (3 + 11) + loM ≤ 454; omega⟩) (dz_P.preV hE hS hG hMo rfl hMa) rfl rfl hl.1 rfl (lv_room (Nat.le_of_ble_eq_true rfl)) dL_law_444 ⟨by show cells + mcL + 0 ≤ 601024; omega, by show slots + msL + 0 ≤ 7293034; omega⟩) hS (fun y G2 ad2 H locs hq hG hS => ?_)
  obtain ⟨⟨hMa2, nm2, ns2, nl2, nx2, nf2, my2, dy2, td2, ssf2, sst2, cfr2, grw2, bkk2, iop2, hMo2⟩, h50, hN⟩ := hend G1 ad1 y G2 ad2 hp hq
  refine lv_istore (lv' := [(6, .int y), (5, .int x), (4, .int (nI k)), (3, .ref aO), (2, .ref aM), (1, .ref aX), (0, .ref b)]) hx hb dL_law_447 hl (by decide) rfl (fun ls hl => ?_)
  refine lv_aload_n hx hb dL_law_449 rfl (lv_at hl 4 rfl) ?_
  refine dz_kRi (va_runV (As := []) ⟨hx, hb, hml, hown, hts⟩ (c_X9_thrown l Z G2 ad2 aM nm2 ns2 nl2 nx2 nf2 my2 kx dy2 td2 ssf2 sst2 cfr2 grw2 bkk2 iop2 hMa2 hMo2) (cwV 0 hts gL_law_X9_thrown rfl rfl rfl (by decide +kernel) ⟨Nat.le_of_ble_eq_true rfl, Nat.le_of_ble_eq_true rfl⟩) (dz_P.preV hE hS hG hMo2 rfl hMa2) rfl rfl hl.1 rfl (lv_room (Nat.le_of_ble_eq_true rfl)) dL_law_450 ⟨by show cells + mcL + 0 + 0 ≤ 601024; omega, by show slots + msL + 0 + 0 ≤ 7293034; omega⟩) ?_
  refine lv_iload hx hb dL_law_453 (lv_at hl 1 rfl) ?_
  refine lv_icmp_eq (tgt := 460) hx hb dL_law_455 (by decide) (fun c_455 => ?_) (fun c_455 => absurd hxk.symm c_455)
  refine lv_iload hx hb dL_law_460 (lv_at hl 1 rfl) ?_
  refine lv_if_ne (tgt := 477) hx hb dL_law_462 (by decide) (fun c_462 => ?_) (fun c_462 => ?_)
  · refine lv_goto (tgt := 1861) hx hb dL_law_477 (by decide) ?_
    refine W.widen (k := cells + 20) (n := slots + 700) (by omega) (by omega) ?_
    exact next G2 ad2 _ _ _ hN hG hS (lv_sub hl [2, 3, 4, 5, 6] rfl)
  · obtain ⟨fo9, h5, ha5, hv5⟩ := h50 (hxk.symm.trans c_462)
    refine lv_aload_n hx hb dL_law_465 rfl (lv_at hl 3 rfl) ?_
    refine lv_iconst (v := 0) hx hb dL_law_466 (by decide) ?_
    refine dz_lald hx hb hE hG ha5 h5 (by unfold vp_in; decide) dL_law_467 ?_
    refine lv_iload hx hb dL_law_468 (lv_at hl 0 rfl) ?_
    refine lv_i2l hx hb dL_law_470 rfl ?_
    refine W.lcmp hx hb dL_law_471 ?_
    refine lv_topi (fun q9 eq9 => ?_)
    obtain rfl : q9 = 0 := eq9.trans (lw_cmp hv5)
    refine lv_if_eq (tgt := 477) hx hb dL_law_472 (by decide) (fun c_472 => ?_) (fun c_472 => absurd rfl c_472)
    refine lv_goto (tgt := 1861) hx hb dL_law_477 (by decide) ?_
    refine W.widen (k := cells + 20) (n := slots + 700) (by omega) (by omega) ?_
    exact next G2 ad2 _ _ _ hN hG hS (lv_sub hl [2, 3, 4, 5, 6] rfl)

set_option maxHeartbeats 4000000 in
set_option maxRecDepth 100000 in
theorem lw_s_cross {p : Program} {l : Launch} {e : Env} {s : State} {m : MethodId} {below : List Frame} {meth : Method} {c : Code} {b L : Nat} {xs : Nat → Int32} {Z : dzG} (K : lw_K p s m c b L xs Z) {G : dzW} {ad : dzA} {aX aM aO k cells slots : Nat} {H : Heap} {locs : List Loc} {ls : Array Slot} {Q : State → Prop} (hk : k + 5 ≤ L) (hl : lv_has ls 7 [(4, .int (nI k)), (3, .ref aO), (2, .ref aM), (1, .ref aX), (0, .ref b)]) (hG : dz_w Z G ad H) (hS : va_S (dz_A Z) s.heap H locs) (hce : cells + 20 ≤ 601024) (hsl : slots + 700 ≤ 7293034) {Nx : dzW → dzA → Prop} {cv9 : Unit → Int64} (hst : lw_Ok l Z G ad aM aO yL_cross wsL_cross yX9_cross wsX9_cross [.ref aX, .int (xs (k + 1)), .int (xs (k + 2)), .int (xs (k + 3)), .int (xs (k + 4))] [.ref aM, .int (xs (k + 1)), .int (xs (k + 2)), .int (xs (k + 3)), .int (xs (k + 4))] rv_v cv9 Nx) (next : ∀ (G2 : dzW) (ad2 : dzA) (H2 : Heap) (locs2 : List Loc) (ls2 : Array Slot), Nx G2 ad2 → dz_w Z G2 ad2 H2 → va_S (dz_A Z) s.heap H2 locs2 → lv_has ls2 7 [(4, .int (nI k)), (3, .ref aO), (2, .ref aM), (1, .ref aX), (0, .ref b)] → W p l e room_1 s m #[Value.ref b] below meth c H2 locs2 (cells + 20) (slots + 700) Q (F0 m 1861 ls2 [])) : W p l e room_1 s m #[Value.ref b] below meth c H locs cells slots Q (F0 m 480 ls []) := by
  obtain ⟨hx, hb, hml, hown, hts, hX, hbl, hB, hE, hL9⟩ := K
  have hbA : ¬ dz_A Z b := by show ¬ dzB Z ≤ b; omega
  obtain ⟨kx, frL, loL, mcL, msL, frM, loM, PL, PM, ⟨q01, q02, q03, q04, q05, q06⟩, hL, hLr, hM, hend⟩ := hst
  refine lv_aload_n hx hb dL_law_480 rfl (lv_at hl 3 rfl) ?_
  refine lv_aload_n hx hb dL_law_481 rfl (lv_at hl 4 rfl) ?_
  refine lv_iload hx hb dL_law_482 (lv_at hl 0 rfl) ?_
  refine lv_iconst (v := 1) hx hb dL_law_484 (by decide) ?_
  refine lv_iadd hx hb dL_law_485 ?_
  refine lv_topi (fun q1 eq1 => ?_)
  obtain rfl : q1 = nI (k + 1) := (show q1 = nI k + nI 1 from eq1).trans (nI_add _ _)
  refine va_sld hx hb hX hbl hbA hS (vp_in_nI (by omega) (by omega)) dL_law_486 ?_
  refine lv_topi (fun q2 eq2 => ?_)
  obtain rfl : q2 = xs (k + 1) := eq2.trans (by rw [nI_clamp (by omega)])
  refine lv_aload_n hx hb dL_law_487 rfl (lv_at hl 4 rfl) ?_
  refine lv_iload hx hb dL_law_488 (lv_at hl 0 rfl) ?_
  refine lv_iconst (v := 2) hx hb dL_law_490 (by decide) ?_
  refine lv_iadd hx hb dL_law_491 ?_
  refine lv_topi (fun q3 eq3 => ?_)
  obtain rfl : q3 = nI (k + 2) := (show q3 = nI k + nI 2 from eq3).trans (nI_add _ _)
  refine va_sld hx hb hX hbl hbA hS (vp_in_nI (by omega) (by omega)) dL_law_492 ?_
  refine lv_topi (fun q4 eq4 => ?_)
  obtain rfl : q4 = xs (k + 2) := eq4.trans (by rw [nI_clamp (by omega)])
  refine lv_aload_n hx hb dL_law_493 rfl (lv_at hl 4 rfl) ?_
  refine lv_iload hx hb dL_law_494 (lv_at hl 0 rfl) ?_
  refine lv_iconst (v := 3) hx hb dL_law_496 (by decide) ?_
  refine lv_iadd hx hb dL_law_497 ?_
  refine lv_topi (fun q5 eq5 => ?_)
  obtain rfl : q5 = nI (k + 3) := (show q5 = nI k + nI 3 from eq5).trans (nI_add _ _)
  refine va_sld hx hb hX hbl hbA hS (vp_in_nI (by omega) (by omega)) dL_law_498 ?_
  refine lv_topi (fun q6 eq6 => ?_)
  obtain rfl : q6 = xs (k + 3) := eq6.trans (by rw [nI_clamp (by omega)])
  refine lv_aload_n hx hb dL_law_499 rfl (lv_at hl 4 rfl) ?_
  refine lv_iload hx hb dL_law_500 (lv_at hl 0 rfl) ?_
  refine lv_iconst (v := 4) hx hb dL_law_502 (by decide) ?_
  refine lv_iadd hx hb dL_law_503 ?_
  refine lv_topi (fun q7 eq7 => ?_)
  obtain rfl : q7 = nI (k + 4) := (show q7 = nI k + nI 4 from eq7).trans (nI_add _ _)
  refine va_sld hx hb hX hbl hbA hS (vp_in_nI (by omega) (by omega)) dL_law_504 ?_
  refine lv_topi (fun q8 eq8 => ?_)
  obtain rfl : q8 = xs (k + 4) := eq8.trans (by rw [nI_clamp (by omega)])
  refine dz_kMi (vx_runSW (As := [_, _, _, _, _]) ⟨hx, hb, hml, hown, hts⟩ hL (vx_cwSW 5 hts gL_law_L_cross rfl rfl rfl (by decide +kernel) ⟨by show frL + 1 ≤ 12; omega, by show 8 + (6 + 11) + loL ≤ 454; omega⟩) (dz_P.pre hE hS hG) rfl rfl hl.1 rfl (lv_room (Nat.le_of_ble_eq_true rfl)) dL_law_505 ⟨by show cells + mcL ≤ 601024; omega, by show slots + msL ≤ 7293034; omega⟩) hS (fun x G1 ad1 H locs hp hG hS => ?_)
  obtain ⟨hxk, hp⟩ := hp
  obtain ⟨⟨fs, hMo⟩, hMa⟩ := hLr G1 ad1 hp
  refine lv_istore (lv' := [(5, .int x), (4, .int (nI k)), (3, .ref aO), (2, .ref aM), (1, .ref aX), (0, .ref b)]) hx hb dL_law_508 hl (by decide) rfl (fun ls hl => ?_)
  refine lv_aload_n hx hb dL_law_510 rfl (lv_at hl 3 rfl) ?_
  refine lv_aload_n hx hb dL_law_511 rfl (lv_at hl 5 rfl) ?_
  refine lv_iload hx hb dL_law_512 (lv_at hl 1 rfl) ?_
  refine lv_iconst (v := 1) hx hb dL_law_514 (by decide) ?_
  refine lv_iadd hx hb dL_law_515 ?_
  refine lv_topi (fun q9 eq9 => ?_)
  obtain rfl : q9 = nI (k + 1) := (show q9 = nI k + nI 1 from eq9).trans (nI_add _ _)
  refine va_sld hx hb hX hbl hbA hS (vp_in_nI (by omega) (by omega)) dL_law_516 ?_
  refine lv_topi (fun q10 eq10 => ?_)
  obtain rfl : q10 = xs (k + 1) := eq10.trans (by rw [nI_clamp (by omega)])
  refine lv_aload_n hx hb dL_law_517 rfl (lv_at hl 5 rfl) ?_
  refine lv_iload hx hb dL_law_518 (lv_at hl 1 rfl) ?_
  refine lv_iconst (v := 2) hx hb dL_law_520 (by decide) ?_
  refine lv_iadd hx hb dL_law_521 ?_
  refine lv_topi (fun q11 eq11 => ?_)
  obtain rfl : q11 = nI (k + 2) := (show q11 = nI k + nI 2 from eq11).trans (nI_add _ _)
  refine va_sld hx hb hX hbl hbA hS (vp_in_nI (by omega) (by omega)) dL_law_522 ?_
  refine lv_topi (fun q12 eq12 => ?_)
  obtain rfl : q12 = xs (k + 2) := eq12.trans (by rw [nI_clamp (by omega)])
  refine lv_aload_n hx hb dL_law_523 rfl (lv_at hl 5 rfl) ?_
  refine lv_iload hx hb dL_law_524 (lv_at hl 1 rfl) ?_
  refine lv_iconst (v := 3) hx hb dL_law_526 (by decide) ?_
  refine lv_iadd hx hb dL_law_527 ?_
  refine lv_topi (fun q13 eq13 => ?_)
  obtain rfl : q13 = nI (k + 3) := (show q13 = nI k + nI 3 from eq13).trans (nI_add _ _)
  refine va_sld hx hb hX hbl hbA hS (vp_in_nI (by omega) (by omega)) dL_law_528 ?_
  refine lv_topi (fun q14 eq14 => ?_)
  obtain rfl : q14 = xs (k + 3) := eq14.trans (by rw [nI_clamp (by omega)])
  refine lv_aload_n hx hb dL_law_529 rfl (lv_at hl 5 rfl) ?_
  refine lv_iload hx hb dL_law_530 (lv_at hl 1 rfl) ?_
  refine lv_iconst (v := 4) hx hb dL_law_532 (by decide) ?_
  refine lv_iadd hx hb dL_law_533 ?_
  refine lv_topi (fun q15 eq15 => ?_)
  obtain rfl : q15 = nI (k + 4) := (show q15 = nI k + nI 4 from eq15).trans (nI_add _ _)
  refine va_sld hx hb hX hbl hbA hS (vp_in_nI (by omega) (by omega)) dL_law_534 ?_
  refine lv_topi (fun q16 eq16 => ?_)
  obtain rfl : q16 = xs (k + 4) := eq16.trans (by rw [nI_clamp (by omega)])
  refine dz_kMv (va_runV (As := [_, _, _, _]) ⟨hx, hb, hml, hown, hts⟩ (hM G1 ad1 hp) (cwV 4 hts gL_law_X9_cross rfl rfl rfl (by decide +kernel) ⟨by show frM + 1 ≤ 12; omega, by show 8 + (7 + 11) + loM ≤ 454; omega⟩) (dz_P.preV hE hS hG hMo rfl hMa) rfl rfl hl.1 rfl (lv_room (Nat.le_of_ble_eq_true rfl)) dL_law_535 ⟨by show cells + mcL + 0 ≤ 601024; omega, by show slots + msL + 0 ≤ 7293034; omega⟩) hS (fun G2 ad2 H locs hq hG hS => ?_)
  obtain ⟨⟨hMa2, nm2, ns2, nl2, nx2, nf2, my2, dy2, td2, ssf2, sst2, cfr2, grw2, bkk2, iop2, hMo2⟩, h50, hN⟩ := hend G1 ad1 () G2 ad2 hp hq
  refine lv_aload_n hx hb dL_law_538 rfl (lv_at hl 3 rfl) ?_
  refine dz_kRi (va_runV (As := []) ⟨hx, hb, hml, hown, hts⟩ (c_X9_thrown l Z G2 ad2 aM nm2 ns2 nl2 nx2 nf2 my2 kx dy2 td2 ssf2 sst2 cfr2 grw2 bkk2 iop2 hMa2 hMo2) (cwV 0 hts gL_law_X9_thrown rfl rfl rfl (by decide +kernel) ⟨Nat.le_of_ble_eq_true rfl, Nat.le_of_ble_eq_true rfl⟩) (dz_P.preV hE hS hG hMo2 rfl hMa2) rfl rfl hl.1 rfl (lv_room (Nat.le_of_ble_eq_true rfl)) dL_law_539 ⟨by show cells + mcL + 0 + 0 ≤ 601024; omega, by show slots + msL + 0 + 0 ≤ 7293034; omega⟩) ?_
  refine lv_iload hx hb dL_law_542 (lv_at hl 0 rfl) ?_
  refine lv_icmp_eq (tgt := 549) hx hb dL_law_544 (by decide) (fun c_544 => ?_) (fun c_544 => absurd hxk.symm c_544)
  refine lv_goto (tgt := 1861) hx hb dL_law_549 (by decide) ?_
  refine W.widen (k := cells + 20) (n := slots + 700) (by omega) (by omega) ?_
  exact next G2 ad2 _ _ _ hN hG hS (lv_sub hl [1, 2, 3, 4, 5] rfl)

set_option maxHeartbeats 4000000 in
set_option maxRecDepth 100000 in
theorem lw_s_season {p : Program} {l : Launch} {e : Env} {s : State} {m : MethodId} {below : List Frame} {meth : Method} {c : Code} {b L : Nat} {xs : Nat → Int32} {Z : dzG} (K : lw_K p s m c b L xs Z) {G : dzW} {ad : dzA} {aX aM aO k cells slots : Nat} {H : Heap} {locs : List Loc} {ls : Array Slot} {Q : State → Prop} (hk : k + 5 ≤ L) (hl : lv_has ls 7 [(4, .int (nI k)), (3, .ref aO), (2, .ref aM), (1, .ref aX), (0, .ref b)]) (hG : dz_w Z G ad H) (hS : va_S (dz_A Z) s.heap H locs) (hce : cells + 20 ≤ 601024) (hsl : slots + 700 ≤ 7293034) {Nx : dzW → dzA → Prop} {cv9 : Unit → Int64} (hst : lw_Ok l Z G ad aM aO yL_season wsL_season yX9_season wsX9_season [.ref aX, .int (xs (k + 1)), .int (xs (k + 2))] [.ref aM, .int (xs (k + 1)), .int (xs (k + 2))] rv_v cv9 Nx) (next : ∀ (G2 : dzW) (ad2 : dzA) (H2 : Heap) (locs2 : List Loc) (ls2 : Array Slot), Nx G2 ad2 → dz_w Z G2 ad2 H2 → va_S (dz_A Z) s.heap H2 locs2 → lv_has ls2 7 [(4, .int (nI k)), (3, .ref aO), (2, .ref aM), (1, .ref aX), (0, .ref b)] → W p l e room_1 s m #[Value.ref b] below meth c H2 locs2 (cells + 20) (slots + 700) Q (F0 m 1861 ls2 [])) : W p l e room_1 s m #[Value.ref b] below meth c H locs cells slots Q (F0 m 552 ls []) := by
  obtain ⟨hx, hb, hml, hown, hts, hX, hbl, hB, hE, hL9⟩ := K
  have hbA : ¬ dz_A Z b := by show ¬ dzB Z ≤ b; omega
  obtain ⟨kx, frL, loL, mcL, msL, frM, loM, PL, PM, ⟨q01, q02, q03, q04, q05, q06⟩, hL, hLr, hM, hend⟩ := hst
  refine lv_aload_n hx hb dL_law_552 rfl (lv_at hl 3 rfl) ?_
  refine lv_aload_n hx hb dL_law_553 rfl (lv_at hl 4 rfl) ?_
  refine lv_iload hx hb dL_law_554 (lv_at hl 0 rfl) ?_
  refine lv_iconst (v := 1) hx hb dL_law_556 (by decide) ?_
  refine lv_iadd hx hb dL_law_557 ?_
  refine lv_topi (fun q1 eq1 => ?_)
  obtain rfl : q1 = nI (k + 1) := (show q1 = nI k + nI 1 from eq1).trans (nI_add _ _)
  refine va_sld hx hb hX hbl hbA hS (vp_in_nI (by omega) (by omega)) dL_law_558 ?_
  refine lv_topi (fun q2 eq2 => ?_)
  obtain rfl : q2 = xs (k + 1) := eq2.trans (by rw [nI_clamp (by omega)])
  refine lv_aload_n hx hb dL_law_559 rfl (lv_at hl 4 rfl) ?_
  refine lv_iload hx hb dL_law_560 (lv_at hl 0 rfl) ?_
  refine lv_iconst (v := 2) hx hb dL_law_562 (by decide) ?_
  refine lv_iadd hx hb dL_law_563 ?_
  refine lv_topi (fun q3 eq3 => ?_)
  obtain rfl : q3 = nI (k + 2) := (show q3 = nI k + nI 2 from eq3).trans (nI_add _ _)
  refine va_sld hx hb hX hbl hbA hS (vp_in_nI (by omega) (by omega)) dL_law_564 ?_
  refine lv_topi (fun q4 eq4 => ?_)
  obtain rfl : q4 = xs (k + 2) := eq4.trans (by rw [nI_clamp (by omega)])
  refine dz_kMi (vx_runSW (As := [_, _, _]) ⟨hx, hb, hml, hown, hts⟩ hL (vx_cwSW 3 hts gL_law_L_season rfl rfl rfl (by decide +kernel) ⟨by show frL + 1 ≤ 12; omega, by show 8 + (4 + 11) + loL ≤ 454; omega⟩) (dz_P.pre hE hS hG) rfl rfl hl.1 rfl (lv_room (Nat.le_of_ble_eq_true rfl)) dL_law_565 ⟨by show cells + mcL ≤ 601024; omega, by show slots + msL ≤ 7293034; omega⟩) hS (fun x G1 ad1 H locs hp hG hS => ?_)
  obtain ⟨hxk, hp⟩ := hp
  obtain ⟨⟨fs, hMo⟩, hMa⟩ := hLr G1 ad1 hp
  refine lv_istore (lv' := [(5, .int x), (4, .int (nI k)), (3, .ref aO), (2, .ref aM), (1, .ref aX), (0, .ref b)]) hx hb dL_law_568 hl (by decide) rfl (fun ls hl => ?_)
  refine lv_aload_n hx hb dL_law_570 rfl (lv_at hl 3 rfl) ?_
  refine lv_aload_n hx hb dL_law_571 rfl (lv_at hl 5 rfl) ?_
  refine lv_iload hx hb dL_law_572 (lv_at hl 1 rfl) ?_
  refine lv_iconst (v := 1) hx hb dL_law_574 (by decide) ?_
  refine lv_iadd hx hb dL_law_575 ?_
  refine lv_topi (fun q5 eq5 => ?_)
  obtain rfl : q5 = nI (k + 1) := (show q5 = nI k + nI 1 from eq5).trans (nI_add _ _)
  refine va_sld hx hb hX hbl hbA hS (vp_in_nI (by omega) (by omega)) dL_law_576 ?_
  refine lv_topi (fun q6 eq6 => ?_)
  obtain rfl : q6 = xs (k + 1) := eq6.trans (by rw [nI_clamp (by omega)])
  refine lv_aload_n hx hb dL_law_577 rfl (lv_at hl 5 rfl) ?_
  refine lv_iload hx hb dL_law_578 (lv_at hl 1 rfl) ?_
  refine lv_iconst (v := 2) hx hb dL_law_580 (by decide) ?_
  refine lv_iadd hx hb dL_law_581 ?_
  refine lv_topi (fun q7 eq7 => ?_)
  obtain rfl : q7 = nI (k + 2) := (show q7 = nI k + nI 2 from eq7).trans (nI_add _ _)
  refine va_sld hx hb hX hbl hbA hS (vp_in_nI (by omega) (by omega)) dL_law_582 ?_
  refine lv_topi (fun q8 eq8 => ?_)
  obtain rfl : q8 = xs (k + 2) := eq8.trans (by rw [nI_clamp (by omega)])
  refine dz_kMv (va_runV (As := [_, _]) ⟨hx, hb, hml, hown, hts⟩ (hM G1 ad1 hp) (cwV 2 hts gL_law_X9_season rfl rfl rfl (by decide +kernel) ⟨by show frM + 1 ≤ 12; omega, by show 8 + (3 + 11) + loM ≤ 454; omega⟩) (dz_P.preV hE hS hG hMo rfl hMa) rfl rfl hl.1 rfl (lv_room (Nat.le_of_ble_eq_true rfl)) dL_law_583 ⟨by show cells + mcL + 0 ≤ 601024; omega, by show slots + msL + 0 ≤ 7293034; omega⟩) hS (fun G2 ad2 H locs hq hG hS => ?_)
  obtain ⟨⟨hMa2, nm2, ns2, nl2, nx2, nf2, my2, dy2, td2, ssf2, sst2, cfr2, grw2, bkk2, iop2, hMo2⟩, h50, hN⟩ := hend G1 ad1 () G2 ad2 hp hq
  refine lv_aload_n hx hb dL_law_586 rfl (lv_at hl 3 rfl) ?_
  refine dz_kRi (va_runV (As := []) ⟨hx, hb, hml, hown, hts⟩ (c_X9_thrown l Z G2 ad2 aM nm2 ns2 nl2 nx2 nf2 my2 kx dy2 td2 ssf2 sst2 cfr2 grw2 bkk2 iop2 hMa2 hMo2) (cwV 0 hts gL_law_X9_thrown rfl rfl rfl (by decide +kernel) ⟨Nat.le_of_ble_eq_true rfl, Nat.le_of_ble_eq_true rfl⟩) (dz_P.preV hE hS hG hMo2 rfl hMa2) rfl rfl hl.1 rfl (lv_room (Nat.le_of_ble_eq_true rfl)) dL_law_587 ⟨by show cells + mcL + 0 + 0 ≤ 601024; omega, by show slots + msL + 0 + 0 ≤ 7293034; omega⟩) ?_
  refine lv_iload hx hb dL_law_590 (lv_at hl 0 rfl) ?_
  refine lv_icmp_eq (tgt := 597) hx hb dL_law_592 (by decide) (fun c_592 => ?_) (fun c_592 => absurd hxk.symm c_592)
  refine lv_goto (tgt := 1861) hx hb dL_law_597 (by decide) ?_
  refine W.widen (k := cells + 20) (n := slots + 700) (by omega) (by omega) ?_
  exact next G2 ad2 _ _ _ hN hG hS (lv_sub hl [1, 2, 3, 4, 5] rfl)

set_option maxHeartbeats 4000000 in
set_option maxRecDepth 100000 in
theorem lw_s_cloud {p : Program} {l : Launch} {e : Env} {s : State} {m : MethodId} {below : List Frame} {meth : Method} {c : Code} {b L : Nat} {xs : Nat → Int32} {Z : dzG} (K : lw_K p s m c b L xs Z) {G : dzW} {ad : dzA} {aX aM aO k cells slots : Nat} {H : Heap} {locs : List Loc} {ls : Array Slot} {Q : State → Prop} (hk : k + 5 ≤ L) (hl : lv_has ls 7 [(4, .int (nI k)), (3, .ref aO), (2, .ref aM), (1, .ref aX), (0, .ref b)]) (hG : dz_w Z G ad H) (hS : va_S (dz_A Z) s.heap H locs) (hce : cells + 20 ≤ 601024) (hsl : slots + 700 ≤ 7293034) {Nx : dzW → dzA → Prop} (hst : lw_Ok l Z G ad aM aO yL_cloud wsL_cloud yX9_cloud wsX9_cloud [.ref aX, .int (xs (k + 1)), .ref aO] [.ref aM, .int (xs (k + 1))] rv_i (fun y => y.toInt64) Nx) (next : ∀ (G2 : dzW) (ad2 : dzA) (H2 : Heap) (locs2 : List Loc) (ls2 : Array Slot), Nx G2 ad2 → dz_w Z G2 ad2 H2 → va_S (dz_A Z) s.heap H2 locs2 → lv_has ls2 7 [(4, .int (nI k)), (3, .ref aO), (2, .ref aM), (1, .ref aX), (0, .ref b)] → W p l e room_1 s m #[Value.ref b] below meth c H2 locs2 (cells + 20) (slots + 700) Q (F0 m 1861 ls2 [])) : W p l e room_1 s m #[Value.ref b] below meth c H locs cells slots Q (F0 m 600 ls []) := by
  obtain ⟨hx, hb, hml, hown, hts, hX, hbl, hB, hE, hL9⟩ := K
  have hbA : ¬ dz_A Z b := by show ¬ dzB Z ≤ b; omega
  obtain ⟨kx, frL, loL, mcL, msL, frM, loM, PL, PM, ⟨q01, q02, q03, q04, q05, q06⟩, hL, hLr, hM, hend⟩ := hst
  refine lv_aload_n hx hb dL_law_600 rfl (lv_at hl 3 rfl) ?_
  refine lv_aload_n hx hb dL_law_601 rfl (lv_at hl 4 rfl) ?_
  refine lv_iload hx hb dL_law_602 (lv_at hl 0 rfl) ?_
  refine lv_iconst (v := 1) hx hb dL_law_604 (by decide) ?_
  refine lv_iadd hx hb dL_law_605 ?_
  refine lv_topi (fun q1 eq1 => ?_)
  obtain rfl : q1 = nI (k + 1) := (show q1 = nI k + nI 1 from eq1).trans (nI_add _ _)
  refine va_sld hx hb hX hbl hbA hS (vp_in_nI (by omega) (by omega)) dL_law_606 ?_
  refine lv_topi (fun q2 eq2 => ?_)
  obtain rfl : q2 = xs (k + 1) := eq2.trans (by rw [nI_clamp (by omega)])
  refine lv_aload_n hx hb dL_law_607 rfl (lv_at hl 1 rfl) ?_
  refine dz_kMi (vx_runSW (As := [_, _, _]) ⟨hx, hb, hml, hown, hts⟩ hL (vx_cwSW 3 hts gL_law_L_cloud rfl rfl rfl (by decide +kernel) ⟨by show frL + 1 ≤ 12; omega, by show 8 + (4 + 11) + loL ≤ 454; omega⟩) (dz_P.pre hE hS hG) rfl rfl hl.1 rfl (lv_room (Nat.le_of_ble_eq_true rfl)) dL_law_608 ⟨by show cells + mcL ≤ 601024; omega, by show slots + msL ≤ 7293034; omega⟩) hS (fun x G1 ad1 H locs hp hG hS => ?_)
  obtain ⟨hxk, hp⟩ := hp
  obtain ⟨⟨fs, hMo⟩, hMa⟩ := hLr G1 ad1 hp
  refine lv_istore (lv' := [(5, .int x), (4, .int (nI k)), (3, .ref aO), (2, .ref aM), (1, .ref aX), (0, .ref b)]) hx hb dL_law_611 hl (by decide) rfl (fun ls hl => ?_)
  refine lv_aload_n hx hb dL_law_613 rfl (lv_at hl 3 rfl) ?_
  refine lv_aload_n hx hb dL_law_614 rfl (lv_at hl 5 rfl) ?_
  refine lv_iload hx hb dL_law_615 (lv_at hl 1 rfl) ?_
  refine lv_iconst (v := 1) hx hb dL_law_617 (by decide) ?_
  refine lv_iadd hx hb dL_law_618 ?_
  refine lv_topi (fun q3 eq3 => ?_)
  obtain rfl : q3 = nI (k + 1) := (show q3 = nI k + nI 1 from eq3).trans (nI_add _ _)
  refine va_sld hx hb hX hbl hbA hS (vp_in_nI (by omega) (by omega)) dL_law_619 ?_
  refine lv_topi (fun q4 eq4 => ?_)
  obtain rfl : q4 = xs (k + 1) := eq4.trans (by rw [nI_clamp (by omega)])
  refine dz_kMi (va_runV (As := [_]) ⟨hx, hb, hml, hown, hts⟩ (hM G1 ad1 hp) (cwV 1 hts gL_law_X9_cloud rfl rfl rfl (by decide +kernel) ⟨by show frM + 1 ≤ 12; omega, by show 8 + (2 + 11) + loM ≤ 454; omega⟩) (dz_P.preV hE hS hG hMo rfl hMa) rfl rfl hl.1 rfl (lv_room (Nat.le_of_ble_eq_true rfl)) dL_law_620 ⟨by show cells + mcL + 0 ≤ 601024; omega, by show slots + msL + 0 ≤ 7293034; omega⟩) hS (fun y G2 ad2 H locs hq hG hS => ?_)
  obtain ⟨⟨hMa2, nm2, ns2, nl2, nx2, nf2, my2, dy2, td2, ssf2, sst2, cfr2, grw2, bkk2, iop2, hMo2⟩, h50, hN⟩ := hend G1 ad1 y G2 ad2 hp hq
  refine lv_istore (lv' := [(6, .int y), (5, .int x), (4, .int (nI k)), (3, .ref aO), (2, .ref aM), (1, .ref aX), (0, .ref b)]) hx hb dL_law_623 hl (by decide) rfl (fun ls hl => ?_)
  refine lv_aload_n hx hb dL_law_625 rfl (lv_at hl 4 rfl) ?_
  refine dz_kRi (va_runV (As := []) ⟨hx, hb, hml, hown, hts⟩ (c_X9_thrown l Z G2 ad2 aM nm2 ns2 nl2 nx2 nf2 my2 kx dy2 td2 ssf2 sst2 cfr2 grw2 bkk2 iop2 hMa2 hMo2) (cwV 0 hts gL_law_X9_thrown rfl rfl rfl (by decide +kernel) ⟨Nat.le_of_ble_eq_true rfl, Nat.le_of_ble_eq_true rfl⟩) (dz_P.preV hE hS hG hMo2 rfl hMa2) rfl rfl hl.1 rfl (lv_room (Nat.le_of_ble_eq_true rfl)) dL_law_626 ⟨by show cells + mcL + 0 + 0 ≤ 601024; omega, by show slots + msL + 0 + 0 ≤ 7293034; omega⟩) ?_
  refine lv_iload hx hb dL_law_629 (lv_at hl 1 rfl) ?_
  refine lv_icmp_eq (tgt := 636) hx hb dL_law_631 (by decide) (fun c_631 => ?_) (fun c_631 => absurd hxk.symm c_631)
  refine lv_iload hx hb dL_law_636 (lv_at hl 1 rfl) ?_
  refine lv_if_ne (tgt := 653) hx hb dL_law_638 (by decide) (fun c_638 => ?_) (fun c_638 => ?_)
  · refine lv_goto (tgt := 1861) hx hb dL_law_653 (by decide) ?_
    refine W.widen (k := cells + 20) (n := slots + 700) (by omega) (by omega) ?_
    exact next G2 ad2 _ _ _ hN hG hS (lv_sub hl [2, 3, 4, 5, 6] rfl)
  · obtain ⟨fo9, h5, ha5, hv5⟩ := h50 (hxk.symm.trans c_638)
    refine lv_aload_n hx hb dL_law_641 rfl (lv_at hl 3 rfl) ?_
    refine lv_iconst (v := 0) hx hb dL_law_642 (by decide) ?_
    refine dz_lald hx hb hE hG ha5 h5 (by unfold vp_in; decide) dL_law_643 ?_
    refine lv_iload hx hb dL_law_644 (lv_at hl 0 rfl) ?_
    refine lv_i2l hx hb dL_law_646 rfl ?_
    refine W.lcmp hx hb dL_law_647 ?_
    refine lv_topi (fun q5 eq5 => ?_)
    obtain rfl : q5 = 0 := eq5.trans (lw_cmp hv5)
    refine lv_if_eq (tgt := 653) hx hb dL_law_648 (by decide) (fun c_648 => ?_) (fun c_648 => absurd rfl c_648)
    refine lv_goto (tgt := 1861) hx hb dL_law_653 (by decide) ?_
    refine W.widen (k := cells + 20) (n := slots + 700) (by omega) (by omega) ?_
    exact next G2 ad2 _ _ _ hN hG hS (lv_sub hl [2, 3, 4, 5, 6] rfl)

set_option maxHeartbeats 4000000 in
set_option maxRecDepth 100000 in
theorem lw_s_world {p : Program} {l : Launch} {e : Env} {s : State} {m : MethodId} {below : List Frame} {meth : Method} {c : Code} {b L : Nat} {xs : Nat → Int32} {Z : dzG} (K : lw_K p s m c b L xs Z) {G : dzW} {ad : dzA} {aX aM aO k cells slots : Nat} {H : Heap} {locs : List Loc} {ls : Array Slot} {Q : State → Prop} (hk : k + 5 ≤ L) (hl : lv_has ls 7 [(4, .int (nI k)), (3, .ref aO), (2, .ref aM), (1, .ref aX), (0, .ref b)]) (hG : dz_w Z G ad H) (hS : va_S (dz_A Z) s.heap H locs) (hce : cells + 20 ≤ 601024) (hsl : slots + 700 ≤ 7293034) {Nx : dzW → dzA → Prop} (hst : lw_Ok l Z G ad aM aO yL_world wsL_world yX9_world wsX9_world [.ref aX, .int (xs (k + 1)), .ref aO] [.ref aM, .int (xs (k + 1))] rv_i (fun y => y.toInt64) Nx) (next : ∀ (G2 : dzW) (ad2 : dzA) (H2 : Heap) (locs2 : List Loc) (ls2 : Array Slot), Nx G2 ad2 → dz_w Z G2 ad2 H2 → va_S (dz_A Z) s.heap H2 locs2 → lv_has ls2 7 [(4, .int (nI k)), (3, .ref aO), (2, .ref aM), (1, .ref aX), (0, .ref b)] → W p l e room_1 s m #[Value.ref b] below meth c H2 locs2 (cells + 20) (slots + 700) Q (F0 m 1861 ls2 [])) : W p l e room_1 s m #[Value.ref b] below meth c H locs cells slots Q (F0 m 656 ls []) := by
  obtain ⟨hx, hb, hml, hown, hts, hX, hbl, hB, hE, hL9⟩ := K
  have hbA : ¬ dz_A Z b := by show ¬ dzB Z ≤ b; omega
  obtain ⟨kx, frL, loL, mcL, msL, frM, loM, PL, PM, ⟨q01, q02, q03, q04, q05, q06⟩, hL, hLr, hM, hend⟩ := hst
  refine lv_aload_n hx hb dL_law_656 rfl (lv_at hl 3 rfl) ?_
  refine lv_aload_n hx hb dL_law_657 rfl (lv_at hl 4 rfl) ?_
  refine lv_iload hx hb dL_law_658 (lv_at hl 0 rfl) ?_
  refine lv_iconst (v := 1) hx hb dL_law_660 (by decide) ?_
  refine lv_iadd hx hb dL_law_661 ?_
  refine lv_topi (fun q1 eq1 => ?_)
  obtain rfl : q1 = nI (k + 1) := (show q1 = nI k + nI 1 from eq1).trans (nI_add _ _)
  refine va_sld hx hb hX hbl hbA hS (vp_in_nI (by omega) (by omega)) dL_law_662 ?_
  refine lv_topi (fun q2 eq2 => ?_)
  obtain rfl : q2 = xs (k + 1) := eq2.trans (by rw [nI_clamp (by omega)])
  refine lv_aload_n hx hb dL_law_663 rfl (lv_at hl 1 rfl) ?_
  refine dz_kMi (vx_runSW (As := [_, _, _]) ⟨hx, hb, hml, hown, hts⟩ hL (vx_cwSW 3 hts gL_law_L_world rfl rfl rfl (by decide +kernel) ⟨by show frL + 1 ≤ 12; omega, by show 8 + (4 + 11) + loL ≤ 454; omega⟩) (dz_P.pre hE hS hG) rfl rfl hl.1 rfl (lv_room (Nat.le_of_ble_eq_true rfl)) dL_law_664 ⟨by show cells + mcL ≤ 601024; omega, by show slots + msL ≤ 7293034; omega⟩) hS (fun x G1 ad1 H locs hp hG hS => ?_)
  obtain ⟨hxk, hp⟩ := hp
  obtain ⟨⟨fs, hMo⟩, hMa⟩ := hLr G1 ad1 hp
  refine lv_istore (lv' := [(5, .int x), (4, .int (nI k)), (3, .ref aO), (2, .ref aM), (1, .ref aX), (0, .ref b)]) hx hb dL_law_667 hl (by decide) rfl (fun ls hl => ?_)
  refine lv_aload_n hx hb dL_law_669 rfl (lv_at hl 3 rfl) ?_
  refine lv_aload_n hx hb dL_law_670 rfl (lv_at hl 5 rfl) ?_
  refine lv_iload hx hb dL_law_671 (lv_at hl 1 rfl) ?_
  refine lv_iconst (v := 1) hx hb dL_law_673 (by decide) ?_
  refine lv_iadd hx hb dL_law_674 ?_
  refine lv_topi (fun q3 eq3 => ?_)
  obtain rfl : q3 = nI (k + 1) := (show q3 = nI k + nI 1 from eq3).trans (nI_add _ _)
  refine va_sld hx hb hX hbl hbA hS (vp_in_nI (by omega) (by omega)) dL_law_675 ?_
  refine lv_topi (fun q4 eq4 => ?_)
  obtain rfl : q4 = xs (k + 1) := eq4.trans (by rw [nI_clamp (by omega)])
  refine dz_kMi (va_runV (As := [_]) ⟨hx, hb, hml, hown, hts⟩ (hM G1 ad1 hp) (cwV 1 hts gL_law_X9_world rfl rfl rfl (by decide +kernel) ⟨by show frM + 1 ≤ 12; omega, by show 8 + (3 + 11) + loM ≤ 454; omega⟩) (dz_P.preV hE hS hG hMo rfl hMa) rfl rfl hl.1 rfl (lv_room (Nat.le_of_ble_eq_true rfl)) dL_law_676 ⟨by show cells + mcL + 0 ≤ 601024; omega, by show slots + msL + 0 ≤ 7293034; omega⟩) hS (fun y G2 ad2 H locs hq hG hS => ?_)
  obtain ⟨⟨hMa2, nm2, ns2, nl2, nx2, nf2, my2, dy2, td2, ssf2, sst2, cfr2, grw2, bkk2, iop2, hMo2⟩, h50, hN⟩ := hend G1 ad1 y G2 ad2 hp hq
  refine lv_istore (lv' := [(6, .int y), (5, .int x), (4, .int (nI k)), (3, .ref aO), (2, .ref aM), (1, .ref aX), (0, .ref b)]) hx hb dL_law_679 hl (by decide) rfl (fun ls hl => ?_)
  refine lv_aload_n hx hb dL_law_681 rfl (lv_at hl 4 rfl) ?_
  refine dz_kRi (va_runV (As := []) ⟨hx, hb, hml, hown, hts⟩ (c_X9_thrown l Z G2 ad2 aM nm2 ns2 nl2 nx2 nf2 my2 kx dy2 td2 ssf2 sst2 cfr2 grw2 bkk2 iop2 hMa2 hMo2) (cwV 0 hts gL_law_X9_thrown rfl rfl rfl (by decide +kernel) ⟨Nat.le_of_ble_eq_true rfl, Nat.le_of_ble_eq_true rfl⟩) (dz_P.preV hE hS hG hMo2 rfl hMa2) rfl rfl hl.1 rfl (lv_room (Nat.le_of_ble_eq_true rfl)) dL_law_682 ⟨by show cells + mcL + 0 + 0 ≤ 601024; omega, by show slots + msL + 0 + 0 ≤ 7293034; omega⟩) ?_
  refine lv_iload hx hb dL_law_685 (lv_at hl 1 rfl) ?_
  refine lv_icmp_eq (tgt := 692) hx hb dL_law_687 (by decide) (fun c_687 => ?_) (fun c_687 => absurd hxk.symm c_687)
  refine lv_iload hx hb dL_law_692 (lv_at hl 1 rfl) ?_
  refine lv_if_ne (tgt := 709) hx hb dL_law_694 (by decide) (fun c_694 => ?_) (fun c_694 => ?_)
  · refine lv_goto (tgt := 1861) hx hb dL_law_709 (by decide) ?_
    refine W.widen (k := cells + 20) (n := slots + 700) (by omega) (by omega) ?_
    exact next G2 ad2 _ _ _ hN hG hS (lv_sub hl [2, 3, 4, 5, 6] rfl)
  · obtain ⟨fo9, h5, ha5, hv5⟩ := h50 (hxk.symm.trans c_694)
    refine lv_aload_n hx hb dL_law_697 rfl (lv_at hl 3 rfl) ?_
    refine lv_iconst (v := 0) hx hb dL_law_698 (by decide) ?_
    refine dz_lald hx hb hE hG ha5 h5 (by unfold vp_in; decide) dL_law_699 ?_
    refine lv_iload hx hb dL_law_700 (lv_at hl 0 rfl) ?_
    refine lv_i2l hx hb dL_law_702 rfl ?_
    refine W.lcmp hx hb dL_law_703 ?_
    refine lv_topi (fun q5 eq5 => ?_)
    obtain rfl : q5 = 0 := eq5.trans (lw_cmp hv5)
    refine lv_if_eq (tgt := 709) hx hb dL_law_704 (by decide) (fun c_704 => ?_) (fun c_704 => absurd rfl c_704)
    refine lv_goto (tgt := 1861) hx hb dL_law_709 (by decide) ?_
    refine W.widen (k := cells + 20) (n := slots + 700) (by omega) (by omega) ?_
    exact next G2 ad2 _ _ _ hN hG hS (lv_sub hl [2, 3, 4, 5, 6] rfl)

set_option maxHeartbeats 4000000 in
set_option maxRecDepth 100000 in
theorem lw_s_frame {p : Program} {l : Launch} {e : Env} {s : State} {m : MethodId} {below : List Frame} {meth : Method} {c : Code} {b L : Nat} {xs : Nat → Int32} {Z : dzG} (K : lw_K p s m c b L xs Z) {G : dzW} {ad : dzA} {aX aM aO k cells slots : Nat} {H : Heap} {locs : List Loc} {ls : Array Slot} {Q : State → Prop} (hk : k + 5 ≤ L) (hl : lv_has ls 7 [(4, .int (nI k)), (3, .ref aO), (2, .ref aM), (1, .ref aX), (0, .ref b)]) (hG : dz_w Z G ad H) (hS : va_S (dz_A Z) s.heap H locs) (hce : cells + 20 ≤ 601024) (hsl : slots + 700 ≤ 7293034) {Nx : dzW → dzA → Prop} (hst : lw_Ok l Z G ad aM aO yL_frame wsL_frame yX9_frame wsX9_frame [.ref aX, .ref aO] [.ref aM] rv_i (fun y => y.toInt64) Nx) (next : ∀ (G2 : dzW) (ad2 : dzA) (H2 : Heap) (locs2 : List Loc) (ls2 : Array Slot), Nx G2 ad2 → dz_w Z G2 ad2 H2 → va_S (dz_A Z) s.heap H2 locs2 → lv_has ls2 7 [(4, .int (nI k)), (3, .ref aO), (2, .ref aM), (1, .ref aX), (0, .ref b)] → W p l e room_1 s m #[Value.ref b] below meth c H2 locs2 (cells + 20) (slots + 700) Q (F0 m 1861 ls2 [])) : W p l e room_1 s m #[Value.ref b] below meth c H locs cells slots Q (F0 m 712 ls []) := by
  obtain ⟨hx, hb, hml, hown, hts, hX, hbl, hB, hE, hL9⟩ := K
  have hbA : ¬ dz_A Z b := by show ¬ dzB Z ≤ b; omega
  obtain ⟨kx, frL, loL, mcL, msL, frM, loM, PL, PM, ⟨q01, q02, q03, q04, q05, q06⟩, hL, hLr, hM, hend⟩ := hst
  refine lv_aload_n hx hb dL_law_712 rfl (lv_at hl 3 rfl) ?_
  refine lv_aload_n hx hb dL_law_713 rfl (lv_at hl 1 rfl) ?_
  refine dz_kMi (vx_runSW (As := [_, _]) ⟨hx, hb, hml, hown, hts⟩ hL (vx_cwSW 2 hts gL_law_L_frame rfl rfl rfl (by decide +kernel) ⟨by show frL + 1 ≤ 12; omega, by show 8 + (3 + 11) + loL ≤ 454; omega⟩) (dz_P.pre hE hS hG) rfl rfl hl.1 rfl (lv_room (Nat.le_of_ble_eq_true rfl)) dL_law_714 ⟨by show cells + mcL ≤ 601024; omega, by show slots + msL ≤ 7293034; omega⟩) hS (fun x G1 ad1 H locs hp hG hS => ?_)
  obtain ⟨hxk, hp⟩ := hp
  obtain ⟨⟨fs, hMo⟩, hMa⟩ := hLr G1 ad1 hp
  refine lv_istore (lv' := [(5, .int x), (4, .int (nI k)), (3, .ref aO), (2, .ref aM), (1, .ref aX), (0, .ref b)]) hx hb dL_law_717 hl (by decide) rfl (fun ls hl => ?_)
  refine lv_aload_n hx hb dL_law_719 rfl (lv_at hl 3 rfl) ?_
  refine dz_kMi (va_runV (As := []) ⟨hx, hb, hml, hown, hts⟩ (hM G1 ad1 hp) (cwV 0 hts gL_law_X9_frame rfl rfl rfl (by decide +kernel) ⟨by show frM + 1 ≤ 12; omega, by show 8 + (4 + 11) + loM ≤ 454; omega⟩) (dz_P.preV hE hS hG hMo rfl hMa) rfl rfl hl.1 rfl (lv_room (Nat.le_of_ble_eq_true rfl)) dL_law_720 ⟨by show cells + mcL + 0 ≤ 601024; omega, by show slots + msL + 0 ≤ 7293034; omega⟩) hS (fun y G2 ad2 H locs hq hG hS => ?_)
  obtain ⟨⟨hMa2, nm2, ns2, nl2, nx2, nf2, my2, dy2, td2, ssf2, sst2, cfr2, grw2, bkk2, iop2, hMo2⟩, h50, hN⟩ := hend G1 ad1 y G2 ad2 hp hq
  refine lv_istore (lv' := [(6, .int y), (5, .int x), (4, .int (nI k)), (3, .ref aO), (2, .ref aM), (1, .ref aX), (0, .ref b)]) hx hb dL_law_723 hl (by decide) rfl (fun ls hl => ?_)
  refine lv_aload_n hx hb dL_law_725 rfl (lv_at hl 4 rfl) ?_
  refine dz_kRi (va_runV (As := []) ⟨hx, hb, hml, hown, hts⟩ (c_X9_thrown l Z G2 ad2 aM nm2 ns2 nl2 nx2 nf2 my2 kx dy2 td2 ssf2 sst2 cfr2 grw2 bkk2 iop2 hMa2 hMo2) (cwV 0 hts gL_law_X9_thrown rfl rfl rfl (by decide +kernel) ⟨Nat.le_of_ble_eq_true rfl, Nat.le_of_ble_eq_true rfl⟩) (dz_P.preV hE hS hG hMo2 rfl hMa2) rfl rfl hl.1 rfl (lv_room (Nat.le_of_ble_eq_true rfl)) dL_law_726 ⟨by show cells + mcL + 0 + 0 ≤ 601024; omega, by show slots + msL + 0 + 0 ≤ 7293034; omega⟩) ?_
  refine lv_iload hx hb dL_law_729 (lv_at hl 1 rfl) ?_
  refine lv_icmp_eq (tgt := 736) hx hb dL_law_731 (by decide) (fun c_731 => ?_) (fun c_731 => absurd hxk.symm c_731)
  refine lv_iload hx hb dL_law_736 (lv_at hl 1 rfl) ?_
  refine lv_if_ne (tgt := 753) hx hb dL_law_738 (by decide) (fun c_738 => ?_) (fun c_738 => ?_)
  · refine lv_goto (tgt := 1861) hx hb dL_law_753 (by decide) ?_
    refine W.widen (k := cells + 20) (n := slots + 700) (by omega) (by omega) ?_
    exact next G2 ad2 _ _ _ hN hG hS (lv_sub hl [2, 3, 4, 5, 6] rfl)
  · obtain ⟨fo9, h5, ha5, hv5⟩ := h50 (hxk.symm.trans c_738)
    refine lv_aload_n hx hb dL_law_741 rfl (lv_at hl 3 rfl) ?_
    refine lv_iconst (v := 0) hx hb dL_law_742 (by decide) ?_
    refine dz_lald hx hb hE hG ha5 h5 (by unfold vp_in; decide) dL_law_743 ?_
    refine lv_iload hx hb dL_law_744 (lv_at hl 0 rfl) ?_
    refine lv_i2l hx hb dL_law_746 rfl ?_
    refine W.lcmp hx hb dL_law_747 ?_
    refine lv_topi (fun q1 eq1 => ?_)
    obtain rfl : q1 = 0 := eq1.trans (lw_cmp hv5)
    refine lv_if_eq (tgt := 753) hx hb dL_law_748 (by decide) (fun c_748 => ?_) (fun c_748 => absurd rfl c_748)
    refine lv_goto (tgt := 1861) hx hb dL_law_753 (by decide) ?_
    refine W.widen (k := cells + 20) (n := slots + 700) (by omega) (by omega) ?_
    exact next G2 ad2 _ _ _ hN hG hS (lv_sub hl [2, 3, 4, 5, 6] rfl)
