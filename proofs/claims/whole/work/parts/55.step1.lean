set_option maxHeartbeats 4000000 in
set_option maxRecDepth 100000 in
theorem lw_s_pass {p : Program} {l : Launch} {e : Env} {s : State} {m : MethodId} {below : List Frame} {meth : Method} {c : Code} {b L : Nat} {xs : Nat → Int32} {Z : dzG} (K : lw_K p s m c b L xs Z) {G : dzW} {ad : dzA} {aX aM aO k cells slots : Nat} {H : Heap} {locs : List Loc} {ls : Array Slot} {Q : State → Prop} (hk : k + 5 ≤ L) (hl : lv_has ls 7 [(4, .int (nI k)), (3, .ref aO), (2, .ref aM), (1, .ref aX), (0, .ref b)]) (hG : dz_w Z G ad H) (hS : va_S (dz_A Z) s.heap H locs) (hce : cells + 20 ≤ 601024) (hsl : slots + 700 ≤ 7293034) {Nx : dzW → dzA → Prop} (hst : lw_Ok l Z G ad aM aO yL_pass wsL_pass yX9_pass wsX9_pass [.ref aX, .int (xs (k + 1)), .ref aO] [.ref aM, .int (xs (k + 1))] rv_i (fun y => y.toInt64) Nx) (next : ∀ (G2 : dzW) (ad2 : dzA) (H2 : Heap) (locs2 : List Loc) (ls2 : Array Slot), Nx G2 ad2 → dz_w Z G2 ad2 H2 → va_S (dz_A Z) s.heap H2 locs2 → lv_has ls2 7 [(4, .int (nI k)), (3, .ref aO), (2, .ref aM), (1, .ref aX), (0, .ref b)] → W p l e room_1 s m #[Value.ref b] below meth c H2 locs2 (cells + 20) (slots + 700) Q (F0 m 1861 ls2 [])) : W p l e room_1 s m #[Value.ref b] below meth c H locs cells slots Q (F0 m 756 ls []) := by
  obtain ⟨hx, hb, hml, hown, hts, hX, hbl, hB, hE, hL9⟩ := K
  have hbA : ¬ dz_A Z b := by show ¬ dzB Z ≤ b; omega
  obtain ⟨kx, frL, loL, mcL, msL, frM, loM, PL, PM, ⟨q01, q02, q03, q04, q05, q06⟩, hL, hLr, hM, hend⟩ := hst
  refine lv_aload_n hx hb dL_law_756 rfl (lv_at hl 3 rfl) ?_
  refine lv_aload_n hx hb dL_law_757 rfl (lv_at hl 4 rfl) ?_
  refine lv_iload hx hb dL_law_758 (lv_at hl 0 rfl) ?_
  refine lv_iconst (v := 1) hx hb dL_law_760 (by decide) ?_
  refine lv_iadd hx hb dL_law_761 ?_
  refine lv_topi (fun q1 eq1 => ?_)
  obtain rfl : q1 = nI (k + 1) := (show q1 = nI k + nI 1 from eq1).trans (nI_add _ _)
  refine va_sld hx hb hX hbl hbA hS (vp_in_nI (by omega) (by omega)) dL_law_762 ?_
  refine lv_topi (fun q2 eq2 => ?_)
  obtain rfl : q2 = xs (k + 1) := eq2.trans (by rw [nI_clamp (by omega)])
  refine lv_aload_n hx hb dL_law_763 rfl (lv_at hl 1 rfl) ?_
  refine dz_kMi (vx_runSW (As := [_, _, _]) ⟨hx, hb, hml, hown, hts⟩ hL (vx_cwSW 3 hts gL_law_L_pass rfl rfl rfl (by decide +kernel) ⟨by show frL + 1 ≤ 12; omega, by show 8 + (4 + 11) + loL ≤ 454; omega⟩) (dz_P.pre hE hS hG) rfl rfl hl.1 rfl (lv_room (Nat.le_of_ble_eq_true rfl)) dL_law_764 ⟨by show cells + mcL ≤ 601024; omega, by show slots + msL ≤ 7293034; omega⟩) hS (fun x G1 ad1 H locs hp hG hS => ?_)
  obtain ⟨hxk, hp⟩ := hp
  obtain ⟨⟨fs, hMo⟩, hMa⟩ := hLr G1 ad1 hp
  refine lv_istore (lv' := [(5, .int x), (4, .int (nI k)), (3, .ref aO), (2, .ref aM), (1, .ref aX), (0, .ref b)]) hx hb dL_law_767 hl (by decide) rfl (fun ls hl => ?_)
  refine lv_aload_n hx hb dL_law_769 rfl (lv_at hl 3 rfl) ?_
  refine lv_aload_n hx hb dL_law_770 rfl (lv_at hl 5 rfl) ?_
  refine lv_iload hx hb dL_law_771 (lv_at hl 1 rfl) ?_
  refine lv_iconst (v := 1) hx hb dL_law_773 (by decide) ?_
  refine lv_iadd hx hb dL_law_774 ?_
  refine lv_topi (fun q3 eq3 => ?_)
  obtain rfl : q3 = nI (k + 1) := (show q3 = nI k + nI 1 from eq3).trans (nI_add _ _)
  refine va_sld hx hb hX hbl hbA hS (vp_in_nI (by omega) (by omega)) dL_law_775 ?_
  refine lv_topi (fun q4 eq4 => ?_)
  obtain rfl : q4 = xs (k + 1) := eq4.trans (by rw [nI_clamp (by omega)])
  refine dz_kMi (va_runV (As := [_]) ⟨hx, hb, hml, hown, hts⟩ (hM G1 ad1 hp) (cwV 1 hts gL_law_X9_pass rfl rfl rfl (by decide +kernel) ⟨by show frM + 1 ≤ 12; omega, by show 8 + (2 + 11) + loM ≤ 454; omega⟩) (dz_P.preV hE hS hG hMo rfl hMa) rfl rfl hl.1 rfl (lv_room (Nat.le_of_ble_eq_true rfl)) dL_law_776 ⟨by show cells + mcL + 0 ≤ 601024; omega, by show slots + msL + 0 ≤ 7293034; omega⟩) hS (fun y G2 ad2 H locs hq hG hS => ?_)
  obtain ⟨⟨hMa2, nm2, ns2, nl2, nx2, nf2, my2, dy2, td2, ssf2, sst2, cfr2, grw2, bkk2, iop2, hMo2⟩, h50, hN⟩ := hend G1 ad1 y G2 ad2 hp hq
  refine lv_istore (lv' := [(6, .int y), (5, .int x), (4, .int (nI k)), (3, .ref aO), (2, .ref aM), (1, .ref aX), (0, .ref b)]) hx hb dL_law_779 hl (by decide) rfl (fun ls hl => ?_)
  refine lv_aload_n hx hb dL_law_781 rfl (lv_at hl 4 rfl) ?_
  refine dz_kRi (va_runV (As := []) ⟨hx, hb, hml, hown, hts⟩ (c_X9_thrown l Z G2 ad2 aM nm2 ns2 nl2 nx2 nf2 my2 kx dy2 td2 ssf2 sst2 cfr2 grw2 bkk2 iop2 hMa2 hMo2) (cwV 0 hts gL_law_X9_thrown rfl rfl rfl (by decide +kernel) ⟨Nat.le_of_ble_eq_true rfl, Nat.le_of_ble_eq_true rfl⟩) (dz_P.preV hE hS hG hMo2 rfl hMa2) rfl rfl hl.1 rfl (lv_room (Nat.le_of_ble_eq_true rfl)) dL_law_782 ⟨by show cells + mcL + 0 + 0 ≤ 601024; omega, by show slots + msL + 0 + 0 ≤ 7293034; omega⟩) ?_
  refine lv_iload hx hb dL_law_785 (lv_at hl 1 rfl) ?_
  refine lv_icmp_eq (tgt := 792) hx hb dL_law_787 (by decide) (fun c_787 => ?_) (fun c_787 => absurd hxk.symm c_787)
  refine lv_iload hx hb dL_law_792 (lv_at hl 1 rfl) ?_
  refine lv_if_ne (tgt := 809) hx hb dL_law_794 (by decide) (fun c_794 => ?_) (fun c_794 => ?_)
  · refine lv_goto (tgt := 1861) hx hb dL_law_809 (by decide) ?_
    refine W.widen (k := cells + 20) (n := slots + 700) (by omega) (by omega) ?_
    exact next G2 ad2 _ _ _ hN hG hS (lv_sub hl [2, 3, 4, 5, 6] rfl)
  · obtain ⟨fo9, h5, ha5, hv5⟩ := h50 (hxk.symm.trans c_794)
    refine lv_aload_n hx hb dL_law_797 rfl (lv_at hl 3 rfl) ?_
    refine lv_iconst (v := 0) hx hb dL_law_798 (by decide) ?_
    refine dz_lald hx hb hE hG ha5 h5 (by unfold vp_in; decide) dL_law_799 ?_
    refine lv_iload hx hb dL_law_800 (lv_at hl 0 rfl) ?_
    refine lv_i2l hx hb dL_law_802 rfl ?_
    refine W.lcmp hx hb dL_law_803 ?_
    refine lv_topi (fun q5 eq5 => ?_)
    obtain rfl : q5 = 0 := eq5.trans (lw_cmp hv5)
    refine lv_if_eq (tgt := 809) hx hb dL_law_804 (by decide) (fun c_804 => ?_) (fun c_804 => absurd rfl c_804)
    refine lv_goto (tgt := 1861) hx hb dL_law_809 (by decide) ?_
    refine W.widen (k := cells + 20) (n := slots + 700) (by omega) (by omega) ?_
    exact next G2 ad2 _ _ _ hN hG hS (lv_sub hl [2, 3, 4, 5, 6] rfl)

set_option maxHeartbeats 4000000 in
set_option maxRecDepth 100000 in
theorem lw_s_book {p : Program} {l : Launch} {e : Env} {s : State} {m : MethodId} {below : List Frame} {meth : Method} {c : Code} {b L : Nat} {xs : Nat → Int32} {Z : dzG} (K : lw_K p s m c b L xs Z) {G : dzW} {ad : dzA} {aX aM aO k cells slots : Nat} {H : Heap} {locs : List Loc} {ls : Array Slot} {Q : State → Prop} (hk : k + 5 ≤ L) (hl : lv_has ls 7 [(4, .int (nI k)), (3, .ref aO), (2, .ref aM), (1, .ref aX), (0, .ref b)]) (hG : dz_w Z G ad H) (hS : va_S (dz_A Z) s.heap H locs) (hce : cells + 20 ≤ 601024) (hsl : slots + 700 ≤ 7293034) {Nx : dzW → dzA → Prop} (hst : lw_Ok l Z G ad aM aO yL_book wsL_book yX9_book wsX9_book [.ref aX, .int (xs (k + 1)), .int (xs (k + 2)), .int (xs (k + 3)), .int (xs (k + 4)), .ref aO] [.ref aM, .int (xs (k + 1)), .int (xs (k + 2)), .int (xs (k + 3)), .int (xs (k + 4))] rv_i (fun y => y.toInt64) Nx) (next : ∀ (G2 : dzW) (ad2 : dzA) (H2 : Heap) (locs2 : List Loc) (ls2 : Array Slot), Nx G2 ad2 → dz_w Z G2 ad2 H2 → va_S (dz_A Z) s.heap H2 locs2 → lv_has ls2 7 [(4, .int (nI k)), (3, .ref aO), (2, .ref aM), (1, .ref aX), (0, .ref b)] → W p l e room_1 s m #[Value.ref b] below meth c H2 locs2 (cells + 20) (slots + 700) Q (F0 m 1861 ls2 [])) : W p l e room_1 s m #[Value.ref b] below meth c H locs cells slots Q (F0 m 812 ls []) := by
  obtain ⟨hx, hb, hml, hown, hts, hX, hbl, hB, hE, hL9⟩ := K
  have hbA : ¬ dz_A Z b := by show ¬ dzB Z ≤ b; omega
  obtain ⟨kx, frL, loL, mcL, msL, frM, loM, PL, PM, ⟨q01, q02, q03, q04, q05, q06⟩, hL, hLr, hM, hend⟩ := hst
  refine lv_aload_n hx hb dL_law_812 rfl (lv_at hl 3 rfl) ?_
  refine lv_aload_n hx hb dL_law_813 rfl (lv_at hl 4 rfl) ?_
  refine lv_iload hx hb dL_law_814 (lv_at hl 0 rfl) ?_
  refine lv_iconst (v := 1) hx hb dL_law_816 (by decide) ?_
  refine lv_iadd hx hb dL_law_817 ?_
  refine lv_topi (fun q1 eq1 => ?_)
  obtain rfl : q1 = nI (k + 1) := (show q1 = nI k + nI 1 from eq1).trans (nI_add _ _)
  refine va_sld hx hb hX hbl hbA hS (vp_in_nI (by omega) (by omega)) dL_law_818 ?_
  refine lv_topi (fun q2 eq2 => ?_)
  obtain rfl : q2 = xs (k + 1) := eq2.trans (by rw [nI_clamp (by omega)])
  refine lv_aload_n hx hb dL_law_819 rfl (lv_at hl 4 rfl) ?_
  refine lv_iload hx hb dL_law_820 (lv_at hl 0 rfl) ?_
  refine lv_iconst (v := 2) hx hb dL_law_822 (by decide) ?_
  refine lv_iadd hx hb dL_law_823 ?_
  refine lv_topi (fun q3 eq3 => ?_)
  obtain rfl : q3 = nI (k + 2) := (show q3 = nI k + nI 2 from eq3).trans (nI_add _ _)
  refine va_sld hx hb hX hbl hbA hS (vp_in_nI (by omega) (by omega)) dL_law_824 ?_
  refine lv_topi (fun q4 eq4 => ?_)
  obtain rfl : q4 = xs (k + 2) := eq4.trans (by rw [nI_clamp (by omega)])
  refine lv_aload_n hx hb dL_law_825 rfl (lv_at hl 4 rfl) ?_
  refine lv_iload hx hb dL_law_826 (lv_at hl 0 rfl) ?_
  refine lv_iconst (v := 3) hx hb dL_law_828 (by decide) ?_
  refine lv_iadd hx hb dL_law_829 ?_
  refine lv_topi (fun q5 eq5 => ?_)
  obtain rfl : q5 = nI (k + 3) := (show q5 = nI k + nI 3 from eq5).trans (nI_add _ _)
  refine va_sld hx hb hX hbl hbA hS (vp_in_nI (by omega) (by omega)) dL_law_830 ?_
  refine lv_topi (fun q6 eq6 => ?_)
  obtain rfl : q6 = xs (k + 3) := eq6.trans (by rw [nI_clamp (by omega)])
  refine lv_aload_n hx hb dL_law_831 rfl (lv_at hl 4 rfl) ?_
  refine lv_iload hx hb dL_law_832 (lv_at hl 0 rfl) ?_
  refine lv_iconst (v := 4) hx hb dL_law_834 (by decide) ?_
  refine lv_iadd hx hb dL_law_835 ?_
  refine lv_topi (fun q7 eq7 => ?_)
  obtain rfl : q7 = nI (k + 4) := (show q7 = nI k + nI 4 from eq7).trans (nI_add _ _)
  refine va_sld hx hb hX hbl hbA hS (vp_in_nI (by omega) (by omega)) dL_law_836 ?_
  refine lv_topi (fun q8 eq8 => ?_)
  obtain rfl : q8 = xs (k + 4) := eq8.trans (by rw [nI_clamp (by omega)])
  refine lv_aload_n hx hb dL_law_837 rfl (lv_at hl 1 rfl) ?_
  refine dz_kMi (vx_runSW (As := [_, _, _, _, _, _]) ⟨hx, hb, hml, hown, hts⟩ hL (vx_cwSW 6 hts gL_law_L_book rfl rfl rfl (by decide +kernel) ⟨by show frL + 1 ≤ 12; omega, by show 8 + (7 + 11) + loL ≤ 454; omega⟩) (dz_P.pre hE hS hG) rfl rfl hl.1 rfl (lv_room (Nat.le_of_ble_eq_true rfl)) dL_law_838 ⟨by show cells + mcL ≤ 601024; omega, by show slots + msL ≤ 7293034; omega⟩) hS (fun x G1 ad1 H locs hp hG hS => ?_)
  obtain ⟨hxk, hp⟩ := hp
  obtain ⟨⟨fs, hMo⟩, hMa⟩ := hLr G1 ad1 hp
  refine lv_istore (lv' := [(5, .int x), (4, .int (nI k)), (3, .ref aO), (2, .ref aM), (1, .ref aX), (0, .ref b)]) hx hb dL_law_841 hl (by decide) rfl (fun ls hl => ?_)
  refine lv_aload_n hx hb dL_law_843 rfl (lv_at hl 3 rfl) ?_
  refine lv_aload_n hx hb dL_law_844 rfl (lv_at hl 5 rfl) ?_
  refine lv_iload hx hb dL_law_845 (lv_at hl 1 rfl) ?_
  refine lv_iconst (v := 1) hx hb dL_law_847 (by decide) ?_
  refine lv_iadd hx hb dL_law_848 ?_
  refine lv_topi (fun q9 eq9 => ?_)
  obtain rfl : q9 = nI (k + 1) := (show q9 = nI k + nI 1 from eq9).trans (nI_add _ _)
  refine va_sld hx hb hX hbl hbA hS (vp_in_nI (by omega) (by omega)) dL_law_849 ?_
  refine lv_topi (fun q10 eq10 => ?_)
  obtain rfl : q10 = xs (k + 1) := eq10.trans (by rw [nI_clamp (by omega)])
  refine lv_aload_n hx hb dL_law_850 rfl (lv_at hl 5 rfl) ?_
  refine lv_iload hx hb dL_law_851 (lv_at hl 1 rfl) ?_
  refine lv_iconst (v := 2) hx hb dL_law_853 (by decide) ?_
  refine lv_iadd hx hb dL_law_854 ?_
  refine lv_topi (fun q11 eq11 => ?_)
  obtain rfl : q11 = nI (k + 2) := (show q11 = nI k + nI 2 from eq11).trans (nI_add _ _)
  refine va_sld hx hb hX hbl hbA hS (vp_in_nI (by omega) (by omega)) dL_law_855 ?_
  refine lv_topi (fun q12 eq12 => ?_)
  obtain rfl : q12 = xs (k + 2) := eq12.trans (by rw [nI_clamp (by omega)])
  refine lv_aload_n hx hb dL_law_856 rfl (lv_at hl 5 rfl) ?_
  refine lv_iload hx hb dL_law_857 (lv_at hl 1 rfl) ?_
  refine lv_iconst (v := 3) hx hb dL_law_859 (by decide) ?_
  refine lv_iadd hx hb dL_law_860 ?_
  refine lv_topi (fun q13 eq13 => ?_)
  obtain rfl : q13 = nI (k + 3) := (show q13 = nI k + nI 3 from eq13).trans (nI_add _ _)
  refine va_sld hx hb hX hbl hbA hS (vp_in_nI (by omega) (by omega)) dL_law_861 ?_
  refine lv_topi (fun q14 eq14 => ?_)
  obtain rfl : q14 = xs (k + 3) := eq14.trans (by rw [nI_clamp (by omega)])
  refine lv_aload_n hx hb dL_law_862 rfl (lv_at hl 5 rfl) ?_
  refine lv_iload hx hb dL_law_863 (lv_at hl 1 rfl) ?_
  refine lv_iconst (v := 4) hx hb dL_law_865 (by decide) ?_
  refine lv_iadd hx hb dL_law_866 ?_
  refine lv_topi (fun q15 eq15 => ?_)
  obtain rfl : q15 = nI (k + 4) := (show q15 = nI k + nI 4 from eq15).trans (nI_add _ _)
  refine va_sld hx hb hX hbl hbA hS (vp_in_nI (by omega) (by omega)) dL_law_867 ?_
  refine lv_topi (fun q16 eq16 => ?_)
  obtain rfl : q16 = xs (k + 4) := eq16.trans (by rw [nI_clamp (by omega)])
  refine dz_kMi (va_runV (As := [_, _, _, _]) ⟨hx, hb, hml, hown, hts⟩ (hM G1 ad1 hp) (cwV 4 hts gL_law_X9_book rfl rfl rfl (by decide +kernel) ⟨by show frM + 1 ≤ 12; omega, by show 8 + (8 + 11) + loM ≤ 454; omega⟩) (dz_P.preV hE hS hG hMo rfl hMa) rfl rfl hl.1 rfl (lv_room (Nat.le_of_ble_eq_true rfl)) dL_law_868 ⟨by show cells + mcL + 0 ≤ 601024; omega, by show slots + msL + 0 ≤ 7293034; omega⟩) hS (fun y G2 ad2 H locs hq hG hS => ?_)
  obtain ⟨⟨hMa2, nm2, ns2, nl2, nx2, nf2, my2, dy2, td2, ssf2, sst2, cfr2, grw2, bkk2, iop2, hMo2⟩, h50, hN⟩ := hend G1 ad1 y G2 ad2 hp hq
  refine lv_istore (lv' := [(6, .int y), (5, .int x), (4, .int (nI k)), (3, .ref aO), (2, .ref aM), (1, .ref aX), (0, .ref b)]) hx hb dL_law_871 hl (by decide) rfl (fun ls hl => ?_)
  refine lv_aload_n hx hb dL_law_873 rfl (lv_at hl 4 rfl) ?_
  refine dz_kRi (va_runV (As := []) ⟨hx, hb, hml, hown, hts⟩ (c_X9_thrown l Z G2 ad2 aM nm2 ns2 nl2 nx2 nf2 my2 kx dy2 td2 ssf2 sst2 cfr2 grw2 bkk2 iop2 hMa2 hMo2) (cwV 0 hts gL_law_X9_thrown rfl rfl rfl (by decide +kernel) ⟨Nat.le_of_ble_eq_true rfl, Nat.le_of_ble_eq_true rfl⟩) (dz_P.preV hE hS hG hMo2 rfl hMa2) rfl rfl hl.1 rfl (lv_room (Nat.le_of_ble_eq_true rfl)) dL_law_874 ⟨by show cells + mcL + 0 + 0 ≤ 601024; omega, by show slots + msL + 0 + 0 ≤ 7293034; omega⟩) ?_
  refine lv_iload hx hb dL_law_877 (lv_at hl 1 rfl) ?_
  refine lv_icmp_eq (tgt := 884) hx hb dL_law_879 (by decide) (fun c_879 => ?_) (fun c_879 => absurd hxk.symm c_879)
  refine lv_iload hx hb dL_law_884 (lv_at hl 1 rfl) ?_
  refine lv_if_ne (tgt := 901) hx hb dL_law_886 (by decide) (fun c_886 => ?_) (fun c_886 => ?_)
  · refine lv_goto (tgt := 1861) hx hb dL_law_901 (by decide) ?_
    refine W.widen (k := cells + 20) (n := slots + 700) (by omega) (by omega) ?_
    exact next G2 ad2 _ _ _ hN hG hS (lv_sub hl [2, 3, 4, 5, 6] rfl)
  · obtain ⟨fo9, h5, ha5, hv5⟩ := h50 (hxk.symm.trans c_886)
    refine lv_aload_n hx hb dL_law_889 rfl (lv_at hl 3 rfl) ?_
    refine lv_iconst (v := 0) hx hb dL_law_890 (by decide) ?_
    refine dz_lald hx hb hE hG ha5 h5 (by unfold vp_in; decide) dL_law_891 ?_
    refine lv_iload hx hb dL_law_892 (lv_at hl 0 rfl) ?_
    refine lv_i2l hx hb dL_law_894 rfl ?_
    refine W.lcmp hx hb dL_law_895 ?_
    refine lv_topi (fun q17 eq17 => ?_)
    obtain rfl : q17 = 0 := eq17.trans (lw_cmp hv5)
    refine lv_if_eq (tgt := 901) hx hb dL_law_896 (by decide) (fun c_896 => ?_) (fun c_896 => absurd rfl c_896)
    refine lv_goto (tgt := 1861) hx hb dL_law_901 (by decide) ?_
    refine W.widen (k := cells + 20) (n := slots + 700) (by omega) (by omega) ?_
    exact next G2 ad2 _ _ _ hN hG hS (lv_sub hl [2, 3, 4, 5, 6] rfl)

set_option maxHeartbeats 4000000 in
set_option maxRecDepth 100000 in
theorem lw_s_vote {p : Program} {l : Launch} {e : Env} {s : State} {m : MethodId} {below : List Frame} {meth : Method} {c : Code} {b L : Nat} {xs : Nat → Int32} {Z : dzG} (K : lw_K p s m c b L xs Z) {G : dzW} {ad : dzA} {aX aM aO k cells slots : Nat} {H : Heap} {locs : List Loc} {ls : Array Slot} {Q : State → Prop} (hk : k + 5 ≤ L) (hl : lv_has ls 7 [(4, .int (nI k)), (3, .ref aO), (2, .ref aM), (1, .ref aX), (0, .ref b)]) (hG : dz_w Z G ad H) (hS : va_S (dz_A Z) s.heap H locs) (hce : cells + 20 ≤ 601024) (hsl : slots + 700 ≤ 7293034) {Nx : dzW → dzA → Prop} (hst : ∀ bv : Int32, m_bl bv → lw_Ok l Z G ad aM aO yL_vote wsL_vote yX9_vote wsX9_vote [.ref aX, .int (xs (k + 1)), .int bv, .ref aO] [.ref aM, .int (xs (k + 1)), .int bv] rv_i (fun y => if y = 0 then 0 else 1) Nx) (next : ∀ (G2 : dzW) (ad2 : dzA) (H2 : Heap) (locs2 : List Loc) (ls2 : Array Slot), Nx G2 ad2 → dz_w Z G2 ad2 H2 → va_S (dz_A Z) s.heap H2 locs2 → lv_has ls2 7 [(4, .int (nI k)), (3, .ref aO), (2, .ref aM), (1, .ref aX), (0, .ref b)] → W p l e room_1 s m #[Value.ref b] below meth c H2 locs2 (cells + 20) (slots + 700) Q (F0 m 1861 ls2 [])) : W p l e room_1 s m #[Value.ref b] below meth c H locs cells slots Q (F0 m 904 ls []) := by
  obtain ⟨hx, hb, hml, hown, hts, hX, hbl, hB, hE, hL9⟩ := K
  have hbA : ¬ dz_A Z b := by show ¬ dzB Z ≤ b; omega
  by_cases c0 : xs (k + 2) = 0
  · obtain ⟨kx, frL, loL, mcL, msL, frM, loM, PL, PM, ⟨q01, q02, q03, q04, q05, q06⟩, hL, hLr, hM, hend⟩ := hst 0 rfl
    refine lv_aload_n hx hb dL_law_904 rfl (lv_at hl 3 rfl) ?_
    refine lv_aload_n hx hb dL_law_905 rfl (lv_at hl 4 rfl) ?_
    refine lv_iload hx hb dL_law_906 (lv_at hl 0 rfl) ?_
    refine lv_iconst (v := 1) hx hb dL_law_908 (by decide) ?_
    refine lv_iadd hx hb dL_law_909 ?_
    refine lv_topi (fun q1 eq1 => ?_)
    obtain rfl : q1 = nI (k + 1) := (show q1 = nI k + nI 1 from eq1).trans (nI_add _ _)
    refine va_sld hx hb hX hbl hbA hS (vp_in_nI (by omega) (by omega)) dL_law_910 ?_
    refine lv_topi (fun q2 eq2 => ?_)
    obtain rfl : q2 = xs (k + 1) := eq2.trans (by rw [nI_clamp (by omega)])
    refine lv_aload_n hx hb dL_law_911 rfl (lv_at hl 4 rfl) ?_
    refine lv_iload hx hb dL_law_912 (lv_at hl 0 rfl) ?_
    refine lv_iconst (v := 2) hx hb dL_law_914 (by decide) ?_
    refine lv_iadd hx hb dL_law_915 ?_
    refine lv_topi (fun q3 eq3 => ?_)
    obtain rfl : q3 = nI (k + 2) := (show q3 = nI k + nI 2 from eq3).trans (nI_add _ _)
    refine va_sld hx hb hX hbl hbA hS (vp_in_nI (by omega) (by omega)) dL_law_916 ?_
    refine lv_topi (fun q4 eq4 => ?_)
    obtain rfl : q4 = xs (k + 2) := eq4.trans (by rw [nI_clamp (by omega)])
    refine lv_if_eq (tgt := 924) hx hb dL_law_917 (by decide) (fun c_917 => ?_) (fun c_917 => absurd c0 c_917)
    refine lv_iconst (v := 0) hx hb dL_law_924 (by decide) ?_
    refine lv_aload_n hx hb dL_law_925 rfl (lv_at hl 1 rfl) ?_
    refine dz_kMi (vx_runSW (As := [_, _, _, _]) ⟨hx, hb, hml, hown, hts⟩ hL (vx_cwSW 4 hts gL_law_L_vote rfl rfl rfl (by decide +kernel) ⟨by show frL + 1 ≤ 12; omega, by show 8 + (5 + 11) + loL ≤ 454; omega⟩) (dz_P.pre hE hS hG) rfl rfl hl.1 rfl (lv_room (Nat.le_of_ble_eq_true rfl)) dL_law_926 ⟨by show cells + mcL ≤ 601024; omega, by show slots + msL ≤ 7293034; omega⟩) hS (fun x G1 ad1 H locs hp hG hS => ?_)
    obtain ⟨hxk, hp⟩ := hp
    obtain ⟨⟨fs, hMo⟩, hMa⟩ := hLr G1 ad1 hp
    refine lv_istore (lv' := [(5, .int x), (4, .int (nI k)), (3, .ref aO), (2, .ref aM), (1, .ref aX), (0, .ref b)]) hx hb dL_law_929 hl (by decide) rfl (fun ls hl => ?_)
    refine lv_aload_n hx hb dL_law_931 rfl (lv_at hl 3 rfl) ?_
    refine lv_aload_n hx hb dL_law_932 rfl (lv_at hl 5 rfl) ?_
    refine lv_iload hx hb dL_law_933 (lv_at hl 1 rfl) ?_
    refine lv_iconst (v := 1) hx hb dL_law_935 (by decide) ?_
    refine lv_iadd hx hb dL_law_936 ?_
    refine lv_topi (fun q5 eq5 => ?_)
    obtain rfl : q5 = nI (k + 1) := (show q5 = nI k + nI 1 from eq5).trans (nI_add _ _)
    refine va_sld hx hb hX hbl hbA hS (vp_in_nI (by omega) (by omega)) dL_law_937 ?_
    refine lv_topi (fun q6 eq6 => ?_)
    obtain rfl : q6 = xs (k + 1) := eq6.trans (by rw [nI_clamp (by omega)])
    refine lv_aload_n hx hb dL_law_938 rfl (lv_at hl 5 rfl) ?_
    refine lv_iload hx hb dL_law_939 (lv_at hl 1 rfl) ?_
    refine lv_iconst (v := 2) hx hb dL_law_941 (by decide) ?_
    refine lv_iadd hx hb dL_law_942 ?_
    refine lv_topi (fun q7 eq7 => ?_)
    obtain rfl : q7 = nI (k + 2) := (show q7 = nI k + nI 2 from eq7).trans (nI_add _ _)
    refine va_sld hx hb hX hbl hbA hS (vp_in_nI (by omega) (by omega)) dL_law_943 ?_
    refine lv_topi (fun q8 eq8 => ?_)
    obtain rfl : q8 = xs (k + 2) := eq8.trans (by rw [nI_clamp (by omega)])
    refine lv_if_eq (tgt := 951) hx hb dL_law_944 (by decide) (fun c_944 => ?_) (fun c_944 => absurd c0 c_944)
    refine lv_iconst (v := 0) hx hb dL_law_951 (by decide) ?_
    refine dz_kMi (va_runV (As := [_, _]) ⟨hx, hb, hml, hown, hts⟩ (hM G1 ad1 hp) (cwV 2 hts gL_law_X9_vote rfl rfl rfl (by decide +kernel) ⟨by show frM + 1 ≤ 12; omega, by show 8 + (5 + 11) + loM ≤ 454; omega⟩) (dz_P.preV hE hS hG hMo rfl hMa) rfl rfl hl.1 rfl (lv_room (Nat.le_of_ble_eq_true rfl)) dL_law_952 ⟨by show cells + mcL + 0 ≤ 601024; omega, by show slots + msL + 0 ≤ 7293034; omega⟩) hS (fun y G2 ad2 H locs hq hG hS => ?_)
    obtain ⟨⟨hMa2, nm2, ns2, nl2, nx2, nf2, my2, dy2, td2, ssf2, sst2, cfr2, grw2, bkk2, iop2, hMo2⟩, h50, hN⟩ := hend G1 ad1 y G2 ad2 hp hq
    refine lv_istore (lv' := [(6, .int y), (5, .int x), (4, .int (nI k)), (3, .ref aO), (2, .ref aM), (1, .ref aX), (0, .ref b)]) hx hb dL_law_955 hl (by decide) rfl (fun ls hl => ?_)
    refine lv_aload_n hx hb dL_law_957 rfl (lv_at hl 4 rfl) ?_
    refine dz_kRi (va_runV (As := []) ⟨hx, hb, hml, hown, hts⟩ (c_X9_thrown l Z G2 ad2 aM nm2 ns2 nl2 nx2 nf2 my2 kx dy2 td2 ssf2 sst2 cfr2 grw2 bkk2 iop2 hMa2 hMo2) (cwV 0 hts gL_law_X9_thrown rfl rfl rfl (by decide +kernel) ⟨Nat.le_of_ble_eq_true rfl, Nat.le_of_ble_eq_true rfl⟩) (dz_P.preV hE hS hG hMo2 rfl hMa2) rfl rfl hl.1 rfl (lv_room (Nat.le_of_ble_eq_true rfl)) dL_law_958 ⟨by show cells + mcL + 0 + 0 ≤ 601024; omega, by show slots + msL + 0 + 0 ≤ 7293034; omega⟩) ?_
    refine lv_iload hx hb dL_law_961 (lv_at hl 1 rfl) ?_
    refine lv_icmp_eq (tgt := 968) hx hb dL_law_963 (by decide) (fun c_963 => ?_) (fun c_963 => absurd hxk.symm c_963)
    refine lv_iload hx hb dL_law_968 (lv_at hl 1 rfl) ?_
    refine lv_if_ne (tgt := 992) hx hb dL_law_970 (by decide) (fun c_970 => ?_) (fun c_970 => ?_)
    · refine lv_goto (tgt := 1861) hx hb dL_law_992 (by decide) ?_
      refine W.widen (k := cells + 20) (n := slots + 700) (by omega) (by omega) ?_
      exact next G2 ad2 _ _ _ hN hG hS (lv_sub hl [2, 3, 4, 5, 6] rfl)
    · obtain ⟨fo9, h5, ha5, hv5⟩ := h50 (hxk.symm.trans c_970)
      refine lv_aload_n hx hb dL_law_973 rfl (lv_at hl 3 rfl) ?_
      refine lv_iconst (v := 0) hx hb dL_law_974 (by decide) ?_
      refine dz_lald hx hb hE hG ha5 h5 (by unfold vp_in; decide) dL_law_975 ?_
      refine lv_iload hx hb dL_law_976 (lv_at hl 0 rfl) ?_
      refine lv_if_eq (tgt := 985) hx hb dL_law_978 (by decide) (fun c_978 => ?_) (fun c_978 => ?_)
      · refine lv_lconst (v := 0) hx hb dL_law_985 (by decide) ?_
        refine W.lcmp hx hb dL_law_986 ?_
        refine lv_topi (fun q9 eq9 => ?_)
        obtain rfl : q9 = 0 := eq9.trans (lw_cmp (hv5.trans (if_pos c_978)))
        refine lv_if_eq (tgt := 992) hx hb dL_law_987 (by decide) (fun c_987 => ?_) (fun c_987 => absurd rfl c_987)
        refine lv_goto (tgt := 1861) hx hb dL_law_992 (by decide) ?_
        refine W.widen (k := cells + 20) (n := slots + 700) (by omega) (by omega) ?_
        exact next G2 ad2 _ _ _ hN hG hS (lv_sub hl [2, 3, 4, 5, 6] rfl)
      · refine lv_lconst (v := 1) hx hb dL_law_981 (by decide) ?_
        refine lv_goto (tgt := 986) hx hb dL_law_982 (by decide) ?_
        refine W.lcmp hx hb dL_law_986 ?_
        refine lv_topi (fun q9 eq9 => ?_)
        obtain rfl : q9 = 0 := eq9.trans (lw_cmp (hv5.trans (if_neg c_978)))
        refine lv_if_eq (tgt := 992) hx hb dL_law_987 (by decide) (fun c_987 => ?_) (fun c_987 => absurd rfl c_987)
        refine lv_goto (tgt := 1861) hx hb dL_law_992 (by decide) ?_
        refine W.widen (k := cells + 20) (n := slots + 700) (by omega) (by omega) ?_
        exact next G2 ad2 _ _ _ hN hG hS (lv_sub hl [2, 3, 4, 5, 6] rfl)
  · obtain ⟨kx, frL, loL, mcL, msL, frM, loM, PL, PM, ⟨q01, q02, q03, q04, q05, q06⟩, hL, hLr, hM, hend⟩ := hst 1 rfl
    refine lv_aload_n hx hb dL_law_904 rfl (lv_at hl 3 rfl) ?_
    refine lv_aload_n hx hb dL_law_905 rfl (lv_at hl 4 rfl) ?_
    refine lv_iload hx hb dL_law_906 (lv_at hl 0 rfl) ?_
    refine lv_iconst (v := 1) hx hb dL_law_908 (by decide) ?_
    refine lv_iadd hx hb dL_law_909 ?_
    refine lv_topi (fun q1 eq1 => ?_)
    obtain rfl : q1 = nI (k + 1) := (show q1 = nI k + nI 1 from eq1).trans (nI_add _ _)
    refine va_sld hx hb hX hbl hbA hS (vp_in_nI (by omega) (by omega)) dL_law_910 ?_
    refine lv_topi (fun q2 eq2 => ?_)
    obtain rfl : q2 = xs (k + 1) := eq2.trans (by rw [nI_clamp (by omega)])
    refine lv_aload_n hx hb dL_law_911 rfl (lv_at hl 4 rfl) ?_
    refine lv_iload hx hb dL_law_912 (lv_at hl 0 rfl) ?_
    refine lv_iconst (v := 2) hx hb dL_law_914 (by decide) ?_
    refine lv_iadd hx hb dL_law_915 ?_
    refine lv_topi (fun q3 eq3 => ?_)
    obtain rfl : q3 = nI (k + 2) := (show q3 = nI k + nI 2 from eq3).trans (nI_add _ _)
    refine va_sld hx hb hX hbl hbA hS (vp_in_nI (by omega) (by omega)) dL_law_916 ?_
    refine lv_topi (fun q4 eq4 => ?_)
    obtain rfl : q4 = xs (k + 2) := eq4.trans (by rw [nI_clamp (by omega)])
    refine lv_if_eq (tgt := 924) hx hb dL_law_917 (by decide) (fun c_917 => absurd c_917 c0) (fun c_917 => ?_)
    refine lv_iconst (v := 1) hx hb dL_law_920 (by decide) ?_
    refine lv_goto (tgt := 925) hx hb dL_law_921 (by decide) ?_
    refine lv_aload_n hx hb dL_law_925 rfl (lv_at hl 1 rfl) ?_
    refine dz_kMi (vx_runSW (As := [_, _, _, _]) ⟨hx, hb, hml, hown, hts⟩ hL (vx_cwSW 4 hts gL_law_L_vote rfl rfl rfl (by decide +kernel) ⟨by show frL + 1 ≤ 12; omega, by show 8 + (5 + 11) + loL ≤ 454; omega⟩) (dz_P.pre hE hS hG) rfl rfl hl.1 rfl (lv_room (Nat.le_of_ble_eq_true rfl)) dL_law_926 ⟨by show cells + mcL ≤ 601024; omega, by show slots + msL ≤ 7293034; omega⟩) hS (fun x G1 ad1 H locs hp hG hS => ?_)
    obtain ⟨hxk, hp⟩ := hp
    obtain ⟨⟨fs, hMo⟩, hMa⟩ := hLr G1 ad1 hp
    refine lv_istore (lv' := [(5, .int x), (4, .int (nI k)), (3, .ref aO), (2, .ref aM), (1, .ref aX), (0, .ref b)]) hx hb dL_law_929 hl (by decide) rfl (fun ls hl => ?_)
    refine lv_aload_n hx hb dL_law_931 rfl (lv_at hl 3 rfl) ?_
    refine lv_aload_n hx hb dL_law_932 rfl (lv_at hl 5 rfl) ?_
    refine lv_iload hx hb dL_law_933 (lv_at hl 1 rfl) ?_
    refine lv_iconst (v := 1) hx hb dL_law_935 (by decide) ?_
    refine lv_iadd hx hb dL_law_936 ?_
    refine lv_topi (fun q5 eq5 => ?_)
    obtain rfl : q5 = nI (k + 1) := (show q5 = nI k + nI 1 from eq5).trans (nI_add _ _)
    refine va_sld hx hb hX hbl hbA hS (vp_in_nI (by omega) (by omega)) dL_law_937 ?_
    refine lv_topi (fun q6 eq6 => ?_)
    obtain rfl : q6 = xs (k + 1) := eq6.trans (by rw [nI_clamp (by omega)])
    refine lv_aload_n hx hb dL_law_938 rfl (lv_at hl 5 rfl) ?_
    refine lv_iload hx hb dL_law_939 (lv_at hl 1 rfl) ?_
    refine lv_iconst (v := 2) hx hb dL_law_941 (by decide) ?_
    refine lv_iadd hx hb dL_law_942 ?_
    refine lv_topi (fun q7 eq7 => ?_)
    obtain rfl : q7 = nI (k + 2) := (show q7 = nI k + nI 2 from eq7).trans (nI_add _ _)
    refine va_sld hx hb hX hbl hbA hS (vp_in_nI (by omega) (by omega)) dL_law_943 ?_
    refine lv_topi (fun q8 eq8 => ?_)
    obtain rfl : q8 = xs (k + 2) := eq8.trans (by rw [nI_clamp (by omega)])
    refine lv_if_eq (tgt := 951) hx hb dL_law_944 (by decide) (fun c_944 => absurd c_944 c0) (fun c_944 => ?_)
    refine lv_iconst (v := 1) hx hb dL_law_947 (by decide) ?_
    refine lv_goto (tgt := 952) hx hb dL_law_948 (by decide) ?_
    refine dz_kMi (va_runV (As := [_, _]) ⟨hx, hb, hml, hown, hts⟩ (hM G1 ad1 hp) (cwV 2 hts gL_law_X9_vote rfl rfl rfl (by decide +kernel) ⟨by show frM + 1 ≤ 12; omega, by show 8 + (5 + 11) + loM ≤ 454; omega⟩) (dz_P.preV hE hS hG hMo rfl hMa) rfl rfl hl.1 rfl (lv_room (Nat.le_of_ble_eq_true rfl)) dL_law_952 ⟨by show cells + mcL + 0 ≤ 601024; omega, by show slots + msL + 0 ≤ 7293034; omega⟩) hS (fun y G2 ad2 H locs hq hG hS => ?_)
    obtain ⟨⟨hMa2, nm2, ns2, nl2, nx2, nf2, my2, dy2, td2, ssf2, sst2, cfr2, grw2, bkk2, iop2, hMo2⟩, h50, hN⟩ := hend G1 ad1 y G2 ad2 hp hq
    refine lv_istore (lv' := [(6, .int y), (5, .int x), (4, .int (nI k)), (3, .ref aO), (2, .ref aM), (1, .ref aX), (0, .ref b)]) hx hb dL_law_955 hl (by decide) rfl (fun ls hl => ?_)
    refine lv_aload_n hx hb dL_law_957 rfl (lv_at hl 4 rfl) ?_
    refine dz_kRi (va_runV (As := []) ⟨hx, hb, hml, hown, hts⟩ (c_X9_thrown l Z G2 ad2 aM nm2 ns2 nl2 nx2 nf2 my2 kx dy2 td2 ssf2 sst2 cfr2 grw2 bkk2 iop2 hMa2 hMo2) (cwV 0 hts gL_law_X9_thrown rfl rfl rfl (by decide +kernel) ⟨Nat.le_of_ble_eq_true rfl, Nat.le_of_ble_eq_true rfl⟩) (dz_P.preV hE hS hG hMo2 rfl hMa2) rfl rfl hl.1 rfl (lv_room (Nat.le_of_ble_eq_true rfl)) dL_law_958 ⟨by show cells + mcL + 0 + 0 ≤ 601024; omega, by show slots + msL + 0 + 0 ≤ 7293034; omega⟩) ?_
    refine lv_iload hx hb dL_law_961 (lv_at hl 1 rfl) ?_
    refine lv_icmp_eq (tgt := 968) hx hb dL_law_963 (by decide) (fun c_963 => ?_) (fun c_963 => absurd hxk.symm c_963)
    refine lv_iload hx hb dL_law_968 (lv_at hl 1 rfl) ?_
    refine lv_if_ne (tgt := 992) hx hb dL_law_970 (by decide) (fun c_970 => ?_) (fun c_970 => ?_)
    · refine lv_goto (tgt := 1861) hx hb dL_law_992 (by decide) ?_
      refine W.widen (k := cells + 20) (n := slots + 700) (by omega) (by omega) ?_
      exact next G2 ad2 _ _ _ hN hG hS (lv_sub hl [2, 3, 4, 5, 6] rfl)
    · obtain ⟨fo9, h5, ha5, hv5⟩ := h50 (hxk.symm.trans c_970)
      refine lv_aload_n hx hb dL_law_973 rfl (lv_at hl 3 rfl) ?_
      refine lv_iconst (v := 0) hx hb dL_law_974 (by decide) ?_
      refine dz_lald hx hb hE hG ha5 h5 (by unfold vp_in; decide) dL_law_975 ?_
      refine lv_iload hx hb dL_law_976 (lv_at hl 0 rfl) ?_
      refine lv_if_eq (tgt := 985) hx hb dL_law_978 (by decide) (fun c_978 => ?_) (fun c_978 => ?_)
      · refine lv_lconst (v := 0) hx hb dL_law_985 (by decide) ?_
        refine W.lcmp hx hb dL_law_986 ?_
        refine lv_topi (fun q9 eq9 => ?_)
        obtain rfl : q9 = 0 := eq9.trans (lw_cmp (hv5.trans (if_pos c_978)))
        refine lv_if_eq (tgt := 992) hx hb dL_law_987 (by decide) (fun c_987 => ?_) (fun c_987 => absurd rfl c_987)
        refine lv_goto (tgt := 1861) hx hb dL_law_992 (by decide) ?_
        refine W.widen (k := cells + 20) (n := slots + 700) (by omega) (by omega) ?_
        exact next G2 ad2 _ _ _ hN hG hS (lv_sub hl [2, 3, 4, 5, 6] rfl)
      · refine lv_lconst (v := 1) hx hb dL_law_981 (by decide) ?_
        refine lv_goto (tgt := 986) hx hb dL_law_982 (by decide) ?_
        refine W.lcmp hx hb dL_law_986 ?_
        refine lv_topi (fun q9 eq9 => ?_)
        obtain rfl : q9 = 0 := eq9.trans (lw_cmp (hv5.trans (if_neg c_978)))
        refine lv_if_eq (tgt := 992) hx hb dL_law_987 (by decide) (fun c_987 => ?_) (fun c_987 => absurd rfl c_987)
        refine lv_goto (tgt := 1861) hx hb dL_law_992 (by decide) ?_
        refine W.widen (k := cells + 20) (n := slots + 700) (by omega) (by omega) ?_
        exact next G2 ad2 _ _ _ hN hG hS (lv_sub hl [2, 3, 4, 5, 6] rfl)

set_option maxHeartbeats 4000000 in
set_option maxRecDepth 100000 in
theorem lw_s_day {p : Program} {l : Launch} {e : Env} {s : State} {m : MethodId} {below : List Frame} {meth : Method} {c : Code} {b L : Nat} {xs : Nat → Int32} {Z : dzG} (K : lw_K p s m c b L xs Z) {G : dzW} {ad : dzA} {aX aM aO k cells slots : Nat} {H : Heap} {locs : List Loc} {ls : Array Slot} {Q : State → Prop} (hk : k + 5 ≤ L) (hl : lv_has ls 7 [(4, .int (nI k)), (3, .ref aO), (2, .ref aM), (1, .ref aX), (0, .ref b)]) (hG : dz_w Z G ad H) (hS : va_S (dz_A Z) s.heap H locs) (hce : cells + 20 ≤ 601024) (hsl : slots + 700 ≤ 7293034) {Nx : dzW → dzA → Prop} (hXr : (∃ fs, G (1, 0) = some (.inr (9, fs))) ∧ ad (1, 0) = aX) (hMr : (∃ fs, G (39, 0) = some (.inr (10, fs))) ∧ ad (39, 0) = aM) (hst : lw_D l Z G ad aX aM yX8_day wsX8_day yX9_day wsX9_day Nx) (next : ∀ (G2 : dzW) (ad2 : dzA) (H2 : Heap) (locs2 : List Loc) (ls2 : Array Slot), Nx G2 ad2 → dz_w Z G2 ad2 H2 → va_S (dz_A Z) s.heap H2 locs2 → lv_has ls2 7 [(4, .int (nI k)), (3, .ref aO), (2, .ref aM), (1, .ref aX), (0, .ref b)] → W p l e room_1 s m #[Value.ref b] below meth c H2 locs2 (cells + 20) (slots + 700) Q (F0 m 1861 ls2 [])) : W p l e room_1 s m #[Value.ref b] below meth c H locs cells slots Q (F0 m 995 ls []) := by
  obtain ⟨hx, hb, hml, hown, hts, hX, hbl, hB, hE, hL9⟩ := K
  obtain ⟨v, frC, loC, frM, loM, ⟨q1, q2, q3, q4⟩, hCc, hM⟩ := hst
  obtain ⟨⟨fsX, hXo⟩, hXa⟩ := hXr
  obtain ⟨⟨fs, hMo⟩, hMa⟩ := hMr
  refine lv_aload_n hx hb dL_law_995 rfl (lv_at hl 3 rfl) ?_
  refine dz_kRi (va_runV (As := []) ⟨hx, hb, hml, hown, hts⟩ hCc (cwV 0 hts gL_law_X8_day rfl rfl rfl (by decide +kernel) ⟨by show frC + 1 ≤ 12; omega, by show 8 + (1 + 11) + loC ≤ 454; omega⟩) (dz_P.preV hE hS hG hXo rfl hXa) rfl rfl hl.1 rfl (lv_room (Nat.le_of_ble_eq_true rfl)) dL_law_996 ⟨by show cells + 0 ≤ 601024; omega, by show slots + 0 ≤ 7293034; omega⟩) ?_
  refine lv_aload_n hx hb dL_law_999 rfl (lv_at hl 2 rfl) ?_
  refine dz_kMi (va_runV (As := []) ⟨hx, hb, hml, hown, hts⟩ hM (cwV 0 hts gL_law_X9_day rfl rfl rfl (by decide +kernel) ⟨by show frM + 1 ≤ 12; omega, by show 8 + (1 + 11) + loM ≤ 454; omega⟩) (dz_P.preV hE hS hG hMo rfl hMa) rfl rfl hl.1 rfl (lv_room (Nat.le_of_ble_eq_true rfl)) dL_law_1000 ⟨by show cells + 0 ≤ 601024; omega, by show slots + 0 ≤ 7293034; omega⟩) hS (fun y G2 ad2 H locs hq hG hS => ?_)
  obtain ⟨hyv, hN⟩ := hq
  refine lv_icmp_eq (tgt := 1861) hx hb dL_law_1003 (by decide) (fun c_1003 => ?_) (fun c_1003 => absurd hyv.symm c_1003)
  refine W.widen (k := cells + 20) (n := slots + 700) (by omega) (by omega) ?_
  exact next G2 ad2 _ _ _ hN hG hS (lv_sub hl [0, 1, 2, 3, 4] rfl)

set_option maxHeartbeats 4000000 in
set_option maxRecDepth 100000 in
theorem lw_s_from {p : Program} {l : Launch} {e : Env} {s : State} {m : MethodId} {below : List Frame} {meth : Method} {c : Code} {b L : Nat} {xs : Nat → Int32} {Z : dzG} (K : lw_K p s m c b L xs Z) {G : dzW} {ad : dzA} {aX aM aO k cells slots : Nat} {H : Heap} {locs : List Loc} {ls : Array Slot} {Q : State → Prop} (hk : k + 5 ≤ L) (hl : lv_has ls 7 [(4, .int (nI k)), (3, .ref aO), (2, .ref aM), (1, .ref aX), (0, .ref b)]) (hG : dz_w Z G ad H) (hS : va_S (dz_A Z) s.heap H locs) (hce : cells + 20 ≤ 601024) (hsl : slots + 700 ≤ 7293034) {Nx : dzW → dzA → Prop} (hst : ∀ bv : Int32, m_bl bv → lw_Ok l Z G ad aM aO yL_from wsL_from yX9_from wsX9_from [.ref aX, .int (xs (k + 1)), .int (xs (k + 2)), .int bv, .ref aO] [.ref aM, .int (xs (k + 1)), .int (xs (k + 2)), .int bv] rv_i (fun y => y.toInt64) Nx) (next : ∀ (G2 : dzW) (ad2 : dzA) (H2 : Heap) (locs2 : List Loc) (ls2 : Array Slot), Nx G2 ad2 → dz_w Z G2 ad2 H2 → va_S (dz_A Z) s.heap H2 locs2 → lv_has ls2 7 [(4, .int (nI k)), (3, .ref aO), (2, .ref aM), (1, .ref aX), (0, .ref b)] → W p l e room_1 s m #[Value.ref b] below meth c H2 locs2 (cells + 20) (slots + 700) Q (F0 m 1861 ls2 [])) : W p l e room_1 s m #[Value.ref b] below meth c H locs cells slots Q (F0 m 1008 ls []) := by
  obtain ⟨hx, hb, hml, hown, hts, hX, hbl, hB, hE, hL9⟩ := K
  have hbA : ¬ dz_A Z b := by show ¬ dzB Z ≤ b; omega
  by_cases c0 : xs (k + 3) = 0
  · obtain ⟨kx, frL, loL, mcL, msL, frM, loM, PL, PM, ⟨q01, q02, q03, q04, q05, q06⟩, hL, hLr, hM, hend⟩ := hst 0 rfl
    refine lv_aload_n hx hb dL_law_1008 rfl (lv_at hl 3 rfl) ?_
    refine lv_aload_n hx hb dL_law_1009 rfl (lv_at hl 4 rfl) ?_
    refine lv_iload hx hb dL_law_1010 (lv_at hl 0 rfl) ?_
    refine lv_iconst (v := 1) hx hb dL_law_1012 (by decide) ?_
    refine lv_iadd hx hb dL_law_1013 ?_
    refine lv_topi (fun q1 eq1 => ?_)
    obtain rfl : q1 = nI (k + 1) := (show q1 = nI k + nI 1 from eq1).trans (nI_add _ _)
    refine va_sld hx hb hX hbl hbA hS (vp_in_nI (by omega) (by omega)) dL_law_1014 ?_
    refine lv_topi (fun q2 eq2 => ?_)
    obtain rfl : q2 = xs (k + 1) := eq2.trans (by rw [nI_clamp (by omega)])
    refine lv_aload_n hx hb dL_law_1015 rfl (lv_at hl 4 rfl) ?_
    refine lv_iload hx hb dL_law_1016 (lv_at hl 0 rfl) ?_
    refine lv_iconst (v := 2) hx hb dL_law_1018 (by decide) ?_
    refine lv_iadd hx hb dL_law_1019 ?_
    refine lv_topi (fun q3 eq3 => ?_)
    obtain rfl : q3 = nI (k + 2) := (show q3 = nI k + nI 2 from eq3).trans (nI_add _ _)
    refine va_sld hx hb hX hbl hbA hS (vp_in_nI (by omega) (by omega)) dL_law_1020 ?_
    refine lv_topi (fun q4 eq4 => ?_)
    obtain rfl : q4 = xs (k + 2) := eq4.trans (by rw [nI_clamp (by omega)])
    refine lv_aload_n hx hb dL_law_1021 rfl (lv_at hl 4 rfl) ?_
    refine lv_iload hx hb dL_law_1022 (lv_at hl 0 rfl) ?_
    refine lv_iconst (v := 3) hx hb dL_law_1024 (by decide) ?_
    refine lv_iadd hx hb dL_law_1025 ?_
    refine lv_topi (fun q5 eq5 => ?_)
    obtain rfl : q5 = nI (k + 3) := (show q5 = nI k + nI 3 from eq5).trans (nI_add _ _)
    refine va_sld hx hb hX hbl hbA hS (vp_in_nI (by omega) (by omega)) dL_law_1026 ?_
    refine lv_topi (fun q6 eq6 => ?_)
    obtain rfl : q6 = xs (k + 3) := eq6.trans (by rw [nI_clamp (by omega)])
    refine lv_if_eq (tgt := 1034) hx hb dL_law_1027 (by decide) (fun c_1027 => ?_) (fun c_1027 => absurd c0 c_1027)
    refine lv_iconst (v := 0) hx hb dL_law_1034 (by decide) ?_
    refine lv_aload_n hx hb dL_law_1035 rfl (lv_at hl 1 rfl) ?_
    refine dz_kMi (vx_runSW (As := [_, _, _, _, _]) ⟨hx, hb, hml, hown, hts⟩ hL (vx_cwSW 5 hts gL_law_L_from rfl rfl rfl (by decide +kernel) ⟨by show frL + 1 ≤ 12; omega, by show 8 + (6 + 11) + loL ≤ 454; omega⟩) (dz_P.pre hE hS hG) rfl rfl hl.1 rfl (lv_room (Nat.le_of_ble_eq_true rfl)) dL_law_1036 ⟨by show cells + mcL ≤ 601024; omega, by show slots + msL ≤ 7293034; omega⟩) hS (fun x G1 ad1 H locs hp hG hS => ?_)
    obtain ⟨hxk, hp⟩ := hp
    obtain ⟨⟨fs, hMo⟩, hMa⟩ := hLr G1 ad1 hp
    refine lv_istore (lv' := [(5, .int x), (4, .int (nI k)), (3, .ref aO), (2, .ref aM), (1, .ref aX), (0, .ref b)]) hx hb dL_law_1039 hl (by decide) rfl (fun ls hl => ?_)
    refine lv_aload_n hx hb dL_law_1041 rfl (lv_at hl 3 rfl) ?_
    refine lv_aload_n hx hb dL_law_1042 rfl (lv_at hl 5 rfl) ?_
    refine lv_iload hx hb dL_law_1043 (lv_at hl 1 rfl) ?_
    refine lv_iconst (v := 1) hx hb dL_law_1045 (by decide) ?_
    refine lv_iadd hx hb dL_law_1046 ?_
    refine lv_topi (fun q7 eq7 => ?_)
    obtain rfl : q7 = nI (k + 1) := (show q7 = nI k + nI 1 from eq7).trans (nI_add _ _)
    refine va_sld hx hb hX hbl hbA hS (vp_in_nI (by omega) (by omega)) dL_law_1047 ?_
    refine lv_topi (fun q8 eq8 => ?_)
    obtain rfl : q8 = xs (k + 1) := eq8.trans (by rw [nI_clamp (by omega)])
    refine lv_aload_n hx hb dL_law_1048 rfl (lv_at hl 5 rfl) ?_
    refine lv_iload hx hb dL_law_1049 (lv_at hl 1 rfl) ?_
    refine lv_iconst (v := 2) hx hb dL_law_1051 (by decide) ?_
    refine lv_iadd hx hb dL_law_1052 ?_
    refine lv_topi (fun q9 eq9 => ?_)
    obtain rfl : q9 = nI (k + 2) := (show q9 = nI k + nI 2 from eq9).trans (nI_add _ _)
    refine va_sld hx hb hX hbl hbA hS (vp_in_nI (by omega) (by omega)) dL_law_1053 ?_
    refine lv_topi (fun q10 eq10 => ?_)
    obtain rfl : q10 = xs (k + 2) := eq10.trans (by rw [nI_clamp (by omega)])
    refine lv_aload_n hx hb dL_law_1054 rfl (lv_at hl 5 rfl) ?_
    refine lv_iload hx hb dL_law_1055 (lv_at hl 1 rfl) ?_
    refine lv_iconst (v := 3) hx hb dL_law_1057 (by decide) ?_
    refine lv_iadd hx hb dL_law_1058 ?_
    refine lv_topi (fun q11 eq11 => ?_)
    obtain rfl : q11 = nI (k + 3) := (show q11 = nI k + nI 3 from eq11).trans (nI_add _ _)
    refine va_sld hx hb hX hbl hbA hS (vp_in_nI (by omega) (by omega)) dL_law_1059 ?_
    refine lv_topi (fun q12 eq12 => ?_)
    obtain rfl : q12 = xs (k + 3) := eq12.trans (by rw [nI_clamp (by omega)])
    refine lv_if_eq (tgt := 1067) hx hb dL_law_1060 (by decide) (fun c_1060 => ?_) (fun c_1060 => absurd c0 c_1060)
    refine lv_iconst (v := 0) hx hb dL_law_1067 (by decide) ?_
    refine dz_kMi (va_runV (As := [_, _, _]) ⟨hx, hb, hml, hown, hts⟩ (hM G1 ad1 hp) (cwV 3 hts gL_law_X9_from rfl rfl rfl (by decide +kernel) ⟨by show frM + 1 ≤ 12; omega, by show 8 + (5 + 11) + loM ≤ 454; omega⟩) (dz_P.preV hE hS hG hMo rfl hMa) rfl rfl hl.1 rfl (lv_room (Nat.le_of_ble_eq_true rfl)) dL_law_1068 ⟨by show cells + mcL + 0 ≤ 601024; omega, by show slots + msL + 0 ≤ 7293034; omega⟩) hS (fun y G2 ad2 H locs hq hG hS => ?_)
    obtain ⟨⟨hMa2, nm2, ns2, nl2, nx2, nf2, my2, dy2, td2, ssf2, sst2, cfr2, grw2, bkk2, iop2, hMo2⟩, h50, hN⟩ := hend G1 ad1 y G2 ad2 hp hq
    refine lv_istore (lv' := [(6, .int y), (5, .int x), (4, .int (nI k)), (3, .ref aO), (2, .ref aM), (1, .ref aX), (0, .ref b)]) hx hb dL_law_1071 hl (by decide) rfl (fun ls hl => ?_)
    refine lv_aload_n hx hb dL_law_1073 rfl (lv_at hl 4 rfl) ?_
    refine dz_kRi (va_runV (As := []) ⟨hx, hb, hml, hown, hts⟩ (c_X9_thrown l Z G2 ad2 aM nm2 ns2 nl2 nx2 nf2 my2 kx dy2 td2 ssf2 sst2 cfr2 grw2 bkk2 iop2 hMa2 hMo2) (cwV 0 hts gL_law_X9_thrown rfl rfl rfl (by decide +kernel) ⟨Nat.le_of_ble_eq_true rfl, Nat.le_of_ble_eq_true rfl⟩) (dz_P.preV hE hS hG hMo2 rfl hMa2) rfl rfl hl.1 rfl (lv_room (Nat.le_of_ble_eq_true rfl)) dL_law_1074 ⟨by show cells + mcL + 0 + 0 ≤ 601024; omega, by show slots + msL + 0 + 0 ≤ 7293034; omega⟩) ?_
    refine lv_iload hx hb dL_law_1077 (lv_at hl 1 rfl) ?_
    refine lv_icmp_eq (tgt := 1084) hx hb dL_law_1079 (by decide) (fun c_1079 => ?_) (fun c_1079 => absurd hxk.symm c_1079)
    refine lv_iload hx hb dL_law_1084 (lv_at hl 1 rfl) ?_
    refine lv_if_ne (tgt := 1101) hx hb dL_law_1086 (by decide) (fun c_1086 => ?_) (fun c_1086 => ?_)
    · refine lv_goto (tgt := 1861) hx hb dL_law_1101 (by decide) ?_
      refine W.widen (k := cells + 20) (n := slots + 700) (by omega) (by omega) ?_
      exact next G2 ad2 _ _ _ hN hG hS (lv_sub hl [2, 3, 4, 5, 6] rfl)
    · obtain ⟨fo9, h5, ha5, hv5⟩ := h50 (hxk.symm.trans c_1086)
      refine lv_aload_n hx hb dL_law_1089 rfl (lv_at hl 3 rfl) ?_
      refine lv_iconst (v := 0) hx hb dL_law_1090 (by decide) ?_
      refine dz_lald hx hb hE hG ha5 h5 (by unfold vp_in; decide) dL_law_1091 ?_
      refine lv_iload hx hb dL_law_1092 (lv_at hl 0 rfl) ?_
      refine lv_i2l hx hb dL_law_1094 rfl ?_
      refine W.lcmp hx hb dL_law_1095 ?_
      refine lv_topi (fun q13 eq13 => ?_)
      obtain rfl : q13 = 0 := eq13.trans (lw_cmp hv5)
      refine lv_if_eq (tgt := 1101) hx hb dL_law_1096 (by decide) (fun c_1096 => ?_) (fun c_1096 => absurd rfl c_1096)
      refine lv_goto (tgt := 1861) hx hb dL_law_1101 (by decide) ?_
      refine W.widen (k := cells + 20) (n := slots + 700) (by omega) (by omega) ?_
      exact next G2 ad2 _ _ _ hN hG hS (lv_sub hl [2, 3, 4, 5, 6] rfl)
  · obtain ⟨kx, frL, loL, mcL, msL, frM, loM, PL, PM, ⟨q01, q02, q03, q04, q05, q06⟩, hL, hLr, hM, hend⟩ := hst 1 rfl
    refine lv_aload_n hx hb dL_law_1008 rfl (lv_at hl 3 rfl) ?_
    refine lv_aload_n hx hb dL_law_1009 rfl (lv_at hl 4 rfl) ?_
    refine lv_iload hx hb dL_law_1010 (lv_at hl 0 rfl) ?_
    refine lv_iconst (v := 1) hx hb dL_law_1012 (by decide) ?_
    refine lv_iadd hx hb dL_law_1013 ?_
    refine lv_topi (fun q1 eq1 => ?_)
    obtain rfl : q1 = nI (k + 1) := (show q1 = nI k + nI 1 from eq1).trans (nI_add _ _)
    refine va_sld hx hb hX hbl hbA hS (vp_in_nI (by omega) (by omega)) dL_law_1014 ?_
    refine lv_topi (fun q2 eq2 => ?_)
    obtain rfl : q2 = xs (k + 1) := eq2.trans (by rw [nI_clamp (by omega)])
    refine lv_aload_n hx hb dL_law_1015 rfl (lv_at hl 4 rfl) ?_
    refine lv_iload hx hb dL_law_1016 (lv_at hl 0 rfl) ?_
    refine lv_iconst (v := 2) hx hb dL_law_1018 (by decide) ?_
    refine lv_iadd hx hb dL_law_1019 ?_
    refine lv_topi (fun q3 eq3 => ?_)
    obtain rfl : q3 = nI (k + 2) := (show q3 = nI k + nI 2 from eq3).trans (nI_add _ _)
    refine va_sld hx hb hX hbl hbA hS (vp_in_nI (by omega) (by omega)) dL_law_1020 ?_
    refine lv_topi (fun q4 eq4 => ?_)
    obtain rfl : q4 = xs (k + 2) := eq4.trans (by rw [nI_clamp (by omega)])
    refine lv_aload_n hx hb dL_law_1021 rfl (lv_at hl 4 rfl) ?_
    refine lv_iload hx hb dL_law_1022 (lv_at hl 0 rfl) ?_
    refine lv_iconst (v := 3) hx hb dL_law_1024 (by decide) ?_
    refine lv_iadd hx hb dL_law_1025 ?_
    refine lv_topi (fun q5 eq5 => ?_)
    obtain rfl : q5 = nI (k + 3) := (show q5 = nI k + nI 3 from eq5).trans (nI_add _ _)
    refine va_sld hx hb hX hbl hbA hS (vp_in_nI (by omega) (by omega)) dL_law_1026 ?_
    refine lv_topi (fun q6 eq6 => ?_)
    obtain rfl : q6 = xs (k + 3) := eq6.trans (by rw [nI_clamp (by omega)])
    refine lv_if_eq (tgt := 1034) hx hb dL_law_1027 (by decide) (fun c_1027 => absurd c_1027 c0) (fun c_1027 => ?_)
    refine lv_iconst (v := 1) hx hb dL_law_1030 (by decide) ?_
    refine lv_goto (tgt := 1035) hx hb dL_law_1031 (by decide) ?_
    refine lv_aload_n hx hb dL_law_1035 rfl (lv_at hl 1 rfl) ?_
    refine dz_kMi (vx_runSW (As := [_, _, _, _, _]) ⟨hx, hb, hml, hown, hts⟩ hL (vx_cwSW 5 hts gL_law_L_from rfl rfl rfl (by decide +kernel) ⟨by show frL + 1 ≤ 12; omega, by show 8 + (6 + 11) + loL ≤ 454; omega⟩) (dz_P.pre hE hS hG) rfl rfl hl.1 rfl (lv_room (Nat.le_of_ble_eq_true rfl)) dL_law_1036 ⟨by show cells + mcL ≤ 601024; omega, by show slots + msL ≤ 7293034; omega⟩) hS (fun x G1 ad1 H locs hp hG hS => ?_)
    obtain ⟨hxk, hp⟩ := hp
    obtain ⟨⟨fs, hMo⟩, hMa⟩ := hLr G1 ad1 hp
    refine lv_istore (lv' := [(5, .int x), (4, .int (nI k)), (3, .ref aO), (2, .ref aM), (1, .ref aX), (0, .ref b)]) hx hb dL_law_1039 hl (by decide) rfl (fun ls hl => ?_)
    refine lv_aload_n hx hb dL_law_1041 rfl (lv_at hl 3 rfl) ?_
    refine lv_aload_n hx hb dL_law_1042 rfl (lv_at hl 5 rfl) ?_
    refine lv_iload hx hb dL_law_1043 (lv_at hl 1 rfl) ?_
    refine lv_iconst (v := 1) hx hb dL_law_1045 (by decide) ?_
    refine lv_iadd hx hb dL_law_1046 ?_
    refine lv_topi (fun q7 eq7 => ?_)
    obtain rfl : q7 = nI (k + 1) := (show q7 = nI k + nI 1 from eq7).trans (nI_add _ _)
    refine va_sld hx hb hX hbl hbA hS (vp_in_nI (by omega) (by omega)) dL_law_1047 ?_
    refine lv_topi (fun q8 eq8 => ?_)
    obtain rfl : q8 = xs (k + 1) := eq8.trans (by rw [nI_clamp (by omega)])
    refine lv_aload_n hx hb dL_law_1048 rfl (lv_at hl 5 rfl) ?_
    refine lv_iload hx hb dL_law_1049 (lv_at hl 1 rfl) ?_
    refine lv_iconst (v := 2) hx hb dL_law_1051 (by decide) ?_
    refine lv_iadd hx hb dL_law_1052 ?_
    refine lv_topi (fun q9 eq9 => ?_)
    obtain rfl : q9 = nI (k + 2) := (show q9 = nI k + nI 2 from eq9).trans (nI_add _ _)
    refine va_sld hx hb hX hbl hbA hS (vp_in_nI (by omega) (by omega)) dL_law_1053 ?_
    refine lv_topi (fun q10 eq10 => ?_)
    obtain rfl : q10 = xs (k + 2) := eq10.trans (by rw [nI_clamp (by omega)])
    refine lv_aload_n hx hb dL_law_1054 rfl (lv_at hl 5 rfl) ?_
    refine lv_iload hx hb dL_law_1055 (lv_at hl 1 rfl) ?_
    refine lv_iconst (v := 3) hx hb dL_law_1057 (by decide) ?_
    refine lv_iadd hx hb dL_law_1058 ?_
    refine lv_topi (fun q11 eq11 => ?_)
    obtain rfl : q11 = nI (k + 3) := (show q11 = nI k + nI 3 from eq11).trans (nI_add _ _)
    refine va_sld hx hb hX hbl hbA hS (vp_in_nI (by omega) (by omega)) dL_law_1059 ?_
    refine lv_topi (fun q12 eq12 => ?_)
    obtain rfl : q12 = xs (k + 3) := eq12.trans (by rw [nI_clamp (by omega)])
    refine lv_if_eq (tgt := 1067) hx hb dL_law_1060 (by decide) (fun c_1060 => absurd c_1060 c0) (fun c_1060 => ?_)
    refine lv_iconst (v := 1) hx hb dL_law_1063 (by decide) ?_
    refine lv_goto (tgt := 1068) hx hb dL_law_1064 (by decide) ?_
    refine dz_kMi (va_runV (As := [_, _, _]) ⟨hx, hb, hml, hown, hts⟩ (hM G1 ad1 hp) (cwV 3 hts gL_law_X9_from rfl rfl rfl (by decide +kernel) ⟨by show frM + 1 ≤ 12; omega, by show 8 + (5 + 11) + loM ≤ 454; omega⟩) (dz_P.preV hE hS hG hMo rfl hMa) rfl rfl hl.1 rfl (lv_room (Nat.le_of_ble_eq_true rfl)) dL_law_1068 ⟨by show cells + mcL + 0 ≤ 601024; omega, by show slots + msL + 0 ≤ 7293034; omega⟩) hS (fun y G2 ad2 H locs hq hG hS => ?_)
    obtain ⟨⟨hMa2, nm2, ns2, nl2, nx2, nf2, my2, dy2, td2, ssf2, sst2, cfr2, grw2, bkk2, iop2, hMo2⟩, h50, hN⟩ := hend G1 ad1 y G2 ad2 hp hq
    refine lv_istore (lv' := [(6, .int y), (5, .int x), (4, .int (nI k)), (3, .ref aO), (2, .ref aM), (1, .ref aX), (0, .ref b)]) hx hb dL_law_1071 hl (by decide) rfl (fun ls hl => ?_)
    refine lv_aload_n hx hb dL_law_1073 rfl (lv_at hl 4 rfl) ?_
    refine dz_kRi (va_runV (As := []) ⟨hx, hb, hml, hown, hts⟩ (c_X9_thrown l Z G2 ad2 aM nm2 ns2 nl2 nx2 nf2 my2 kx dy2 td2 ssf2 sst2 cfr2 grw2 bkk2 iop2 hMa2 hMo2) (cwV 0 hts gL_law_X9_thrown rfl rfl rfl (by decide +kernel) ⟨Nat.le_of_ble_eq_true rfl, Nat.le_of_ble_eq_true rfl⟩) (dz_P.preV hE hS hG hMo2 rfl hMa2) rfl rfl hl.1 rfl (lv_room (Nat.le_of_ble_eq_true rfl)) dL_law_1074 ⟨by show cells + mcL + 0 + 0 ≤ 601024; omega, by show slots + msL + 0 + 0 ≤ 7293034; omega⟩) ?_
    refine lv_iload hx hb dL_law_1077 (lv_at hl 1 rfl) ?_
    refine lv_icmp_eq (tgt := 1084) hx hb dL_law_1079 (by decide) (fun c_1079 => ?_) (fun c_1079 => absurd hxk.symm c_1079)
    refine lv_iload hx hb dL_law_1084 (lv_at hl 1 rfl) ?_
    refine lv_if_ne (tgt := 1101) hx hb dL_law_1086 (by decide) (fun c_1086 => ?_) (fun c_1086 => ?_)
    · refine lv_goto (tgt := 1861) hx hb dL_law_1101 (by decide) ?_
      refine W.widen (k := cells + 20) (n := slots + 700) (by omega) (by omega) ?_
      exact next G2 ad2 _ _ _ hN hG hS (lv_sub hl [2, 3, 4, 5, 6] rfl)
    · obtain ⟨fo9, h5, ha5, hv5⟩ := h50 (hxk.symm.trans c_1086)
      refine lv_aload_n hx hb dL_law_1089 rfl (lv_at hl 3 rfl) ?_
      refine lv_iconst (v := 0) hx hb dL_law_1090 (by decide) ?_
      refine dz_lald hx hb hE hG ha5 h5 (by unfold vp_in; decide) dL_law_1091 ?_
      refine lv_iload hx hb dL_law_1092 (lv_at hl 0 rfl) ?_
      refine lv_i2l hx hb dL_law_1094 rfl ?_
      refine W.lcmp hx hb dL_law_1095 ?_
      refine lv_topi (fun q13 eq13 => ?_)
      obtain rfl : q13 = 0 := eq13.trans (lw_cmp hv5)
      refine lv_if_eq (tgt := 1101) hx hb dL_law_1096 (by decide) (fun c_1096 => ?_) (fun c_1096 => absurd rfl c_1096)
      refine lv_goto (tgt := 1861) hx hb dL_law_1101 (by decide) ?_
      refine W.widen (k := cells + 20) (n := slots + 700) (by omega) (by omega) ?_
      exact next G2 ad2 _ _ _ hN hG hS (lv_sub hl [2, 3, 4, 5, 6] rfl)

set_option maxHeartbeats 4000000 in
set_option maxRecDepth 100000 in
theorem lw_s_images {p : Program} {l : Launch} {e : Env} {s : State} {m : MethodId} {below : List Frame} {meth : Method} {c : Code} {b L : Nat} {xs : Nat → Int32} {Z : dzG} (K : lw_K p s m c b L xs Z) {G : dzW} {ad : dzA} {aX aM aO k cells slots : Nat} {H : Heap} {locs : List Loc} {ls : Array Slot} {Q : State → Prop} (hk : k + 5 ≤ L) (hl : lv_has ls 7 [(4, .int (nI k)), (3, .ref aO), (2, .ref aM), (1, .ref aX), (0, .ref b)]) (hG : dz_w Z G ad H) (hS : va_S (dz_A Z) s.heap H locs) (hce : cells + 20 ≤ 601024) (hsl : slots + 700 ≤ 7293034) {Nx : dzW → dzA → Prop} (hst : lw_Ok l Z G ad aM aO yL_images wsL_images yX9_images wsX9_images [.ref aX, .int (xs (k + 1)), .ref aO] [.ref aM, .int (xs (k + 1))] rv_i (fun y => y.toInt64) Nx) (next : ∀ (G2 : dzW) (ad2 : dzA) (H2 : Heap) (locs2 : List Loc) (ls2 : Array Slot), Nx G2 ad2 → dz_w Z G2 ad2 H2 → va_S (dz_A Z) s.heap H2 locs2 → lv_has ls2 7 [(4, .int (nI k)), (3, .ref aO), (2, .ref aM), (1, .ref aX), (0, .ref b)] → W p l e room_1 s m #[Value.ref b] below meth c H2 locs2 (cells + 20) (slots + 700) Q (F0 m 1861 ls2 [])) : W p l e room_1 s m #[Value.ref b] below meth c H locs cells slots Q (F0 m 1104 ls []) := by
  obtain ⟨hx, hb, hml, hown, hts, hX, hbl, hB, hE, hL9⟩ := K
  have hbA : ¬ dz_A Z b := by show ¬ dzB Z ≤ b; omega
  obtain ⟨kx, frL, loL, mcL, msL, frM, loM, PL, PM, ⟨q01, q02, q03, q04, q05, q06⟩, hL, hLr, hM, hend⟩ := hst
  refine lv_aload_n hx hb dL_law_1104 rfl (lv_at hl 3 rfl) ?_
  refine lv_aload_n hx hb dL_law_1105 rfl (lv_at hl 4 rfl) ?_
  refine lv_iload hx hb dL_law_1106 (lv_at hl 0 rfl) ?_
  refine lv_iconst (v := 1) hx hb dL_law_1108 (by decide) ?_
  refine lv_iadd hx hb dL_law_1109 ?_
  refine lv_topi (fun q1 eq1 => ?_)
  obtain rfl : q1 = nI (k + 1) := (show q1 = nI k + nI 1 from eq1).trans (nI_add _ _)
  refine va_sld hx hb hX hbl hbA hS (vp_in_nI (by omega) (by omega)) dL_law_1110 ?_
  refine lv_topi (fun q2 eq2 => ?_)
  obtain rfl : q2 = xs (k + 1) := eq2.trans (by rw [nI_clamp (by omega)])
  refine lv_aload_n hx hb dL_law_1111 rfl (lv_at hl 1 rfl) ?_
  refine dz_kMi (vx_runSW (As := [_, _, _]) ⟨hx, hb, hml, hown, hts⟩ hL (vx_cwSW 3 hts gL_law_L_images rfl rfl rfl (by decide +kernel) ⟨by show frL + 1 ≤ 12; omega, by show 8 + (4 + 11) + loL ≤ 454; omega⟩) (dz_P.pre hE hS hG) rfl rfl hl.1 rfl (lv_room (Nat.le_of_ble_eq_true rfl)) dL_law_1112 ⟨by show cells + mcL ≤ 601024; omega, by show slots + msL ≤ 7293034; omega⟩) hS (fun x G1 ad1 H locs hp hG hS => ?_)
  obtain ⟨hxk, hp⟩ := hp
  obtain ⟨⟨fs, hMo⟩, hMa⟩ := hLr G1 ad1 hp
  refine lv_istore (lv' := [(5, .int x), (4, .int (nI k)), (3, .ref aO), (2, .ref aM), (1, .ref aX), (0, .ref b)]) hx hb dL_law_1115 hl (by decide) rfl (fun ls hl => ?_)
  refine lv_aload_n hx hb dL_law_1117 rfl (lv_at hl 3 rfl) ?_
  refine lv_aload_n hx hb dL_law_1118 rfl (lv_at hl 5 rfl) ?_
  refine lv_iload hx hb dL_law_1119 (lv_at hl 1 rfl) ?_
  refine lv_iconst (v := 1) hx hb dL_law_1121 (by decide) ?_
  refine lv_iadd hx hb dL_law_1122 ?_
  refine lv_topi (fun q3 eq3 => ?_)
  obtain rfl : q3 = nI (k + 1) := (show q3 = nI k + nI 1 from eq3).trans (nI_add _ _)
  refine va_sld hx hb hX hbl hbA hS (vp_in_nI (by omega) (by omega)) dL_law_1123 ?_
  refine lv_topi (fun q4 eq4 => ?_)
  obtain rfl : q4 = xs (k + 1) := eq4.trans (by rw [nI_clamp (by omega)])
  refine dz_kMi (va_runV (As := [_]) ⟨hx, hb, hml, hown, hts⟩ (hM G1 ad1 hp) (cwV 1 hts gL_law_X9_images rfl rfl rfl (by decide +kernel) ⟨by show frM + 1 ≤ 12; omega, by show 8 + (2 + 11) + loM ≤ 454; omega⟩) (dz_P.preV hE hS hG hMo rfl hMa) rfl rfl hl.1 rfl (lv_room (Nat.le_of_ble_eq_true rfl)) dL_law_1124 ⟨by show cells + mcL + 0 ≤ 601024; omega, by show slots + msL + 0 ≤ 7293034; omega⟩) hS (fun y G2 ad2 H locs hq hG hS => ?_)
  obtain ⟨⟨hMa2, nm2, ns2, nl2, nx2, nf2, my2, dy2, td2, ssf2, sst2, cfr2, grw2, bkk2, iop2, hMo2⟩, h50, hN⟩ := hend G1 ad1 y G2 ad2 hp hq
  refine lv_istore (lv' := [(6, .int y), (5, .int x), (4, .int (nI k)), (3, .ref aO), (2, .ref aM), (1, .ref aX), (0, .ref b)]) hx hb dL_law_1127 hl (by decide) rfl (fun ls hl => ?_)
  refine lv_aload_n hx hb dL_law_1129 rfl (lv_at hl 4 rfl) ?_
  refine dz_kRi (va_runV (As := []) ⟨hx, hb, hml, hown, hts⟩ (c_X9_thrown l Z G2 ad2 aM nm2 ns2 nl2 nx2 nf2 my2 kx dy2 td2 ssf2 sst2 cfr2 grw2 bkk2 iop2 hMa2 hMo2) (cwV 0 hts gL_law_X9_thrown rfl rfl rfl (by decide +kernel) ⟨Nat.le_of_ble_eq_true rfl, Nat.le_of_ble_eq_true rfl⟩) (dz_P.preV hE hS hG hMo2 rfl hMa2) rfl rfl hl.1 rfl (lv_room (Nat.le_of_ble_eq_true rfl)) dL_law_1130 ⟨by show cells + mcL + 0 + 0 ≤ 601024; omega, by show slots + msL + 0 + 0 ≤ 7293034; omega⟩) ?_
  refine lv_iload hx hb dL_law_1133 (lv_at hl 1 rfl) ?_
  refine lv_icmp_eq (tgt := 1140) hx hb dL_law_1135 (by decide) (fun c_1135 => ?_) (fun c_1135 => absurd hxk.symm c_1135)
  refine lv_iload hx hb dL_law_1140 (lv_at hl 1 rfl) ?_
  refine lv_if_ne (tgt := 1157) hx hb dL_law_1142 (by decide) (fun c_1142 => ?_) (fun c_1142 => ?_)
  · refine lv_goto (tgt := 1861) hx hb dL_law_1157 (by decide) ?_
    refine W.widen (k := cells + 20) (n := slots + 700) (by omega) (by omega) ?_
    exact next G2 ad2 _ _ _ hN hG hS (lv_sub hl [2, 3, 4, 5, 6] rfl)
  · obtain ⟨fo9, h5, ha5, hv5⟩ := h50 (hxk.symm.trans c_1142)
    refine lv_aload_n hx hb dL_law_1145 rfl (lv_at hl 3 rfl) ?_
    refine lv_iconst (v := 0) hx hb dL_law_1146 (by decide) ?_
    refine dz_lald hx hb hE hG ha5 h5 (by unfold vp_in; decide) dL_law_1147 ?_
    refine lv_iload hx hb dL_law_1148 (lv_at hl 0 rfl) ?_
    refine lv_i2l hx hb dL_law_1150 rfl ?_
    refine W.lcmp hx hb dL_law_1151 ?_
    refine lv_topi (fun q5 eq5 => ?_)
    obtain rfl : q5 = 0 := eq5.trans (lw_cmp hv5)
    refine lv_if_eq (tgt := 1157) hx hb dL_law_1152 (by decide) (fun c_1152 => ?_) (fun c_1152 => absurd rfl c_1152)
    refine lv_goto (tgt := 1861) hx hb dL_law_1157 (by decide) ?_
    refine W.widen (k := cells + 20) (n := slots + 700) (by omega) (by omega) ?_
    exact next G2 ad2 _ _ _ hN hG hS (lv_sub hl [2, 3, 4, 5, 6] rfl)

set_option maxHeartbeats 4000000 in
set_option maxRecDepth 100000 in
theorem lw_s_imagesAnew {p : Program} {l : Launch} {e : Env} {s : State} {m : MethodId} {below : List Frame} {meth : Method} {c : Code} {b L : Nat} {xs : Nat → Int32} {Z : dzG} (K : lw_K p s m c b L xs Z) {G : dzW} {ad : dzA} {aX aM aO k cells slots : Nat} {H : Heap} {locs : List Loc} {ls : Array Slot} {Q : State → Prop} (hk : k + 5 ≤ L) (hl : lv_has ls 7 [(4, .int (nI k)), (3, .ref aO), (2, .ref aM), (1, .ref aX), (0, .ref b)]) (hG : dz_w Z G ad H) (hS : va_S (dz_A Z) s.heap H locs) (hce : cells + 20 ≤ 601024) (hsl : slots + 700 ≤ 7293034) {Nx : dzW → dzA → Prop} (hst : lw_Ok l Z G ad aM aO yL_imagesAnew wsL_imagesAnew yX9_imagesAnew wsX9_imagesAnew [.ref aX, .int (xs (k + 1)), .ref aO] [.ref aM, .int (xs (k + 1))] rv_i (fun y => y.toInt64) Nx) (next : ∀ (G2 : dzW) (ad2 : dzA) (H2 : Heap) (locs2 : List Loc) (ls2 : Array Slot), Nx G2 ad2 → dz_w Z G2 ad2 H2 → va_S (dz_A Z) s.heap H2 locs2 → lv_has ls2 7 [(4, .int (nI k)), (3, .ref aO), (2, .ref aM), (1, .ref aX), (0, .ref b)] → W p l e room_1 s m #[Value.ref b] below meth c H2 locs2 (cells + 20) (slots + 700) Q (F0 m 1861 ls2 [])) : W p l e room_1 s m #[Value.ref b] below meth c H locs cells slots Q (F0 m 1160 ls []) := by
  obtain ⟨hx, hb, hml, hown, hts, hX, hbl, hB, hE, hL9⟩ := K
  have hbA : ¬ dz_A Z b := by show ¬ dzB Z ≤ b; omega
  obtain ⟨kx, frL, loL, mcL, msL, frM, loM, PL, PM, ⟨q01, q02, q03, q04, q05, q06⟩, hL, hLr, hM, hend⟩ := hst
  refine lv_aload_n hx hb dL_law_1160 rfl (lv_at hl 3 rfl) ?_
  refine lv_aload_n hx hb dL_law_1161 rfl (lv_at hl 4 rfl) ?_
  refine lv_iload hx hb dL_law_1162 (lv_at hl 0 rfl) ?_
  refine lv_iconst (v := 1) hx hb dL_law_1164 (by decide) ?_
  refine lv_iadd hx hb dL_law_1165 ?_
  refine lv_topi (fun q1 eq1 => ?_)
  obtain rfl : q1 = nI (k + 1) := (show q1 = nI k + nI 1 from eq1).trans (nI_add _ _)
  refine va_sld hx hb hX hbl hbA hS (vp_in_nI (by omega) (by omega)) dL_law_1166 ?_
  refine lv_topi (fun q2 eq2 => ?_)
  obtain rfl : q2 = xs (k + 1) := eq2.trans (by rw [nI_clamp (by omega)])
  refine lv_aload_n hx hb dL_law_1167 rfl (lv_at hl 1 rfl) ?_
  refine dz_kMi (vx_runSW (As := [_, _, _]) ⟨hx, hb, hml, hown, hts⟩ hL (vx_cwSW 3 hts gL_law_L_imagesAnew rfl rfl rfl (by decide +kernel) ⟨by show frL + 1 ≤ 12; omega, by show 8 + (4 + 11) + loL ≤ 454; omega⟩) (dz_P.pre hE hS hG) rfl rfl hl.1 rfl (lv_room (Nat.le_of_ble_eq_true rfl)) dL_law_1168 ⟨by show cells + mcL ≤ 601024; omega, by show slots + msL ≤ 7293034; omega⟩) hS (fun x G1 ad1 H locs hp hG hS => ?_)
  obtain ⟨hxk, hp⟩ := hp
  obtain ⟨⟨fs, hMo⟩, hMa⟩ := hLr G1 ad1 hp
  refine lv_istore (lv' := [(5, .int x), (4, .int (nI k)), (3, .ref aO), (2, .ref aM), (1, .ref aX), (0, .ref b)]) hx hb dL_law_1171 hl (by decide) rfl (fun ls hl => ?_)
  refine lv_aload_n hx hb dL_law_1173 rfl (lv_at hl 3 rfl) ?_
  refine lv_aload_n hx hb dL_law_1174 rfl (lv_at hl 5 rfl) ?_
  refine lv_iload hx hb dL_law_1175 (lv_at hl 1 rfl) ?_
  refine lv_iconst (v := 1) hx hb dL_law_1177 (by decide) ?_
  refine lv_iadd hx hb dL_law_1178 ?_
  refine lv_topi (fun q3 eq3 => ?_)
  obtain rfl : q3 = nI (k + 1) := (show q3 = nI k + nI 1 from eq3).trans (nI_add _ _)
  refine va_sld hx hb hX hbl hbA hS (vp_in_nI (by omega) (by omega)) dL_law_1179 ?_
  refine lv_topi (fun q4 eq4 => ?_)
  obtain rfl : q4 = xs (k + 1) := eq4.trans (by rw [nI_clamp (by omega)])
  refine dz_kMi (va_runV (As := [_]) ⟨hx, hb, hml, hown, hts⟩ (hM G1 ad1 hp) (cwV 1 hts gL_law_X9_imagesAnew rfl rfl rfl (by decide +kernel) ⟨by show frM + 1 ≤ 12; omega, by show 8 + (2 + 11) + loM ≤ 454; omega⟩) (dz_P.preV hE hS hG hMo rfl hMa) rfl rfl hl.1 rfl (lv_room (Nat.le_of_ble_eq_true rfl)) dL_law_1180 ⟨by show cells + mcL + 0 ≤ 601024; omega, by show slots + msL + 0 ≤ 7293034; omega⟩) hS (fun y G2 ad2 H locs hq hG hS => ?_)
  obtain ⟨⟨hMa2, nm2, ns2, nl2, nx2, nf2, my2, dy2, td2, ssf2, sst2, cfr2, grw2, bkk2, iop2, hMo2⟩, h50, hN⟩ := hend G1 ad1 y G2 ad2 hp hq
  refine lv_istore (lv' := [(6, .int y), (5, .int x), (4, .int (nI k)), (3, .ref aO), (2, .ref aM), (1, .ref aX), (0, .ref b)]) hx hb dL_law_1183 hl (by decide) rfl (fun ls hl => ?_)
  refine lv_aload_n hx hb dL_law_1185 rfl (lv_at hl 4 rfl) ?_
  refine dz_kRi (va_runV (As := []) ⟨hx, hb, hml, hown, hts⟩ (c_X9_thrown l Z G2 ad2 aM nm2 ns2 nl2 nx2 nf2 my2 kx dy2 td2 ssf2 sst2 cfr2 grw2 bkk2 iop2 hMa2 hMo2) (cwV 0 hts gL_law_X9_thrown rfl rfl rfl (by decide +kernel) ⟨Nat.le_of_ble_eq_true rfl, Nat.le_of_ble_eq_true rfl⟩) (dz_P.preV hE hS hG hMo2 rfl hMa2) rfl rfl hl.1 rfl (lv_room (Nat.le_of_ble_eq_true rfl)) dL_law_1186 ⟨by show cells + mcL + 0 + 0 ≤ 601024; omega, by show slots + msL + 0 + 0 ≤ 7293034; omega⟩) ?_
  refine lv_iload hx hb dL_law_1189 (lv_at hl 1 rfl) ?_
  refine lv_icmp_eq (tgt := 1196) hx hb dL_law_1191 (by decide) (fun c_1191 => ?_) (fun c_1191 => absurd hxk.symm c_1191)
  refine lv_iload hx hb dL_law_1196 (lv_at hl 1 rfl) ?_
  refine lv_if_ne (tgt := 1213) hx hb dL_law_1198 (by decide) (fun c_1198 => ?_) (fun c_1198 => ?_)
  · refine lv_goto (tgt := 1861) hx hb dL_law_1213 (by decide) ?_
    refine W.widen (k := cells + 20) (n := slots + 700) (by omega) (by omega) ?_
    exact next G2 ad2 _ _ _ hN hG hS (lv_sub hl [2, 3, 4, 5, 6] rfl)
  · obtain ⟨fo9, h5, ha5, hv5⟩ := h50 (hxk.symm.trans c_1198)
    refine lv_aload_n hx hb dL_law_1201 rfl (lv_at hl 3 rfl) ?_
    refine lv_iconst (v := 0) hx hb dL_law_1202 (by decide) ?_
    refine dz_lald hx hb hE hG ha5 h5 (by unfold vp_in; decide) dL_law_1203 ?_
    refine lv_iload hx hb dL_law_1204 (lv_at hl 0 rfl) ?_
    refine lv_i2l hx hb dL_law_1206 rfl ?_
    refine W.lcmp hx hb dL_law_1207 ?_
    refine lv_topi (fun q5 eq5 => ?_)
    obtain rfl : q5 = 0 := eq5.trans (lw_cmp hv5)
    refine lv_if_eq (tgt := 1213) hx hb dL_law_1208 (by decide) (fun c_1208 => ?_) (fun c_1208 => absurd rfl c_1208)
    refine lv_goto (tgt := 1861) hx hb dL_law_1213 (by decide) ?_
    refine W.widen (k := cells + 20) (n := slots + 700) (by omega) (by omega) ?_
    exact next G2 ad2 _ _ _ hN hG hS (lv_sub hl [2, 3, 4, 5, 6] rfl)

set_option maxHeartbeats 4000000 in
set_option maxRecDepth 100000 in
theorem lw_s_imageOf {p : Program} {l : Launch} {e : Env} {s : State} {m : MethodId} {below : List Frame} {meth : Method} {c : Code} {b L : Nat} {xs : Nat → Int32} {Z : dzG} (K : lw_K p s m c b L xs Z) {G : dzW} {ad : dzA} {aX aM aO k cells slots : Nat} {H : Heap} {locs : List Loc} {ls : Array Slot} {Q : State → Prop} (hk : k + 5 ≤ L) (hl : lv_has ls 7 [(4, .int (nI k)), (3, .ref aO), (2, .ref aM), (1, .ref aX), (0, .ref b)]) (hG : dz_w Z G ad H) (hS : va_S (dz_A Z) s.heap H locs) (hce : cells + 20 ≤ 601024) (hsl : slots + 700 ≤ 7293034) {Nx : dzW → dzA → Prop} (hst : lw_Ok l Z G ad aM aO yL_imageOf wsL_imageOf yX9_imageOf wsX9_imageOf [.ref aX, .int (xs (k + 1)), .int (xs (k + 2)), .int (xs (k + 3)), .ref aO] [.ref aM, .int (xs (k + 1)), .int (xs (k + 2)), .int (xs (k + 3))] rv_i (fun y => y.toInt64) Nx) (next : ∀ (G2 : dzW) (ad2 : dzA) (H2 : Heap) (locs2 : List Loc) (ls2 : Array Slot), Nx G2 ad2 → dz_w Z G2 ad2 H2 → va_S (dz_A Z) s.heap H2 locs2 → lv_has ls2 7 [(4, .int (nI k)), (3, .ref aO), (2, .ref aM), (1, .ref aX), (0, .ref b)] → W p l e room_1 s m #[Value.ref b] below meth c H2 locs2 (cells + 20) (slots + 700) Q (F0 m 1861 ls2 [])) : W p l e room_1 s m #[Value.ref b] below meth c H locs cells slots Q (F0 m 1216 ls []) := by
  obtain ⟨hx, hb, hml, hown, hts, hX, hbl, hB, hE, hL9⟩ := K
  have hbA : ¬ dz_A Z b := by show ¬ dzB Z ≤ b; omega
  obtain ⟨kx, frL, loL, mcL, msL, frM, loM, PL, PM, ⟨q01, q02, q03, q04, q05, q06⟩, hL, hLr, hM, hend⟩ := hst
  refine lv_aload_n hx hb dL_law_1216 rfl (lv_at hl 3 rfl) ?_
  refine lv_aload_n hx hb dL_law_1217 rfl (lv_at hl 4 rfl) ?_
  refine lv_iload hx hb dL_law_1218 (lv_at hl 0 rfl) ?_
  refine lv_iconst (v := 1) hx hb dL_law_1220 (by decide) ?_
  refine lv_iadd hx hb dL_law_1221 ?_
  refine lv_topi (fun q1 eq1 => ?_)
  obtain rfl : q1 = nI (k + 1) := (show q1 = nI k + nI 1 from eq1).trans (nI_add _ _)
  refine va_sld hx hb hX hbl hbA hS (vp_in_nI (by omega) (by omega)) dL_law_1222 ?_
  refine lv_topi (fun q2 eq2 => ?_)
  obtain rfl : q2 = xs (k + 1) := eq2.trans (by rw [nI_clamp (by omega)])
  refine lv_aload_n hx hb dL_law_1223 rfl (lv_at hl 4 rfl) ?_
  refine lv_iload hx hb dL_law_1224 (lv_at hl 0 rfl) ?_
  refine lv_iconst (v := 2) hx hb dL_law_1226 (by decide) ?_
  refine lv_iadd hx hb dL_law_1227 ?_
  refine lv_topi (fun q3 eq3 => ?_)
  obtain rfl : q3 = nI (k + 2) := (show q3 = nI k + nI 2 from eq3).trans (nI_add _ _)
  refine va_sld hx hb hX hbl hbA hS (vp_in_nI (by omega) (by omega)) dL_law_1228 ?_
  refine lv_topi (fun q4 eq4 => ?_)
  obtain rfl : q4 = xs (k + 2) := eq4.trans (by rw [nI_clamp (by omega)])
  refine lv_aload_n hx hb dL_law_1229 rfl (lv_at hl 4 rfl) ?_
  refine lv_iload hx hb dL_law_1230 (lv_at hl 0 rfl) ?_
  refine lv_iconst (v := 3) hx hb dL_law_1232 (by decide) ?_
  refine lv_iadd hx hb dL_law_1233 ?_
  refine lv_topi (fun q5 eq5 => ?_)
  obtain rfl : q5 = nI (k + 3) := (show q5 = nI k + nI 3 from eq5).trans (nI_add _ _)
  refine va_sld hx hb hX hbl hbA hS (vp_in_nI (by omega) (by omega)) dL_law_1234 ?_
  refine lv_topi (fun q6 eq6 => ?_)
  obtain rfl : q6 = xs (k + 3) := eq6.trans (by rw [nI_clamp (by omega)])
  refine lv_aload_n hx hb dL_law_1235 rfl (lv_at hl 1 rfl) ?_
  refine dz_kMi (vx_runSW (As := [_, _, _, _, _]) ⟨hx, hb, hml, hown, hts⟩ hL (vx_cwSW 5 hts gL_law_L_imageOf rfl rfl rfl (by decide +kernel) ⟨by show frL + 1 ≤ 12; omega, by show 8 + (6 + 11) + loL ≤ 454; omega⟩) (dz_P.pre hE hS hG) rfl rfl hl.1 rfl (lv_room (Nat.le_of_ble_eq_true rfl)) dL_law_1236 ⟨by show cells + mcL ≤ 601024; omega, by show slots + msL ≤ 7293034; omega⟩) hS (fun x G1 ad1 H locs hp hG hS => ?_)
  obtain ⟨hxk, hp⟩ := hp
  obtain ⟨⟨fs, hMo⟩, hMa⟩ := hLr G1 ad1 hp
  refine lv_istore (lv' := [(5, .int x), (4, .int (nI k)), (3, .ref aO), (2, .ref aM), (1, .ref aX), (0, .ref b)]) hx hb dL_law_1239 hl (by decide) rfl (fun ls hl => ?_)
  refine lv_aload_n hx hb dL_law_1241 rfl (lv_at hl 3 rfl) ?_
  refine lv_aload_n hx hb dL_law_1242 rfl (lv_at hl 5 rfl) ?_
  refine lv_iload hx hb dL_law_1243 (lv_at hl 1 rfl) ?_
  refine lv_iconst (v := 1) hx hb dL_law_1245 (by decide) ?_
  refine lv_iadd hx hb dL_law_1246 ?_
  refine lv_topi (fun q7 eq7 => ?_)
  obtain rfl : q7 = nI (k + 1) := (show q7 = nI k + nI 1 from eq7).trans (nI_add _ _)
  refine va_sld hx hb hX hbl hbA hS (vp_in_nI (by omega) (by omega)) dL_law_1247 ?_
  refine lv_topi (fun q8 eq8 => ?_)
  obtain rfl : q8 = xs (k + 1) := eq8.trans (by rw [nI_clamp (by omega)])
  refine lv_aload_n hx hb dL_law_1248 rfl (lv_at hl 5 rfl) ?_
  refine lv_iload hx hb dL_law_1249 (lv_at hl 1 rfl) ?_
  refine lv_iconst (v := 2) hx hb dL_law_1251 (by decide) ?_
  refine lv_iadd hx hb dL_law_1252 ?_
  refine lv_topi (fun q9 eq9 => ?_)
  obtain rfl : q9 = nI (k + 2) := (show q9 = nI k + nI 2 from eq9).trans (nI_add _ _)
  refine va_sld hx hb hX hbl hbA hS (vp_in_nI (by omega) (by omega)) dL_law_1253 ?_
  refine lv_topi (fun q10 eq10 => ?_)
  obtain rfl : q10 = xs (k + 2) := eq10.trans (by rw [nI_clamp (by omega)])
  refine lv_aload_n hx hb dL_law_1254 rfl (lv_at hl 5 rfl) ?_
  refine lv_iload hx hb dL_law_1255 (lv_at hl 1 rfl) ?_
  refine lv_iconst (v := 3) hx hb dL_law_1257 (by decide) ?_
  refine lv_iadd hx hb dL_law_1258 ?_
  refine lv_topi (fun q11 eq11 => ?_)
  obtain rfl : q11 = nI (k + 3) := (show q11 = nI k + nI 3 from eq11).trans (nI_add _ _)
  refine va_sld hx hb hX hbl hbA hS (vp_in_nI (by omega) (by omega)) dL_law_1259 ?_
  refine lv_topi (fun q12 eq12 => ?_)
  obtain rfl : q12 = xs (k + 3) := eq12.trans (by rw [nI_clamp (by omega)])
  refine dz_kMi (va_runV (As := [_, _, _]) ⟨hx, hb, hml, hown, hts⟩ (hM G1 ad1 hp) (cwV 3 hts gL_law_X9_imageOf rfl rfl rfl (by decide +kernel) ⟨by show frM + 1 ≤ 12; omega, by show 8 + (6 + 11) + loM ≤ 454; omega⟩) (dz_P.preV hE hS hG hMo rfl hMa) rfl rfl hl.1 rfl (lv_room (Nat.le_of_ble_eq_true rfl)) dL_law_1260 ⟨by show cells + mcL + 0 ≤ 601024; omega, by show slots + msL + 0 ≤ 7293034; omega⟩) hS (fun y G2 ad2 H locs hq hG hS => ?_)
  obtain ⟨⟨hMa2, nm2, ns2, nl2, nx2, nf2, my2, dy2, td2, ssf2, sst2, cfr2, grw2, bkk2, iop2, hMo2⟩, h50, hN⟩ := hend G1 ad1 y G2 ad2 hp hq
  refine lv_istore (lv' := [(6, .int y), (5, .int x), (4, .int (nI k)), (3, .ref aO), (2, .ref aM), (1, .ref aX), (0, .ref b)]) hx hb dL_law_1263 hl (by decide) rfl (fun ls hl => ?_)
  refine lv_aload_n hx hb dL_law_1265 rfl (lv_at hl 4 rfl) ?_
  refine dz_kRi (va_runV (As := []) ⟨hx, hb, hml, hown, hts⟩ (c_X9_thrown l Z G2 ad2 aM nm2 ns2 nl2 nx2 nf2 my2 kx dy2 td2 ssf2 sst2 cfr2 grw2 bkk2 iop2 hMa2 hMo2) (cwV 0 hts gL_law_X9_thrown rfl rfl rfl (by decide +kernel) ⟨Nat.le_of_ble_eq_true rfl, Nat.le_of_ble_eq_true rfl⟩) (dz_P.preV hE hS hG hMo2 rfl hMa2) rfl rfl hl.1 rfl (lv_room (Nat.le_of_ble_eq_true rfl)) dL_law_1266 ⟨by show cells + mcL + 0 + 0 ≤ 601024; omega, by show slots + msL + 0 + 0 ≤ 7293034; omega⟩) ?_
  refine lv_iload hx hb dL_law_1269 (lv_at hl 1 rfl) ?_
  refine lv_icmp_eq (tgt := 1276) hx hb dL_law_1271 (by decide) (fun c_1271 => ?_) (fun c_1271 => absurd hxk.symm c_1271)
  refine lv_iload hx hb dL_law_1276 (lv_at hl 1 rfl) ?_
  refine lv_if_ne (tgt := 1293) hx hb dL_law_1278 (by decide) (fun c_1278 => ?_) (fun c_1278 => ?_)
  · refine lv_goto (tgt := 1861) hx hb dL_law_1293 (by decide) ?_
    refine W.widen (k := cells + 20) (n := slots + 700) (by omega) (by omega) ?_
    exact next G2 ad2 _ _ _ hN hG hS (lv_sub hl [2, 3, 4, 5, 6] rfl)
  · obtain ⟨fo9, h5, ha5, hv5⟩ := h50 (hxk.symm.trans c_1278)
    refine lv_aload_n hx hb dL_law_1281 rfl (lv_at hl 3 rfl) ?_
    refine lv_iconst (v := 0) hx hb dL_law_1282 (by decide) ?_
    refine dz_lald hx hb hE hG ha5 h5 (by unfold vp_in; decide) dL_law_1283 ?_
    refine lv_iload hx hb dL_law_1284 (lv_at hl 0 rfl) ?_
    refine lv_i2l hx hb dL_law_1286 rfl ?_
    refine W.lcmp hx hb dL_law_1287 ?_
    refine lv_topi (fun q13 eq13 => ?_)
    obtain rfl : q13 = 0 := eq13.trans (lw_cmp hv5)
    refine lv_if_eq (tgt := 1293) hx hb dL_law_1288 (by decide) (fun c_1288 => ?_) (fun c_1288 => absurd rfl c_1288)
    refine lv_goto (tgt := 1861) hx hb dL_law_1293 (by decide) ?_
    refine W.widen (k := cells + 20) (n := slots + 700) (by omega) (by omega) ?_
    exact next G2 ad2 _ _ _ hN hG hS (lv_sub hl [2, 3, 4, 5, 6] rfl)

set_option maxHeartbeats 4000000 in
set_option maxRecDepth 100000 in
theorem lw_s_hits {p : Program} {l : Launch} {e : Env} {s : State} {m : MethodId} {below : List Frame} {meth : Method} {c : Code} {b L : Nat} {xs : Nat → Int32} {Z : dzG} (K : lw_K p s m c b L xs Z) {G : dzW} {ad : dzA} {aX aM aO k cells slots : Nat} {H : Heap} {locs : List Loc} {ls : Array Slot} {Q : State → Prop} (hk : k + 5 ≤ L) (hl : lv_has ls 7 [(4, .int (nI k)), (3, .ref aO), (2, .ref aM), (1, .ref aX), (0, .ref b)]) (hG : dz_w Z G ad H) (hS : va_S (dz_A Z) s.heap H locs) (hce : cells + 20 ≤ 601024) (hsl : slots + 700 ≤ 7293034) {Nx : dzW → dzA → Prop} (hst : lw_Ok l Z G ad aM aO yL_hits wsL_hits yX9_hits wsX9_hits [.ref aX, .int (xs (k + 1)), .int (xs (k + 2)), .ref aO] [.ref aM, .int (xs (k + 1)), .int (xs (k + 2))] rv_i (fun y => y.toInt64) Nx) (next : ∀ (G2 : dzW) (ad2 : dzA) (H2 : Heap) (locs2 : List Loc) (ls2 : Array Slot), Nx G2 ad2 → dz_w Z G2 ad2 H2 → va_S (dz_A Z) s.heap H2 locs2 → lv_has ls2 7 [(4, .int (nI k)), (3, .ref aO), (2, .ref aM), (1, .ref aX), (0, .ref b)] → W p l e room_1 s m #[Value.ref b] below meth c H2 locs2 (cells + 20) (slots + 700) Q (F0 m 1861 ls2 [])) : W p l e room_1 s m #[Value.ref b] below meth c H locs cells slots Q (F0 m 1296 ls []) := by
  obtain ⟨hx, hb, hml, hown, hts, hX, hbl, hB, hE, hL9⟩ := K
  have hbA : ¬ dz_A Z b := by show ¬ dzB Z ≤ b; omega
  obtain ⟨kx, frL, loL, mcL, msL, frM, loM, PL, PM, ⟨q01, q02, q03, q04, q05, q06⟩, hL, hLr, hM, hend⟩ := hst
  refine lv_aload_n hx hb dL_law_1296 rfl (lv_at hl 3 rfl) ?_
  refine lv_aload_n hx hb dL_law_1297 rfl (lv_at hl 4 rfl) ?_
  refine lv_iload hx hb dL_law_1298 (lv_at hl 0 rfl) ?_
  refine lv_iconst (v := 1) hx hb dL_law_1300 (by decide) ?_
  refine lv_iadd hx hb dL_law_1301 ?_
  refine lv_topi (fun q1 eq1 => ?_)
  obtain rfl : q1 = nI (k + 1) := (show q1 = nI k + nI 1 from eq1).trans (nI_add _ _)
  refine va_sld hx hb hX hbl hbA hS (vp_in_nI (by omega) (by omega)) dL_law_1302 ?_
  refine lv_topi (fun q2 eq2 => ?_)
  obtain rfl : q2 = xs (k + 1) := eq2.trans (by rw [nI_clamp (by omega)])
  refine lv_aload_n hx hb dL_law_1303 rfl (lv_at hl 4 rfl) ?_
  refine lv_iload hx hb dL_law_1304 (lv_at hl 0 rfl) ?_
  refine lv_iconst (v := 2) hx hb dL_law_1306 (by decide) ?_
  refine lv_iadd hx hb dL_law_1307 ?_
  refine lv_topi (fun q3 eq3 => ?_)
  obtain rfl : q3 = nI (k + 2) := (show q3 = nI k + nI 2 from eq3).trans (nI_add _ _)
  refine va_sld hx hb hX hbl hbA hS (vp_in_nI (by omega) (by omega)) dL_law_1308 ?_
  refine lv_topi (fun q4 eq4 => ?_)
  obtain rfl : q4 = xs (k + 2) := eq4.trans (by rw [nI_clamp (by omega)])
  refine lv_aload_n hx hb dL_law_1309 rfl (lv_at hl 1 rfl) ?_
  refine dz_kMi (vx_runSW (As := [_, _, _, _]) ⟨hx, hb, hml, hown, hts⟩ hL (vx_cwSW 4 hts gL_law_L_hits rfl rfl rfl (by decide +kernel) ⟨by show frL + 1 ≤ 12; omega, by show 8 + (5 + 11) + loL ≤ 454; omega⟩) (dz_P.pre hE hS hG) rfl rfl hl.1 rfl (lv_room (Nat.le_of_ble_eq_true rfl)) dL_law_1310 ⟨by show cells + mcL ≤ 601024; omega, by show slots + msL ≤ 7293034; omega⟩) hS (fun x G1 ad1 H locs hp hG hS => ?_)
  obtain ⟨hxk, hp⟩ := hp
  obtain ⟨⟨fs, hMo⟩, hMa⟩ := hLr G1 ad1 hp
  refine lv_istore (lv' := [(5, .int x), (4, .int (nI k)), (3, .ref aO), (2, .ref aM), (1, .ref aX), (0, .ref b)]) hx hb dL_law_1313 hl (by decide) rfl (fun ls hl => ?_)
  refine lv_aload_n hx hb dL_law_1315 rfl (lv_at hl 3 rfl) ?_
  refine lv_aload_n hx hb dL_law_1316 rfl (lv_at hl 5 rfl) ?_
  refine lv_iload hx hb dL_law_1317 (lv_at hl 1 rfl) ?_
  refine lv_iconst (v := 1) hx hb dL_law_1319 (by decide) ?_
  refine lv_iadd hx hb dL_law_1320 ?_
  refine lv_topi (fun q5 eq5 => ?_)
  obtain rfl : q5 = nI (k + 1) := (show q5 = nI k + nI 1 from eq5).trans (nI_add _ _)
  refine va_sld hx hb hX hbl hbA hS (vp_in_nI (by omega) (by omega)) dL_law_1321 ?_
  refine lv_topi (fun q6 eq6 => ?_)
  obtain rfl : q6 = xs (k + 1) := eq6.trans (by rw [nI_clamp (by omega)])
  refine lv_aload_n hx hb dL_law_1322 rfl (lv_at hl 5 rfl) ?_
  refine lv_iload hx hb dL_law_1323 (lv_at hl 1 rfl) ?_
  refine lv_iconst (v := 2) hx hb dL_law_1325 (by decide) ?_
  refine lv_iadd hx hb dL_law_1326 ?_
  refine lv_topi (fun q7 eq7 => ?_)
  obtain rfl : q7 = nI (k + 2) := (show q7 = nI k + nI 2 from eq7).trans (nI_add _ _)
  refine va_sld hx hb hX hbl hbA hS (vp_in_nI (by omega) (by omega)) dL_law_1327 ?_
  refine lv_topi (fun q8 eq8 => ?_)
  obtain rfl : q8 = xs (k + 2) := eq8.trans (by rw [nI_clamp (by omega)])
  refine dz_kMi (va_runV (As := [_, _]) ⟨hx, hb, hml, hown, hts⟩ (hM G1 ad1 hp) (cwV 2 hts gL_law_X9_hits rfl rfl rfl (by decide +kernel) ⟨by show frM + 1 ≤ 12; omega, by show 8 + (3 + 11) + loM ≤ 454; omega⟩) (dz_P.preV hE hS hG hMo rfl hMa) rfl rfl hl.1 rfl (lv_room (Nat.le_of_ble_eq_true rfl)) dL_law_1328 ⟨by show cells + mcL + 0 ≤ 601024; omega, by show slots + msL + 0 ≤ 7293034; omega⟩) hS (fun y G2 ad2 H locs hq hG hS => ?_)
  obtain ⟨⟨hMa2, nm2, ns2, nl2, nx2, nf2, my2, dy2, td2, ssf2, sst2, cfr2, grw2, bkk2, iop2, hMo2⟩, h50, hN⟩ := hend G1 ad1 y G2 ad2 hp hq
  refine lv_istore (lv' := [(6, .int y), (5, .int x), (4, .int (nI k)), (3, .ref aO), (2, .ref aM), (1, .ref aX), (0, .ref b)]) hx hb dL_law_1331 hl (by decide) rfl (fun ls hl => ?_)
  refine lv_aload_n hx hb dL_law_1333 rfl (lv_at hl 4 rfl) ?_
  refine dz_kRi (va_runV (As := []) ⟨hx, hb, hml, hown, hts⟩ (c_X9_thrown l Z G2 ad2 aM nm2 ns2 nl2 nx2 nf2 my2 kx dy2 td2 ssf2 sst2 cfr2 grw2 bkk2 iop2 hMa2 hMo2) (cwV 0 hts gL_law_X9_thrown rfl rfl rfl (by decide +kernel) ⟨Nat.le_of_ble_eq_true rfl, Nat.le_of_ble_eq_true rfl⟩) (dz_P.preV hE hS hG hMo2 rfl hMa2) rfl rfl hl.1 rfl (lv_room (Nat.le_of_ble_eq_true rfl)) dL_law_1334 ⟨by show cells + mcL + 0 + 0 ≤ 601024; omega, by show slots + msL + 0 + 0 ≤ 7293034; omega⟩) ?_
  refine lv_iload hx hb dL_law_1337 (lv_at hl 1 rfl) ?_
  refine lv_icmp_eq (tgt := 1344) hx hb dL_law_1339 (by decide) (fun c_1339 => ?_) (fun c_1339 => absurd hxk.symm c_1339)
  refine lv_iload hx hb dL_law_1344 (lv_at hl 1 rfl) ?_
  refine lv_if_ne (tgt := 1361) hx hb dL_law_1346 (by decide) (fun c_1346 => ?_) (fun c_1346 => ?_)
  · refine lv_goto (tgt := 1861) hx hb dL_law_1361 (by decide) ?_
    refine W.widen (k := cells + 20) (n := slots + 700) (by omega) (by omega) ?_
    exact next G2 ad2 _ _ _ hN hG hS (lv_sub hl [2, 3, 4, 5, 6] rfl)
  · obtain ⟨fo9, h5, ha5, hv5⟩ := h50 (hxk.symm.trans c_1346)
    refine lv_aload_n hx hb dL_law_1349 rfl (lv_at hl 3 rfl) ?_
    refine lv_iconst (v := 0) hx hb dL_law_1350 (by decide) ?_
    refine dz_lald hx hb hE hG ha5 h5 (by unfold vp_in; decide) dL_law_1351 ?_
    refine lv_iload hx hb dL_law_1352 (lv_at hl 0 rfl) ?_
    refine lv_i2l hx hb dL_law_1354 rfl ?_
    refine W.lcmp hx hb dL_law_1355 ?_
    refine lv_topi (fun q9 eq9 => ?_)
    obtain rfl : q9 = 0 := eq9.trans (lw_cmp hv5)
    refine lv_if_eq (tgt := 1361) hx hb dL_law_1356 (by decide) (fun c_1356 => ?_) (fun c_1356 => absurd rfl c_1356)
    refine lv_goto (tgt := 1861) hx hb dL_law_1361 (by decide) ?_
    refine W.widen (k := cells + 20) (n := slots + 700) (by omega) (by omega) ?_
    exact next G2 ad2 _ _ _ hN hG hS (lv_sub hl [2, 3, 4, 5, 6] rfl)
