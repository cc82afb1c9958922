set_option maxHeartbeats 4000000 in
set_option maxRecDepth 100000 in
theorem law_case_18 {p : Program} {e : Env} {s : State} {m : MethodId} {below : List Frame} {meth : Method} {c : Code} (l : Launch) {b N : Nat} {xs : Nat → Int32} (C0 : lw_At p s m meth c b N xs) (hNN : N ≤ 3072) {dC : Nat → ClassId} {dI : Nat → Nat → Nat} {ct : Nat → ClassId} {q0 q1 : Nat} (hK : va_K (dC, dI) vwCl (TT ct) s) (hN : NW s) {adK adV : Nat → Nat} (hW0 : SW adK adV (fun q : Nat => s.heap.size ≤ q) s s.heap) {i cells slots : Nat} (hi : i + 6 ≤ N) (hc : cells + 60 ≤ 600000) (hs : slots + 3000 ≤ 7302250) (hgo : LGo p l e s m below meth c b dC dI ct q0 q1 i (i + 6) (cells + 60) (slots + 3000) 1259) : LGo p l e s m below meth c b dC dI ct q0 q1 i i cells slots 754 := by
  intro L f H locs ls hO m0 m1 hT hCp hP hD hS hl
  obtain ⟨gL, gT, gO, gM, ad, gA, g1, g2, g3, g4, g5⟩ := hCp
  obtain ⟨hx, hb, hr, hml, hown, hts, hX, hbl, hlocks, hgv⟩ := id C0
  have hA : ∀ q : Nat, s.heap.size ≤ q → (fun q : Nat => s.heap.size ≤ q) q := fun _ h => h
  have hbA : ¬ (fun q : Nat => s.heap.size ≤ q) b := Nat.not_le.mpr hbl
  have htb := fun w (h : w ∈ TB) => hts w (List.mem_filter.mp h).1
  refine lv_aload_n hx hb d_law_754 rfl (lv_at hl 2 rfl) ?_
  refine lv_aload_n hx hb d_law_755 rfl (lv_at hl 3 rfl) ?_
  refine lv_iload_n hx hb d_law_756 rfl (lv_at hl 0 rfl) ?_
  refine lv_iconst (v := 1) hx hb d_law_757 (by decide +kernel) ?_
  refine lv_iadd hx hb d_law_758 ?_
  refine hb_ti (nI (i + 1)) (nI_add i 1) ?_
  refine va_sld hx hb hX hbl hbA hS (i := nI (i + 1)) (vp_in_nI (by omega) (by omega)) d_law_759 ?_
  refine hb_ti (xs (i + 1)) (congrArg xs (nI_clamp (by omega))) ?_
  have hFc := hb_free hD hS hA
  refine va_calli (va_runV (As := [.int (xs (i + 1))]) (rest := []) ⟨hx, hb, hml, hown, htb⟩ (c_WM_order_w l dC dI ct L f hO q0 m0 adK adV _ (xs (i + 1)) _ (pr_order hO m0 m1 gT gO (Cpl.time gL) (xs (i + 1)))) (cwV 1 htb (gd_V tw_854 tw_855 tw_856 tw_26 tw_857) rfl rfl rfl (by decide +kernel) ⟨Nat.le_of_ble_eq_true rfl, Nat.le_of_ble_eq_true rfl⟩) ⟨pcs_blind, tw_recv hK hP m0 rfl rfl, pcs_pre hP hK hD hN hS hW0 hFc⟩ rfl rfl hl.1 rfl (lv_room (Nat.le_of_ble_eq_true rfl)) d_law_760 ⟨(by show cells + 4 ≤ 600000; omega), (by show slots + 90 ≤ 7302250; omega)⟩) hS (fun q _ h => hFc q h) hFc (fun r_1 u t H locs ht hvm er_1 hB hz1 hk1 hS => ?_)
  obtain ⟨L_1, f_1⟩ := u
  obtain ⟨hO_1, hE_1, er_1, hq⟩ := er_1
  obtain ⟨hP, hK1, hD1⟩ := hB
  rw [ht] at hP
  have hP : va_P (dC, dI) vwCl (TW ct L_1 f_1) H := hP
  have hD : va_D (fun q : Nat => s.heap.size ≤ q) (TW ct L_1 f_1) := hD1.weaken (fun _ q _ h => hFc q.1 h)
  have hO_1 : Ok L_1 f_1 := hO_1
  have hE_1 : Ext W_WM_order_w L f L_1 f_1 := hE_1
  clear hK1 hD1 ht hvm hz1 hk1
  have m0_1 := hE_1.m m0
  have m1_1 := hE_1.m m1
  have hT_1 : TInv f_1 q1 := TInv.ext hT hO m1 hE_1 (by decide +kernel)
  have hq := hq hO_1 m0_1 m1_1
  refine lv_pop hx hb d_law_763 rfl ?_
  refine lv_aload_n hx hb d_law_764 rfl (lv_at hl 1 rfl) ?_
  refine lv_aload_n hx hb d_law_765 rfl (lv_at hl 3 rfl) ?_
  refine lv_iload_n hx hb d_law_766 rfl (lv_at hl 0 rfl) ?_
  refine lv_iconst (v := 1) hx hb d_law_767 (by decide +kernel) ?_
  refine lv_iadd hx hb d_law_768 ?_
  refine hb_ti (nI (i + 1)) (nI_add i 1) ?_
  refine va_sld hx hb hX hbl hbA hS (i := nI (i + 1)) (vp_in_nI (by omega) (by omega)) d_law_769 ?_
  refine hb_ti (xs (i + 1)) (congrArg xs (nI_clamp (by omega))) ?_
  have hFc := hb_free hD hS hA
  refine va_calli (va_runV (As := [.int (xs (i + 1))]) (rest := []) ⟨hx, hb, hml, hown, htb⟩ (c_Md_order_w l dC dI ct L_1 f_1 hO_1 q1 m1_1 _ (xs (i + 1)) _ (hq)) (cwV 1 htb (gd_V tw_858 tw_859 tw_860 tw_89 tw_861) rfl rfl rfl (by decide +kernel) ⟨Nat.le_of_ble_eq_true rfl, Nat.le_of_ble_eq_true rfl⟩) ⟨pc_blind, tw_recv hK hP m1_1 rfl rfl, pc_pre hP hK hD hN⟩ rfl rfl hl.1 rfl (lv_room (Nat.le_of_ble_eq_true rfl)) d_law_770 ⟨(by show cells + 4 + 0 ≤ 600000; omega), (by show slots + 90 + 0 ≤ 7302250; omega)⟩) hS (fun q _ h => hFc q h) hFc (fun r_2 u t H locs ht hvm er_2 hB hz1 hk1 hS => ?_)
  obtain ⟨L_2, f_2⟩ := u
  obtain ⟨hO_2, hE_2, er_2, hq⟩ := er_2
  obtain ⟨hP, hK1, hD1⟩ := hB
  rw [ht] at hP
  have hP : va_P (dC, dI) vwCl (TW ct L_2 f_2) H := hP
  have hD : va_D (fun q : Nat => s.heap.size ≤ q) (TW ct L_2 f_2) := hD1.weaken (fun _ q _ h => hFc q.1 h)
  have hO_2 : Ok L_2 f_2 := hO_2
  have hE_2 : Ext W_Md_order_w L_1 f_1 L_2 f_2 := hE_2
  clear hK1 hD1 ht hvm hz1 hk1
  have m0_2 := hE_2.m m0_1
  have m1_2 := hE_2.m m1_1
  have hT_2 : TInv f_2 q1 := TInv.ext hT_1 hO_1 m1_1 hE_2 (by decide +kernel)
  have hq := hq hO_2
  refine lv_pop hx hb d_law_773 rfl ?_
  refine lv_goto (tgt := 1259) hx hb d_law_774 (by decide) ?_
  refine W.widen (k := cells + 60) (n := slots + 3000) (by omega) (by omega) ?_
  exact hgo L_2 f_2 H locs ls hO_2 m0_2 m1_2 hT_2 ⟨(Cpl.ext (Cpl.ext gL hO m0 m1 hE_1 (by decide +kernel)) hO_1 m0_1 m1_1 hE_2 (by decide +kernel)), hq.2.1, hq.2.2, (CM.ext (CM.ext gM hO m0 m1 hE_1 (by decide +kernel)) hO_1 m0_1 m1_1 hE_2 (by decide +kernel)), ad, (Ad.ext (Ad.ext gA hO m0 m1 hE_1 (by decide +kernel)) hO_1 m0_1 m1_1 hE_2 (by decide +kernel)), (K1.extT (K1.extT g1 gA hO m0 m1 hE_1 (by decide +kernel)) (Ad.ext gA hO m0 m1 hE_1 (by decide +kernel)) hO_1 m0_1 m1_1 hE_2 (by decide +kernel)), (K2.mono (K2.extN (K2.extN g2 gA hO m0 m1 hE_1 (by decide +kernel)) (Ad.ext gA hO m0 m1 hE_1 (by decide +kernel)) hO_1 m0_1 m1_1 hE_2 (by decide +kernel)) (by omega) (Nat.le_refl _)), (K3.extT (K3.extT g3 gA hO m0 m1 hE_1 (by decide +kernel)) (Ad.ext gA hO m0 m1 hE_1 (by decide +kernel)) hO_1 m0_1 m1_1 hE_2 (by decide +kernel)), (K4.ext (K4.ext g4 gA hO m0 m1 hE_1 (by decide +kernel)) (Ad.ext gA hO m0 m1 hE_1 (by decide +kernel)) hO_1 m0_1 m1_1 hE_2 (by decide +kernel)), (K5.ext (K5.ext g5 gA hO m0 m1 hE_1 (by decide +kernel)) (Ad.ext gA hO m0 m1 hE_1 (by decide +kernel)) hO_1 m0_1 m1_1 hE_2 (by decide +kernel))⟩ hP hD hS hl
set_option maxHeartbeats 4000000 in
set_option maxRecDepth 100000 in
theorem law_case_19 {p : Program} {e : Env} {s : State} {m : MethodId} {below : List Frame} {meth : Method} {c : Code} (l : Launch) {b N : Nat} {xs : Nat → Int32} (C0 : lw_At p s m meth c b N xs) (hNN : N ≤ 3072) {dC : Nat → ClassId} {dI : Nat → Nat → Nat} {ct : Nat → ClassId} {q0 q1 : Nat} (hK : va_K (dC, dI) vwCl (TT ct) s) (hN : NW s) {adK adV : Nat → Nat} (hW0 : SW adK adV (fun q : Nat => s.heap.size ≤ q) s s.heap) {i cells slots : Nat} (hi : i + 6 ≤ N) (hc : cells + 60 ≤ 600000) (hs : slots + 3000 ≤ 7302250) (hgo : LGo p l e s m below meth c b dC dI ct q0 q1 i (i + 6) (cells + 60) (slots + 3000) 1259) : LGo p l e s m below meth c b dC dI ct q0 q1 i i cells slots 777 := by
  intro L f H locs ls hO m0 m1 hT hCp hP hD hS hl
  obtain ⟨gL, gT, gO, gM, ad, gA, g1, g2, g3, g4, g5⟩ := hCp
  obtain ⟨hx, hb, hr, hml, hown, hts, hX, hbl, hlocks, hgv⟩ := id C0
  have hA : ∀ q : Nat, s.heap.size ≤ q → (fun q : Nat => s.heap.size ≤ q) q := fun _ h => h
  have hbA : ¬ (fun q : Nat => s.heap.size ≤ q) b := Nat.not_le.mpr hbl
  have htb := fun w (h : w ∈ TB) => hts w (List.mem_filter.mp h).1
  refine lv_aload_n hx hb d_law_777 rfl (lv_at hl 2 rfl) ?_
  refine lv_aload_n hx hb d_law_778 rfl (lv_at hl 3 rfl) ?_
  refine lv_iload_n hx hb d_law_779 rfl (lv_at hl 0 rfl) ?_
  refine lv_iconst (v := 1) hx hb d_law_780 (by decide +kernel) ?_
  refine lv_iadd hx hb d_law_781 ?_
  refine hb_ti (nI (i + 1)) (nI_add i 1) ?_
  refine va_sld hx hb hX hbl hbA hS (i := nI (i + 1)) (vp_in_nI (by omega) (by omega)) d_law_782 ?_
  refine hb_ti (xs (i + 1)) (congrArg xs (nI_clamp (by omega))) ?_
  refine lv_aload_n hx hb d_law_783 rfl (lv_at hl 3 rfl) ?_
  refine lv_iload_n hx hb d_law_784 rfl (lv_at hl 0 rfl) ?_
  refine lv_iconst (v := 2) hx hb d_law_785 (by decide +kernel) ?_
  refine lv_iadd hx hb d_law_786 ?_
  refine hb_ti (nI (i + 2)) (nI_add i 2) ?_
  refine va_sld hx hb hX hbl hbA hS (i := nI (i + 2)) (vp_in_nI (by omega) (by omega)) d_law_787 ?_
  refine hb_ti (xs (i + 2)) (congrArg xs (nI_clamp (by omega))) ?_
  refine vp_callSi (va_Run.run (va_runV (As := [.int (xs (i + 1)), .int (xs (i + 2))]) (rest := []) ⟨hx, hb, hml, hown, htb⟩ (c_WM_inForce_w l dC dI ct L f hO q0 m0 (xs (i + 1)) (xs (i + 2)) _ (pr_inForce hO m0 m1 gO (xs (i + 1)) (xs (i + 2)))) (cwV 2 htb (gd_V tw_862 tw_863 tw_864 tw_26 tw_865) rfl rfl rfl (by decide +kernel) ⟨Nat.le_of_ble_eq_true rfl, Nat.le_of_ble_eq_true rfl⟩) ⟨pr_blind, tw_recv hK hP m0 rfl rfl, pr_pre hP hK hN⟩ rfl rfl hl.1 rfl (lv_room (Nat.le_of_ble_eq_true rfl)) d_law_788 ⟨(by show cells + 0 ≤ 600000; omega), (by show slots + 0 ≤ 7302250; omega)⟩)) (fun r_1 er_1 => ?_)
  obtain ⟨er_1, hq⟩ := er_1
  refine lv_pop hx hb d_law_791 rfl ?_
  refine lv_aload_n hx hb d_law_792 rfl (lv_at hl 1 rfl) ?_
  refine lv_aload_n hx hb d_law_793 rfl (lv_at hl 3 rfl) ?_
  refine lv_iload_n hx hb d_law_794 rfl (lv_at hl 0 rfl) ?_
  refine lv_iconst (v := 1) hx hb d_law_795 (by decide +kernel) ?_
  refine lv_iadd hx hb d_law_796 ?_
  refine hb_ti (nI (i + 1)) (nI_add i 1) ?_
  refine va_sld hx hb hX hbl hbA hS (i := nI (i + 1)) (vp_in_nI (by omega) (by omega)) d_law_797 ?_
  refine hb_ti (xs (i + 1)) (congrArg xs (nI_clamp (by omega))) ?_
  refine lv_aload_n hx hb d_law_798 rfl (lv_at hl 3 rfl) ?_
  refine lv_iload_n hx hb d_law_799 rfl (lv_at hl 0 rfl) ?_
  refine lv_iconst (v := 2) hx hb d_law_800 (by decide +kernel) ?_
  refine lv_iadd hx hb d_law_801 ?_
  refine hb_ti (nI (i + 2)) (nI_add i 2) ?_
  refine va_sld hx hb hX hbl hbA hS (i := nI (i + 2)) (vp_in_nI (by omega) (by omega)) d_law_802 ?_
  refine hb_ti (xs (i + 2)) (congrArg xs (nI_clamp (by omega))) ?_
  refine vp_callSi (va_Run.run (va_runV (As := [.int (xs (i + 1)), .int (xs (i + 2))]) (rest := []) ⟨hx, hb, hml, hown, htb⟩ (c_Md_inForce_w l dC dI ct L f hO q1 m1 (xs (i + 1)) (xs (i + 2)) _ (hq)) (cwV 2 htb (gd_V tw_866 tw_867 tw_868 tw_89 tw_869) rfl rfl rfl (by decide +kernel) ⟨Nat.le_of_ble_eq_true rfl, Nat.le_of_ble_eq_true rfl⟩) ⟨pr_blind, tw_recv hK hP m1 rfl rfl, pr_pre hP hK hN⟩ rfl rfl hl.1 rfl (lv_room (Nat.le_of_ble_eq_true rfl)) d_law_803 ⟨(by show cells + 0 ≤ 600000; omega), (by show slots + 0 ≤ 7302250; omega)⟩)) (fun r_2 er_2 => ?_)
  obtain ⟨er_2, hq⟩ := er_2
  refine lv_pop hx hb d_law_806 rfl ?_
  refine lv_goto (tgt := 1259) hx hb d_law_807 (by decide) ?_
  refine W.widen (k := cells + 60) (n := slots + 3000) (by omega) (by omega) ?_
  exact hgo L f H locs ls hO m0 m1 hT ⟨gL, gT, gO, gM, ad, gA, g1, K2.mono g2 (by omega) (Nat.le_refl _), g3, g4, g5⟩ hP hD hS hl
set_option maxHeartbeats 4000000 in
set_option maxRecDepth 100000 in
theorem law_case_20 {p : Program} {e : Env} {s : State} {m : MethodId} {below : List Frame} {meth : Method} {c : Code} (l : Launch) {b N : Nat} {xs : Nat → Int32} (C0 : lw_At p s m meth c b N xs) (hNN : N ≤ 3072) {dC : Nat → ClassId} {dI : Nat → Nat → Nat} {ct : Nat → ClassId} {q0 q1 : Nat} (hK : va_K (dC, dI) vwCl (TT ct) s) (hN : NW s) {adK adV : Nat → Nat} (hW0 : SW adK adV (fun q : Nat => s.heap.size ≤ q) s s.heap) {i cells slots : Nat} (hi : i + 6 ≤ N) (hc : cells + 60 ≤ 600000) (hs : slots + 3000 ≤ 7302250) (hgo : LGo p l e s m below meth c b dC dI ct q0 q1 i (i + 6) (cells + 60) (slots + 3000) 1259) : LGo p l e s m below meth c b dC dI ct q0 q1 i i cells slots 810 := by
  intro L f H locs ls hO m0 m1 hT hCp hP hD hS hl
  obtain ⟨gL, gT, gO, gM, ad, gA, g1, g2, g3, g4, g5⟩ := hCp
  obtain ⟨hx, hb, hr, hml, hown, hts, hX, hbl, hlocks, hgv⟩ := id C0
  have hA : ∀ q : Nat, s.heap.size ≤ q → (fun q : Nat => s.heap.size ≤ q) q := fun _ h => h
  have hbA : ¬ (fun q : Nat => s.heap.size ≤ q) b := Nat.not_le.mpr hbl
  have htb := fun w (h : w ∈ TB) => hts w (List.mem_filter.mp h).1
  refine lv_aload_n hx hb d_law_810 rfl (lv_at hl 2 rfl) ?_
  refine lv_aload_n hx hb d_law_811 rfl (lv_at hl 3 rfl) ?_
  refine lv_iload_n hx hb d_law_812 rfl (lv_at hl 0 rfl) ?_
  refine lv_iconst (v := 1) hx hb d_law_813 (by decide +kernel) ?_
  refine lv_iadd hx hb d_law_814 ?_
  refine hb_ti (nI (i + 1)) (nI_add i 1) ?_
  refine va_sld hx hb hX hbl hbA hS (i := nI (i + 1)) (vp_in_nI (by omega) (by omega)) d_law_815 ?_
  refine hb_ti (xs (i + 1)) (congrArg xs (nI_clamp (by omega))) ?_
  refine lv_aload_n hx hb d_law_816 rfl (lv_at hl 3 rfl) ?_
  refine lv_iload_n hx hb d_law_817 rfl (lv_at hl 0 rfl) ?_
  refine lv_iconst (v := 2) hx hb d_law_818 (by decide +kernel) ?_
  refine lv_iadd hx hb d_law_819 ?_
  refine hb_ti (nI (i + 2)) (nI_add i 2) ?_
  refine va_sld hx hb hX hbl hbA hS (i := nI (i + 2)) (vp_in_nI (by omega) (by omega)) d_law_820 ?_
  refine hb_ti (xs (i + 2)) (congrArg xs (nI_clamp (by omega))) ?_
  refine lv_aload_n hx hb d_law_821 rfl (lv_at hl 3 rfl) ?_
  refine lv_iload_n hx hb d_law_822 rfl (lv_at hl 0 rfl) ?_
  refine lv_iconst (v := 3) hx hb d_law_823 (by decide +kernel) ?_
  refine lv_iadd hx hb d_law_824 ?_
  refine hb_ti (nI (i + 3)) (nI_add i 3) ?_
  refine va_sld hx hb hX hbl hbA hS (i := nI (i + 3)) (vp_in_nI (by omega) (by omega)) d_law_825 ?_
  refine hb_ti (xs (i + 3)) (congrArg xs (nI_clamp (by omega))) ?_
  refine lv_aload_n hx hb d_law_826 rfl (lv_at hl 3 rfl) ?_
  refine lv_iload_n hx hb d_law_827 rfl (lv_at hl 0 rfl) ?_
  refine lv_iconst (v := 4) hx hb d_law_828 (by decide +kernel) ?_
  refine lv_iadd hx hb d_law_829 ?_
  refine hb_ti (nI (i + 4)) (nI_add i 4) ?_
  refine va_sld hx hb hX hbl hbA hS (i := nI (i + 4)) (vp_in_nI (by omega) (by omega)) d_law_830 ?_
  refine hb_ti (xs (i + 4)) (congrArg xs (nI_clamp (by omega))) ?_
  refine lv_aload_n hx hb d_law_831 rfl (lv_at hl 3 rfl) ?_
  refine lv_iload_n hx hb d_law_832 rfl (lv_at hl 0 rfl) ?_
  refine lv_iconst (v := 5) hx hb d_law_833 (by decide +kernel) ?_
  refine lv_iadd hx hb d_law_834 ?_
  refine hb_ti (nI (i + 5)) (nI_add i 5) ?_
  refine va_sld hx hb hX hbl hbA hS (i := nI (i + 5)) (vp_in_nI (by omega) (by omega)) d_law_835 ?_
  refine hb_ti (xs (i + 5)) (congrArg xs (nI_clamp (by omega))) ?_
  refine vp_callSi (va_Run.run (va_runV (As := [.int (xs (i + 1)), .int (xs (i + 2)), .int (xs (i + 3)), .int (xs (i + 4)), .int (xs (i + 5))]) (rest := []) ⟨hx, hb, hml, hown, htb⟩ (c_WM_fare_w l dC dI ct L f hO q0 m0 (xs (i + 1)) (xs (i + 2)) (xs (i + 3)) (xs (i + 4)) (xs (i + 5)) _ (pr_fare hO m0 m1 gL gO gM (xs (i + 1)) (xs (i + 2)) (xs (i + 3)) (xs (i + 4)) (xs (i + 5)))) (cwV 5 htb (gd_V tw_870 tw_871 tw_872 tw_26 tw_873) rfl rfl rfl (by decide +kernel) ⟨Nat.le_of_ble_eq_true rfl, Nat.le_of_ble_eq_true rfl⟩) ⟨pr_blind, tw_recv hK hP m0 rfl rfl, pr_pre hP hK hN⟩ rfl rfl hl.1 rfl (lv_room (Nat.le_of_ble_eq_true rfl)) d_law_836 ⟨(by show cells + 0 ≤ 600000; omega), (by show slots + 0 ≤ 7302250; omega)⟩)) (fun r_1 er_1 => ?_)
  obtain ⟨er_1, hq⟩ := er_1
  refine lv_pop hx hb d_law_839 rfl ?_
  refine lv_aload_n hx hb d_law_840 rfl (lv_at hl 1 rfl) ?_
  refine lv_aload_n hx hb d_law_841 rfl (lv_at hl 3 rfl) ?_
  refine lv_iload_n hx hb d_law_842 rfl (lv_at hl 0 rfl) ?_
  refine lv_iconst (v := 1) hx hb d_law_843 (by decide +kernel) ?_
  refine lv_iadd hx hb d_law_844 ?_
  refine hb_ti (nI (i + 1)) (nI_add i 1) ?_
  refine va_sld hx hb hX hbl hbA hS (i := nI (i + 1)) (vp_in_nI (by omega) (by omega)) d_law_845 ?_
  refine hb_ti (xs (i + 1)) (congrArg xs (nI_clamp (by omega))) ?_
  refine lv_aload_n hx hb d_law_846 rfl (lv_at hl 3 rfl) ?_
  refine lv_iload_n hx hb d_law_847 rfl (lv_at hl 0 rfl) ?_
  refine lv_iconst (v := 2) hx hb d_law_848 (by decide +kernel) ?_
  refine lv_iadd hx hb d_law_849 ?_
  refine hb_ti (nI (i + 2)) (nI_add i 2) ?_
  refine va_sld hx hb hX hbl hbA hS (i := nI (i + 2)) (vp_in_nI (by omega) (by omega)) d_law_850 ?_
  refine hb_ti (xs (i + 2)) (congrArg xs (nI_clamp (by omega))) ?_
  refine lv_aload_n hx hb d_law_851 rfl (lv_at hl 3 rfl) ?_
  refine lv_iload_n hx hb d_law_852 rfl (lv_at hl 0 rfl) ?_
  refine lv_iconst (v := 3) hx hb d_law_853 (by decide +kernel) ?_
  refine lv_iadd hx hb d_law_854 ?_
  refine hb_ti (nI (i + 3)) (nI_add i 3) ?_
  refine va_sld hx hb hX hbl hbA hS (i := nI (i + 3)) (vp_in_nI (by omega) (by omega)) d_law_855 ?_
  refine hb_ti (xs (i + 3)) (congrArg xs (nI_clamp (by omega))) ?_
  refine lv_aload_n hx hb d_law_856 rfl (lv_at hl 3 rfl) ?_
  refine lv_iload_n hx hb d_law_857 rfl (lv_at hl 0 rfl) ?_
  refine lv_iconst (v := 4) hx hb d_law_858 (by decide +kernel) ?_
  refine lv_iadd hx hb d_law_859 ?_
  refine hb_ti (nI (i + 4)) (nI_add i 4) ?_
  refine va_sld hx hb hX hbl hbA hS (i := nI (i + 4)) (vp_in_nI (by omega) (by omega)) d_law_860 ?_
  refine hb_ti (xs (i + 4)) (congrArg xs (nI_clamp (by omega))) ?_
  refine lv_aload_n hx hb d_law_861 rfl (lv_at hl 3 rfl) ?_
  refine lv_iload_n hx hb d_law_862 rfl (lv_at hl 0 rfl) ?_
  refine lv_iconst (v := 5) hx hb d_law_863 (by decide +kernel) ?_
  refine lv_iadd hx hb d_law_864 ?_
  refine hb_ti (nI (i + 5)) (nI_add i 5) ?_
  refine va_sld hx hb hX hbl hbA hS (i := nI (i + 5)) (vp_in_nI (by omega) (by omega)) d_law_865 ?_
  refine hb_ti (xs (i + 5)) (congrArg xs (nI_clamp (by omega))) ?_
  refine vp_callSi (va_Run.run (va_runV (As := [.int (xs (i + 1)), .int (xs (i + 2)), .int (xs (i + 3)), .int (xs (i + 4)), .int (xs (i + 5))]) (rest := []) ⟨hx, hb, hml, hown, htb⟩ (c_Md_fare_w l dC dI ct L f hO q1 m1 (xs (i + 1)) (xs (i + 2)) (xs (i + 3)) (xs (i + 4)) (xs (i + 5)) _ (hq)) (cwV 5 htb (gd_V tw_874 tw_875 tw_876 tw_89 tw_877) rfl rfl rfl (by decide +kernel) ⟨Nat.le_of_ble_eq_true rfl, Nat.le_of_ble_eq_true rfl⟩) ⟨pr_blind, tw_recv hK hP m1 rfl rfl, pr_pre hP hK hN⟩ rfl rfl hl.1 rfl (lv_room (Nat.le_of_ble_eq_true rfl)) d_law_866 ⟨(by show cells + 0 ≤ 600000; omega), (by show slots + 0 ≤ 7302250; omega)⟩)) (fun r_2 er_2 => ?_)
  obtain ⟨er_2, hq⟩ := er_2
  refine lv_pop hx hb d_law_869 rfl ?_
  refine lv_goto (tgt := 1259) hx hb d_law_870 (by decide) ?_
  refine W.widen (k := cells + 60) (n := slots + 3000) (by omega) (by omega) ?_
  exact hgo L f H locs ls hO m0 m1 hT ⟨gL, gT, gO, gM, ad, gA, g1, K2.mono g2 (by omega) (Nat.le_refl _), g3, g4, g5⟩ hP hD hS hl
set_option maxHeartbeats 4000000 in
set_option maxRecDepth 100000 in
theorem law_case_21 {p : Program} {e : Env} {s : State} {m : MethodId} {below : List Frame} {meth : Method} {c : Code} (l : Launch) {b N : Nat} {xs : Nat → Int32} (C0 : lw_At p s m meth c b N xs) (hNN : N ≤ 3072) {dC : Nat → ClassId} {dI : Nat → Nat → Nat} {ct : Nat → ClassId} {q0 q1 : Nat} (hK : va_K (dC, dI) vwCl (TT ct) s) (hN : NW s) {adK adV : Nat → Nat} (hW0 : SW adK adV (fun q : Nat => s.heap.size ≤ q) s s.heap) {i cells slots : Nat} (hi : i + 6 ≤ N) (hc : cells + 60 ≤ 600000) (hs : slots + 3000 ≤ 7302250) (hgo : LGo p l e s m below meth c b dC dI ct q0 q1 i (i + 6) (cells + 60) (slots + 3000) 1259) : LGo p l e s m below meth c b dC dI ct q0 q1 i i cells slots 873 := by
  intro L f H locs ls hO m0 m1 hT hCp hP hD hS hl
  obtain ⟨gL, gT, gO, gM, ad, gA, g1, g2, g3, g4, g5⟩ := hCp
  obtain ⟨hx, hb, hr, hml, hown, hts, hX, hbl, hlocks, hgv⟩ := id C0
  have hA : ∀ q : Nat, s.heap.size ≤ q → (fun q : Nat => s.heap.size ≤ q) q := fun _ h => h
  have hbA : ¬ (fun q : Nat => s.heap.size ≤ q) b := Nat.not_le.mpr hbl
  have htb := fun w (h : w ∈ TB) => hts w (List.mem_filter.mp h).1
  refine lv_aload_n hx hb d_law_873 rfl (lv_at hl 2 rfl) ?_
  refine lv_aload_n hx hb d_law_874 rfl (lv_at hl 3 rfl) ?_
  refine lv_iload_n hx hb d_law_875 rfl (lv_at hl 0 rfl) ?_
  refine lv_iconst (v := 1) hx hb d_law_876 (by decide +kernel) ?_
  refine lv_iadd hx hb d_law_877 ?_
  refine hb_ti (nI (i + 1)) (nI_add i 1) ?_
  refine va_sld hx hb hX hbl hbA hS (i := nI (i + 1)) (vp_in_nI (by omega) (by omega)) d_law_878 ?_
  refine hb_ti (xs (i + 1)) (congrArg xs (nI_clamp (by omega))) ?_
  refine lv_aload_n hx hb d_law_879 rfl (lv_at hl 3 rfl) ?_
  refine lv_iload_n hx hb d_law_880 rfl (lv_at hl 0 rfl) ?_
  refine lv_iconst (v := 2) hx hb d_law_881 (by decide +kernel) ?_
  refine lv_iadd hx hb d_law_882 ?_
  refine hb_ti (nI (i + 2)) (nI_add i 2) ?_
  refine va_sld hx hb hX hbl hbA hS (i := nI (i + 2)) (vp_in_nI (by omega) (by omega)) d_law_883 ?_
  refine hb_ti (xs (i + 2)) (congrArg xs (nI_clamp (by omega))) ?_
  refine lv_aload_n hx hb d_law_884 rfl (lv_at hl 3 rfl) ?_
  refine lv_iload_n hx hb d_law_885 rfl (lv_at hl 0 rfl) ?_
  refine lv_iconst (v := 3) hx hb d_law_886 (by decide +kernel) ?_
  refine lv_iadd hx hb d_law_887 ?_
  refine hb_ti (nI (i + 3)) (nI_add i 3) ?_
  refine va_sld hx hb hX hbl hbA hS (i := nI (i + 3)) (vp_in_nI (by omega) (by omega)) d_law_888 ?_
  refine hb_ti (xs (i + 3)) (congrArg xs (nI_clamp (by omega))) ?_
  refine vp_callSi (va_Run.run (va_runV (As := [.int (xs (i + 1)), .int (xs (i + 2)), .int (xs (i + 3))]) (rest := []) ⟨hx, hb, hml, hown, htb⟩ (c_WM_why_w l dC dI ct L f hO q0 m0 (xs (i + 1)) (xs (i + 2)) (xs (i + 3)) _ (pr_why hO m0 m1 gL gO gM gA g1 g2 g3 g5 (xs (i + 1)) (xs (i + 2)) (xs (i + 3)))) (cwV 3 htb (gd_V tw_878 tw_879 tw_880 tw_26 tw_881) rfl rfl rfl (by decide +kernel) ⟨Nat.le_of_ble_eq_true rfl, Nat.le_of_ble_eq_true rfl⟩) ⟨pr_blind, tw_recv hK hP m0 rfl rfl, pr_pre hP hK hN⟩ rfl rfl hl.1 rfl (lv_room (Nat.le_of_ble_eq_true rfl)) d_law_889 ⟨(by show cells + 0 ≤ 600000; omega), (by show slots + 0 ≤ 7302250; omega)⟩)) (fun r_1 er_1 => ?_)
  obtain ⟨er_1, hq⟩ := er_1
  refine lv_pop hx hb d_law_892 rfl ?_
  refine lv_aload_n hx hb d_law_893 rfl (lv_at hl 1 rfl) ?_
  refine lv_aload_n hx hb d_law_894 rfl (lv_at hl 3 rfl) ?_
  refine lv_iload_n hx hb d_law_895 rfl (lv_at hl 0 rfl) ?_
  refine lv_iconst (v := 1) hx hb d_law_896 (by decide +kernel) ?_
  refine lv_iadd hx hb d_law_897 ?_
  refine hb_ti (nI (i + 1)) (nI_add i 1) ?_
  refine va_sld hx hb hX hbl hbA hS (i := nI (i + 1)) (vp_in_nI (by omega) (by omega)) d_law_898 ?_
  refine hb_ti (xs (i + 1)) (congrArg xs (nI_clamp (by omega))) ?_
  refine lv_aload_n hx hb d_law_899 rfl (lv_at hl 3 rfl) ?_
  refine lv_iload_n hx hb d_law_900 rfl (lv_at hl 0 rfl) ?_
  refine lv_iconst (v := 2) hx hb d_law_901 (by decide +kernel) ?_
  refine lv_iadd hx hb d_law_902 ?_
  refine hb_ti (nI (i + 2)) (nI_add i 2) ?_
  refine va_sld hx hb hX hbl hbA hS (i := nI (i + 2)) (vp_in_nI (by omega) (by omega)) d_law_903 ?_
  refine hb_ti (xs (i + 2)) (congrArg xs (nI_clamp (by omega))) ?_
  refine lv_aload_n hx hb d_law_904 rfl (lv_at hl 3 rfl) ?_
  refine lv_iload_n hx hb d_law_905 rfl (lv_at hl 0 rfl) ?_
  refine lv_iconst (v := 3) hx hb d_law_906 (by decide +kernel) ?_
  refine lv_iadd hx hb d_law_907 ?_
  refine hb_ti (nI (i + 3)) (nI_add i 3) ?_
  refine va_sld hx hb hX hbl hbA hS (i := nI (i + 3)) (vp_in_nI (by omega) (by omega)) d_law_908 ?_
  refine hb_ti (xs (i + 3)) (congrArg xs (nI_clamp (by omega))) ?_
  refine vp_callSi (va_Run.run (va_runV (As := [.int (xs (i + 1)), .int (xs (i + 2)), .int (xs (i + 3))]) (rest := []) ⟨hx, hb, hml, hown, htb⟩ (c_Md_why_w l dC dI ct L f hO q1 m1 (xs (i + 1)) (xs (i + 2)) (xs (i + 3)) _ (hq)) (cwV 3 htb (gd_V tw_882 tw_883 tw_884 tw_89 tw_885) rfl rfl rfl (by decide +kernel) ⟨Nat.le_of_ble_eq_true rfl, Nat.le_of_ble_eq_true rfl⟩) ⟨pr_blind, tw_recv hK hP m1 rfl rfl, pr_pre hP hK hN⟩ rfl rfl hl.1 rfl (lv_room (Nat.le_of_ble_eq_true rfl)) d_law_909 ⟨(by show cells + 0 ≤ 600000; omega), (by show slots + 0 ≤ 7302250; omega)⟩)) (fun r_2 er_2 => ?_)
  obtain ⟨er_2, hq⟩ := er_2
  refine lv_pop hx hb d_law_912 rfl ?_
  refine lv_goto (tgt := 1259) hx hb d_law_913 (by decide) ?_
  refine W.widen (k := cells + 60) (n := slots + 3000) (by omega) (by omega) ?_
  exact hgo L f H locs ls hO m0 m1 hT ⟨gL, gT, gO, gM, ad, gA, g1, K2.mono g2 (by omega) (Nat.le_refl _), g3, g4, g5⟩ hP hD hS hl
set_option maxHeartbeats 4000000 in
set_option maxRecDepth 100000 in
theorem law_case_22 {p : Program} {e : Env} {s : State} {m : MethodId} {below : List Frame} {meth : Method} {c : Code} (l : Launch) {b N : Nat} {xs : Nat → Int32} (C0 : lw_At p s m meth c b N xs) (hNN : N ≤ 3072) {dC : Nat → ClassId} {dI : Nat → Nat → Nat} {ct : Nat → ClassId} {q0 q1 : Nat} (hK : va_K (dC, dI) vwCl (TT ct) s) (hN : NW s) {adK adV : Nat → Nat} (hW0 : SW adK adV (fun q : Nat => s.heap.size ≤ q) s s.heap) {i cells slots : Nat} (hi : i + 6 ≤ N) (hc : cells + 60 ≤ 600000) (hs : slots + 3000 ≤ 7302250) (hgo : LGo p l e s m below meth c b dC dI ct q0 q1 i (i + 6) (cells + 60) (slots + 3000) 1259) : LGo p l e s m below meth c b dC dI ct q0 q1 i i cells slots 916 := by
  intro L f H locs ls hO m0 m1 hT hCp hP hD hS hl
  obtain ⟨gL, gT, gO, gM, ad, gA, g1, g2, g3, g4, g5⟩ := hCp
  obtain ⟨hx, hb, hr, hml, hown, hts, hX, hbl, hlocks, hgv⟩ := id C0
  have hA : ∀ q : Nat, s.heap.size ≤ q → (fun q : Nat => s.heap.size ≤ q) q := fun _ h => h
  have hbA : ¬ (fun q : Nat => s.heap.size ≤ q) b := Nat.not_le.mpr hbl
  have htb := fun w (h : w ∈ TB) => hts w (List.mem_filter.mp h).1
  refine lv_aload_n hx hb d_law_916 rfl (lv_at hl 2 rfl) ?_
  refine lv_aload_n hx hb d_law_917 rfl (lv_at hl 3 rfl) ?_
  refine lv_iload_n hx hb d_law_918 rfl (lv_at hl 0 rfl) ?_
  refine lv_iconst (v := 1) hx hb d_law_919 (by decide +kernel) ?_
  refine lv_iadd hx hb d_law_920 ?_
  refine hb_ti (nI (i + 1)) (nI_add i 1) ?_
  refine va_sld hx hb hX hbl hbA hS (i := nI (i + 1)) (vp_in_nI (by omega) (by omega)) d_law_921 ?_
  refine hb_ti (xs (i + 1)) (congrArg xs (nI_clamp (by omega))) ?_
  refine lv_aload_n hx hb d_law_922 rfl (lv_at hl 3 rfl) ?_
  refine lv_iload_n hx hb d_law_923 rfl (lv_at hl 0 rfl) ?_
  refine lv_iconst (v := 2) hx hb d_law_924 (by decide +kernel) ?_
  refine lv_iadd hx hb d_law_925 ?_
  refine hb_ti (nI (i + 2)) (nI_add i 2) ?_
  refine va_sld hx hb hX hbl hbA hS (i := nI (i + 2)) (vp_in_nI (by omega) (by omega)) d_law_926 ?_
  refine hb_ti (xs (i + 2)) (congrArg xs (nI_clamp (by omega))) ?_
  refine lv_aload_n hx hb d_law_927 rfl (lv_at hl 3 rfl) ?_
  refine lv_iload_n hx hb d_law_928 rfl (lv_at hl 0 rfl) ?_
  refine lv_iconst (v := 3) hx hb d_law_929 (by decide +kernel) ?_
  refine lv_iadd hx hb d_law_930 ?_
  refine hb_ti (nI (i + 3)) (nI_add i 3) ?_
  refine va_sld hx hb hX hbl hbA hS (i := nI (i + 3)) (vp_in_nI (by omega) (by omega)) d_law_931 ?_
  refine hb_ti (xs (i + 3)) (congrArg xs (nI_clamp (by omega))) ?_
  refine lv_aload_n hx hb d_law_932 rfl (lv_at hl 3 rfl) ?_
  refine lv_iload_n hx hb d_law_933 rfl (lv_at hl 0 rfl) ?_
  refine lv_iconst (v := 4) hx hb d_law_934 (by decide +kernel) ?_
  refine lv_iadd hx hb d_law_935 ?_
  refine hb_ti (nI (i + 4)) (nI_add i 4) ?_
  refine va_sld hx hb hX hbl hbA hS (i := nI (i + 4)) (vp_in_nI (by omega) (by omega)) d_law_936 ?_
  refine hb_ti (xs (i + 4)) (congrArg xs (nI_clamp (by omega))) ?_
  have hFc := hb_free hD hS hA
  refine va_calli (va_runV (As := [.int (xs (i + 1)), .int (xs (i + 2)), .int (xs (i + 3)), .int (xs (i + 4))]) (rest := []) ⟨hx, hb, hml, hown, htb⟩ (c_WM_row_w l dC dI ct L f hO q0 m0 _ (xs (i + 1)) (xs (i + 2)) (xs (i + 3)) (xs (i + 4)) _ (pr_row hO m0 m1 gL gO gM gA g1 g2 g3 g5 (xs (i + 1)) (xs (i + 2)) (xs (i + 3)) (xs (i + 4)))) (cwV 4 htb (gd_V tw_886 tw_887 tw_888 tw_26 tw_889) rfl rfl rfl (by decide +kernel) ⟨Nat.le_of_ble_eq_true rfl, Nat.le_of_ble_eq_true rfl⟩) ⟨pc_blind, tw_recv hK hP m0 rfl rfl, pc_pre hP hK hD hN⟩ rfl rfl hl.1 rfl (lv_room (Nat.le_of_ble_eq_true rfl)) d_law_937 ⟨(by show cells + 1 ≤ 600000; omega), (by show slots + 8 ≤ 7302250; omega)⟩) hS (fun q _ h => hFc q h) hFc (fun r_1 u t H locs ht hvm er_1 hB hz1 hk1 hS => ?_)
  obtain ⟨L_1, f_1⟩ := u
  obtain ⟨hO_1, hE_1, er_1, hq⟩ := er_1
  obtain ⟨hP, hK1, hD1⟩ := hB
  rw [ht] at hP
  have hP : va_P (dC, dI) vwCl (TW ct L_1 f_1) H := hP
  have hD : va_D (fun q : Nat => s.heap.size ≤ q) (TW ct L_1 f_1) := hD1.weaken (fun _ q _ h => hFc q.1 h)
  have hO_1 : Ok L_1 f_1 := hO_1
  have hE_1 : Ext W_WM_row_w L f L_1 f_1 := hE_1
  clear hK1 hD1 ht hvm hz1 hk1
  have m0_1 := hE_1.m m0
  have m1_1 := hE_1.m m1
  have hT_1 : TInv f_1 q1 := TInv.ext hT hO m1 hE_1 (by decide +kernel)
  have hq := hq hO_1 m0_1 m1_1
  refine lv_pop hx hb d_law_940 rfl ?_
  refine lv_aload_n hx hb d_law_941 rfl (lv_at hl 1 rfl) ?_
  refine lv_aload_n hx hb d_law_942 rfl (lv_at hl 3 rfl) ?_
  refine lv_iload_n hx hb d_law_943 rfl (lv_at hl 0 rfl) ?_
  refine lv_iconst (v := 1) hx hb d_law_944 (by decide +kernel) ?_
  refine lv_iadd hx hb d_law_945 ?_
  refine hb_ti (nI (i + 1)) (nI_add i 1) ?_
  refine va_sld hx hb hX hbl hbA hS (i := nI (i + 1)) (vp_in_nI (by omega) (by omega)) d_law_946 ?_
  refine hb_ti (xs (i + 1)) (congrArg xs (nI_clamp (by omega))) ?_
  refine lv_aload_n hx hb d_law_947 rfl (lv_at hl 3 rfl) ?_
  refine lv_iload_n hx hb d_law_948 rfl (lv_at hl 0 rfl) ?_
  refine lv_iconst (v := 2) hx hb d_law_949 (by decide +kernel) ?_
  refine lv_iadd hx hb d_law_950 ?_
  refine hb_ti (nI (i + 2)) (nI_add i 2) ?_
  refine va_sld hx hb hX hbl hbA hS (i := nI (i + 2)) (vp_in_nI (by omega) (by omega)) d_law_951 ?_
  refine hb_ti (xs (i + 2)) (congrArg xs (nI_clamp (by omega))) ?_
  refine lv_aload_n hx hb d_law_952 rfl (lv_at hl 3 rfl) ?_
  refine lv_iload_n hx hb d_law_953 rfl (lv_at hl 0 rfl) ?_
  refine lv_iconst (v := 3) hx hb d_law_954 (by decide +kernel) ?_
  refine lv_iadd hx hb d_law_955 ?_
  refine hb_ti (nI (i + 3)) (nI_add i 3) ?_
  refine va_sld hx hb hX hbl hbA hS (i := nI (i + 3)) (vp_in_nI (by omega) (by omega)) d_law_956 ?_
  refine hb_ti (xs (i + 3)) (congrArg xs (nI_clamp (by omega))) ?_
  refine lv_aload_n hx hb d_law_957 rfl (lv_at hl 3 rfl) ?_
  refine lv_iload_n hx hb d_law_958 rfl (lv_at hl 0 rfl) ?_
  refine lv_iconst (v := 4) hx hb d_law_959 (by decide +kernel) ?_
  refine lv_iadd hx hb d_law_960 ?_
  refine hb_ti (nI (i + 4)) (nI_add i 4) ?_
  refine va_sld hx hb hX hbl hbA hS (i := nI (i + 4)) (vp_in_nI (by omega) (by omega)) d_law_961 ?_
  refine hb_ti (xs (i + 4)) (congrArg xs (nI_clamp (by omega))) ?_
  have hFc := hb_free hD hS hA
  refine va_calli (va_runV (As := [.int (xs (i + 1)), .int (xs (i + 2)), .int (xs (i + 3)), .int (xs (i + 4))]) (rest := []) ⟨hx, hb, hml, hown, htb⟩ (c_Md_row_w l dC dI ct L_1 f_1 hO_1 q1 m1_1 hT_1 _ (xs (i + 1)) (xs (i + 2)) (xs (i + 3)) (xs (i + 4)) _ (hq)) (cwV 4 htb (gd_V tw_890 tw_891 tw_892 tw_89 tw_893) rfl rfl rfl (by decide +kernel) ⟨Nat.le_of_ble_eq_true rfl, Nat.le_of_ble_eq_true rfl⟩) ⟨pc_blind, tw_recv hK hP m1_1 rfl rfl, pc_pre hP hK hD hN⟩ rfl rfl hl.1 rfl (lv_room (Nat.le_of_ble_eq_true rfl)) d_law_962 ⟨(by show cells + 1 + 0 ≤ 600000; omega), (by show slots + 8 + 0 ≤ 7302250; omega)⟩) hS (fun q _ h => hFc q h) hFc (fun r_2 u t H locs ht hvm er_2 hB hz1 hk1 hS => ?_)
  obtain ⟨L_2, f_2⟩ := u
  obtain ⟨hO_2, hE_2, hT_2, er_2, hq⟩ := er_2
  obtain ⟨hP, hK1, hD1⟩ := hB
  rw [ht] at hP
  have hP : va_P (dC, dI) vwCl (TW ct L_2 f_2) H := hP
  have hD : va_D (fun q : Nat => s.heap.size ≤ q) (TW ct L_2 f_2) := hD1.weaken (fun _ q _ h => hFc q.1 h)
  have hO_2 : Ok L_2 f_2 := hO_2
  have hE_2 : Ext W_Md_row_w L_1 f_1 L_2 f_2 := hE_2
  clear hK1 hD1 ht hvm hz1 hk1
  have m0_2 := hE_2.m m0_1
  have m1_2 := hE_2.m m1_1
  have hT_2 : TInv f_2 q1 := hT_2
  have hq := hq hO_2
  refine lv_pop hx hb d_law_965 rfl ?_
  refine lv_goto (tgt := 1259) hx hb d_law_966 (by decide) ?_
  refine W.widen (k := cells + 60) (n := slots + 3000) (by omega) (by omega) ?_
  exact hgo L_2 f_2 H locs ls hO_2 m0_2 m1_2 hT_2 ⟨(Cpl.ext (Cpl.ext gL hO m0 m1 hE_1 (by decide +kernel)) hO_1 m0_1 m1_1 hE_2 (by decide +kernel)), (CT.ext (CT.ext gT hO m0 m1 hE_1 (by decide +kernel)) hO_1 m0_1 m1_1 hE_2 (by decide +kernel)), (CO.ext (CO.ext gO hO m0 m1 hE_1 (by decide +kernel)) hO_1 m0_1 m1_1 hE_2 (by decide +kernel)), (CM.ext (CM.ext gM hO m0 m1 hE_1 (by decide +kernel)) hO_1 m0_1 m1_1 hE_2 (by decide +kernel)), ad, (Ad.ext (Ad.ext gA hO m0 m1 hE_1 (by decide +kernel)) hO_1 m0_1 m1_1 hE_2 (by decide +kernel)), (K1.extT (K1.extT g1 gA hO m0 m1 hE_1 (by decide +kernel)) (Ad.ext gA hO m0 m1 hE_1 (by decide +kernel)) hO_1 m0_1 m1_1 hE_2 (by decide +kernel)), (K2.mono (K2.toN hq.2.1 ((hE_2.ei m1_1 (by decide +kernel)).trans (hE_1.ei m1 (by decide +kernel)))) (by omega) (Nat.le_refl _)), (K3.toT hq.2.2 ((hE_2.ei m1_1 (by decide +kernel)).trans (hE_1.ei m1 (by decide +kernel))) ((hE_2.ei m1_1 (by decide +kernel)).trans (hE_1.ei m1 (by decide +kernel)))), (K4.ext (K4.ext g4 gA hO m0 m1 hE_1 (by decide +kernel)) (Ad.ext gA hO m0 m1 hE_1 (by decide +kernel)) hO_1 m0_1 m1_1 hE_2 (by decide +kernel)), (K5.ext (K5.ext g5 gA hO m0 m1 hE_1 (by decide +kernel)) (Ad.ext gA hO m0 m1 hE_1 (by decide +kernel)) hO_1 m0_1 m1_1 hE_2 (by decide +kernel))⟩ hP hD hS hl
set_option maxHeartbeats 4000000 in
set_option maxRecDepth 100000 in
theorem law_case_23 {p : Program} {e : Env} {s : State} {m : MethodId} {below : List Frame} {meth : Method} {c : Code} (l : Launch) {b N : Nat} {xs : Nat → Int32} (C0 : lw_At p s m meth c b N xs) (hNN : N ≤ 3072) {dC : Nat → ClassId} {dI : Nat → Nat → Nat} {ct : Nat → ClassId} {q0 q1 : Nat} (hK : va_K (dC, dI) vwCl (TT ct) s) (hN : NW s) {adK adV : Nat → Nat} (hW0 : SW adK adV (fun q : Nat => s.heap.size ≤ q) s s.heap) {i cells slots : Nat} (hi : i + 6 ≤ N) (hc : cells + 60 ≤ 600000) (hs : slots + 3000 ≤ 7302250) (hgo : LGo p l e s m below meth c b dC dI ct q0 q1 i (i + 6) (cells + 60) (slots + 3000) 1259) : LGo p l e s m below meth c b dC dI ct q0 q1 i i cells slots 969 := by
  intro L f H locs ls hO m0 m1 hT hCp hP hD hS hl
  obtain ⟨gL, gT, gO, gM, ad, gA, g1, g2, g3, g4, g5⟩ := hCp
  obtain ⟨hx, hb, hr, hml, hown, hts, hX, hbl, hlocks, hgv⟩ := id C0
  have hA : ∀ q : Nat, s.heap.size ≤ q → (fun q : Nat => s.heap.size ≤ q) q := fun _ h => h
  have hbA : ¬ (fun q : Nat => s.heap.size ≤ q) b := Nat.not_le.mpr hbl
  have htb := fun w (h : w ∈ TB) => hts w (List.mem_filter.mp h).1
  refine lv_aload_n hx hb d_law_969 rfl (lv_at hl 2 rfl) ?_
  refine lv_aload_n hx hb d_law_970 rfl (lv_at hl 3 rfl) ?_
  refine lv_iload_n hx hb d_law_971 rfl (lv_at hl 0 rfl) ?_
  refine lv_iconst (v := 1) hx hb d_law_972 (by decide +kernel) ?_
  refine lv_iadd hx hb d_law_973 ?_
  refine hb_ti (nI (i + 1)) (nI_add i 1) ?_
  refine va_sld hx hb hX hbl hbA hS (i := nI (i + 1)) (vp_in_nI (by omega) (by omega)) d_law_974 ?_
  refine hb_ti (xs (i + 1)) (congrArg xs (nI_clamp (by omega))) ?_
  have hFc := hb_free hD hS hA
  refine va_calli (va_runV (As := [.int (xs (i + 1))]) (rest := []) ⟨hx, hb, hml, hown, htb⟩ (c_WM_minutes_w l dC dI ct L f hO q0 m0 _ (xs (i + 1)) _ (pr_minutes3 hO m0 m1 gL gA g3 (xs (i + 1)))) (cwV 1 htb (gd_V tw_894 tw_895 tw_896 tw_26 tw_897) rfl rfl rfl (by decide +kernel) ⟨Nat.le_of_ble_eq_true rfl, Nat.le_of_ble_eq_true rfl⟩) ⟨pc_blind, tw_recv hK hP m0 rfl rfl, pc_pre hP hK hD hN⟩ rfl rfl hl.1 rfl (lv_room (Nat.le_of_ble_eq_true rfl)) d_law_975 ⟨(by show cells + 0 ≤ 600000; omega), (by show slots + 0 ≤ 7302250; omega)⟩) hS (fun q _ h => hFc q h) hFc (fun r_1 u t H locs ht hvm er_1 hB hz1 hk1 hS => ?_)
  obtain ⟨L_1, f_1⟩ := u
  obtain ⟨hO_1, hE_1, er_1, hq⟩ := er_1
  obtain ⟨hP, hK1, hD1⟩ := hB
  rw [ht] at hP
  have hP : va_P (dC, dI) vwCl (TW ct L_1 f_1) H := hP
  have hD : va_D (fun q : Nat => s.heap.size ≤ q) (TW ct L_1 f_1) := hD1.weaken (fun _ q _ h => hFc q.1 h)
  have hO_1 : Ok L_1 f_1 := hO_1
  have hE_1 : Ext W_WM_minutes_w L f L_1 f_1 := hE_1
  clear hK1 hD1 ht hvm hz1 hk1
  have m0_1 := hE_1.m m0
  have m1_1 := hE_1.m m1
  have hT_1 : TInv f_1 q1 := TInv.ext hT hO m1 hE_1 (by decide +kernel)
  have hq := hq hO_1 m0_1 m1_1
  refine lv_pop hx hb d_law_978 rfl ?_
  refine lv_aload_n hx hb d_law_979 rfl (lv_at hl 1 rfl) ?_
  refine lv_aload_n hx hb d_law_980 rfl (lv_at hl 3 rfl) ?_
  refine lv_iload_n hx hb d_law_981 rfl (lv_at hl 0 rfl) ?_
  refine lv_iconst (v := 1) hx hb d_law_982 (by decide +kernel) ?_
  refine lv_iadd hx hb d_law_983 ?_
  refine hb_ti (nI (i + 1)) (nI_add i 1) ?_
  refine va_sld hx hb hX hbl hbA hS (i := nI (i + 1)) (vp_in_nI (by omega) (by omega)) d_law_984 ?_
  refine hb_ti (xs (i + 1)) (congrArg xs (nI_clamp (by omega))) ?_
  have hFc := hb_free hD hS hA
  refine va_calli (va_runV (As := [.int (xs (i + 1))]) (rest := []) ⟨hx, hb, hml, hown, htb⟩ (c_Md_minutes_w l dC dI ct L_1 f_1 hO_1 q1 m1_1 _ (xs (i + 1)) _ (hq)) (cwV 1 htb (gd_V tw_898 tw_899 tw_900 tw_89 tw_901) rfl rfl rfl (by decide +kernel) ⟨Nat.le_of_ble_eq_true rfl, Nat.le_of_ble_eq_true rfl⟩) ⟨pc_blind, tw_recv hK hP m1_1 rfl rfl, pc_pre hP hK hD hN⟩ rfl rfl hl.1 rfl (lv_room (Nat.le_of_ble_eq_true rfl)) d_law_985 ⟨(by show cells + 0 ≤ 600000; omega), (by show slots + 0 ≤ 7302250; omega)⟩) hS (fun q _ h => hFc q h) hFc (fun r_2 u t H locs ht hvm er_2 hB hz1 hk1 hS => ?_)
  obtain ⟨L_2, f_2⟩ := u
  obtain ⟨hO_2, hE_2, er_2, hq⟩ := er_2
  obtain ⟨hP, hK1, hD1⟩ := hB
  rw [ht] at hP
  have hP : va_P (dC, dI) vwCl (TW ct L_2 f_2) H := hP
  have hD : va_D (fun q : Nat => s.heap.size ≤ q) (TW ct L_2 f_2) := hD1.weaken (fun _ q _ h => hFc q.1 h)
  have hO_2 : Ok L_2 f_2 := hO_2
  have hE_2 : Ext W_Md_minutes_w L_1 f_1 L_2 f_2 := hE_2
  clear hK1 hD1 ht hvm hz1 hk1
  have m0_2 := hE_2.m m0_1
  have m1_2 := hE_2.m m1_1
  have hT_2 : TInv f_2 q1 := TInv.ext hT_1 hO_1 m1_1 hE_2 (by decide +kernel)
  have hq := hq hO_2
  refine lv_pop hx hb d_law_988 rfl ?_
  refine lv_goto (tgt := 1259) hx hb d_law_989 (by decide) ?_
  refine W.widen (k := cells + 60) (n := slots + 3000) (by omega) (by omega) ?_
  exact hgo L_2 f_2 H locs ls hO_2 m0_2 m1_2 hT_2 ⟨hq.2.1, (CT.ext (CT.ext gT hO m0 m1 hE_1 (by decide +kernel)) hO_1 m0_1 m1_1 hE_2 (by decide +kernel)), (CO.ext (CO.ext gO hO m0 m1 hE_1 (by decide +kernel)) hO_1 m0_1 m1_1 hE_2 (by decide +kernel)), (CM.ext (CM.ext gM hO m0 m1 hE_1 (by decide +kernel)) hO_1 m0_1 m1_1 hE_2 (by decide +kernel)), ad, (Ad.ext (Ad.ext gA hO m0 m1 hE_1 (by decide +kernel)) hO_1 m0_1 m1_1 hE_2 (by decide +kernel)), (K1.later (K1.ext (K1.ext g1 gA hO m0 m1 hE_1 (by decide +kernel)) (Ad.ext gA hO m0 m1 hE_1 (by decide +kernel)) hO_1 m0_1 m1_1 hE_2 (by decide +kernel)) hO m1 hO_2 m1_2 hq.2.2.2), (K2.mono (K2.extN (K2.extN g2 gA hO m0 m1 hE_1 (by decide +kernel)) (Ad.ext gA hO m0 m1 hE_1 (by decide +kernel)) hO_1 m0_1 m1_1 hE_2 (by decide +kernel)) (by omega) (Nat.le_refl _)), (K3.toN hq.2.2.1 ((hE_2.ei m1_1 (by decide +kernel)).trans (hE_1.ei m1 (by decide +kernel)))), (K4.ext (K4.ext g4 gA hO m0 m1 hE_1 (by decide +kernel)) (Ad.ext gA hO m0 m1 hE_1 (by decide +kernel)) hO_1 m0_1 m1_1 hE_2 (by decide +kernel)), (K5.ext (K5.ext g5 gA hO m0 m1 hE_1 (by decide +kernel)) (Ad.ext gA hO m0 m1 hE_1 (by decide +kernel)) hO_1 m0_1 m1_1 hE_2 (by decide +kernel))⟩ hP hD hS hl
set_option maxHeartbeats 4000000 in
set_option maxRecDepth 100000 in
theorem law_case_24 {p : Program} {e : Env} {s : State} {m : MethodId} {below : List Frame} {meth : Method} {c : Code} (l : Launch) {b N : Nat} {xs : Nat → Int32} (C0 : lw_At p s m meth c b N xs) (hNN : N ≤ 3072) {dC : Nat → ClassId} {dI : Nat → Nat → Nat} {ct : Nat → ClassId} {q0 q1 : Nat} (hK : va_K (dC, dI) vwCl (TT ct) s) (hN : NW s) {adK adV : Nat → Nat} (hW0 : SW adK adV (fun q : Nat => s.heap.size ≤ q) s s.heap) {i cells slots : Nat} (hi : i + 6 ≤ N) (hc : cells + 60 ≤ 600000) (hs : slots + 3000 ≤ 7302250) (hgo : LGo p l e s m below meth c b dC dI ct q0 q1 i (i + 6) (cells + 60) (slots + 3000) 1259) : LGo p l e s m below meth c b dC dI ct q0 q1 i i cells slots 992 := by
  intro L f H locs ls hO m0 m1 hT hCp hP hD hS hl
  obtain ⟨gL, gT, gO, gM, ad, gA, g1, g2, g3, g4, g5⟩ := hCp
  obtain ⟨hx, hb, hr, hml, hown, hts, hX, hbl, hlocks, hgv⟩ := id C0
  have hA : ∀ q : Nat, s.heap.size ≤ q → (fun q : Nat => s.heap.size ≤ q) q := fun _ h => h
  have hbA : ¬ (fun q : Nat => s.heap.size ≤ q) b := Nat.not_le.mpr hbl
  have htb := fun w (h : w ∈ TB) => hts w (List.mem_filter.mp h).1
  refine lv_aload_n hx hb d_law_992 rfl (lv_at hl 2 rfl) ?_
  refine lv_aload_n hx hb d_law_993 rfl (lv_at hl 3 rfl) ?_
  refine lv_iload_n hx hb d_law_994 rfl (lv_at hl 0 rfl) ?_
  refine lv_iconst (v := 1) hx hb d_law_995 (by decide +kernel) ?_
  refine lv_iadd hx hb d_law_996 ?_
  refine hb_ti (nI (i + 1)) (nI_add i 1) ?_
  refine va_sld hx hb hX hbl hbA hS (i := nI (i + 1)) (vp_in_nI (by omega) (by omega)) d_law_997 ?_
  refine hb_ti (xs (i + 1)) (congrArg xs (nI_clamp (by omega))) ?_
  refine lv_aload_n hx hb d_law_998 rfl (lv_at hl 3 rfl) ?_
  refine lv_iload_n hx hb d_law_999 rfl (lv_at hl 0 rfl) ?_
  refine lv_iconst (v := 2) hx hb d_law_1000 (by decide +kernel) ?_
  refine lv_iadd hx hb d_law_1001 ?_
  refine hb_ti (nI (i + 2)) (nI_add i 2) ?_
  refine va_sld hx hb hX hbl hbA hS (i := nI (i + 2)) (vp_in_nI (by omega) (by omega)) d_law_1002 ?_
  refine hb_ti (xs (i + 2)) (congrArg xs (nI_clamp (by omega))) ?_
  refine lv_aload_n hx hb d_law_1003 rfl (lv_at hl 3 rfl) ?_
  refine lv_iload_n hx hb d_law_1004 rfl (lv_at hl 0 rfl) ?_
  refine lv_iconst (v := 3) hx hb d_law_1005 (by decide +kernel) ?_
  refine lv_iadd hx hb d_law_1006 ?_
  refine hb_ti (nI (i + 3)) (nI_add i 3) ?_
  refine va_sld hx hb hX hbl hbA hS (i := nI (i + 3)) (vp_in_nI (by omega) (by omega)) d_law_1007 ?_
  refine hb_ti (xs (i + 3)) (congrArg xs (nI_clamp (by omega))) ?_
  have hFc := hb_free hD hS hA
  refine va_calli (va_runV (As := [.int (xs (i + 1)), .int (xs (i + 2)), .int (xs (i + 3))]) (rest := []) ⟨hx, hb, hml, hown, htb⟩ (c_WM_sink_w l dC dI ct L f hO q0 m0 _ (xs (i + 1)) (xs (i + 2)) (xs (i + 3)) _ (pr_sink hO m0 m1 gA g1 g3 g4 (Cpl.time gL) (xs (i + 1)) (xs (i + 2)) (xs (i + 3)))) (cwV 3 htb (gd_V tw_902 tw_903 tw_904 tw_26 tw_905) rfl rfl rfl (by decide +kernel) ⟨Nat.le_of_ble_eq_true rfl, Nat.le_of_ble_eq_true rfl⟩) ⟨pc_blind, tw_recv hK hP m0 rfl rfl, pc_pre hP hK hD hN⟩ rfl rfl hl.1 rfl (lv_room (Nat.le_of_ble_eq_true rfl)) d_law_1008 ⟨(by show cells + 1 ≤ 600000; omega), (by show slots + 3 ≤ 7302250; omega)⟩) hS (fun q _ h => hFc q h) hFc (fun r_1 u t H locs ht hvm er_1 hB hz1 hk1 hS => ?_)
  obtain ⟨L_1, f_1⟩ := u
  obtain ⟨hO_1, hE_1, er_1, hq⟩ := er_1
  obtain ⟨hP, hK1, hD1⟩ := hB
  rw [ht] at hP
  have hP : va_P (dC, dI) vwCl (TW ct L_1 f_1) H := hP
  have hD : va_D (fun q : Nat => s.heap.size ≤ q) (TW ct L_1 f_1) := hD1.weaken (fun _ q _ h => hFc q.1 h)
  have hO_1 : Ok L_1 f_1 := hO_1
  have hE_1 : Ext W_WM_sink_w L f L_1 f_1 := hE_1
  clear hK1 hD1 ht hvm hz1 hk1
  have m0_1 := hE_1.m m0
  have m1_1 := hE_1.m m1
  have hT_1 : TInv f_1 q1 := TInv.ext hT hO m1 hE_1 (by decide +kernel)
  have hq := hq hO_1 m0_1 m1_1
  refine lv_pop hx hb d_law_1011 rfl ?_
  refine lv_aload_n hx hb d_law_1012 rfl (lv_at hl 1 rfl) ?_
  refine lv_aload_n hx hb d_law_1013 rfl (lv_at hl 3 rfl) ?_
  refine lv_iload_n hx hb d_law_1014 rfl (lv_at hl 0 rfl) ?_
  refine lv_iconst (v := 1) hx hb d_law_1015 (by decide +kernel) ?_
  refine lv_iadd hx hb d_law_1016 ?_
  refine hb_ti (nI (i + 1)) (nI_add i 1) ?_
  refine va_sld hx hb hX hbl hbA hS (i := nI (i + 1)) (vp_in_nI (by omega) (by omega)) d_law_1017 ?_
  refine hb_ti (xs (i + 1)) (congrArg xs (nI_clamp (by omega))) ?_
  refine lv_aload_n hx hb d_law_1018 rfl (lv_at hl 3 rfl) ?_
  refine lv_iload_n hx hb d_law_1019 rfl (lv_at hl 0 rfl) ?_
  refine lv_iconst (v := 2) hx hb d_law_1020 (by decide +kernel) ?_
  refine lv_iadd hx hb d_law_1021 ?_
  refine hb_ti (nI (i + 2)) (nI_add i 2) ?_
  refine va_sld hx hb hX hbl hbA hS (i := nI (i + 2)) (vp_in_nI (by omega) (by omega)) d_law_1022 ?_
  refine hb_ti (xs (i + 2)) (congrArg xs (nI_clamp (by omega))) ?_
  refine lv_aload_n hx hb d_law_1023 rfl (lv_at hl 3 rfl) ?_
  refine lv_iload_n hx hb d_law_1024 rfl (lv_at hl 0 rfl) ?_
  refine lv_iconst (v := 3) hx hb d_law_1025 (by decide +kernel) ?_
  refine lv_iadd hx hb d_law_1026 ?_
  refine hb_ti (nI (i + 3)) (nI_add i 3) ?_
  refine va_sld hx hb hX hbl hbA hS (i := nI (i + 3)) (vp_in_nI (by omega) (by omega)) d_law_1027 ?_
  refine hb_ti (xs (i + 3)) (congrArg xs (nI_clamp (by omega))) ?_
  have hFc := hb_free hD hS hA
  refine va_calli (va_runV (As := [.int (xs (i + 1)), .int (xs (i + 2)), .int (xs (i + 3))]) (rest := []) ⟨hx, hb, hml, hown, htb⟩ (c_Md_sink_w l dC dI ct L_1 f_1 hO_1 q1 m1_1 _ (xs (i + 1)) (xs (i + 2)) (xs (i + 3)) _ (hq)) (cwV 3 htb (gd_V tw_906 tw_907 tw_908 tw_89 tw_909) rfl rfl rfl (by decide +kernel) ⟨Nat.le_of_ble_eq_true rfl, Nat.le_of_ble_eq_true rfl⟩) ⟨pc_blind, tw_recv hK hP m1_1 rfl rfl, pc_pre hP hK hD hN⟩ rfl rfl hl.1 rfl (lv_room (Nat.le_of_ble_eq_true rfl)) d_law_1028 ⟨(by show cells + 1 + 0 ≤ 600000; omega), (by show slots + 3 + 0 ≤ 7302250; omega)⟩) hS (fun q _ h => hFc q h) hFc (fun r_2 u t H locs ht hvm er_2 hB hz1 hk1 hS => ?_)
  obtain ⟨L_2, f_2⟩ := u
  obtain ⟨hO_2, hE_2, er_2, hq⟩ := er_2
  obtain ⟨hP, hK1, hD1⟩ := hB
  rw [ht] at hP
  have hP : va_P (dC, dI) vwCl (TW ct L_2 f_2) H := hP
  have hD : va_D (fun q : Nat => s.heap.size ≤ q) (TW ct L_2 f_2) := hD1.weaken (fun _ q _ h => hFc q.1 h)
  have hO_2 : Ok L_2 f_2 := hO_2
  have hE_2 : Ext W_Md_sink_w L_1 f_1 L_2 f_2 := hE_2
  clear hK1 hD1 ht hvm hz1 hk1
  have m0_2 := hE_2.m m0_1
  have m1_2 := hE_2.m m1_1
  have hT_2 : TInv f_2 q1 := TInv.ext hT_1 hO_1 m1_1 hE_2 (by decide +kernel)
  have hq := hq hO_2
  refine lv_pop hx hb d_law_1031 rfl ?_
  refine lv_goto (tgt := 1259) hx hb d_law_1032 (by decide) ?_
  refine W.widen (k := cells + 60) (n := slots + 3000) (by omega) (by omega) ?_
  exact hgo L_2 f_2 H locs ls hO_2 m0_2 m1_2 hT_2 ⟨(Cpl.ext (Cpl.ext gL hO m0 m1 hE_1 (by decide +kernel)) hO_1 m0_1 m1_1 hE_2 (by decide +kernel)), (CT.ext (CT.ext gT hO m0 m1 hE_1 (by decide +kernel)) hO_1 m0_1 m1_1 hE_2 (by decide +kernel)), (CO.ext (CO.ext gO hO m0 m1 hE_1 (by decide +kernel)) hO_1 m0_1 m1_1 hE_2 (by decide +kernel)), (CM.ext (CM.ext gM hO m0 m1 hE_1 (by decide +kernel)) hO_1 m0_1 m1_1 hE_2 (by decide +kernel)), ad, (Ad.ext (Ad.ext gA hO m0 m1 hE_1 (by decide +kernel)) hO_1 m0_1 m1_1 hE_2 (by decide +kernel)), (K1.toT hq.2.1 ((hE_2.ei m1_1 (by decide +kernel)).trans (hE_1.ei m1 (by decide +kernel)))), (K2.mono (K2.extN (K2.extN g2 gA hO m0 m1 hE_1 (by decide +kernel)) (Ad.ext gA hO m0 m1 hE_1 (by decide +kernel)) hO_1 m0_1 m1_1 hE_2 (by decide +kernel)) (by omega) (Nat.le_refl _)), (K3.toT hq.2.2.1 ((hE_2.ei m1_1 (by decide +kernel)).trans (hE_1.ei m1 (by decide +kernel))) ((hE_2.ei m1_1 (by decide +kernel)).trans (hE_1.ei m1 (by decide +kernel)))), hq.2.2.2, (K5.ext (K5.ext g5 gA hO m0 m1 hE_1 (by decide +kernel)) (Ad.ext gA hO m0 m1 hE_1 (by decide +kernel)) hO_1 m0_1 m1_1 hE_2 (by decide +kernel))⟩ hP hD hS hl
set_option maxHeartbeats 4000000 in
set_option maxRecDepth 100000 in
theorem law_case_25 {p : Program} {e : Env} {s : State} {m : MethodId} {below : List Frame} {meth : Method} {c : Code} (l : Launch) {b N : Nat} {xs : Nat → Int32} (C0 : lw_At p s m meth c b N xs) (hNN : N ≤ 3072) {dC : Nat → ClassId} {dI : Nat → Nat → Nat} {ct : Nat → ClassId} {q0 q1 : Nat} (hK : va_K (dC, dI) vwCl (TT ct) s) (hN : NW s) {adK adV : Nat → Nat} (hW0 : SW adK adV (fun q : Nat => s.heap.size ≤ q) s s.heap) {i cells slots : Nat} (hi : i + 6 ≤ N) (hc : cells + 60 ≤ 600000) (hs : slots + 3000 ≤ 7302250) (hgo : LGo p l e s m below meth c b dC dI ct q0 q1 i (i + 6) (cells + 60) (slots + 3000) 1259) : LGo p l e s m below meth c b dC dI ct q0 q1 i i cells slots 1035 := by
  intro L f H locs ls hO m0 m1 hT hCp hP hD hS hl
  obtain ⟨gL, gT, gO, gM, ad, gA, g1, g2, g3, g4, g5⟩ := hCp
  obtain ⟨hx, hb, hr, hml, hown, hts, hX, hbl, hlocks, hgv⟩ := id C0
  have hA : ∀ q : Nat, s.heap.size ≤ q → (fun q : Nat => s.heap.size ≤ q) q := fun _ h => h
  have hbA : ¬ (fun q : Nat => s.heap.size ≤ q) b := Nat.not_le.mpr hbl
  have htb := fun w (h : w ∈ TB) => hts w (List.mem_filter.mp h).1
  refine lv_aload_n hx hb d_law_1035 rfl (lv_at hl 2 rfl) ?_
  refine lv_aload_n hx hb d_law_1036 rfl (lv_at hl 3 rfl) ?_
  refine lv_iload_n hx hb d_law_1037 rfl (lv_at hl 0 rfl) ?_
  refine lv_iconst (v := 1) hx hb d_law_1038 (by decide +kernel) ?_
  refine lv_iadd hx hb d_law_1039 ?_
  refine hb_ti (nI (i + 1)) (nI_add i 1) ?_
  refine va_sld hx hb hX hbl hbA hS (i := nI (i + 1)) (vp_in_nI (by omega) (by omega)) d_law_1040 ?_
  refine hb_ti (xs (i + 1)) (congrArg xs (nI_clamp (by omega))) ?_
  refine lv_aload_n hx hb d_law_1041 rfl (lv_at hl 3 rfl) ?_
  refine lv_iload_n hx hb d_law_1042 rfl (lv_at hl 0 rfl) ?_
  refine lv_iconst (v := 2) hx hb d_law_1043 (by decide +kernel) ?_
  refine lv_iadd hx hb d_law_1044 ?_
  refine hb_ti (nI (i + 2)) (nI_add i 2) ?_
  refine va_sld hx hb hX hbl hbA hS (i := nI (i + 2)) (vp_in_nI (by omega) (by omega)) d_law_1045 ?_
  refine hb_ti (xs (i + 2)) (congrArg xs (nI_clamp (by omega))) ?_
  refine vp_callSi (va_Run.run (va_runV (As := [.int (xs (i + 1)), .int (xs (i + 2))]) (rest := []) ⟨hx, hb, hml, hown, htb⟩ (c_WM_trip_w l dC dI ct L f hO q0 m0 (xs (i + 1)) (xs (i + 2)) _ (pr_trip gA g3 (xs (i + 1)) (xs (i + 2)))) (cwV 2 htb (gd_V tw_910 tw_911 tw_912 tw_26 tw_913) rfl rfl rfl (by decide +kernel) ⟨Nat.le_of_ble_eq_true rfl, Nat.le_of_ble_eq_true rfl⟩) ⟨pr_blind, tw_recv hK hP m0 rfl rfl, pr_pre hP hK hN⟩ rfl rfl hl.1 rfl (lv_room (Nat.le_of_ble_eq_true rfl)) d_law_1046 ⟨(by show cells + 0 ≤ 600000; omega), (by show slots + 0 ≤ 7302250; omega)⟩)) (fun r_1 er_1 => ?_)
  obtain ⟨er_1, hq⟩ := er_1
  refine lv_pop hx hb d_law_1049 rfl ?_
  refine lv_aload_n hx hb d_law_1050 rfl (lv_at hl 1 rfl) ?_
  refine lv_aload_n hx hb d_law_1051 rfl (lv_at hl 3 rfl) ?_
  refine lv_iload_n hx hb d_law_1052 rfl (lv_at hl 0 rfl) ?_
  refine lv_iconst (v := 1) hx hb d_law_1053 (by decide +kernel) ?_
  refine lv_iadd hx hb d_law_1054 ?_
  refine hb_ti (nI (i + 1)) (nI_add i 1) ?_
  refine va_sld hx hb hX hbl hbA hS (i := nI (i + 1)) (vp_in_nI (by omega) (by omega)) d_law_1055 ?_
  refine hb_ti (xs (i + 1)) (congrArg xs (nI_clamp (by omega))) ?_
  refine lv_aload_n hx hb d_law_1056 rfl (lv_at hl 3 rfl) ?_
  refine lv_iload_n hx hb d_law_1057 rfl (lv_at hl 0 rfl) ?_
  refine lv_iconst (v := 2) hx hb d_law_1058 (by decide +kernel) ?_
  refine lv_iadd hx hb d_law_1059 ?_
  refine hb_ti (nI (i + 2)) (nI_add i 2) ?_
  refine va_sld hx hb hX hbl hbA hS (i := nI (i + 2)) (vp_in_nI (by omega) (by omega)) d_law_1060 ?_
  refine hb_ti (xs (i + 2)) (congrArg xs (nI_clamp (by omega))) ?_
  refine vp_callSi (va_Run.run (va_runV (As := [.int (xs (i + 1)), .int (xs (i + 2))]) (rest := []) ⟨hx, hb, hml, hown, htb⟩ (c_Md_trip_w l dC dI ct L f hO q1 m1 (xs (i + 1)) (xs (i + 2)) _ (hq)) (cwV 2 htb (gd_V tw_914 tw_915 tw_916 tw_89 tw_917) rfl rfl rfl (by decide +kernel) ⟨Nat.le_of_ble_eq_true rfl, Nat.le_of_ble_eq_true rfl⟩) ⟨pr_blind, tw_recv hK hP m1 rfl rfl, pr_pre hP hK hN⟩ rfl rfl hl.1 rfl (lv_room (Nat.le_of_ble_eq_true rfl)) d_law_1061 ⟨(by show cells + 0 ≤ 600000; omega), (by show slots + 0 ≤ 7302250; omega)⟩)) (fun r_2 er_2 => ?_)
  obtain ⟨er_2, hq⟩ := er_2
  refine lv_pop hx hb d_law_1064 rfl ?_
  refine lv_goto (tgt := 1259) hx hb d_law_1065 (by decide) ?_
  refine W.widen (k := cells + 60) (n := slots + 3000) (by omega) (by omega) ?_
  exact hgo L f H locs ls hO m0 m1 hT ⟨gL, gT, gO, gM, ad, gA, g1, K2.mono g2 (by omega) (Nat.le_refl _), g3, g4, g5⟩ hP hD hS hl
set_option maxHeartbeats 4000000 in
set_option maxRecDepth 100000 in
theorem law_case_26 {p : Program} {e : Env} {s : State} {m : MethodId} {below : List Frame} {meth : Method} {c : Code} (l : Launch) {b N : Nat} {xs : Nat → Int32} (C0 : lw_At p s m meth c b N xs) (hNN : N ≤ 3072) {dC : Nat → ClassId} {dI : Nat → Nat → Nat} {ct : Nat → ClassId} {q0 q1 : Nat} (hK : va_K (dC, dI) vwCl (TT ct) s) (hN : NW s) {adK adV : Nat → Nat} (hW0 : SW adK adV (fun q : Nat => s.heap.size ≤ q) s s.heap) {i cells slots : Nat} (hi : i + 6 ≤ N) (hc : cells + 60 ≤ 600000) (hs : slots + 3000 ≤ 7302250) (hgo : LGo p l e s m below meth c b dC dI ct q0 q1 i (i + 6) (cells + 60) (slots + 3000) 1259) : LGo p l e s m below meth c b dC dI ct q0 q1 i i cells slots 1068 := by
  intro L f H locs ls hO m0 m1 hT hCp hP hD hS hl
  obtain ⟨gL, gT, gO, gM, ad, gA, g1, g2, g3, g4, g5⟩ := hCp
  obtain ⟨hx, hb, hr, hml, hown, hts, hX, hbl, hlocks, hgv⟩ := id C0
  have hA : ∀ q : Nat, s.heap.size ≤ q → (fun q : Nat => s.heap.size ≤ q) q := fun _ h => h
  have hbA : ¬ (fun q : Nat => s.heap.size ≤ q) b := Nat.not_le.mpr hbl
  have htb := fun w (h : w ∈ TB) => hts w (List.mem_filter.mp h).1
  refine lv_aload_n hx hb d_law_1068 rfl (lv_at hl 2 rfl) ?_
  refine lv_aload_n hx hb d_law_1069 rfl (lv_at hl 3 rfl) ?_
  refine lv_iload_n hx hb d_law_1070 rfl (lv_at hl 0 rfl) ?_
  refine lv_iconst (v := 1) hx hb d_law_1071 (by decide +kernel) ?_
  refine lv_iadd hx hb d_law_1072 ?_
  refine hb_ti (nI (i + 1)) (nI_add i 1) ?_
  refine va_sld hx hb hX hbl hbA hS (i := nI (i + 1)) (vp_in_nI (by omega) (by omega)) d_law_1073 ?_
  refine hb_ti (xs (i + 1)) (congrArg xs (nI_clamp (by omega))) ?_
  refine lv_aload_n hx hb d_law_1074 rfl (lv_at hl 3 rfl) ?_
  refine lv_iload_n hx hb d_law_1075 rfl (lv_at hl 0 rfl) ?_
  refine lv_iconst (v := 2) hx hb d_law_1076 (by decide +kernel) ?_
  refine lv_iadd hx hb d_law_1077 ?_
  refine hb_ti (nI (i + 2)) (nI_add i 2) ?_
  refine va_sld hx hb hX hbl hbA hS (i := nI (i + 2)) (vp_in_nI (by omega) (by omega)) d_law_1078 ?_
  refine hb_ti (xs (i + 2)) (congrArg xs (nI_clamp (by omega))) ?_
  refine vp_callSi (va_Run.run (va_runV (As := [.int (xs (i + 1)), .int (xs (i + 2))]) (rest := []) ⟨hx, hb, hml, hown, htb⟩ (c_WM_due_w l dC dI ct L f hO q0 m0 (xs (i + 1)) (xs (i + 2)) _ (pr_due hO m0 m1 gL gO gM gA g3 (xs (i + 1)) (xs (i + 2)))) (cwV 2 htb (gd_V tw_918 tw_919 tw_920 tw_26 tw_921) rfl rfl rfl (by decide +kernel) ⟨Nat.le_of_ble_eq_true rfl, Nat.le_of_ble_eq_true rfl⟩) ⟨pr_blind, tw_recv hK hP m0 rfl rfl, pr_pre hP hK hN⟩ rfl rfl hl.1 rfl (lv_room (Nat.le_of_ble_eq_true rfl)) d_law_1079 ⟨(by show cells + 0 ≤ 600000; omega), (by show slots + 0 ≤ 7302250; omega)⟩)) (fun r_1 er_1 => ?_)
  obtain ⟨er_1, hq⟩ := er_1
  refine lv_pop hx hb d_law_1082 rfl ?_
  refine lv_aload_n hx hb d_law_1083 rfl (lv_at hl 1 rfl) ?_
  refine lv_aload_n hx hb d_law_1084 rfl (lv_at hl 3 rfl) ?_
  refine lv_iload_n hx hb d_law_1085 rfl (lv_at hl 0 rfl) ?_
  refine lv_iconst (v := 1) hx hb d_law_1086 (by decide +kernel) ?_
  refine lv_iadd hx hb d_law_1087 ?_
  refine hb_ti (nI (i + 1)) (nI_add i 1) ?_
  refine va_sld hx hb hX hbl hbA hS (i := nI (i + 1)) (vp_in_nI (by omega) (by omega)) d_law_1088 ?_
  refine hb_ti (xs (i + 1)) (congrArg xs (nI_clamp (by omega))) ?_
  refine lv_aload_n hx hb d_law_1089 rfl (lv_at hl 3 rfl) ?_
  refine lv_iload_n hx hb d_law_1090 rfl (lv_at hl 0 rfl) ?_
  refine lv_iconst (v := 2) hx hb d_law_1091 (by decide +kernel) ?_
  refine lv_iadd hx hb d_law_1092 ?_
  refine hb_ti (nI (i + 2)) (nI_add i 2) ?_
  refine va_sld hx hb hX hbl hbA hS (i := nI (i + 2)) (vp_in_nI (by omega) (by omega)) d_law_1093 ?_
  refine hb_ti (xs (i + 2)) (congrArg xs (nI_clamp (by omega))) ?_
  refine vp_callSi (va_Run.run (va_runV (As := [.int (xs (i + 1)), .int (xs (i + 2))]) (rest := []) ⟨hx, hb, hml, hown, htb⟩ (c_Md_due_w l dC dI ct L f hO q1 m1 (xs (i + 1)) (xs (i + 2)) _ (hq)) (cwV 2 htb (gd_V tw_922 tw_923 tw_924 tw_89 tw_925) rfl rfl rfl (by decide +kernel) ⟨Nat.le_of_ble_eq_true rfl, Nat.le_of_ble_eq_true rfl⟩) ⟨pr_blind, tw_recv hK hP m1 rfl rfl, pr_pre hP hK hN⟩ rfl rfl hl.1 rfl (lv_room (Nat.le_of_ble_eq_true rfl)) d_law_1094 ⟨(by show cells + 0 ≤ 600000; omega), (by show slots + 0 ≤ 7302250; omega)⟩)) (fun r_2 er_2 => ?_)
  obtain ⟨er_2, hq⟩ := er_2
  refine lv_pop hx hb d_law_1097 rfl ?_
  refine lv_goto (tgt := 1259) hx hb d_law_1098 (by decide) ?_
  refine W.widen (k := cells + 60) (n := slots + 3000) (by omega) (by omega) ?_
  exact hgo L f H locs ls hO m0 m1 hT ⟨gL, gT, gO, gM, ad, gA, g1, K2.mono g2 (by omega) (Nat.le_refl _), g3, g4, g5⟩ hP hD hS hl
