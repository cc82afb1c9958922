set_option maxHeartbeats 4000000 in
set_option maxRecDepth 100000 in
theorem law_case_9 {p : Program} {e : Env} {s : State} {m : MethodId} {below : List Frame} {meth : Method} {c : Code} (l : Launch) {b N : Nat} {xs : Nat → Int32} (C0 : lw_At p s m meth c b N xs) (hNN : N ≤ 3072) {dC : Nat → ClassId} {dI : Nat → Nat → Nat} {ct : Nat → ClassId} {q0 q1 : Nat} (hK : va_K (dC, dI) vwCl (TT ct) s) (hN : NW s) {adK adV : Nat → Nat} (hW0 : SW adK adV (fun q : Nat => s.heap.size ≤ q) s s.heap) {i cells slots : Nat} (hi : i + 6 ≤ N) (hc : cells + 60 ≤ 600000) (hs : slots + 3000 ≤ 7302250) (hgo : LGo p l e s m below meth c b dC dI ct q0 q1 i (i + 6) (cells + 60) (slots + 3000) 1259) : LGo p l e s m below meth c b dC dI ct q0 q1 i i cells slots 467 := by
  intro L f H locs ls hO m0 m1 hT hCp hP hD hS hl
  obtain ⟨gL, gT, gO, gM, ad, gA, g1, g2, g3, g4, g5⟩ := hCp
  obtain ⟨hx, hb, hr, hml, hown, hts, hX, hbl, hlocks, hgv⟩ := id C0
  have hA : ∀ q : Nat, s.heap.size ≤ q → (fun q : Nat => s.heap.size ≤ q) q := fun _ h => h
  have hbA : ¬ (fun q : Nat => s.heap.size ≤ q) b := Nat.not_le.mpr hbl
  have htb := fun w (h : w ∈ TB) => hts w (List.mem_filter.mp h).1
  refine lv_aload_n hx hb d_law_467 rfl (lv_at hl 2 rfl) ?_
  refine lv_aload_n hx hb d_law_468 rfl (lv_at hl 3 rfl) ?_
  refine lv_iload_n hx hb d_law_469 rfl (lv_at hl 0 rfl) ?_
  refine lv_iconst (v := 1) hx hb d_law_470 (by decide +kernel) ?_
  refine lv_iadd hx hb d_law_471 ?_
  refine hb_ti (nI (i + 1)) (nI_add i 1) ?_
  refine va_sld hx hb hX hbl hbA hS (i := nI (i + 1)) (vp_in_nI (by omega) (by omega)) d_law_472 ?_
  refine hb_ti (xs (i + 1)) (congrArg xs (nI_clamp (by omega))) ?_
  refine vp_callSi (va_Run.run (va_runV (As := [.int (xs (i + 1))]) (rest := []) ⟨hx, hb, hml, hown, htb⟩ (c_WM_served_w l dC dI ct L f hO q0 m0 (xs (i + 1)) _ (pr_served hO m0 m1 gA g1 (Cpl.time gL) (xs (i + 1)))) (cwV 1 htb (gd_V tw_785 tw_495 tw_496 tw_26 tw_493) rfl rfl rfl (by decide +kernel) ⟨Nat.le_of_ble_eq_true rfl, Nat.le_of_ble_eq_true rfl⟩) ⟨pr_blind, tw_recv hK hP m0 rfl rfl, pr_pre hP hK hN⟩ rfl rfl hl.1 rfl (lv_room (Nat.le_of_ble_eq_true rfl)) d_law_473 ⟨(by show cells + 0 ≤ 600000; omega), (by show slots + 0 ≤ 7302250; omega)⟩)) (fun r_1 er_1 => ?_)
  obtain ⟨er_1, hq⟩ := er_1
  refine lv_pop hx hb d_law_476 rfl ?_
  refine lv_aload_n hx hb d_law_477 rfl (lv_at hl 1 rfl) ?_
  refine lv_aload_n hx hb d_law_478 rfl (lv_at hl 3 rfl) ?_
  refine lv_iload_n hx hb d_law_479 rfl (lv_at hl 0 rfl) ?_
  refine lv_iconst (v := 1) hx hb d_law_480 (by decide +kernel) ?_
  refine lv_iadd hx hb d_law_481 ?_
  refine hb_ti (nI (i + 1)) (nI_add i 1) ?_
  refine va_sld hx hb hX hbl hbA hS (i := nI (i + 1)) (vp_in_nI (by omega) (by omega)) d_law_482 ?_
  refine hb_ti (xs (i + 1)) (congrArg xs (nI_clamp (by omega))) ?_
  refine vp_callSi (va_Run.run (va_runV (As := [.int (xs (i + 1))]) (rest := []) ⟨hx, hb, hml, hown, htb⟩ (c_Md_served_w l dC dI ct L f hO q1 m1 (xs (i + 1)) _ (hq)) (cwV 1 htb (gd_V tw_786 tw_787 tw_788 tw_89 tw_789) rfl rfl rfl (by decide +kernel) ⟨Nat.le_of_ble_eq_true rfl, Nat.le_of_ble_eq_true rfl⟩) ⟨pr_blind, tw_recv hK hP m1 rfl rfl, pr_pre hP hK hN⟩ rfl rfl hl.1 rfl (lv_room (Nat.le_of_ble_eq_true rfl)) d_law_483 ⟨(by show cells + 0 ≤ 600000; omega), (by show slots + 0 ≤ 7302250; omega)⟩)) (fun r_2 er_2 => ?_)
  obtain ⟨er_2, hq⟩ := er_2
  refine lv_pop hx hb d_law_486 rfl ?_
  refine lv_goto (tgt := 1259) hx hb d_law_487 (by decide) ?_
  refine W.widen (k := cells + 60) (n := slots + 3000) (by omega) (by omega) ?_
  exact hgo L f H locs ls hO m0 m1 hT ⟨gL, gT, gO, gM, ad, gA, g1, K2.mono g2 (by omega) (Nat.le_refl _), g3, g4, g5⟩ hP hD hS hl
set_option maxHeartbeats 4000000 in
set_option maxRecDepth 100000 in
theorem law_case_10 {p : Program} {e : Env} {s : State} {m : MethodId} {below : List Frame} {meth : Method} {c : Code} (l : Launch) {b N : Nat} {xs : Nat → Int32} (C0 : lw_At p s m meth c b N xs) (hNN : N ≤ 3072) {dC : Nat → ClassId} {dI : Nat → Nat → Nat} {ct : Nat → ClassId} {q0 q1 : Nat} (hK : va_K (dC, dI) vwCl (TT ct) s) (hN : NW s) {adK adV : Nat → Nat} (hW0 : SW adK adV (fun q : Nat => s.heap.size ≤ q) s s.heap) {i cells slots : Nat} (hi : i + 6 ≤ N) (hc : cells + 60 ≤ 600000) (hs : slots + 3000 ≤ 7302250) (hgo : LGo p l e s m below meth c b dC dI ct q0 q1 i (i + 6) (cells + 60) (slots + 3000) 1259) : LGo p l e s m below meth c b dC dI ct q0 q1 i i cells slots 490 := by
  intro L f H locs ls hO m0 m1 hT hCp hP hD hS hl
  obtain ⟨gL, gT, gO, gM, ad, gA, g1, g2, g3, g4, g5⟩ := hCp
  obtain ⟨hx, hb, hr, hml, hown, hts, hX, hbl, hlocks, hgv⟩ := id C0
  have hA : ∀ q : Nat, s.heap.size ≤ q → (fun q : Nat => s.heap.size ≤ q) q := fun _ h => h
  have hbA : ¬ (fun q : Nat => s.heap.size ≤ q) b := Nat.not_le.mpr hbl
  have htb := fun w (h : w ∈ TB) => hts w (List.mem_filter.mp h).1
  refine lv_aload_n hx hb d_law_490 rfl (lv_at hl 2 rfl) ?_
  refine lv_aload_n hx hb d_law_491 rfl (lv_at hl 3 rfl) ?_
  refine lv_iload_n hx hb d_law_492 rfl (lv_at hl 0 rfl) ?_
  refine lv_iconst (v := 1) hx hb d_law_493 (by decide +kernel) ?_
  refine lv_iadd hx hb d_law_494 ?_
  refine hb_ti (nI (i + 1)) (nI_add i 1) ?_
  refine va_sld hx hb hX hbl hbA hS (i := nI (i + 1)) (vp_in_nI (by omega) (by omega)) d_law_495 ?_
  refine hb_ti (xs (i + 1)) (congrArg xs (nI_clamp (by omega))) ?_
  have hFc := hb_free hD hS hA
  refine va_calli (va_runV (As := [.int (xs (i + 1))]) (rest := []) ⟨hx, hb, hml, hown, htb⟩ (c_WM_pass_w l dC dI ct L f hO q0 m0 _ (xs (i + 1)) _ (pr_pass hO m0 m1 gA g1 (Cpl.time gL) (xs (i + 1)))) (cwV 1 htb (gd_V tw_790 tw_791 tw_792 tw_26 tw_793) rfl rfl rfl (by decide +kernel) ⟨Nat.le_of_ble_eq_true rfl, Nat.le_of_ble_eq_true rfl⟩) ⟨pc_blind, tw_recv hK hP m0 rfl rfl, pc_pre hP hK hD hN⟩ rfl rfl hl.1 rfl (lv_room (Nat.le_of_ble_eq_true rfl)) d_law_496 ⟨(by show cells + 0 ≤ 600000; omega), (by show slots + 0 ≤ 7302250; omega)⟩) hS (fun q _ h => hFc q h) hFc (fun r_1 u t H locs ht hvm er_1 hB hz1 hk1 hS => ?_)
  obtain ⟨L_1, f_1⟩ := u
  obtain ⟨hO_1, hE_1, er_1, hq⟩ := er_1
  obtain ⟨hP, hK1, hD1⟩ := hB
  rw [ht] at hP
  have hP : va_P (dC, dI) vwCl (TW ct L_1 f_1) H := hP
  have hD : va_D (fun q : Nat => s.heap.size ≤ q) (TW ct L_1 f_1) := hD1.weaken (fun _ q _ h => hFc q.1 h)
  have hO_1 : Ok L_1 f_1 := hO_1
  have hE_1 : Ext W_WM_pass_w L f L_1 f_1 := hE_1
  clear hK1 hD1 ht hvm hz1 hk1
  have m0_1 := hE_1.m m0
  have m1_1 := hE_1.m m1
  have hT_1 : TInv f_1 q1 := TInv.ext hT hO m1 hE_1 (by decide +kernel)
  have hq := hq hO_1 m0_1 m1_1
  refine lv_pop hx hb d_law_499 rfl ?_
  refine lv_aload_n hx hb d_law_500 rfl (lv_at hl 1 rfl) ?_
  refine lv_aload_n hx hb d_law_501 rfl (lv_at hl 3 rfl) ?_
  refine lv_iload_n hx hb d_law_502 rfl (lv_at hl 0 rfl) ?_
  refine lv_iconst (v := 1) hx hb d_law_503 (by decide +kernel) ?_
  refine lv_iadd hx hb d_law_504 ?_
  refine hb_ti (nI (i + 1)) (nI_add i 1) ?_
  refine va_sld hx hb hX hbl hbA hS (i := nI (i + 1)) (vp_in_nI (by omega) (by omega)) d_law_505 ?_
  refine hb_ti (xs (i + 1)) (congrArg xs (nI_clamp (by omega))) ?_
  have hFc := hb_free hD hS hA
  refine va_calli (va_runV (As := [.int (xs (i + 1))]) (rest := []) ⟨hx, hb, hml, hown, htb⟩ (c_Md_pass_w l dC dI ct L_1 f_1 hO_1 q1 m1_1 _ (xs (i + 1)) _ (hq)) (cwV 1 htb (gd_V tw_794 tw_795 tw_796 tw_89 tw_797) rfl rfl rfl (by decide +kernel) ⟨Nat.le_of_ble_eq_true rfl, Nat.le_of_ble_eq_true rfl⟩) ⟨pc_blind, tw_recv hK hP m1_1 rfl rfl, pc_pre hP hK hD hN⟩ rfl rfl hl.1 rfl (lv_room (Nat.le_of_ble_eq_true rfl)) d_law_506 ⟨(by show cells + 0 ≤ 600000; omega), (by show slots + 0 ≤ 7302250; omega)⟩) hS (fun q _ h => hFc q h) hFc (fun r_2 u t H locs ht hvm er_2 hB hz1 hk1 hS => ?_)
  obtain ⟨L_2, f_2⟩ := u
  obtain ⟨hO_2, hE_2, er_2, hq⟩ := er_2
  obtain ⟨hP, hK1, hD1⟩ := hB
  rw [ht] at hP
  have hP : va_P (dC, dI) vwCl (TW ct L_2 f_2) H := hP
  have hD : va_D (fun q : Nat => s.heap.size ≤ q) (TW ct L_2 f_2) := hD1.weaken (fun _ q _ h => hFc q.1 h)
  have hO_2 : Ok L_2 f_2 := hO_2
  have hE_2 : Ext W_Md_pass_w L_1 f_1 L_2 f_2 := hE_2
  clear hK1 hD1 ht hvm hz1 hk1
  have m0_2 := hE_2.m m0_1
  have m1_2 := hE_2.m m1_1
  have hT_2 : TInv f_2 q1 := TInv.ext hT_1 hO_1 m1_1 hE_2 (by decide +kernel)
  have hq := hq hO_2
  refine lv_pop hx hb d_law_509 rfl ?_
  refine lv_goto (tgt := 1259) hx hb d_law_510 (by decide) ?_
  refine W.widen (k := cells + 60) (n := slots + 3000) (by omega) (by omega) ?_
  exact hgo L_2 f_2 H locs ls hO_2 m0_2 m1_2 hT_2 ⟨(Cpl.ext (Cpl.ext gL hO m0 m1 hE_1 (by decide +kernel)) hO_1 m0_1 m1_1 hE_2 (by decide +kernel)), (CT.ext (CT.ext gT hO m0 m1 hE_1 (by decide +kernel)) hO_1 m0_1 m1_1 hE_2 (by decide +kernel)), (CO.ext (CO.ext gO hO m0 m1 hE_1 (by decide +kernel)) hO_1 m0_1 m1_1 hE_2 (by decide +kernel)), (CM.ext (CM.ext gM hO m0 m1 hE_1 (by decide +kernel)) hO_1 m0_1 m1_1 hE_2 (by decide +kernel)), ad, (Ad.ext (Ad.ext gA hO m0 m1 hE_1 (by decide +kernel)) hO_1 m0_1 m1_1 hE_2 (by decide +kernel)), (K1.toT hq.2 ((hE_2.ei m1_1 (by decide +kernel)).trans (hE_1.ei m1 (by decide +kernel)))), (K2.mono (K2.extN (K2.extN g2 gA hO m0 m1 hE_1 (by decide +kernel)) (Ad.ext gA hO m0 m1 hE_1 (by decide +kernel)) hO_1 m0_1 m1_1 hE_2 (by decide +kernel)) (by omega) (Nat.le_refl _)), (K3.extT (K3.extT g3 gA hO m0 m1 hE_1 (by decide +kernel)) (Ad.ext gA hO m0 m1 hE_1 (by decide +kernel)) hO_1 m0_1 m1_1 hE_2 (by decide +kernel)), (K4.ext (K4.ext g4 gA hO m0 m1 hE_1 (by decide +kernel)) (Ad.ext gA hO m0 m1 hE_1 (by decide +kernel)) hO_1 m0_1 m1_1 hE_2 (by decide +kernel)), (K5.ext (K5.ext g5 gA hO m0 m1 hE_1 (by decide +kernel)) (Ad.ext gA hO m0 m1 hE_1 (by decide +kernel)) hO_1 m0_1 m1_1 hE_2 (by decide +kernel))⟩ hP hD hS hl
set_option maxHeartbeats 4000000 in
set_option maxRecDepth 100000 in
theorem law_case_11 {p : Program} {e : Env} {s : State} {m : MethodId} {below : List Frame} {meth : Method} {c : Code} (l : Launch) {b N : Nat} {xs : Nat → Int32} (C0 : lw_At p s m meth c b N xs) (hNN : N ≤ 3072) {dC : Nat → ClassId} {dI : Nat → Nat → Nat} {ct : Nat → ClassId} {q0 q1 : Nat} (hK : va_K (dC, dI) vwCl (TT ct) s) (hN : NW s) {adK adV : Nat → Nat} (hW0 : SW adK adV (fun q : Nat => s.heap.size ≤ q) s s.heap) {i cells slots : Nat} (hi : i + 6 ≤ N) (hc : cells + 60 ≤ 600000) (hs : slots + 3000 ≤ 7302250) (hgo : LGo p l e s m below meth c b dC dI ct q0 q1 i (i + 6) (cells + 60) (slots + 3000) 1259) : LGo p l e s m below meth c b dC dI ct q0 q1 i i cells slots 513 := by
  intro L f H locs ls hO m0 m1 hT hCp hP hD hS hl
  obtain ⟨gL, gT, gO, gM, ad, gA, g1, g2, g3, g4, g5⟩ := hCp
  obtain ⟨hx, hb, hr, hml, hown, hts, hX, hbl, hlocks, hgv⟩ := id C0
  have hA : ∀ q : Nat, s.heap.size ≤ q → (fun q : Nat => s.heap.size ≤ q) q := fun _ h => h
  have hbA : ¬ (fun q : Nat => s.heap.size ≤ q) b := Nat.not_le.mpr hbl
  have htb := fun w (h : w ∈ TB) => hts w (List.mem_filter.mp h).1
  refine lv_aload_n hx hb d_law_513 rfl (lv_at hl 2 rfl) ?_
  refine lv_aload_n hx hb d_law_514 rfl (lv_at hl 3 rfl) ?_
  refine lv_iload_n hx hb d_law_515 rfl (lv_at hl 0 rfl) ?_
  refine lv_iconst (v := 1) hx hb d_law_516 (by decide +kernel) ?_
  refine lv_iadd hx hb d_law_517 ?_
  refine hb_ti (nI (i + 1)) (nI_add i 1) ?_
  refine va_sld hx hb hX hbl hbA hS (i := nI (i + 1)) (vp_in_nI (by omega) (by omega)) d_law_518 ?_
  refine hb_ti (xs (i + 1)) (congrArg xs (nI_clamp (by omega))) ?_
  refine lv_aload_n hx hb d_law_519 rfl (lv_at hl 3 rfl) ?_
  refine lv_iload_n hx hb d_law_520 rfl (lv_at hl 0 rfl) ?_
  refine lv_iconst (v := 2) hx hb d_law_521 (by decide +kernel) ?_
  refine lv_iadd hx hb d_law_522 ?_
  refine hb_ti (nI (i + 2)) (nI_add i 2) ?_
  refine va_sld hx hb hX hbl hbA hS (i := nI (i + 2)) (vp_in_nI (by omega) (by omega)) d_law_523 ?_
  refine hb_ti (xs (i + 2)) (congrArg xs (nI_clamp (by omega))) ?_
  refine vp_callSi (va_Run.run (va_runV (As := [.int (xs (i + 1)), .int (xs (i + 2))]) (rest := []) ⟨hx, hb, hml, hown, htb⟩ (c_WM_man_t l dC dI ct L f hO q0 m0 (xs (i + 1)) (xs (i + 2))) (cwV 2 htb (gd_V tw_798 tw_799 tw_800 tw_26 tw_801) rfl rfl rfl (by decide +kernel) ⟨Nat.le_of_ble_eq_true rfl, Nat.le_of_ble_eq_true rfl⟩) ⟨pr_blind, tw_recv hK hP m0 rfl rfl, pr_pre hP hK hN⟩ rfl rfl hl.1 rfl (lv_room (Nat.le_of_ble_eq_true rfl)) d_law_524 ⟨(by show cells + 0 ≤ 600000; omega), (by show slots + 0 ≤ 7302250; omega)⟩)) (fun r_1 er_1 => ?_)
  refine lv_pop hx hb d_law_527 rfl ?_
  refine lv_aload_n hx hb d_law_528 rfl (lv_at hl 1 rfl) ?_
  refine lv_aload_n hx hb d_law_529 rfl (lv_at hl 3 rfl) ?_
  refine lv_iload_n hx hb d_law_530 rfl (lv_at hl 0 rfl) ?_
  refine lv_iconst (v := 1) hx hb d_law_531 (by decide +kernel) ?_
  refine lv_iadd hx hb d_law_532 ?_
  refine hb_ti (nI (i + 1)) (nI_add i 1) ?_
  refine va_sld hx hb hX hbl hbA hS (i := nI (i + 1)) (vp_in_nI (by omega) (by omega)) d_law_533 ?_
  refine hb_ti (xs (i + 1)) (congrArg xs (nI_clamp (by omega))) ?_
  refine lv_aload_n hx hb d_law_534 rfl (lv_at hl 3 rfl) ?_
  refine lv_iload_n hx hb d_law_535 rfl (lv_at hl 0 rfl) ?_
  refine lv_iconst (v := 2) hx hb d_law_536 (by decide +kernel) ?_
  refine lv_iadd hx hb d_law_537 ?_
  refine hb_ti (nI (i + 2)) (nI_add i 2) ?_
  refine va_sld hx hb hX hbl hbA hS (i := nI (i + 2)) (vp_in_nI (by omega) (by omega)) d_law_538 ?_
  refine hb_ti (xs (i + 2)) (congrArg xs (nI_clamp (by omega))) ?_
  refine vp_callSi (va_Run.run (va_runV (As := [.int (xs (i + 1)), .int (xs (i + 2))]) (rest := []) ⟨hx, hb, hml, hown, htb⟩ (c_Md_man_t l dC dI ct L f hO q1 m1 (xs (i + 1)) (xs (i + 2))) (cwV 2 htb (gd_V tw_802 tw_803 tw_804 tw_89 tw_805) rfl rfl rfl (by decide +kernel) ⟨Nat.le_of_ble_eq_true rfl, Nat.le_of_ble_eq_true rfl⟩) ⟨pr_blind, tw_recv hK hP m1 rfl rfl, pr_pre hP hK hN⟩ rfl rfl hl.1 rfl (lv_room (Nat.le_of_ble_eq_true rfl)) d_law_539 ⟨(by show cells + 0 ≤ 600000; omega), (by show slots + 0 ≤ 7302250; omega)⟩)) (fun r_2 er_2 => ?_)
  refine lv_pop hx hb d_law_542 rfl ?_
  refine lv_goto (tgt := 1259) hx hb d_law_543 (by decide) ?_
  refine W.widen (k := cells + 60) (n := slots + 3000) (by omega) (by omega) ?_
  exact hgo L f H locs ls hO m0 m1 hT ⟨gL, gT, gO, gM, ad, gA, g1, K2.mono g2 (by omega) (Nat.le_refl _), g3, g4, g5⟩ hP hD hS hl
set_option maxHeartbeats 4000000 in
set_option maxRecDepth 100000 in
theorem law_case_12 {p : Program} {e : Env} {s : State} {m : MethodId} {below : List Frame} {meth : Method} {c : Code} (l : Launch) {b N : Nat} {xs : Nat → Int32} (C0 : lw_At p s m meth c b N xs) (hNN : N ≤ 3072) {dC : Nat → ClassId} {dI : Nat → Nat → Nat} {ct : Nat → ClassId} {q0 q1 : Nat} (hK : va_K (dC, dI) vwCl (TT ct) s) (hN : NW s) {adK adV : Nat → Nat} (hW0 : SW adK adV (fun q : Nat => s.heap.size ≤ q) s s.heap) {i cells slots : Nat} (hi : i + 6 ≤ N) (hc : cells + 60 ≤ 600000) (hs : slots + 3000 ≤ 7302250) (hgo : LGo p l e s m below meth c b dC dI ct q0 q1 i (i + 6) (cells + 60) (slots + 3000) 1259) : LGo p l e s m below meth c b dC dI ct q0 q1 i i cells slots 546 := by
  intro L f H locs ls hO m0 m1 hT hCp hP hD hS hl
  obtain ⟨gL, gT, gO, gM, ad, gA, g1, g2, g3, g4, g5⟩ := hCp
  obtain ⟨hx, hb, hr, hml, hown, hts, hX, hbl, hlocks, hgv⟩ := id C0
  have hA : ∀ q : Nat, s.heap.size ≤ q → (fun q : Nat => s.heap.size ≤ q) q := fun _ h => h
  have hbA : ¬ (fun q : Nat => s.heap.size ≤ q) b := Nat.not_le.mpr hbl
  have htb := fun w (h : w ∈ TB) => hts w (List.mem_filter.mp h).1
  refine lv_aload_n hx hb d_law_546 rfl (lv_at hl 2 rfl) ?_
  refine lv_aload_n hx hb d_law_547 rfl (lv_at hl 3 rfl) ?_
  refine lv_iload_n hx hb d_law_548 rfl (lv_at hl 0 rfl) ?_
  refine lv_iconst (v := 1) hx hb d_law_549 (by decide +kernel) ?_
  refine lv_iadd hx hb d_law_550 ?_
  refine hb_ti (nI (i + 1)) (nI_add i 1) ?_
  refine va_sld hx hb hX hbl hbA hS (i := nI (i + 1)) (vp_in_nI (by omega) (by omega)) d_law_551 ?_
  refine hb_ti (xs (i + 1)) (congrArg xs (nI_clamp (by omega))) ?_
  refine lv_aload_n hx hb d_law_552 rfl (lv_at hl 3 rfl) ?_
  refine lv_iload_n hx hb d_law_553 rfl (lv_at hl 0 rfl) ?_
  refine lv_iconst (v := 2) hx hb d_law_554 (by decide +kernel) ?_
  refine lv_iadd hx hb d_law_555 ?_
  refine hb_ti (nI (i + 2)) (nI_add i 2) ?_
  refine va_sld hx hb hX hbl hbA hS (i := nI (i + 2)) (vp_in_nI (by omega) (by omega)) d_law_556 ?_
  refine hb_ti (xs (i + 2)) (congrArg xs (nI_clamp (by omega))) ?_
  have hFc := hb_free hD hS hA
  refine va_calli (va_runV (As := [.int (xs (i + 1)), .int (xs (i + 2))]) (rest := []) ⟨hx, hb, hml, hown, htb⟩ (c_WM_boat_w l dC dI ct L f hO q0 m0 _ (xs (i + 1)) (xs (i + 2)) _ (pr_boat hO m0 m1 gL gA g3 (xs (i + 1)) (xs (i + 2)))) (cwV 2 htb (gd_V tw_806 tw_807 tw_808 tw_26 tw_809) rfl rfl rfl (by decide +kernel) ⟨Nat.le_of_ble_eq_true rfl, Nat.le_of_ble_eq_true rfl⟩) ⟨pc_blind, tw_recv hK hP m0 rfl rfl, pc_pre hP hK hD hN⟩ rfl rfl hl.1 rfl (lv_room (Nat.le_of_ble_eq_true rfl)) d_law_557 ⟨(by show cells + 1 ≤ 600000; omega), (by show slots + 6 ≤ 7302250; omega)⟩) hS (fun q _ h => hFc q h) hFc (fun r_1 u t H locs ht hvm er_1 hB hz1 hk1 hS => ?_)
  obtain ⟨L_1, f_1⟩ := u
  obtain ⟨hO_1, hE_1, er_1, hq⟩ := er_1
  obtain ⟨hP, hK1, hD1⟩ := hB
  rw [ht] at hP
  have hP : va_P (dC, dI) vwCl (TW ct L_1 f_1) H := hP
  have hD : va_D (fun q : Nat => s.heap.size ≤ q) (TW ct L_1 f_1) := hD1.weaken (fun _ q _ h => hFc q.1 h)
  have hO_1 : Ok L_1 f_1 := hO_1
  have hE_1 : Ext W_WM_boat_w L f L_1 f_1 := hE_1
  clear hK1 hD1 ht hvm hz1 hk1
  have m0_1 := hE_1.m m0
  have m1_1 := hE_1.m m1
  have hT_1 : TInv f_1 q1 := TInv.ext hT hO m1 hE_1 (by decide +kernel)
  have hq := hq hO_1 m0_1 m1_1
  refine lv_pop hx hb d_law_560 rfl ?_
  refine lv_aload_n hx hb d_law_561 rfl (lv_at hl 1 rfl) ?_
  refine lv_aload_n hx hb d_law_562 rfl (lv_at hl 3 rfl) ?_
  refine lv_iload_n hx hb d_law_563 rfl (lv_at hl 0 rfl) ?_
  refine lv_iconst (v := 1) hx hb d_law_564 (by decide +kernel) ?_
  refine lv_iadd hx hb d_law_565 ?_
  refine hb_ti (nI (i + 1)) (nI_add i 1) ?_
  refine va_sld hx hb hX hbl hbA hS (i := nI (i + 1)) (vp_in_nI (by omega) (by omega)) d_law_566 ?_
  refine hb_ti (xs (i + 1)) (congrArg xs (nI_clamp (by omega))) ?_
  refine lv_aload_n hx hb d_law_567 rfl (lv_at hl 3 rfl) ?_
  refine lv_iload_n hx hb d_law_568 rfl (lv_at hl 0 rfl) ?_
  refine lv_iconst (v := 2) hx hb d_law_569 (by decide +kernel) ?_
  refine lv_iadd hx hb d_law_570 ?_
  refine hb_ti (nI (i + 2)) (nI_add i 2) ?_
  refine va_sld hx hb hX hbl hbA hS (i := nI (i + 2)) (vp_in_nI (by omega) (by omega)) d_law_571 ?_
  refine hb_ti (xs (i + 2)) (congrArg xs (nI_clamp (by omega))) ?_
  have hFc := hb_free hD hS hA
  refine va_calli (va_runV (As := [.int (xs (i + 1)), .int (xs (i + 2))]) (rest := []) ⟨hx, hb, hml, hown, htb⟩ (c_Md_boat_w l dC dI ct L_1 f_1 hO_1 q1 m1_1 _ (xs (i + 1)) (xs (i + 2)) _ (hq)) (cwV 2 htb (gd_V tw_810 tw_811 tw_812 tw_89 tw_813) rfl rfl rfl (by decide +kernel) ⟨Nat.le_of_ble_eq_true rfl, Nat.le_of_ble_eq_true rfl⟩) ⟨pc_blind, tw_recv hK hP m1_1 rfl rfl, pc_pre hP hK hD hN⟩ rfl rfl hl.1 rfl (lv_room (Nat.le_of_ble_eq_true rfl)) d_law_572 ⟨(by show cells + 1 + 0 ≤ 600000; omega), (by show slots + 6 + 0 ≤ 7302250; omega)⟩) hS (fun q _ h => hFc q h) hFc (fun r_2 u t H locs ht hvm er_2 hB hz1 hk1 hS => ?_)
  obtain ⟨L_2, f_2⟩ := u
  obtain ⟨hO_2, hE_2, er_2, hq⟩ := er_2
  obtain ⟨hP, hK1, hD1⟩ := hB
  rw [ht] at hP
  have hP : va_P (dC, dI) vwCl (TW ct L_2 f_2) H := hP
  have hD : va_D (fun q : Nat => s.heap.size ≤ q) (TW ct L_2 f_2) := hD1.weaken (fun _ q _ h => hFc q.1 h)
  have hO_2 : Ok L_2 f_2 := hO_2
  have hE_2 : Ext W_Md_boat_w L_1 f_1 L_2 f_2 := hE_2
  clear hK1 hD1 ht hvm hz1 hk1
  have m0_2 := hE_2.m m0_1
  have m1_2 := hE_2.m m1_1
  have hT_2 : TInv f_2 q1 := TInv.ext hT_1 hO_1 m1_1 hE_2 (by decide +kernel)
  have hq := hq hO_2
  refine lv_pop hx hb d_law_575 rfl ?_
  refine lv_goto (tgt := 1259) hx hb d_law_576 (by decide) ?_
  refine W.widen (k := cells + 60) (n := slots + 3000) (by omega) (by omega) ?_
  exact hgo L_2 f_2 H locs ls hO_2 m0_2 m1_2 hT_2 ⟨(Cpl.ext (Cpl.ext gL hO m0 m1 hE_1 (by decide +kernel)) hO_1 m0_1 m1_1 hE_2 (by decide +kernel)), (CT.ext (CT.ext gT hO m0 m1 hE_1 (by decide +kernel)) hO_1 m0_1 m1_1 hE_2 (by decide +kernel)), (CO.ext (CO.ext gO hO m0 m1 hE_1 (by decide +kernel)) hO_1 m0_1 m1_1 hE_2 (by decide +kernel)), (CM.ext (CM.ext gM hO m0 m1 hE_1 (by decide +kernel)) hO_1 m0_1 m1_1 hE_2 (by decide +kernel)), ad, (Ad.ext (Ad.ext gA hO m0 m1 hE_1 (by decide +kernel)) hO_1 m0_1 m1_1 hE_2 (by decide +kernel)), (K1.extT (K1.extT g1 gA hO m0 m1 hE_1 (by decide +kernel)) (Ad.ext gA hO m0 m1 hE_1 (by decide +kernel)) hO_1 m0_1 m1_1 hE_2 (by decide +kernel)), (K2.mono (K2.extN (K2.extN g2 gA hO m0 m1 hE_1 (by decide +kernel)) (Ad.ext gA hO m0 m1 hE_1 (by decide +kernel)) hO_1 m0_1 m1_1 hE_2 (by decide +kernel)) (by omega) (Nat.le_refl _)), (K3.toT hq.2 ((hE_2.ei m1_1 (by decide +kernel)).trans (hE_1.ei m1 (by decide +kernel))) ((hE_2.ei m1_1 (by decide +kernel)).trans (hE_1.ei m1 (by decide +kernel)))), (K4.ext (K4.ext g4 gA hO m0 m1 hE_1 (by decide +kernel)) (Ad.ext gA hO m0 m1 hE_1 (by decide +kernel)) hO_1 m0_1 m1_1 hE_2 (by decide +kernel)), (K5.ext (K5.ext g5 gA hO m0 m1 hE_1 (by decide +kernel)) (Ad.ext gA hO m0 m1 hE_1 (by decide +kernel)) hO_1 m0_1 m1_1 hE_2 (by decide +kernel))⟩ hP hD hS hl
set_option maxHeartbeats 4000000 in
set_option maxRecDepth 100000 in
theorem law_case_13 {p : Program} {e : Env} {s : State} {m : MethodId} {below : List Frame} {meth : Method} {c : Code} (l : Launch) {b N : Nat} {xs : Nat → Int32} (C0 : lw_At p s m meth c b N xs) (hNN : N ≤ 3072) {dC : Nat → ClassId} {dI : Nat → Nat → Nat} {ct : Nat → ClassId} {q0 q1 : Nat} (hK : va_K (dC, dI) vwCl (TT ct) s) (hN : NW s) {adK adV : Nat → Nat} (hW0 : SW adK adV (fun q : Nat => s.heap.size ≤ q) s s.heap) {i cells slots : Nat} (hi : i + 6 ≤ N) (hc : cells + 60 ≤ 600000) (hs : slots + 3000 ≤ 7302250) (hgo : LGo p l e s m below meth c b dC dI ct q0 q1 i (i + 6) (cells + 60) (slots + 3000) 1259) : LGo p l e s m below meth c b dC dI ct q0 q1 i i cells slots 579 := by
  intro L f H locs ls hO m0 m1 hT hCp hP hD hS hl
  obtain ⟨gL, gT, gO, gM, ad, gA, g1, g2, g3, g4, g5⟩ := hCp
  obtain ⟨hx, hb, hr, hml, hown, hts, hX, hbl, hlocks, hgv⟩ := id C0
  have hA : ∀ q : Nat, s.heap.size ≤ q → (fun q : Nat => s.heap.size ≤ q) q := fun _ h => h
  have hbA : ¬ (fun q : Nat => s.heap.size ≤ q) b := Nat.not_le.mpr hbl
  have htb := fun w (h : w ∈ TB) => hts w (List.mem_filter.mp h).1
  refine lv_aload_n hx hb d_law_579 rfl (lv_at hl 2 rfl) ?_
  refine lv_aload_n hx hb d_law_580 rfl (lv_at hl 3 rfl) ?_
  refine lv_iload_n hx hb d_law_581 rfl (lv_at hl 0 rfl) ?_
  refine lv_iconst (v := 1) hx hb d_law_582 (by decide +kernel) ?_
  refine lv_iadd hx hb d_law_583 ?_
  refine hb_ti (nI (i + 1)) (nI_add i 1) ?_
  refine va_sld hx hb hX hbl hbA hS (i := nI (i + 1)) (vp_in_nI (by omega) (by omega)) d_law_584 ?_
  refine hb_ti (xs (i + 1)) (congrArg xs (nI_clamp (by omega))) ?_
  refine lv_aload_n hx hb d_law_585 rfl (lv_at hl 3 rfl) ?_
  refine lv_iload_n hx hb d_law_586 rfl (lv_at hl 0 rfl) ?_
  refine lv_iconst (v := 2) hx hb d_law_587 (by decide +kernel) ?_
  refine lv_iadd hx hb d_law_588 ?_
  refine hb_ti (nI (i + 2)) (nI_add i 2) ?_
  refine va_sld hx hb hX hbl hbA hS (i := nI (i + 2)) (vp_in_nI (by omega) (by omega)) d_law_589 ?_
  refine hb_ti (xs (i + 2)) (congrArg xs (nI_clamp (by omega))) ?_
  refine vp_callSi (va_Run.run (va_runV (As := [.int (xs (i + 1)), .int (xs (i + 2))]) (rest := []) ⟨hx, hb, hml, hown, htb⟩ (c_WM_craft_w l dC dI ct L f hO q0 m0 (xs (i + 1)) (xs (i + 2)) _ (pr_craft gA (by rw [Cpl.time gL]; exact g3) (xs (i + 1)) (xs (i + 2)))) (cwV 2 htb (gd_V tw_814 tw_815 tw_816 tw_26 tw_817) rfl rfl rfl (by decide +kernel) ⟨Nat.le_of_ble_eq_true rfl, Nat.le_of_ble_eq_true rfl⟩) ⟨pr_blind, tw_recv hK hP m0 rfl rfl, pr_pre hP hK hN⟩ rfl rfl hl.1 rfl (lv_room (Nat.le_of_ble_eq_true rfl)) d_law_590 ⟨(by show cells + 0 ≤ 600000; omega), (by show slots + 0 ≤ 7302250; omega)⟩)) (fun r_1 er_1 => ?_)
  obtain ⟨er_1, hq⟩ := er_1
  refine lv_pop hx hb d_law_593 rfl ?_
  refine lv_aload_n hx hb d_law_594 rfl (lv_at hl 1 rfl) ?_
  refine lv_aload_n hx hb d_law_595 rfl (lv_at hl 3 rfl) ?_
  refine lv_iload_n hx hb d_law_596 rfl (lv_at hl 0 rfl) ?_
  refine lv_iconst (v := 1) hx hb d_law_597 (by decide +kernel) ?_
  refine lv_iadd hx hb d_law_598 ?_
  refine hb_ti (nI (i + 1)) (nI_add i 1) ?_
  refine va_sld hx hb hX hbl hbA hS (i := nI (i + 1)) (vp_in_nI (by omega) (by omega)) d_law_599 ?_
  refine hb_ti (xs (i + 1)) (congrArg xs (nI_clamp (by omega))) ?_
  refine lv_aload_n hx hb d_law_600 rfl (lv_at hl 3 rfl) ?_
  refine lv_iload_n hx hb d_law_601 rfl (lv_at hl 0 rfl) ?_
  refine lv_iconst (v := 2) hx hb d_law_602 (by decide +kernel) ?_
  refine lv_iadd hx hb d_law_603 ?_
  refine hb_ti (nI (i + 2)) (nI_add i 2) ?_
  refine va_sld hx hb hX hbl hbA hS (i := nI (i + 2)) (vp_in_nI (by omega) (by omega)) d_law_604 ?_
  refine hb_ti (xs (i + 2)) (congrArg xs (nI_clamp (by omega))) ?_
  refine vp_callSi (va_Run.run (va_runV (As := [.int (xs (i + 1)), .int (xs (i + 2))]) (rest := []) ⟨hx, hb, hml, hown, htb⟩ (c_Md_craft_w l dC dI ct L f hO q1 m1 (xs (i + 1)) (xs (i + 2)) _ (hq)) (cwV 2 htb (gd_V tw_818 tw_819 tw_820 tw_89 tw_821) rfl rfl rfl (by decide +kernel) ⟨Nat.le_of_ble_eq_true rfl, Nat.le_of_ble_eq_true rfl⟩) ⟨pr_blind, tw_recv hK hP m1 rfl rfl, pr_pre hP hK hN⟩ rfl rfl hl.1 rfl (lv_room (Nat.le_of_ble_eq_true rfl)) d_law_605 ⟨(by show cells + 0 ≤ 600000; omega), (by show slots + 0 ≤ 7302250; omega)⟩)) (fun r_2 er_2 => ?_)
  obtain ⟨er_2, hq⟩ := er_2
  refine lv_pop hx hb d_law_608 rfl ?_
  refine lv_goto (tgt := 1259) hx hb d_law_609 (by decide) ?_
  refine W.widen (k := cells + 60) (n := slots + 3000) (by omega) (by omega) ?_
  exact hgo L f H locs ls hO m0 m1 hT ⟨gL, gT, gO, gM, ad, gA, g1, K2.mono g2 (by omega) (Nat.le_refl _), g3, g4, g5⟩ hP hD hS hl
set_option maxHeartbeats 4000000 in
set_option maxRecDepth 100000 in
theorem law_case_14 {p : Program} {e : Env} {s : State} {m : MethodId} {below : List Frame} {meth : Method} {c : Code} (l : Launch) {b N : Nat} {xs : Nat → Int32} (C0 : lw_At p s m meth c b N xs) (hNN : N ≤ 3072) {dC : Nat → ClassId} {dI : Nat → Nat → Nat} {ct : Nat → ClassId} {q0 q1 : Nat} (hK : va_K (dC, dI) vwCl (TT ct) s) (hN : NW s) {adK adV : Nat → Nat} (hW0 : SW adK adV (fun q : Nat => s.heap.size ≤ q) s s.heap) {i cells slots : Nat} (hi : i + 6 ≤ N) (hc : cells + 60 ≤ 600000) (hs : slots + 3000 ≤ 7302250) (hgo : LGo p l e s m below meth c b dC dI ct q0 q1 i (i + 6) (cells + 60) (slots + 3000) 1259) : LGo p l e s m below meth c b dC dI ct q0 q1 i i cells slots 612 := by
  intro L f H locs ls hO m0 m1 hT hCp hP hD hS hl
  obtain ⟨gL, gT, gO, gM, ad, gA, g1, g2, g3, g4, g5⟩ := hCp
  obtain ⟨hx, hb, hr, hml, hown, hts, hX, hbl, hlocks, hgv⟩ := id C0
  have hA : ∀ q : Nat, s.heap.size ≤ q → (fun q : Nat => s.heap.size ≤ q) q := fun _ h => h
  have hbA : ¬ (fun q : Nat => s.heap.size ≤ q) b := Nat.not_le.mpr hbl
  have htb := fun w (h : w ∈ TB) => hts w (List.mem_filter.mp h).1
  refine lv_aload_n hx hb d_law_612 rfl (lv_at hl 2 rfl) ?_
  refine lv_aload_n hx hb d_law_613 rfl (lv_at hl 3 rfl) ?_
  refine lv_iload_n hx hb d_law_614 rfl (lv_at hl 0 rfl) ?_
  refine lv_iconst (v := 1) hx hb d_law_615 (by decide +kernel) ?_
  refine lv_iadd hx hb d_law_616 ?_
  refine hb_ti (nI (i + 1)) (nI_add i 1) ?_
  refine va_sld hx hb hX hbl hbA hS (i := nI (i + 1)) (vp_in_nI (by omega) (by omega)) d_law_617 ?_
  refine hb_ti (xs (i + 1)) (congrArg xs (nI_clamp (by omega))) ?_
  refine lv_aload_n hx hb d_law_618 rfl (lv_at hl 3 rfl) ?_
  refine lv_iload_n hx hb d_law_619 rfl (lv_at hl 0 rfl) ?_
  refine lv_iconst (v := 2) hx hb d_law_620 (by decide +kernel) ?_
  refine lv_iadd hx hb d_law_621 ?_
  refine hb_ti (nI (i + 2)) (nI_add i 2) ?_
  refine va_sld hx hb hX hbl hbA hS (i := nI (i + 2)) (vp_in_nI (by omega) (by omega)) d_law_622 ?_
  refine hb_ti (xs (i + 2)) (congrArg xs (nI_clamp (by omega))) ?_
  have hFc := hb_free hD hS hA
  refine va_calli (va_runV (As := [.int (xs (i + 1)), .int (xs (i + 2))]) (rest := []) ⟨hx, hb, hml, hown, htb⟩ (c_WM_join_w l dC dI ct L f hO q0 m0 _ (xs (i + 1)) (xs (i + 2)) _ (pr_join hO m0 m1 gL gA g1 g2 (fun m hm => by rw [Cpl.time gL]; exact K3.way g3 hm) (by omega) (xs (i + 1)) (xs (i + 2)))) (cwV 2 htb (gd_V tw_822 tw_823 tw_824 tw_26 tw_825) rfl rfl rfl (by decide +kernel) ⟨Nat.le_of_ble_eq_true rfl, Nat.le_of_ble_eq_true rfl⟩) ⟨pc_blind, tw_recv hK hP m0 rfl rfl, pc_pre hP hK hD hN⟩ rfl rfl hl.1 rfl (lv_room (Nat.le_of_ble_eq_true rfl)) d_law_623 ⟨(by show cells + 0 ≤ 600000; omega), (by show slots + 0 ≤ 7302250; omega)⟩) hS (fun q _ h => hFc q h) hFc (fun r_1 u t H locs ht hvm er_1 hB hz1 hk1 hS => ?_)
  obtain ⟨L_1, f_1⟩ := u
  obtain ⟨hO_1, hE_1, er_1, hq⟩ := er_1
  obtain ⟨hP, hK1, hD1⟩ := hB
  rw [ht] at hP
  have hP : va_P (dC, dI) vwCl (TW ct L_1 f_1) H := hP
  have hD : va_D (fun q : Nat => s.heap.size ≤ q) (TW ct L_1 f_1) := hD1.weaken (fun _ q _ h => hFc q.1 h)
  have hO_1 : Ok L_1 f_1 := hO_1
  have hE_1 : Ext W_WM_join_w L f L_1 f_1 := hE_1
  clear hK1 hD1 ht hvm hz1 hk1
  have m0_1 := hE_1.m m0
  have m1_1 := hE_1.m m1
  have hT_1 : TInv f_1 q1 := TInv.ext hT hO m1 hE_1 (by decide +kernel)
  have hq := hq hO_1 m0_1 m1_1
  refine lv_pop hx hb d_law_626 rfl ?_
  refine lv_aload_n hx hb d_law_627 rfl (lv_at hl 1 rfl) ?_
  refine lv_aload_n hx hb d_law_628 rfl (lv_at hl 3 rfl) ?_
  refine lv_iload_n hx hb d_law_629 rfl (lv_at hl 0 rfl) ?_
  refine lv_iconst (v := 1) hx hb d_law_630 (by decide +kernel) ?_
  refine lv_iadd hx hb d_law_631 ?_
  refine hb_ti (nI (i + 1)) (nI_add i 1) ?_
  refine va_sld hx hb hX hbl hbA hS (i := nI (i + 1)) (vp_in_nI (by omega) (by omega)) d_law_632 ?_
  refine hb_ti (xs (i + 1)) (congrArg xs (nI_clamp (by omega))) ?_
  refine lv_aload_n hx hb d_law_633 rfl (lv_at hl 3 rfl) ?_
  refine lv_iload_n hx hb d_law_634 rfl (lv_at hl 0 rfl) ?_
  refine lv_iconst (v := 2) hx hb d_law_635 (by decide +kernel) ?_
  refine lv_iadd hx hb d_law_636 ?_
  refine hb_ti (nI (i + 2)) (nI_add i 2) ?_
  refine va_sld hx hb hX hbl hbA hS (i := nI (i + 2)) (vp_in_nI (by omega) (by omega)) d_law_637 ?_
  refine hb_ti (xs (i + 2)) (congrArg xs (nI_clamp (by omega))) ?_
  have hFc := hb_free hD hS hA
  refine va_calli (va_runV (As := [.int (xs (i + 1)), .int (xs (i + 2))]) (rest := []) ⟨hx, hb, hml, hown, htb⟩ (c_Md_join_w l dC dI ct L_1 f_1 hO_1 q1 m1_1 hT_1 _ (xs (i + 1)) (xs (i + 2)) _ (hq)) (cwV 2 htb (gd_V tw_826 tw_827 tw_828 tw_89 tw_829) rfl rfl rfl (by decide +kernel) ⟨Nat.le_of_ble_eq_true rfl, Nat.le_of_ble_eq_true rfl⟩) ⟨pc_blind, tw_recv hK hP m1_1 rfl rfl, pc_pre hP hK hD hN⟩ rfl rfl hl.1 rfl (lv_room (Nat.le_of_ble_eq_true rfl)) d_law_638 ⟨(by show cells + 0 ≤ 600000; omega), (by show slots + 0 ≤ 7302250; omega)⟩) hS (fun q _ h => hFc q h) hFc (fun r_2 u t H locs ht hvm er_2 hB hz1 hk1 hS => ?_)
  obtain ⟨L_2, f_2⟩ := u
  obtain ⟨hO_2, hE_2, hT_2, er_2, hq⟩ := er_2
  obtain ⟨hP, hK1, hD1⟩ := hB
  rw [ht] at hP
  have hP : va_P (dC, dI) vwCl (TW ct L_2 f_2) H := hP
  have hD : va_D (fun q : Nat => s.heap.size ≤ q) (TW ct L_2 f_2) := hD1.weaken (fun _ q _ h => hFc q.1 h)
  have hO_2 : Ok L_2 f_2 := hO_2
  have hE_2 : Ext W_Md_join_w L_1 f_1 L_2 f_2 := hE_2
  clear hK1 hD1 ht hvm hz1 hk1
  have m0_2 := hE_2.m m0_1
  have m1_2 := hE_2.m m1_1
  have hT_2 : TInv f_2 q1 := hT_2
  have hq := hq hO_2
  refine lv_pop hx hb d_law_641 rfl ?_
  refine lv_goto (tgt := 1259) hx hb d_law_642 (by decide) ?_
  refine W.widen (k := cells + 60) (n := slots + 3000) (by omega) (by omega) ?_
  exact hgo L_2 f_2 H locs ls hO_2 m0_2 m1_2 hT_2 ⟨(Cpl.ext (Cpl.ext gL hO m0 m1 hE_1 (by decide +kernel)) hO_1 m0_1 m1_1 hE_2 (by decide +kernel)), (CT.ext (CT.ext gT hO m0 m1 hE_1 (by decide +kernel)) hO_1 m0_1 m1_1 hE_2 (by decide +kernel)), (CO.ext (CO.ext gO hO m0 m1 hE_1 (by decide +kernel)) hO_1 m0_1 m1_1 hE_2 (by decide +kernel)), (CM.ext (CM.ext gM hO m0 m1 hE_1 (by decide +kernel)) hO_1 m0_1 m1_1 hE_2 (by decide +kernel)), ad, (Ad.ext (Ad.ext gA hO m0 m1 hE_1 (by decide +kernel)) hO_1 m0_1 m1_1 hE_2 (by decide +kernel)), (K1.extT (K1.extT g1 gA hO m0 m1 hE_1 (by decide +kernel)) (Ad.ext gA hO m0 m1 hE_1 (by decide +kernel)) hO_1 m0_1 m1_1 hE_2 (by decide +kernel)), (K2.mono (K2.toN hq.2 ((hE_2.ei m1_1 (by decide +kernel)).trans (hE_1.ei m1 (by decide +kernel)))) (by omega) (Nat.le_refl _)), (K3.extT (K3.extT g3 gA hO m0 m1 hE_1 (by decide +kernel)) (Ad.ext gA hO m0 m1 hE_1 (by decide +kernel)) hO_1 m0_1 m1_1 hE_2 (by decide +kernel)), (K4.ext (K4.ext g4 gA hO m0 m1 hE_1 (by decide +kernel)) (Ad.ext gA hO m0 m1 hE_1 (by decide +kernel)) hO_1 m0_1 m1_1 hE_2 (by decide +kernel)), (K5.ext (K5.ext g5 gA hO m0 m1 hE_1 (by decide +kernel)) (Ad.ext gA hO m0 m1 hE_1 (by decide +kernel)) hO_1 m0_1 m1_1 hE_2 (by decide +kernel))⟩ hP hD hS hl
set_option maxHeartbeats 4000000 in
set_option maxRecDepth 100000 in
theorem law_case_15 {p : Program} {e : Env} {s : State} {m : MethodId} {below : List Frame} {meth : Method} {c : Code} (l : Launch) {b N : Nat} {xs : Nat → Int32} (C0 : lw_At p s m meth c b N xs) (hNN : N ≤ 3072) {dC : Nat → ClassId} {dI : Nat → Nat → Nat} {ct : Nat → ClassId} {q0 q1 : Nat} (hK : va_K (dC, dI) vwCl (TT ct) s) (hN : NW s) {adK adV : Nat → Nat} (hW0 : SW adK adV (fun q : Nat => s.heap.size ≤ q) s s.heap) {i cells slots : Nat} (hi : i + 6 ≤ N) (hc : cells + 60 ≤ 600000) (hs : slots + 3000 ≤ 7302250) (hgo : LGo p l e s m below meth c b dC dI ct q0 q1 i (i + 6) (cells + 60) (slots + 3000) 1259) : LGo p l e s m below meth c b dC dI ct q0 q1 i i cells slots 645 := by
  intro L f H locs ls hO m0 m1 hT hCp hP hD hS hl
  obtain ⟨gL, gT, gO, gM, ad, gA, g1, g2, g3, g4, g5⟩ := hCp
  obtain ⟨hx, hb, hr, hml, hown, hts, hX, hbl, hlocks, hgv⟩ := id C0
  have hA : ∀ q : Nat, s.heap.size ≤ q → (fun q : Nat => s.heap.size ≤ q) q := fun _ h => h
  have hbA : ¬ (fun q : Nat => s.heap.size ≤ q) b := Nat.not_le.mpr hbl
  have htb := fun w (h : w ∈ TB) => hts w (List.mem_filter.mp h).1
  refine lv_aload_n hx hb d_law_645 rfl (lv_at hl 2 rfl) ?_
  refine lv_aload_n hx hb d_law_646 rfl (lv_at hl 3 rfl) ?_
  refine lv_iload_n hx hb d_law_647 rfl (lv_at hl 0 rfl) ?_
  refine lv_iconst (v := 1) hx hb d_law_648 (by decide +kernel) ?_
  refine lv_iadd hx hb d_law_649 ?_
  refine hb_ti (nI (i + 1)) (nI_add i 1) ?_
  refine va_sld hx hb hX hbl hbA hS (i := nI (i + 1)) (vp_in_nI (by omega) (by omega)) d_law_650 ?_
  refine hb_ti (xs (i + 1)) (congrArg xs (nI_clamp (by omega))) ?_
  have hFc := hb_free hD hS hA
  refine va_calli (va_runV (As := [.int (xs (i + 1))]) (rest := []) ⟨hx, hb, hml, hown, htb⟩ (c_WM_leave_w l dC dI ct L f hO q0 m0 _ (xs (i + 1)) _ (pr_leave hO m0 m1 gA g2 (xs (i + 1)))) (cwV 1 htb (gd_V tw_830 tw_831 tw_832 tw_26 tw_833) rfl rfl rfl (by decide +kernel) ⟨Nat.le_of_ble_eq_true rfl, Nat.le_of_ble_eq_true rfl⟩) ⟨pc_blind, tw_recv hK hP m0 rfl rfl, pc_pre hP hK hD hN⟩ rfl rfl hl.1 rfl (lv_room (Nat.le_of_ble_eq_true rfl)) d_law_651 ⟨(by show cells + 0 ≤ 600000; omega), (by show slots + 0 ≤ 7302250; omega)⟩) hS (fun q _ h => hFc q h) hFc (fun r_1 u t H locs ht hvm er_1 hB hz1 hk1 hS => ?_)
  obtain ⟨L_1, f_1⟩ := u
  obtain ⟨hO_1, hE_1, er_1, hq⟩ := er_1
  obtain ⟨hP, hK1, hD1⟩ := hB
  rw [ht] at hP
  have hP : va_P (dC, dI) vwCl (TW ct L_1 f_1) H := hP
  have hD : va_D (fun q : Nat => s.heap.size ≤ q) (TW ct L_1 f_1) := hD1.weaken (fun _ q _ h => hFc q.1 h)
  have hO_1 : Ok L_1 f_1 := hO_1
  have hE_1 : Ext W_WM_leave_w L f L_1 f_1 := hE_1
  clear hK1 hD1 ht hvm hz1 hk1
  have m0_1 := hE_1.m m0
  have m1_1 := hE_1.m m1
  have hT_1 : TInv f_1 q1 := TInv.ext hT hO m1 hE_1 (by decide +kernel)
  have hq := hq hO_1 m0_1 m1_1
  refine lv_pop hx hb d_law_654 rfl ?_
  refine lv_aload_n hx hb d_law_655 rfl (lv_at hl 1 rfl) ?_
  refine lv_aload_n hx hb d_law_656 rfl (lv_at hl 3 rfl) ?_
  refine lv_iload_n hx hb d_law_657 rfl (lv_at hl 0 rfl) ?_
  refine lv_iconst (v := 1) hx hb d_law_658 (by decide +kernel) ?_
  refine lv_iadd hx hb d_law_659 ?_
  refine hb_ti (nI (i + 1)) (nI_add i 1) ?_
  refine va_sld hx hb hX hbl hbA hS (i := nI (i + 1)) (vp_in_nI (by omega) (by omega)) d_law_660 ?_
  refine hb_ti (xs (i + 1)) (congrArg xs (nI_clamp (by omega))) ?_
  have hFc := hb_free hD hS hA
  refine va_calli (va_runV (As := [.int (xs (i + 1))]) (rest := []) ⟨hx, hb, hml, hown, htb⟩ (c_Md_leave_w l dC dI ct L_1 f_1 hO_1 q1 m1_1 hT_1 _ (xs (i + 1)) _ (hq)) (cwV 1 htb (gd_V tw_834 tw_835 tw_836 tw_89 tw_837) rfl rfl rfl (by decide +kernel) ⟨Nat.le_of_ble_eq_true rfl, Nat.le_of_ble_eq_true rfl⟩) ⟨pc_blind, tw_recv hK hP m1_1 rfl rfl, pc_pre hP hK hD hN⟩ rfl rfl hl.1 rfl (lv_room (Nat.le_of_ble_eq_true rfl)) d_law_661 ⟨(by show cells + 0 ≤ 600000; omega), (by show slots + 0 ≤ 7302250; omega)⟩) hS (fun q _ h => hFc q h) hFc (fun r_2 u t H locs ht hvm er_2 hB hz1 hk1 hS => ?_)
  obtain ⟨L_2, f_2⟩ := u
  obtain ⟨hO_2, hE_2, hT_2, er_2, hq⟩ := er_2
  obtain ⟨hP, hK1, hD1⟩ := hB
  rw [ht] at hP
  have hP : va_P (dC, dI) vwCl (TW ct L_2 f_2) H := hP
  have hD : va_D (fun q : Nat => s.heap.size ≤ q) (TW ct L_2 f_2) := hD1.weaken (fun _ q _ h => hFc q.1 h)
  have hO_2 : Ok L_2 f_2 := hO_2
  have hE_2 : Ext W_Md_leave_w L_1 f_1 L_2 f_2 := hE_2
  clear hK1 hD1 ht hvm hz1 hk1
  have m0_2 := hE_2.m m0_1
  have m1_2 := hE_2.m m1_1
  have hT_2 : TInv f_2 q1 := hT_2
  have hq := hq hO_2
  refine lv_pop hx hb d_law_664 rfl ?_
  refine lv_goto (tgt := 1259) hx hb d_law_665 (by decide) ?_
  refine W.widen (k := cells + 60) (n := slots + 3000) (by omega) (by omega) ?_
  exact hgo L_2 f_2 H locs ls hO_2 m0_2 m1_2 hT_2 ⟨(Cpl.ext (Cpl.ext gL hO m0 m1 hE_1 (by decide +kernel)) hO_1 m0_1 m1_1 hE_2 (by decide +kernel)), (CT.ext (CT.ext gT hO m0 m1 hE_1 (by decide +kernel)) hO_1 m0_1 m1_1 hE_2 (by decide +kernel)), (CO.ext (CO.ext gO hO m0 m1 hE_1 (by decide +kernel)) hO_1 m0_1 m1_1 hE_2 (by decide +kernel)), (CM.ext (CM.ext gM hO m0 m1 hE_1 (by decide +kernel)) hO_1 m0_1 m1_1 hE_2 (by decide +kernel)), ad, (Ad.ext (Ad.ext gA hO m0 m1 hE_1 (by decide +kernel)) hO_1 m0_1 m1_1 hE_2 (by decide +kernel)), (K1.extT (K1.extT g1 gA hO m0 m1 hE_1 (by decide +kernel)) (Ad.ext gA hO m0 m1 hE_1 (by decide +kernel)) hO_1 m0_1 m1_1 hE_2 (by decide +kernel)), (K2.mono (K2.toN hq.2 ((hE_2.ei m1_1 (by decide +kernel)).trans (hE_1.ei m1 (by decide +kernel)))) (by omega) (Nat.le_refl _)), (K3.extT (K3.extT g3 gA hO m0 m1 hE_1 (by decide +kernel)) (Ad.ext gA hO m0 m1 hE_1 (by decide +kernel)) hO_1 m0_1 m1_1 hE_2 (by decide +kernel)), (K4.ext (K4.ext g4 gA hO m0 m1 hE_1 (by decide +kernel)) (Ad.ext gA hO m0 m1 hE_1 (by decide +kernel)) hO_1 m0_1 m1_1 hE_2 (by decide +kernel)), (K5.ext (K5.ext g5 gA hO m0 m1 hE_1 (by decide +kernel)) (Ad.ext gA hO m0 m1 hE_1 (by decide +kernel)) hO_1 m0_1 m1_1 hE_2 (by decide +kernel))⟩ hP hD hS hl
set_option maxHeartbeats 4000000 in
set_option maxRecDepth 100000 in
theorem law_case_16 {p : Program} {e : Env} {s : State} {m : MethodId} {below : List Frame} {meth : Method} {c : Code} (l : Launch) {b N : Nat} {xs : Nat → Int32} (C0 : lw_At p s m meth c b N xs) (hNN : N ≤ 3072) {dC : Nat → ClassId} {dI : Nat → Nat → Nat} {ct : Nat → ClassId} {q0 q1 : Nat} (hK : va_K (dC, dI) vwCl (TT ct) s) (hN : NW s) {adK adV : Nat → Nat} (hW0 : SW adK adV (fun q : Nat => s.heap.size ≤ q) s s.heap) {i cells slots : Nat} (hi : i + 6 ≤ N) (hc : cells + 60 ≤ 600000) (hs : slots + 3000 ≤ 7302250) (hgo : LGo p l e s m below meth c b dC dI ct q0 q1 i (i + 6) (cells + 60) (slots + 3000) 1259) : LGo p l e s m below meth c b dC dI ct q0 q1 i i cells slots 668 := by
  intro L f H locs ls hO m0 m1 hT hCp hP hD hS hl
  obtain ⟨gL, gT, gO, gM, ad, gA, g1, g2, g3, g4, g5⟩ := hCp
  obtain ⟨hx, hb, hr, hml, hown, hts, hX, hbl, hlocks, hgv⟩ := id C0
  have hA : ∀ q : Nat, s.heap.size ≤ q → (fun q : Nat => s.heap.size ≤ q) q := fun _ h => h
  have hbA : ¬ (fun q : Nat => s.heap.size ≤ q) b := Nat.not_le.mpr hbl
  have htb := fun w (h : w ∈ TB) => hts w (List.mem_filter.mp h).1
  refine lv_aload_n hx hb d_law_668 rfl (lv_at hl 2 rfl) ?_
  refine lv_aload_n hx hb d_law_669 rfl (lv_at hl 3 rfl) ?_
  refine lv_iload_n hx hb d_law_670 rfl (lv_at hl 0 rfl) ?_
  refine lv_iconst (v := 1) hx hb d_law_671 (by decide +kernel) ?_
  refine lv_iadd hx hb d_law_672 ?_
  refine hb_ti (nI (i + 1)) (nI_add i 1) ?_
  refine va_sld hx hb hX hbl hbA hS (i := nI (i + 1)) (vp_in_nI (by omega) (by omega)) d_law_673 ?_
  refine hb_ti (xs (i + 1)) (congrArg xs (nI_clamp (by omega))) ?_
  refine lv_aload_n hx hb d_law_674 rfl (lv_at hl 3 rfl) ?_
  refine lv_iload_n hx hb d_law_675 rfl (lv_at hl 0 rfl) ?_
  refine lv_iconst (v := 2) hx hb d_law_676 (by decide +kernel) ?_
  refine lv_iadd hx hb d_law_677 ?_
  refine hb_ti (nI (i + 2)) (nI_add i 2) ?_
  refine va_sld hx hb hX hbl hbA hS (i := nI (i + 2)) (vp_in_nI (by omega) (by omega)) d_law_678 ?_
  refine hb_ti (xs (i + 2)) (congrArg xs (nI_clamp (by omega))) ?_
  refine lv_aload_n hx hb d_law_679 rfl (lv_at hl 3 rfl) ?_
  refine lv_iload_n hx hb d_law_680 rfl (lv_at hl 0 rfl) ?_
  refine lv_iconst (v := 3) hx hb d_law_681 (by decide +kernel) ?_
  refine lv_iadd hx hb d_law_682 ?_
  refine hb_ti (nI (i + 3)) (nI_add i 3) ?_
  refine va_sld hx hb hX hbl hbA hS (i := nI (i + 3)) (vp_in_nI (by omega) (by omega)) d_law_683 ?_
  refine hb_ti (xs (i + 3)) (congrArg xs (nI_clamp (by omega))) ?_
  refine lv_aload_n hx hb d_law_684 rfl (lv_at hl 3 rfl) ?_
  refine lv_iload_n hx hb d_law_685 rfl (lv_at hl 0 rfl) ?_
  refine lv_iconst (v := 4) hx hb d_law_686 (by decide +kernel) ?_
  refine lv_iadd hx hb d_law_687 ?_
  refine hb_ti (nI (i + 4)) (nI_add i 4) ?_
  refine va_sld hx hb hX hbl hbA hS (i := nI (i + 4)) (vp_in_nI (by omega) (by omega)) d_law_688 ?_
  refine hb_ti (xs (i + 4)) (congrArg xs (nI_clamp (by omega))) ?_
  refine lv_aload_n hx hb d_law_689 rfl (lv_at hl 3 rfl) ?_
  refine lv_iload_n hx hb d_law_690 rfl (lv_at hl 0 rfl) ?_
  refine lv_iconst (v := 5) hx hb d_law_691 (by decide +kernel) ?_
  refine lv_iadd hx hb d_law_692 ?_
  refine hb_ti (nI (i + 5)) (nI_add i 5) ?_
  refine va_sld hx hb hX hbl hbA hS (i := nI (i + 5)) (vp_in_nI (by omega) (by omega)) d_law_693 ?_
  refine hb_ti (xs (i + 5)) (congrArg xs (nI_clamp (by omega))) ?_
  have hFc := hb_free hD hS hA
  refine va_calli (va_runV (As := [.int (xs (i + 1)), .int (xs (i + 2)), .int (xs (i + 3)), .int (xs (i + 4)), .int (xs (i + 5))]) (rest := []) ⟨hx, hb, hml, hown, htb⟩ (c_WM_feed_w l dC dI ct L f hO q0 m0 _ (xs (i + 1)) (xs (i + 2)) (xs (i + 3)) (xs (i + 4)) (xs (i + 5)) _ (pr_feed hO m0 m1 gT (xs (i + 1)) (xs (i + 2)) (xs (i + 3)) (xs (i + 4)) (xs (i + 5)))) (cwV 5 htb (gd_V tw_838 tw_839 tw_840 tw_26 tw_841) rfl rfl rfl (by decide +kernel) ⟨Nat.le_of_ble_eq_true rfl, Nat.le_of_ble_eq_true rfl⟩) ⟨pc_blind, tw_recv hK hP m0 rfl rfl, pc_pre hP hK hD hN⟩ rfl rfl hl.1 rfl (lv_room (Nat.le_of_ble_eq_true rfl)) d_law_694 ⟨(by show cells + 0 ≤ 600000; omega), (by show slots + 0 ≤ 7302250; omega)⟩) hS (fun q _ h => hFc q h) hFc (fun r_1 u t H locs ht hvm er_1 hB hz1 hk1 hS => ?_)
  obtain ⟨L_1, f_1⟩ := u
  obtain ⟨hO_1, hE_1, er_1, hq⟩ := er_1
  obtain ⟨hP, hK1, hD1⟩ := hB
  rw [ht] at hP
  have hP : va_P (dC, dI) vwCl (TW ct L_1 f_1) H := hP
  have hD : va_D (fun q : Nat => s.heap.size ≤ q) (TW ct L_1 f_1) := hD1.weaken (fun _ q _ h => hFc q.1 h)
  have hO_1 : Ok L_1 f_1 := hO_1
  have hE_1 : Ext W_WM_feed_w L f L_1 f_1 := hE_1
  clear hK1 hD1 ht hvm hz1 hk1
  have m0_1 := hE_1.m m0
  have m1_1 := hE_1.m m1
  have hT_1 : TInv f_1 q1 := TInv.ext hT hO m1 hE_1 (by decide +kernel)
  have hq := hq hO_1 m0_1 m1_1
  refine lv_pop hx hb d_law_697 rfl ?_
  refine lv_aload_n hx hb d_law_698 rfl (lv_at hl 1 rfl) ?_
  refine lv_aload_n hx hb d_law_699 rfl (lv_at hl 3 rfl) ?_
  refine lv_iload_n hx hb d_law_700 rfl (lv_at hl 0 rfl) ?_
  refine lv_iconst (v := 1) hx hb d_law_701 (by decide +kernel) ?_
  refine lv_iadd hx hb d_law_702 ?_
  refine hb_ti (nI (i + 1)) (nI_add i 1) ?_
  refine va_sld hx hb hX hbl hbA hS (i := nI (i + 1)) (vp_in_nI (by omega) (by omega)) d_law_703 ?_
  refine hb_ti (xs (i + 1)) (congrArg xs (nI_clamp (by omega))) ?_
  refine lv_aload_n hx hb d_law_704 rfl (lv_at hl 3 rfl) ?_
  refine lv_iload_n hx hb d_law_705 rfl (lv_at hl 0 rfl) ?_
  refine lv_iconst (v := 2) hx hb d_law_706 (by decide +kernel) ?_
  refine lv_iadd hx hb d_law_707 ?_
  refine hb_ti (nI (i + 2)) (nI_add i 2) ?_
  refine va_sld hx hb hX hbl hbA hS (i := nI (i + 2)) (vp_in_nI (by omega) (by omega)) d_law_708 ?_
  refine hb_ti (xs (i + 2)) (congrArg xs (nI_clamp (by omega))) ?_
  refine lv_aload_n hx hb d_law_709 rfl (lv_at hl 3 rfl) ?_
  refine lv_iload_n hx hb d_law_710 rfl (lv_at hl 0 rfl) ?_
  refine lv_iconst (v := 3) hx hb d_law_711 (by decide +kernel) ?_
  refine lv_iadd hx hb d_law_712 ?_
  refine hb_ti (nI (i + 3)) (nI_add i 3) ?_
  refine va_sld hx hb hX hbl hbA hS (i := nI (i + 3)) (vp_in_nI (by omega) (by omega)) d_law_713 ?_
  refine hb_ti (xs (i + 3)) (congrArg xs (nI_clamp (by omega))) ?_
  refine lv_aload_n hx hb d_law_714 rfl (lv_at hl 3 rfl) ?_
  refine lv_iload_n hx hb d_law_715 rfl (lv_at hl 0 rfl) ?_
  refine lv_iconst (v := 4) hx hb d_law_716 (by decide +kernel) ?_
  refine lv_iadd hx hb d_law_717 ?_
  refine hb_ti (nI (i + 4)) (nI_add i 4) ?_
  refine va_sld hx hb hX hbl hbA hS (i := nI (i + 4)) (vp_in_nI (by omega) (by omega)) d_law_718 ?_
  refine hb_ti (xs (i + 4)) (congrArg xs (nI_clamp (by omega))) ?_
  refine lv_aload_n hx hb d_law_719 rfl (lv_at hl 3 rfl) ?_
  refine lv_iload_n hx hb d_law_720 rfl (lv_at hl 0 rfl) ?_
  refine lv_iconst (v := 5) hx hb d_law_721 (by decide +kernel) ?_
  refine lv_iadd hx hb d_law_722 ?_
  refine hb_ti (nI (i + 5)) (nI_add i 5) ?_
  refine va_sld hx hb hX hbl hbA hS (i := nI (i + 5)) (vp_in_nI (by omega) (by omega)) d_law_723 ?_
  refine hb_ti (xs (i + 5)) (congrArg xs (nI_clamp (by omega))) ?_
  have hFc := hb_free hD hS hA
  refine va_calli (va_runV (As := [.int (xs (i + 1)), .int (xs (i + 2)), .int (xs (i + 3)), .int (xs (i + 4)), .int (xs (i + 5))]) (rest := []) ⟨hx, hb, hml, hown, htb⟩ (c_Md_feed_w l dC dI ct L_1 f_1 hO_1 q1 m1_1 _ (xs (i + 1)) (xs (i + 2)) (xs (i + 3)) (xs (i + 4)) (xs (i + 5)) _ (hq)) (cwV 5 htb (gd_V tw_842 tw_843 tw_844 tw_89 tw_845) rfl rfl rfl (by decide +kernel) ⟨Nat.le_of_ble_eq_true rfl, Nat.le_of_ble_eq_true rfl⟩) ⟨pc_blind, tw_recv hK hP m1_1 rfl rfl, pc_pre hP hK hD hN⟩ rfl rfl hl.1 rfl (lv_room (Nat.le_of_ble_eq_true rfl)) d_law_724 ⟨(by show cells + 0 ≤ 600000; omega), (by show slots + 0 ≤ 7302250; omega)⟩) hS (fun q _ h => hFc q h) hFc (fun r_2 u t H locs ht hvm er_2 hB hz1 hk1 hS => ?_)
  obtain ⟨L_2, f_2⟩ := u
  obtain ⟨hO_2, hE_2, er_2, hq⟩ := er_2
  obtain ⟨hP, hK1, hD1⟩ := hB
  rw [ht] at hP
  have hP : va_P (dC, dI) vwCl (TW ct L_2 f_2) H := hP
  have hD : va_D (fun q : Nat => s.heap.size ≤ q) (TW ct L_2 f_2) := hD1.weaken (fun _ q _ h => hFc q.1 h)
  have hO_2 : Ok L_2 f_2 := hO_2
  have hE_2 : Ext W_Md_feed_w L_1 f_1 L_2 f_2 := hE_2
  clear hK1 hD1 ht hvm hz1 hk1
  have m0_2 := hE_2.m m0_1
  have m1_2 := hE_2.m m1_1
  have hT_2 : TInv f_2 q1 := TInv.ext hT_1 hO_1 m1_1 hE_2 (by decide +kernel)
  have hq := hq hO_2
  refine lv_pop hx hb d_law_727 rfl ?_
  refine lv_goto (tgt := 1259) hx hb d_law_728 (by decide) ?_
  refine W.widen (k := cells + 60) (n := slots + 3000) (by omega) (by omega) ?_
  exact hgo L_2 f_2 H locs ls hO_2 m0_2 m1_2 hT_2 ⟨(Cpl.ext (Cpl.ext gL hO m0 m1 hE_1 (by decide +kernel)) hO_1 m0_1 m1_1 hE_2 (by decide +kernel)), hq.2, (CO.ext (CO.ext gO hO m0 m1 hE_1 (by decide +kernel)) hO_1 m0_1 m1_1 hE_2 (by decide +kernel)), (CM.ext (CM.ext gM hO m0 m1 hE_1 (by decide +kernel)) hO_1 m0_1 m1_1 hE_2 (by decide +kernel)), ad, (Ad.ext (Ad.ext gA hO m0 m1 hE_1 (by decide +kernel)) hO_1 m0_1 m1_1 hE_2 (by decide +kernel)), (K1.extT (K1.extT g1 gA hO m0 m1 hE_1 (by decide +kernel)) (Ad.ext gA hO m0 m1 hE_1 (by decide +kernel)) hO_1 m0_1 m1_1 hE_2 (by decide +kernel)), (K2.mono (K2.extN (K2.extN g2 gA hO m0 m1 hE_1 (by decide +kernel)) (Ad.ext gA hO m0 m1 hE_1 (by decide +kernel)) hO_1 m0_1 m1_1 hE_2 (by decide +kernel)) (by omega) (Nat.le_refl _)), (K3.extT (K3.extT g3 gA hO m0 m1 hE_1 (by decide +kernel)) (Ad.ext gA hO m0 m1 hE_1 (by decide +kernel)) hO_1 m0_1 m1_1 hE_2 (by decide +kernel)), (K4.ext (K4.ext g4 gA hO m0 m1 hE_1 (by decide +kernel)) (Ad.ext gA hO m0 m1 hE_1 (by decide +kernel)) hO_1 m0_1 m1_1 hE_2 (by decide +kernel)), (K5.ext (K5.ext g5 gA hO m0 m1 hE_1 (by decide +kernel)) (Ad.ext gA hO m0 m1 hE_1 (by decide +kernel)) hO_1 m0_1 m1_1 hE_2 (by decide +kernel))⟩ hP hD hS hl
set_option maxHeartbeats 4000000 in
set_option maxRecDepth 100000 in
theorem law_case_17 {p : Program} {e : Env} {s : State} {m : MethodId} {below : List Frame} {meth : Method} {c : Code} (l : Launch) {b N : Nat} {xs : Nat → Int32} (C0 : lw_At p s m meth c b N xs) (hNN : N ≤ 3072) {dC : Nat → ClassId} {dI : Nat → Nat → Nat} {ct : Nat → ClassId} {q0 q1 : Nat} (hK : va_K (dC, dI) vwCl (TT ct) s) (hN : NW s) {adK adV : Nat → Nat} (hW0 : SW adK adV (fun q : Nat => s.heap.size ≤ q) s s.heap) {i cells slots : Nat} (hi : i + 6 ≤ N) (hc : cells + 60 ≤ 600000) (hs : slots + 3000 ≤ 7302250) (hgo : LGo p l e s m below meth c b dC dI ct q0 q1 i (i + 6) (cells + 60) (slots + 3000) 1259) : LGo p l e s m below meth c b dC dI ct q0 q1 i i cells slots 731 := by
  intro L f H locs ls hO m0 m1 hT hCp hP hD hS hl
  obtain ⟨gL, gT, gO, gM, ad, gA, g1, g2, g3, g4, g5⟩ := hCp
  obtain ⟨hx, hb, hr, hml, hown, hts, hX, hbl, hlocks, hgv⟩ := id C0
  have hA : ∀ q : Nat, s.heap.size ≤ q → (fun q : Nat => s.heap.size ≤ q) q := fun _ h => h
  have hbA : ¬ (fun q : Nat => s.heap.size ≤ q) b := Nat.not_le.mpr hbl
  have htb := fun w (h : w ∈ TB) => hts w (List.mem_filter.mp h).1
  refine lv_aload_n hx hb d_law_731 rfl (lv_at hl 2 rfl) ?_
  refine lv_aload_n hx hb d_law_732 rfl (lv_at hl 3 rfl) ?_
  refine lv_iload_n hx hb d_law_733 rfl (lv_at hl 0 rfl) ?_
  refine lv_iconst (v := 1) hx hb d_law_734 (by decide +kernel) ?_
  refine lv_iadd hx hb d_law_735 ?_
  refine hb_ti (nI (i + 1)) (nI_add i 1) ?_
  refine va_sld hx hb hX hbl hbA hS (i := nI (i + 1)) (vp_in_nI (by omega) (by omega)) d_law_736 ?_
  refine hb_ti (xs (i + 1)) (congrArg xs (nI_clamp (by omega))) ?_
  have hFc := hb_free hD hS hA
  refine va_calli (va_runV (As := [.int (xs (i + 1))]) (rest := []) ⟨hx, hb, hml, hown, htb⟩ (c_WM_end_w l dC dI ct L f hO q0 m0 _ (xs (i + 1)) _ (pr_end hO m0 m1 gT (xs (i + 1)))) (cwV 1 htb (gd_V tw_846 tw_847 tw_848 tw_26 tw_849) rfl rfl rfl (by decide +kernel) ⟨Nat.le_of_ble_eq_true rfl, Nat.le_of_ble_eq_true rfl⟩) ⟨pc_blind, tw_recv hK hP m0 rfl rfl, pc_pre hP hK hD hN⟩ rfl rfl hl.1 rfl (lv_room (Nat.le_of_ble_eq_true rfl)) d_law_737 ⟨(by show cells + 0 ≤ 600000; omega), (by show slots + 0 ≤ 7302250; omega)⟩) hS (fun q _ h => hFc q h) hFc (fun r_1 u t H locs ht hvm er_1 hB hz1 hk1 hS => ?_)
  obtain ⟨L_1, f_1⟩ := u
  obtain ⟨hO_1, hE_1, er_1, hq⟩ := er_1
  obtain ⟨hP, hK1, hD1⟩ := hB
  rw [ht] at hP
  have hP : va_P (dC, dI) vwCl (TW ct L_1 f_1) H := hP
  have hD : va_D (fun q : Nat => s.heap.size ≤ q) (TW ct L_1 f_1) := hD1.weaken (fun _ q _ h => hFc q.1 h)
  have hO_1 : Ok L_1 f_1 := hO_1
  have hE_1 : Ext W_WM_end_w L f L_1 f_1 := hE_1
  clear hK1 hD1 ht hvm hz1 hk1
  have m0_1 := hE_1.m m0
  have m1_1 := hE_1.m m1
  have hT_1 : TInv f_1 q1 := TInv.ext hT hO m1 hE_1 (by decide +kernel)
  have hq := hq hO_1 m0_1 m1_1
  refine lv_pop hx hb d_law_740 rfl ?_
  refine lv_aload_n hx hb d_law_741 rfl (lv_at hl 1 rfl) ?_
  refine lv_aload_n hx hb d_law_742 rfl (lv_at hl 3 rfl) ?_
  refine lv_iload_n hx hb d_law_743 rfl (lv_at hl 0 rfl) ?_
  refine lv_iconst (v := 1) hx hb d_law_744 (by decide +kernel) ?_
  refine lv_iadd hx hb d_law_745 ?_
  refine hb_ti (nI (i + 1)) (nI_add i 1) ?_
  refine va_sld hx hb hX hbl hbA hS (i := nI (i + 1)) (vp_in_nI (by omega) (by omega)) d_law_746 ?_
  refine hb_ti (xs (i + 1)) (congrArg xs (nI_clamp (by omega))) ?_
  have hFc := hb_free hD hS hA
  refine va_calli (va_runV (As := [.int (xs (i + 1))]) (rest := []) ⟨hx, hb, hml, hown, htb⟩ (c_Md_end_w l dC dI ct L_1 f_1 hO_1 q1 m1_1 _ (xs (i + 1)) _ (hq)) (cwV 1 htb (gd_V tw_850 tw_851 tw_852 tw_89 tw_853) rfl rfl rfl (by decide +kernel) ⟨Nat.le_of_ble_eq_true rfl, Nat.le_of_ble_eq_true rfl⟩) ⟨pc_blind, tw_recv hK hP m1_1 rfl rfl, pc_pre hP hK hD hN⟩ rfl rfl hl.1 rfl (lv_room (Nat.le_of_ble_eq_true rfl)) d_law_747 ⟨(by show cells + 0 ≤ 600000; omega), (by show slots + 0 ≤ 7302250; omega)⟩) hS (fun q _ h => hFc q h) hFc (fun r_2 u t H locs ht hvm er_2 hB hz1 hk1 hS => ?_)
  obtain ⟨L_2, f_2⟩ := u
  obtain ⟨hO_2, hE_2, er_2, hq⟩ := er_2
  obtain ⟨hP, hK1, hD1⟩ := hB
  rw [ht] at hP
  have hP : va_P (dC, dI) vwCl (TW ct L_2 f_2) H := hP
  have hD : va_D (fun q : Nat => s.heap.size ≤ q) (TW ct L_2 f_2) := hD1.weaken (fun _ q _ h => hFc q.1 h)
  have hO_2 : Ok L_2 f_2 := hO_2
  have hE_2 : Ext W_Md_end_w L_1 f_1 L_2 f_2 := hE_2
  clear hK1 hD1 ht hvm hz1 hk1
  have m0_2 := hE_2.m m0_1
  have m1_2 := hE_2.m m1_1
  have hT_2 : TInv f_2 q1 := TInv.ext hT_1 hO_1 m1_1 hE_2 (by decide +kernel)
  have hq := hq hO_2
  refine lv_pop hx hb d_law_750 rfl ?_
  refine lv_goto (tgt := 1259) hx hb d_law_751 (by decide) ?_
  refine W.widen (k := cells + 60) (n := slots + 3000) (by omega) (by omega) ?_
  exact hgo L_2 f_2 H locs ls hO_2 m0_2 m1_2 hT_2 ⟨(Cpl.ext (Cpl.ext gL hO m0 m1 hE_1 (by decide +kernel)) hO_1 m0_1 m1_1 hE_2 (by decide +kernel)), hq.2, (CO.ext (CO.ext gO hO m0 m1 hE_1 (by decide +kernel)) hO_1 m0_1 m1_1 hE_2 (by decide +kernel)), (CM.ext (CM.ext gM hO m0 m1 hE_1 (by decide +kernel)) hO_1 m0_1 m1_1 hE_2 (by decide +kernel)), ad, (Ad.ext (Ad.ext gA hO m0 m1 hE_1 (by decide +kernel)) hO_1 m0_1 m1_1 hE_2 (by decide +kernel)), (K1.extT (K1.extT g1 gA hO m0 m1 hE_1 (by decide +kernel)) (Ad.ext gA hO m0 m1 hE_1 (by decide +kernel)) hO_1 m0_1 m1_1 hE_2 (by decide +kernel)), (K2.mono (K2.extN (K2.extN g2 gA hO m0 m1 hE_1 (by decide +kernel)) (Ad.ext gA hO m0 m1 hE_1 (by decide +kernel)) hO_1 m0_1 m1_1 hE_2 (by decide +kernel)) (by omega) (Nat.le_refl _)), (K3.extT (K3.extT g3 gA hO m0 m1 hE_1 (by decide +kernel)) (Ad.ext gA hO m0 m1 hE_1 (by decide +kernel)) hO_1 m0_1 m1_1 hE_2 (by decide +kernel)), (K4.ext (K4.ext g4 gA hO m0 m1 hE_1 (by decide +kernel)) (Ad.ext gA hO m0 m1 hE_1 (by decide +kernel)) hO_1 m0_1 m1_1 hE_2 (by decide +kernel)), (K5.ext (K5.ext g5 gA hO m0 m1 hE_1 (by decide +kernel)) (Ad.ext gA hO m0 m1 hE_1 (by decide +kernel)) hO_1 m0_1 m1_1 hE_2 (by decide +kernel))⟩ hP hD hS hl
