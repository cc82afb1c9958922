set_option maxHeartbeats 4000000 in
set_option maxRecDepth 100000 in
theorem law_case_27 {p : Program} {e : Env} {s : State} {m : MethodId} {below : List Frame} {meth : Method} {c : Code} (l : Launch) {b N : Nat} {xs : Nat → Int32} (C0 : lw_At p s m meth c b N xs) (hNN : N ≤ 3072) {dC : Nat → ClassId} {dI : Nat → Nat → Nat} {ct : Nat → ClassId} {q0 q1 : Nat} (hK : va_K (dC, dI) vwCl (TT ct) s) (hN : NW s) {adK adV : Nat → Nat} (hW0 : SW adK adV (fun q : Nat => s.heap.size ≤ q) s s.heap) {i cells slots : Nat} (hi : i + 6 ≤ N) (hc : cells + 60 ≤ 600000) (hs : slots + 3000 ≤ 7302250) (hgo : LGo p l e s m below meth c b dC dI ct q0 q1 i (i + 6) (cells + 60) (slots + 3000) 1259) : LGo p l e s m below meth c b dC dI ct q0 q1 i i cells slots 1101 := by
  intro L f H locs ls hO m0 m1 hT hCp hP hD hS hl
  obtain ⟨gL, gT, gO, gM, ad, gA, g1, g2, g3, g4, g5⟩ := hCp
  obtain ⟨hx, hb, hr, hml, hown, hts, hX, hbl, hlocks, hgv⟩ := id C0
  have hA : ∀ q : Nat, s.heap.size ≤ q → (fun q : Nat => s.heap.size ≤ q) q := fun _ h => h
  have hbA : ¬ (fun q : Nat => s.heap.size ≤ q) b := Nat.not_le.mpr hbl
  have htb := fun w (h : w ∈ TB) => hts w (List.mem_filter.mp h).1
  refine lv_aload_n hx hb d_law_1101 rfl (lv_at hl 2 rfl) ?_
  refine lv_aload_n hx hb d_law_1102 rfl (lv_at hl 3 rfl) ?_
  refine lv_iload_n hx hb d_law_1103 rfl (lv_at hl 0 rfl) ?_
  refine lv_iconst (v := 1) hx hb d_law_1104 (by decide +kernel) ?_
  refine lv_iadd hx hb d_law_1105 ?_
  refine hb_ti (nI (i + 1)) (nI_add i 1) ?_
  refine va_sld hx hb hX hbl hbA hS (i := nI (i + 1)) (vp_in_nI (by omega) (by omega)) d_law_1106 ?_
  refine hb_ti (xs (i + 1)) (congrArg xs (nI_clamp (by omega))) ?_
  refine lv_aload_n hx hb d_law_1107 rfl (lv_at hl 3 rfl) ?_
  refine lv_iload_n hx hb d_law_1108 rfl (lv_at hl 0 rfl) ?_
  refine lv_iconst (v := 2) hx hb d_law_1109 (by decide +kernel) ?_
  refine lv_iadd hx hb d_law_1110 ?_
  refine hb_ti (nI (i + 2)) (nI_add i 2) ?_
  refine va_sld hx hb hX hbl hbA hS (i := nI (i + 2)) (vp_in_nI (by omega) (by omega)) d_law_1111 ?_
  refine hb_ti (xs (i + 2)) (congrArg xs (nI_clamp (by omega))) ?_
  refine vp_callSi (va_Run.run (va_runV (As := [.int (xs (i + 1)), .int (xs (i + 2))]) (rest := []) ⟨hx, hb, hml, hown, htb⟩ (c_WM_over_w l dC dI ct L f hO q0 m0 (xs (i + 1)) (xs (i + 2)) _ (pr_over hO m0 m1 gL gO gM gA g3 (xs (i + 1)) (xs (i + 2)))) (cwV 2 htb (gd_V tw_926 tw_927 tw_928 tw_26 tw_929) rfl rfl rfl (by decide +kernel) ⟨Nat.le_of_ble_eq_true rfl, Nat.le_of_ble_eq_true rfl⟩) ⟨pr_blind, tw_recv hK hP m0 rfl rfl, pr_pre hP hK hN⟩ rfl rfl hl.1 rfl (lv_room (Nat.le_of_ble_eq_true rfl)) d_law_1112 ⟨(by show cells + 0 ≤ 600000; omega), (by show slots + 0 ≤ 7302250; omega)⟩)) (fun r_1 er_1 => ?_)
  obtain ⟨er_1, hq⟩ := er_1
  refine lv_pop hx hb d_law_1115 rfl ?_
  refine lv_aload_n hx hb d_law_1116 rfl (lv_at hl 1 rfl) ?_
  refine lv_aload_n hx hb d_law_1117 rfl (lv_at hl 3 rfl) ?_
  refine lv_iload_n hx hb d_law_1118 rfl (lv_at hl 0 rfl) ?_
  refine lv_iconst (v := 1) hx hb d_law_1119 (by decide +kernel) ?_
  refine lv_iadd hx hb d_law_1120 ?_
  refine hb_ti (nI (i + 1)) (nI_add i 1) ?_
  refine va_sld hx hb hX hbl hbA hS (i := nI (i + 1)) (vp_in_nI (by omega) (by omega)) d_law_1121 ?_
  refine hb_ti (xs (i + 1)) (congrArg xs (nI_clamp (by omega))) ?_
  refine lv_aload_n hx hb d_law_1122 rfl (lv_at hl 3 rfl) ?_
  refine lv_iload_n hx hb d_law_1123 rfl (lv_at hl 0 rfl) ?_
  refine lv_iconst (v := 2) hx hb d_law_1124 (by decide +kernel) ?_
  refine lv_iadd hx hb d_law_1125 ?_
  refine hb_ti (nI (i + 2)) (nI_add i 2) ?_
  refine va_sld hx hb hX hbl hbA hS (i := nI (i + 2)) (vp_in_nI (by omega) (by omega)) d_law_1126 ?_
  refine hb_ti (xs (i + 2)) (congrArg xs (nI_clamp (by omega))) ?_
  refine vp_callSi (va_Run.run (va_runV (As := [.int (xs (i + 1)), .int (xs (i + 2))]) (rest := []) ⟨hx, hb, hml, hown, htb⟩ (c_Md_over_w l dC dI ct L f hO q1 m1 (xs (i + 1)) (xs (i + 2)) _ (hq)) (cwV 2 htb (gd_V tw_930 tw_931 tw_932 tw_89 tw_933) rfl rfl rfl (by decide +kernel) ⟨Nat.le_of_ble_eq_true rfl, Nat.le_of_ble_eq_true rfl⟩) ⟨pr_blind, tw_recv hK hP m1 rfl rfl, pr_pre hP hK hN⟩ rfl rfl hl.1 rfl (lv_room (Nat.le_of_ble_eq_true rfl)) d_law_1127 ⟨(by show cells + 0 ≤ 600000; omega), (by show slots + 0 ≤ 7302250; omega)⟩)) (fun r_2 er_2 => ?_)
  obtain ⟨er_2, hq⟩ := er_2
  refine lv_pop hx hb d_law_1130 rfl ?_
  refine lv_goto (tgt := 1259) hx hb d_law_1131 (by decide) ?_
  refine W.widen (k := cells + 60) (n := slots + 3000) (by omega) (by omega) ?_
  exact hgo L f H locs ls hO m0 m1 hT ⟨gL, gT, gO, gM, ad, gA, g1, K2.mono g2 (by omega) (Nat.le_refl _), g3, g4, g5⟩ hP hD hS hl
set_option maxHeartbeats 4000000 in
set_option maxRecDepth 100000 in
theorem law_case_28 {p : Program} {e : Env} {s : State} {m : MethodId} {below : List Frame} {meth : Method} {c : Code} (l : Launch) {b N : Nat} {xs : Nat → Int32} (C0 : lw_At p s m meth c b N xs) (hNN : N ≤ 3072) {dC : Nat → ClassId} {dI : Nat → Nat → Nat} {ct : Nat → ClassId} {q0 q1 : Nat} (hK : va_K (dC, dI) vwCl (TT ct) s) (hN : NW s) {adK adV : Nat → Nat} (hW0 : SW adK adV (fun q : Nat => s.heap.size ≤ q) s s.heap) {i cells slots : Nat} (hi : i + 6 ≤ N) (hc : cells + 60 ≤ 600000) (hs : slots + 3000 ≤ 7302250) (hgo : LGo p l e s m below meth c b dC dI ct q0 q1 i (i + 6) (cells + 60) (slots + 3000) 1259) : LGo p l e s m below meth c b dC dI ct q0 q1 i i cells slots 1134 := by
  intro L f H locs ls hO m0 m1 hT hCp hP hD hS hl
  obtain ⟨gL, gT, gO, gM, ad, gA, g1, g2, g3, g4, g5⟩ := hCp
  obtain ⟨hx, hb, hr, hml, hown, hts, hX, hbl, hlocks, hgv⟩ := id C0
  have hA : ∀ q : Nat, s.heap.size ≤ q → (fun q : Nat => s.heap.size ≤ q) q := fun _ h => h
  have hbA : ¬ (fun q : Nat => s.heap.size ≤ q) b := Nat.not_le.mpr hbl
  have htb := fun w (h : w ∈ TB) => hts w (List.mem_filter.mp h).1
  refine lv_aload_n hx hb d_law_1134 rfl (lv_at hl 2 rfl) ?_
  refine lv_aload_n hx hb d_law_1135 rfl (lv_at hl 3 rfl) ?_
  refine lv_iload_n hx hb d_law_1136 rfl (lv_at hl 0 rfl) ?_
  refine lv_iconst (v := 1) hx hb d_law_1137 (by decide +kernel) ?_
  refine lv_iadd hx hb d_law_1138 ?_
  refine hb_ti (nI (i + 1)) (nI_add i 1) ?_
  refine va_sld hx hb hX hbl hbA hS (i := nI (i + 1)) (vp_in_nI (by omega) (by omega)) d_law_1139 ?_
  refine hb_ti (xs (i + 1)) (congrArg xs (nI_clamp (by omega))) ?_
  refine lv_aload_n hx hb d_law_1140 rfl (lv_at hl 3 rfl) ?_
  refine lv_iload_n hx hb d_law_1141 rfl (lv_at hl 0 rfl) ?_
  refine lv_iconst (v := 2) hx hb d_law_1142 (by decide +kernel) ?_
  refine lv_iadd hx hb d_law_1143 ?_
  refine hb_ti (nI (i + 2)) (nI_add i 2) ?_
  refine va_sld hx hb hX hbl hbA hS (i := nI (i + 2)) (vp_in_nI (by omega) (by omega)) d_law_1144 ?_
  refine hb_ti (xs (i + 2)) (congrArg xs (nI_clamp (by omega))) ?_
  have hFc := hb_free hD hS hA
  refine va_calli (va_runV (As := [.int (xs (i + 1)), .int (xs (i + 2))]) (rest := []) ⟨hx, hb, hml, hown, htb⟩ (c_WM_pension_w l dC dI ct L f hO q0 m0 _ (xs (i + 1)) (xs (i + 2)) _ (pr_pension hO m0 m1 gA g4 (xs (i + 1)) (xs (i + 2)))) (cwV 2 htb (gd_V tw_934 tw_935 tw_936 tw_26 tw_937) rfl rfl rfl (by decide +kernel) ⟨Nat.le_of_ble_eq_true rfl, Nat.le_of_ble_eq_true rfl⟩) ⟨pc_blind, tw_recv hK hP m0 rfl rfl, pc_pre hP hK hD hN⟩ rfl rfl hl.1 rfl (lv_room (Nat.le_of_ble_eq_true rfl)) d_law_1145 ⟨(by show cells + 1 ≤ 600000; omega), (by show slots + 3 ≤ 7302250; omega)⟩) hS (fun q _ h => hFc q h) hFc (fun r_1 u t H locs ht hvm er_1 hB hz1 hk1 hS => ?_)
  obtain ⟨L_1, f_1⟩ := u
  obtain ⟨hO_1, hE_1, er_1, hq⟩ := er_1
  obtain ⟨hP, hK1, hD1⟩ := hB
  rw [ht] at hP
  have hP : va_P (dC, dI) vwCl (TW ct L_1 f_1) H := hP
  have hD : va_D (fun q : Nat => s.heap.size ≤ q) (TW ct L_1 f_1) := hD1.weaken (fun _ q _ h => hFc q.1 h)
  have hO_1 : Ok L_1 f_1 := hO_1
  have hE_1 : Ext W_WM_pension_w L f L_1 f_1 := hE_1
  clear hK1 hD1 ht hvm hz1 hk1
  have m0_1 := hE_1.m m0
  have m1_1 := hE_1.m m1
  have hT_1 : TInv f_1 q1 := TInv.ext hT hO m1 hE_1 (by decide +kernel)
  have hq := hq hO_1 m0_1 m1_1
  refine lv_pop hx hb d_law_1148 rfl ?_
  refine lv_aload_n hx hb d_law_1149 rfl (lv_at hl 1 rfl) ?_
  refine lv_aload_n hx hb d_law_1150 rfl (lv_at hl 3 rfl) ?_
  refine lv_iload_n hx hb d_law_1151 rfl (lv_at hl 0 rfl) ?_
  refine lv_iconst (v := 1) hx hb d_law_1152 (by decide +kernel) ?_
  refine lv_iadd hx hb d_law_1153 ?_
  refine hb_ti (nI (i + 1)) (nI_add i 1) ?_
  refine va_sld hx hb hX hbl hbA hS (i := nI (i + 1)) (vp_in_nI (by omega) (by omega)) d_law_1154 ?_
  refine hb_ti (xs (i + 1)) (congrArg xs (nI_clamp (by omega))) ?_
  refine lv_aload_n hx hb d_law_1155 rfl (lv_at hl 3 rfl) ?_
  refine lv_iload_n hx hb d_law_1156 rfl (lv_at hl 0 rfl) ?_
  refine lv_iconst (v := 2) hx hb d_law_1157 (by decide +kernel) ?_
  refine lv_iadd hx hb d_law_1158 ?_
  refine hb_ti (nI (i + 2)) (nI_add i 2) ?_
  refine va_sld hx hb hX hbl hbA hS (i := nI (i + 2)) (vp_in_nI (by omega) (by omega)) d_law_1159 ?_
  refine hb_ti (xs (i + 2)) (congrArg xs (nI_clamp (by omega))) ?_
  have hFc := hb_free hD hS hA
  refine va_calli (va_runV (As := [.int (xs (i + 1)), .int (xs (i + 2))]) (rest := []) ⟨hx, hb, hml, hown, htb⟩ (c_Md_pension_w l dC dI ct L_1 f_1 hO_1 q1 m1_1 _ (xs (i + 1)) (xs (i + 2)) _ (hq)) (cwV 2 htb (gd_V tw_938 tw_939 tw_940 tw_89 tw_941) rfl rfl rfl (by decide +kernel) ⟨Nat.le_of_ble_eq_true rfl, Nat.le_of_ble_eq_true rfl⟩) ⟨pc_blind, tw_recv hK hP m1_1 rfl rfl, pc_pre hP hK hD hN⟩ rfl rfl hl.1 rfl (lv_room (Nat.le_of_ble_eq_true rfl)) d_law_1160 ⟨(by show cells + 1 + 0 ≤ 600000; omega), (by show slots + 3 + 0 ≤ 7302250; omega)⟩) hS (fun q _ h => hFc q h) hFc (fun r_2 u t H locs ht hvm er_2 hB hz1 hk1 hS => ?_)
  obtain ⟨L_2, f_2⟩ := u
  obtain ⟨hO_2, hE_2, er_2, hq⟩ := er_2
  obtain ⟨hP, hK1, hD1⟩ := hB
  rw [ht] at hP
  have hP : va_P (dC, dI) vwCl (TW ct L_2 f_2) H := hP
  have hD : va_D (fun q : Nat => s.heap.size ≤ q) (TW ct L_2 f_2) := hD1.weaken (fun _ q _ h => hFc q.1 h)
  have hO_2 : Ok L_2 f_2 := hO_2
  have hE_2 : Ext W_Md_pension_w L_1 f_1 L_2 f_2 := hE_2
  clear hK1 hD1 ht hvm hz1 hk1
  have m0_2 := hE_2.m m0_1
  have m1_2 := hE_2.m m1_1
  have hT_2 : TInv f_2 q1 := TInv.ext hT_1 hO_1 m1_1 hE_2 (by decide +kernel)
  have hq := hq hO_2
  refine lv_pop hx hb d_law_1163 rfl ?_
  refine lv_goto (tgt := 1259) hx hb d_law_1164 (by decide) ?_
  refine W.widen (k := cells + 60) (n := slots + 3000) (by omega) (by omega) ?_
  exact hgo L_2 f_2 H locs ls hO_2 m0_2 m1_2 hT_2 ⟨(Cpl.ext (Cpl.ext gL hO m0 m1 hE_1 (by decide +kernel)) hO_1 m0_1 m1_1 hE_2 (by decide +kernel)), (CT.ext (CT.ext gT hO m0 m1 hE_1 (by decide +kernel)) hO_1 m0_1 m1_1 hE_2 (by decide +kernel)), (CO.ext (CO.ext gO hO m0 m1 hE_1 (by decide +kernel)) hO_1 m0_1 m1_1 hE_2 (by decide +kernel)), (CM.ext (CM.ext gM hO m0 m1 hE_1 (by decide +kernel)) hO_1 m0_1 m1_1 hE_2 (by decide +kernel)), ad, (Ad.ext (Ad.ext gA hO m0 m1 hE_1 (by decide +kernel)) hO_1 m0_1 m1_1 hE_2 (by decide +kernel)), (K1.extT (K1.extT g1 gA hO m0 m1 hE_1 (by decide +kernel)) (Ad.ext gA hO m0 m1 hE_1 (by decide +kernel)) hO_1 m0_1 m1_1 hE_2 (by decide +kernel)), (K2.mono (K2.extN (K2.extN g2 gA hO m0 m1 hE_1 (by decide +kernel)) (Ad.ext gA hO m0 m1 hE_1 (by decide +kernel)) hO_1 m0_1 m1_1 hE_2 (by decide +kernel)) (by omega) (Nat.le_refl _)), (K3.extT (K3.extT g3 gA hO m0 m1 hE_1 (by decide +kernel)) (Ad.ext gA hO m0 m1 hE_1 (by decide +kernel)) hO_1 m0_1 m1_1 hE_2 (by decide +kernel)), hq.2, (K5.ext (K5.ext g5 gA hO m0 m1 hE_1 (by decide +kernel)) (Ad.ext gA hO m0 m1 hE_1 (by decide +kernel)) hO_1 m0_1 m1_1 hE_2 (by decide +kernel))⟩ hP hD hS hl
set_option maxHeartbeats 4000000 in
set_option maxRecDepth 100000 in
theorem law_case_29 {p : Program} {e : Env} {s : State} {m : MethodId} {below : List Frame} {meth : Method} {c : Code} (l : Launch) {b N : Nat} {xs : Nat → Int32} (C0 : lw_At p s m meth c b N xs) (hNN : N ≤ 3072) {dC : Nat → ClassId} {dI : Nat → Nat → Nat} {ct : Nat → ClassId} {q0 q1 : Nat} (hK : va_K (dC, dI) vwCl (TT ct) s) (hN : NW s) {adK adV : Nat → Nat} (hW0 : SW adK adV (fun q : Nat => s.heap.size ≤ q) s s.heap) {i cells slots : Nat} (hi : i + 6 ≤ N) (hc : cells + 60 ≤ 600000) (hs : slots + 3000 ≤ 7302250) (hgo : LGo p l e s m below meth c b dC dI ct q0 q1 i (i + 6) (cells + 60) (slots + 3000) 1259) : LGo p l e s m below meth c b dC dI ct q0 q1 i i cells slots 1167 := by
  intro L f H locs ls hO m0 m1 hT hCp hP hD hS hl
  obtain ⟨gL, gT, gO, gM, ad, gA, g1, g2, g3, g4, g5⟩ := hCp
  obtain ⟨hx, hb, hr, hml, hown, hts, hX, hbl, hlocks, hgv⟩ := id C0
  have hA : ∀ q : Nat, s.heap.size ≤ q → (fun q : Nat => s.heap.size ≤ q) q := fun _ h => h
  have hbA : ¬ (fun q : Nat => s.heap.size ≤ q) b := Nat.not_le.mpr hbl
  have htb := fun w (h : w ∈ TB) => hts w (List.mem_filter.mp h).1
  refine lv_aload_n hx hb d_law_1167 rfl (lv_at hl 2 rfl) ?_
  refine vp_callSi (va_Run.run (va_runV (As := []) (rest := []) ⟨hx, hb, hml, hown, htb⟩ (c_WM_foretold_t l dC dI ct L f hO q0 m0) (cwV 0 htb (gd_V tw_942 tw_943 tw_944 tw_26 tw_945) rfl rfl rfl (by decide +kernel) ⟨Nat.le_of_ble_eq_true rfl, Nat.le_of_ble_eq_true rfl⟩) ⟨pr_blind, tw_recv hK hP m0 rfl rfl, pr_pre hP hK hN⟩ rfl rfl hl.1 rfl (lv_room (Nat.le_of_ble_eq_true rfl)) d_law_1168 ⟨(by show cells + 0 ≤ 600000; omega), (by show slots + 0 ≤ 7302250; omega)⟩)) (fun r_1 er_1 => ?_)
  refine lv_pop hx hb d_law_1171 rfl ?_
  refine lv_aload_n hx hb d_law_1172 rfl (lv_at hl 1 rfl) ?_
  refine vp_callSi (va_Run.run (va_runV (As := []) (rest := []) ⟨hx, hb, hml, hown, htb⟩ (c_Md_foretold_t l dC dI ct L f hO q1 m1) (cwV 0 htb (gd_V tw_946 tw_947 tw_948 tw_89 tw_949) rfl rfl rfl (by decide +kernel) ⟨Nat.le_of_ble_eq_true rfl, Nat.le_of_ble_eq_true rfl⟩) ⟨pr_blind, tw_recv hK hP m1 rfl rfl, pr_pre hP hK hN⟩ rfl rfl hl.1 rfl (lv_room (Nat.le_of_ble_eq_true rfl)) d_law_1173 ⟨(by show cells + 0 ≤ 600000; omega), (by show slots + 0 ≤ 7302250; omega)⟩)) (fun r_2 er_2 => ?_)
  refine lv_pop hx hb d_law_1176 rfl ?_
  refine lv_goto (tgt := 1259) hx hb d_law_1177 (by decide) ?_
  refine W.widen (k := cells + 60) (n := slots + 3000) (by omega) (by omega) ?_
  exact hgo L f H locs ls hO m0 m1 hT ⟨gL, gT, gO, gM, ad, gA, g1, K2.mono g2 (by omega) (Nat.le_refl _), g3, g4, g5⟩ hP hD hS hl
set_option maxHeartbeats 4000000 in
set_option maxRecDepth 100000 in
theorem law_case_30 {p : Program} {e : Env} {s : State} {m : MethodId} {below : List Frame} {meth : Method} {c : Code} (l : Launch) {b N : Nat} {xs : Nat → Int32} (C0 : lw_At p s m meth c b N xs) (hNN : N ≤ 3072) {dC : Nat → ClassId} {dI : Nat → Nat → Nat} {ct : Nat → ClassId} {q0 q1 : Nat} (hK : va_K (dC, dI) vwCl (TT ct) s) (hN : NW s) {adK adV : Nat → Nat} (hW0 : SW adK adV (fun q : Nat => s.heap.size ≤ q) s s.heap) {i cells slots : Nat} (hi : i + 6 ≤ N) (hc : cells + 60 ≤ 600000) (hs : slots + 3000 ≤ 7302250) (hgo : LGo p l e s m below meth c b dC dI ct q0 q1 i (i + 6) (cells + 60) (slots + 3000) 1259) : LGo p l e s m below meth c b dC dI ct q0 q1 i i cells slots 1180 := by
  intro L f H locs ls hO m0 m1 hT hCp hP hD hS hl
  obtain ⟨gL, gT, gO, gM, ad, gA, g1, g2, g3, g4, g5⟩ := hCp
  obtain ⟨hx, hb, hr, hml, hown, hts, hX, hbl, hlocks, hgv⟩ := id C0
  have hA : ∀ q : Nat, s.heap.size ≤ q → (fun q : Nat => s.heap.size ≤ q) q := fun _ h => h
  have hbA : ¬ (fun q : Nat => s.heap.size ≤ q) b := Nat.not_le.mpr hbl
  have htb := fun w (h : w ∈ TB) => hts w (List.mem_filter.mp h).1
  refine lv_aload_n hx hb d_law_1180 rfl (lv_at hl 2 rfl) ?_
  refine lv_aload_n hx hb d_law_1181 rfl (lv_at hl 3 rfl) ?_
  refine lv_iload_n hx hb d_law_1182 rfl (lv_at hl 0 rfl) ?_
  refine lv_iconst (v := 1) hx hb d_law_1183 (by decide +kernel) ?_
  refine lv_iadd hx hb d_law_1184 ?_
  refine hb_ti (nI (i + 1)) (nI_add i 1) ?_
  refine va_sld hx hb hX hbl hbA hS (i := nI (i + 1)) (vp_in_nI (by omega) (by omega)) d_law_1185 ?_
  refine hb_ti (xs (i + 1)) (congrArg xs (nI_clamp (by omega))) ?_
  refine lv_aload_n hx hb d_law_1186 rfl (lv_at hl 3 rfl) ?_
  refine lv_iload_n hx hb d_law_1187 rfl (lv_at hl 0 rfl) ?_
  refine lv_iconst (v := 2) hx hb d_law_1188 (by decide +kernel) ?_
  refine lv_iadd hx hb d_law_1189 ?_
  refine hb_ti (nI (i + 2)) (nI_add i 2) ?_
  refine va_sld hx hb hX hbl hbA hS (i := nI (i + 2)) (vp_in_nI (by omega) (by omega)) d_law_1190 ?_
  refine hb_ti (xs (i + 2)) (congrArg xs (nI_clamp (by omega))) ?_
  refine vp_callSi (va_Run.run (va_runV (As := [.int (xs (i + 1)), .int (xs (i + 2))]) (rest := []) ⟨hx, hb, hml, hown, htb⟩ (c_WM_pensioner_t l dC dI ct L f hO q0 m0 (xs (i + 1)) (xs (i + 2))) (cwV 2 htb (gd_V tw_950 tw_951 tw_952 tw_26 tw_953) rfl rfl rfl (by decide +kernel) ⟨Nat.le_of_ble_eq_true rfl, Nat.le_of_ble_eq_true rfl⟩) ⟨pr_blind, tw_recv hK hP m0 rfl rfl, pr_pre hP hK hN⟩ rfl rfl hl.1 rfl (lv_room (Nat.le_of_ble_eq_true rfl)) d_law_1191 ⟨(by show cells + 0 ≤ 600000; omega), (by show slots + 0 ≤ 7302250; omega)⟩)) (fun r_1 er_1 => ?_)
  refine lv_pop hx hb d_law_1194 rfl ?_
  refine lv_aload_n hx hb d_law_1195 rfl (lv_at hl 1 rfl) ?_
  refine lv_aload_n hx hb d_law_1196 rfl (lv_at hl 3 rfl) ?_
  refine lv_iload_n hx hb d_law_1197 rfl (lv_at hl 0 rfl) ?_
  refine lv_iconst (v := 1) hx hb d_law_1198 (by decide +kernel) ?_
  refine lv_iadd hx hb d_law_1199 ?_
  refine hb_ti (nI (i + 1)) (nI_add i 1) ?_
  refine va_sld hx hb hX hbl hbA hS (i := nI (i + 1)) (vp_in_nI (by omega) (by omega)) d_law_1200 ?_
  refine hb_ti (xs (i + 1)) (congrArg xs (nI_clamp (by omega))) ?_
  refine lv_aload_n hx hb d_law_1201 rfl (lv_at hl 3 rfl) ?_
  refine lv_iload_n hx hb d_law_1202 rfl (lv_at hl 0 rfl) ?_
  refine lv_iconst (v := 2) hx hb d_law_1203 (by decide +kernel) ?_
  refine lv_iadd hx hb d_law_1204 ?_
  refine hb_ti (nI (i + 2)) (nI_add i 2) ?_
  refine va_sld hx hb hX hbl hbA hS (i := nI (i + 2)) (vp_in_nI (by omega) (by omega)) d_law_1205 ?_
  refine hb_ti (xs (i + 2)) (congrArg xs (nI_clamp (by omega))) ?_
  refine vp_callSi (va_Run.run (va_runV (As := [.int (xs (i + 1)), .int (xs (i + 2))]) (rest := []) ⟨hx, hb, hml, hown, htb⟩ (c_Md_pensioner_t l dC dI ct L f hO q1 m1 (xs (i + 1)) (xs (i + 2))) (cwV 2 htb (gd_V tw_954 tw_955 tw_956 tw_89 tw_957) rfl rfl rfl (by decide +kernel) ⟨Nat.le_of_ble_eq_true rfl, Nat.le_of_ble_eq_true rfl⟩) ⟨pr_blind, tw_recv hK hP m1 rfl rfl, pr_pre hP hK hN⟩ rfl rfl hl.1 rfl (lv_room (Nat.le_of_ble_eq_true rfl)) d_law_1206 ⟨(by show cells + 0 ≤ 600000; omega), (by show slots + 0 ≤ 7302250; omega)⟩)) (fun r_2 er_2 => ?_)
  refine lv_pop hx hb d_law_1209 rfl ?_
  refine lv_goto (tgt := 1259) hx hb d_law_1210 (by decide) ?_
  refine W.widen (k := cells + 60) (n := slots + 3000) (by omega) (by omega) ?_
  exact hgo L f H locs ls hO m0 m1 hT ⟨gL, gT, gO, gM, ad, gA, g1, K2.mono g2 (by omega) (Nat.le_refl _), g3, g4, g5⟩ hP hD hS hl
set_option maxHeartbeats 4000000 in
set_option maxRecDepth 100000 in
theorem law_case_31 {p : Program} {e : Env} {s : State} {m : MethodId} {below : List Frame} {meth : Method} {c : Code} (l : Launch) {b N : Nat} {xs : Nat → Int32} (C0 : lw_At p s m meth c b N xs) (hNN : N ≤ 3072) {dC : Nat → ClassId} {dI : Nat → Nat → Nat} {ct : Nat → ClassId} {q0 q1 : Nat} (hK : va_K (dC, dI) vwCl (TT ct) s) (hN : NW s) {adK adV : Nat → Nat} (hW0 : SW adK adV (fun q : Nat => s.heap.size ≤ q) s s.heap) {i cells slots : Nat} (hi : i + 6 ≤ N) (hc : cells + 60 ≤ 600000) (hs : slots + 3000 ≤ 7302250) (hgo : LGo p l e s m below meth c b dC dI ct q0 q1 i (i + 6) (cells + 60) (slots + 3000) 1259) : LGo p l e s m below meth c b dC dI ct q0 q1 i i cells slots 1213 := by
  intro L f H locs ls hO m0 m1 hT hCp hP hD hS hl
  obtain ⟨gL, gT, gO, gM, ad, gA, g1, g2, g3, g4, g5⟩ := hCp
  obtain ⟨hx, hb, hr, hml, hown, hts, hX, hbl, hlocks, hgv⟩ := id C0
  have hA : ∀ q : Nat, s.heap.size ≤ q → (fun q : Nat => s.heap.size ≤ q) q := fun _ h => h
  have hbA : ¬ (fun q : Nat => s.heap.size ≤ q) b := Nat.not_le.mpr hbl
  have htb := fun w (h : w ∈ TB) => hts w (List.mem_filter.mp h).1
  refine lv_aload_n hx hb d_law_1213 rfl (lv_at hl 2 rfl) ?_
  refine lv_aload_n hx hb d_law_1214 rfl (lv_at hl 3 rfl) ?_
  refine lv_iload_n hx hb d_law_1215 rfl (lv_at hl 0 rfl) ?_
  refine lv_iconst (v := 1) hx hb d_law_1216 (by decide +kernel) ?_
  refine lv_iadd hx hb d_law_1217 ?_
  refine hb_ti (nI (i + 1)) (nI_add i 1) ?_
  refine va_sld hx hb hX hbl hbA hS (i := nI (i + 1)) (vp_in_nI (by omega) (by omega)) d_law_1218 ?_
  refine hb_ti (xs (i + 1)) (congrArg xs (nI_clamp (by omega))) ?_
  refine vp_callSi (va_Run.run (va_runV (As := [.int (xs (i + 1))]) (rest := []) ⟨hx, hb, hml, hown, htb⟩ (c_WM_count_w l dC dI ct L f hO q0 m0 (xs (i + 1)) _ (pr_count gL gT gO gA g1 g3 g4 (xs (i + 1)))) (cwV 1 htb (gd_V tw_958 tw_959 tw_960 tw_26 tw_961) rfl rfl rfl (by decide +kernel) ⟨Nat.le_of_ble_eq_true rfl, Nat.le_of_ble_eq_true rfl⟩) ⟨pr_blind, tw_recv hK hP m0 rfl rfl, pr_pre hP hK hN⟩ rfl rfl hl.1 rfl (lv_room (Nat.le_of_ble_eq_true rfl)) d_law_1219 ⟨(by show cells + 0 ≤ 600000; omega), (by show slots + 0 ≤ 7302250; omega)⟩)) (fun r_1 er_1 => ?_)
  obtain ⟨er_1, hq⟩ := er_1
  refine lv_aload_n hx hb d_law_1222 rfl (lv_at hl 1 rfl) ?_
  refine lv_aload_n hx hb d_law_1223 rfl (lv_at hl 3 rfl) ?_
  refine lv_iload_n hx hb d_law_1224 rfl (lv_at hl 0 rfl) ?_
  refine lv_iconst (v := 1) hx hb d_law_1225 (by decide +kernel) ?_
  refine lv_iadd hx hb d_law_1226 ?_
  refine hb_ti (nI (i + 1)) (nI_add i 1) ?_
  refine va_sld hx hb hX hbl hbA hS (i := nI (i + 1)) (vp_in_nI (by omega) (by omega)) d_law_1227 ?_
  refine hb_ti (xs (i + 1)) (congrArg xs (nI_clamp (by omega))) ?_
  refine vp_callSi (va_Run.run (va_runV (As := [.int (xs (i + 1))]) (rest := [.int r_1]) ⟨hx, hb, hml, hown, htb⟩ (c_Md_count_w l dC dI ct L f hO q1 m1 (xs (i + 1)) _ (hq)) (cwV 1 htb (gd_V tw_962 tw_963 tw_964 tw_89 tw_965) rfl rfl rfl (by decide +kernel) ⟨Nat.le_of_ble_eq_true rfl, Nat.le_of_ble_eq_true rfl⟩) ⟨pr_blind, tw_recv hK hP m1 rfl rfl, pr_pre hP hK hN⟩ rfl rfl hl.1 rfl (lv_room (Nat.le_of_ble_eq_true rfl)) d_law_1228 ⟨(by show cells + 0 ≤ 600000; omega), (by show slots + 0 ≤ 7302250; omega)⟩)) (fun r_2 er_2 => ?_)
  obtain ⟨er_2, hq⟩ := er_2
  refine lv_icmp_eq (tgt := 1259) hx hb d_law_1231 (by decide) (fun _ => ?_) (fun h => absurd (show r_1 = r_2 from by exact hq) h)
  refine W.widen (k := cells + 60) (n := slots + 3000) (by omega) (by omega) ?_
  exact hgo L f H locs ls hO m0 m1 hT ⟨gL, gT, gO, gM, ad, gA, g1, K2.mono g2 (by omega) (Nat.le_refl _), g3, g4, g5⟩ hP hD hS hl
set_option maxHeartbeats 4000000 in
set_option maxRecDepth 100000 in
theorem law_case_32 {p : Program} {e : Env} {s : State} {m : MethodId} {below : List Frame} {meth : Method} {c : Code} (l : Launch) {b N : Nat} {xs : Nat → Int32} (C0 : lw_At p s m meth c b N xs) (hNN : N ≤ 3072) {dC : Nat → ClassId} {dI : Nat → Nat → Nat} {ct : Nat → ClassId} {q0 q1 : Nat} (hK : va_K (dC, dI) vwCl (TT ct) s) (hN : NW s) {adK adV : Nat → Nat} (hW0 : SW adK adV (fun q : Nat => s.heap.size ≤ q) s s.heap) {i cells slots : Nat} (hi : i + 6 ≤ N) (hc : cells + 60 ≤ 600000) (hs : slots + 3000 ≤ 7302250) (hgo : LGo p l e s m below meth c b dC dI ct q0 q1 i (i + 6) (cells + 60) (slots + 3000) 1259) : LGo p l e s m below meth c b dC dI ct q0 q1 i i cells slots 1236 := by
  intro L f H locs ls hO m0 m1 hT hCp hP hD hS hl
  obtain ⟨gL, gT, gO, gM, ad, gA, g1, g2, g3, g4, g5⟩ := hCp
  obtain ⟨hx, hb, hr, hml, hown, hts, hX, hbl, hlocks, hgv⟩ := id C0
  have hA : ∀ q : Nat, s.heap.size ≤ q → (fun q : Nat => s.heap.size ≤ q) q := fun _ h => h
  have hbA : ¬ (fun q : Nat => s.heap.size ≤ q) b := Nat.not_le.mpr hbl
  have htb := fun w (h : w ∈ TB) => hts w (List.mem_filter.mp h).1
  refine lv_aload_n hx hb d_law_1236 rfl (lv_at hl 2 rfl) ?_
  refine lv_aload_n hx hb d_law_1237 rfl (lv_at hl 3 rfl) ?_
  refine lv_iload_n hx hb d_law_1238 rfl (lv_at hl 0 rfl) ?_
  refine lv_iconst (v := 1) hx hb d_law_1239 (by decide +kernel) ?_
  refine lv_iadd hx hb d_law_1240 ?_
  refine hb_ti (nI (i + 1)) (nI_add i 1) ?_
  refine va_sld hx hb hX hbl hbA hS (i := nI (i + 1)) (vp_in_nI (by omega) (by omega)) d_law_1241 ?_
  refine hb_ti (xs (i + 1)) (congrArg xs (nI_clamp (by omega))) ?_
  refine vp_callSi (va_Run.run (va_runV (As := [.int (xs (i + 1))]) (rest := []) ⟨hx, hb, hml, hown, htb⟩ (c_WM_coins_t l dC dI ct L f hO q0 m0 (xs (i + 1))) (cwV 1 htb (gd_V tw_966 tw_967 tw_968 tw_26 tw_969) rfl rfl rfl (by decide +kernel) ⟨Nat.le_of_ble_eq_true rfl, Nat.le_of_ble_eq_true rfl⟩) ⟨pr_blind, tw_recv hK hP m0 rfl rfl, pr_pre hP hK hN⟩ rfl rfl hl.1 rfl (lv_room (Nat.le_of_ble_eq_true rfl)) d_law_1242 ⟨(by show cells + 0 ≤ 600000; omega), (by show slots + 0 ≤ 7302250; omega)⟩)) (fun r_1 er_1 => ?_)
  refine lv_pop hx hb d_law_1245 rfl ?_
  refine lv_aload_n hx hb d_law_1246 rfl (lv_at hl 1 rfl) ?_
  refine lv_aload_n hx hb d_law_1247 rfl (lv_at hl 3 rfl) ?_
  refine lv_iload_n hx hb d_law_1248 rfl (lv_at hl 0 rfl) ?_
  refine lv_iconst (v := 1) hx hb d_law_1249 (by decide +kernel) ?_
  refine lv_iadd hx hb d_law_1250 ?_
  refine hb_ti (nI (i + 1)) (nI_add i 1) ?_
  refine va_sld hx hb hX hbl hbA hS (i := nI (i + 1)) (vp_in_nI (by omega) (by omega)) d_law_1251 ?_
  refine hb_ti (xs (i + 1)) (congrArg xs (nI_clamp (by omega))) ?_
  refine vp_callSi (va_Run.run (va_runV (As := [.int (xs (i + 1))]) (rest := []) ⟨hx, hb, hml, hown, htb⟩ (c_Md_coins_t l dC dI ct L f hO q1 m1 (xs (i + 1))) (cwV 1 htb (gd_V tw_970 tw_971 tw_972 tw_89 tw_973) rfl rfl rfl (by decide +kernel) ⟨Nat.le_of_ble_eq_true rfl, Nat.le_of_ble_eq_true rfl⟩) ⟨pr_blind, tw_recv hK hP m1 rfl rfl, pr_pre hP hK hN⟩ rfl rfl hl.1 rfl (lv_room (Nat.le_of_ble_eq_true rfl)) d_law_1252 ⟨(by show cells + 0 ≤ 600000; omega), (by show slots + 0 ≤ 7302250; omega)⟩)) (fun r_2 er_2 => ?_)
  refine lv_pop hx hb d_law_1255 rfl ?_
  refine lv_goto (tgt := 1259) hx hb d_law_1256 (by decide) ?_
  refine W.widen (k := cells + 60) (n := slots + 3000) (by omega) (by omega) ?_
  exact hgo L f H locs ls hO m0 m1 hT ⟨gL, gT, gO, gM, ad, gA, g1, K2.mono g2 (by omega) (Nat.le_refl _), g3, g4, g5⟩ hP hD hS hl
