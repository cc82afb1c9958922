set_option maxHeartbeats 4000000 in
set_option maxRecDepth 100000 in
theorem law_case_0 {p : Program} {e : Env} {s : State} {m : MethodId} {below : List Frame} {meth : Method} {c : Code} (l : Launch) {b N : Nat} {xs : Nat → Int32} (C0 : lw_At p s m meth c b N xs) (hNN : N ≤ 3072) {dC : Nat → ClassId} {dI : Nat → Nat → Nat} {ct : Nat → ClassId} {q0 q1 : Nat} (hK : va_K (dC, dI) vwCl (TT ct) s) (hN : NW s) {adK adV : Nat → Nat} (hW0 : SW adK adV (fun q : Nat => s.heap.size ≤ q) s s.heap) {i cells slots : Nat} (hi : i + 6 ≤ N) (hc : cells + 60 ≤ 600000) (hs : slots + 3000 ≤ 7302250) (hgo : LGo p l e s m below meth c b dC dI ct q0 q1 i (i + 6) (cells + 60) (slots + 3000) 1259) : LGo p l e s m below meth c b dC dI ct q0 q1 i i cells slots 180 := by
  intro L f H locs ls hO m0 m1 hT hCp hP hD hS hl
  obtain ⟨gL, gT, gO, gM, ad, gA, g1, g2, g3, g4, g5⟩ := hCp
  obtain ⟨hx, hb, hr, hml, hown, hts, hX, hbl, hlocks, hgv⟩ := id C0
  have hA : ∀ q : Nat, s.heap.size ≤ q → (fun q : Nat => s.heap.size ≤ q) q := fun _ h => h
  have hbA : ¬ (fun q : Nat => s.heap.size ≤ q) b := Nat.not_le.mpr hbl
  have htb := fun w (h : w ∈ TB) => hts w (List.mem_filter.mp h).1
  refine lv_aload_n hx hb d_law_180 rfl (lv_at hl 2 rfl) ?_
  refine lv_aload_n hx hb d_law_181 rfl (lv_at hl 3 rfl) ?_
  refine lv_iload_n hx hb d_law_182 rfl (lv_at hl 0 rfl) ?_
  refine lv_iconst (v := 1) hx hb d_law_183 (by decide +kernel) ?_
  refine lv_iadd hx hb d_law_184 ?_
  refine hb_ti (nI (i + 1)) (nI_add i 1) ?_
  refine va_sld hx hb hX hbl hbA hS (i := nI (i + 1)) (vp_in_nI (by omega) (by omega)) d_law_185 ?_
  refine hb_ti (xs (i + 1)) (congrArg xs (nI_clamp (by omega))) ?_
  have hFc := hb_free hD hS hA
  refine va_calli (va_runV (As := [.int (xs (i + 1))]) (rest := []) ⟨hx, hb, hml, hown, htb⟩ (c_WM_stairs_w l dC dI ct L f hO q0 m0 _ (xs (i + 1)) _ (pr_stairsN hO m0 m1 gL gM (xs (i + 1)))) (cwV 1 htb (gd_V tw_713 tw_714 tw_715 tw_26 tw_716) rfl rfl rfl (by decide +kernel) ⟨Nat.le_of_ble_eq_true rfl, Nat.le_of_ble_eq_true rfl⟩) ⟨pc_blind, tw_recv hK hP m0 rfl rfl, pc_pre hP hK hD hN⟩ rfl rfl hl.1 rfl (lv_room (Nat.le_of_ble_eq_true rfl)) d_law_186 ⟨(by show cells + 0 ≤ 600000; omega), (by show slots + 0 ≤ 7302250; omega)⟩) hS (fun q _ h => hFc q h) hFc (fun r_1 u t H locs ht hvm er_1 hB hz1 hk1 hS => ?_)
  obtain ⟨L_1, f_1⟩ := u
  obtain ⟨hO_1, hE_1, er_1, hq⟩ := er_1
  obtain ⟨hP, hK1, hD1⟩ := hB
  rw [ht] at hP
  have hP : va_P (dC, dI) vwCl (TW ct L_1 f_1) H := hP
  have hD : va_D (fun q : Nat => s.heap.size ≤ q) (TW ct L_1 f_1) := hD1.weaken (fun _ q _ h => hFc q.1 h)
  have hO_1 : Ok L_1 f_1 := hO_1
  have hE_1 : Ext W_WM_stairs_w L f L_1 f_1 := hE_1
  clear hK1 hD1 ht hvm hz1 hk1
  have m0_1 := hE_1.m m0
  have m1_1 := hE_1.m m1
  have hT_1 : TInv f_1 q1 := TInv.ext hT hO m1 hE_1 (by decide +kernel)
  have hq := hq hO_1 m0_1 m1_1
  refine lv_pop hx hb d_law_189 rfl ?_
  refine lv_aload_n hx hb d_law_190 rfl (lv_at hl 1 rfl) ?_
  refine lv_aload_n hx hb d_law_191 rfl (lv_at hl 3 rfl) ?_
  refine lv_iload_n hx hb d_law_192 rfl (lv_at hl 0 rfl) ?_
  refine lv_iconst (v := 1) hx hb d_law_193 (by decide +kernel) ?_
  refine lv_iadd hx hb d_law_194 ?_
  refine hb_ti (nI (i + 1)) (nI_add i 1) ?_
  refine va_sld hx hb hX hbl hbA hS (i := nI (i + 1)) (vp_in_nI (by omega) (by omega)) d_law_195 ?_
  refine hb_ti (xs (i + 1)) (congrArg xs (nI_clamp (by omega))) ?_
  have hFc := hb_free hD hS hA
  refine va_calli (va_runV (As := [.int (xs (i + 1))]) (rest := []) ⟨hx, hb, hml, hown, htb⟩ (c_Md_stairs_w l dC dI ct L_1 f_1 hO_1 q1 m1_1 _ (xs (i + 1)) _ (hq)) (cwV 1 htb (gd_V tw_717 tw_718 tw_719 tw_89 tw_720) rfl rfl rfl (by decide +kernel) ⟨Nat.le_of_ble_eq_true rfl, Nat.le_of_ble_eq_true rfl⟩) ⟨pc_blind, tw_recv hK hP m1_1 rfl rfl, pc_pre hP hK hD hN⟩ rfl rfl hl.1 rfl (lv_room (Nat.le_of_ble_eq_true rfl)) d_law_196 ⟨(by show cells + 0 ≤ 600000; omega), (by show slots + 0 ≤ 7302250; omega)⟩) hS (fun q _ h => hFc q h) hFc (fun r_2 u t H locs ht hvm er_2 hB hz1 hk1 hS => ?_)
  obtain ⟨L_2, f_2⟩ := u
  obtain ⟨hO_2, hE_2, er_2, hq⟩ := er_2
  obtain ⟨hP, hK1, hD1⟩ := hB
  rw [ht] at hP
  have hP : va_P (dC, dI) vwCl (TW ct L_2 f_2) H := hP
  have hD : va_D (fun q : Nat => s.heap.size ≤ q) (TW ct L_2 f_2) := hD1.weaken (fun _ q _ h => hFc q.1 h)
  have hO_2 : Ok L_2 f_2 := hO_2
  have hE_2 : Ext W_Md_stairs_w L_1 f_1 L_2 f_2 := hE_2
  clear hK1 hD1 ht hvm hz1 hk1
  have m0_2 := hE_2.m m0_1
  have m1_2 := hE_2.m m1_1
  have hT_2 : TInv f_2 q1 := TInv.ext hT_1 hO_1 m1_1 hE_2 (by decide +kernel)
  have hq := hq hO_2
  refine lv_pop hx hb d_law_199 rfl ?_
  refine lv_goto (tgt := 1259) hx hb d_law_200 (by decide) ?_
  refine W.widen (k := cells + 60) (n := slots + 3000) (by omega) (by omega) ?_
  exact hgo L_2 f_2 H locs ls hO_2 m0_2 m1_2 hT_2 ⟨hq.2.1, (CT.ext (CT.ext gT hO m0 m1 hE_1 (by decide +kernel)) hO_1 m0_1 m1_1 hE_2 (by decide +kernel)), (CO.ext (CO.ext gO hO m0 m1 hE_1 (by decide +kernel)) hO_1 m0_1 m1_1 hE_2 (by decide +kernel)), hq.2.2.1, ad, (Ad.ext (Ad.ext gA hO m0 m1 hE_1 (by decide +kernel)) hO_1 m0_1 m1_1 hE_2 (by decide +kernel)), (K1.extT (K1.extT g1 gA hO m0 m1 hE_1 (by decide +kernel)) (Ad.ext gA hO m0 m1 hE_1 (by decide +kernel)) hO_1 m0_1 m1_1 hE_2 (by decide +kernel)), (K2.mono (K2.ext (K2.ext g2 gA hO m0 m1 hE_1 (by decide +kernel)) (Ad.ext gA hO m0 m1 hE_1 (by decide +kernel)) hO_1 m0_1 m1_1 hE_2 (by decide +kernel)) (by omega) hq.2.2.2), (K3.toM (K3.ext (K3.ext g3 gA hO m0 m1 hE_1 (by decide +kernel)) (Ad.ext gA hO m0 m1 hE_1 (by decide +kernel)) hO_1 m0_1 m1_1 hE_2 (by decide +kernel)) ((hE_2.ei m1_1 (by decide +kernel)).trans (hE_1.ei m1 (by decide +kernel))) hq.2.2.2), (K4.ext (K4.ext g4 gA hO m0 m1 hE_1 (by decide +kernel)) (Ad.ext gA hO m0 m1 hE_1 (by decide +kernel)) hO_1 m0_1 m1_1 hE_2 (by decide +kernel)), (K5.ext (K5.ext g5 gA hO m0 m1 hE_1 (by decide +kernel)) (Ad.ext gA hO m0 m1 hE_1 (by decide +kernel)) hO_1 m0_1 m1_1 hE_2 (by decide +kernel))⟩ hP hD hS hl
set_option maxHeartbeats 4000000 in
set_option maxRecDepth 100000 in
theorem law_case_1 {p : Program} {e : Env} {s : State} {m : MethodId} {below : List Frame} {meth : Method} {c : Code} (l : Launch) {b N : Nat} {xs : Nat → Int32} (C0 : lw_At p s m meth c b N xs) (hNN : N ≤ 3072) {dC : Nat → ClassId} {dI : Nat → Nat → Nat} {ct : Nat → ClassId} {q0 q1 : Nat} (hK : va_K (dC, dI) vwCl (TT ct) s) (hN : NW s) {adK adV : Nat → Nat} (hW0 : SW adK adV (fun q : Nat => s.heap.size ≤ q) s s.heap) {i cells slots : Nat} (hi : i + 6 ≤ N) (hc : cells + 60 ≤ 600000) (hs : slots + 3000 ≤ 7302250) (hgo : LGo p l e s m below meth c b dC dI ct q0 q1 i (i + 6) (cells + 60) (slots + 3000) 1259) : LGo p l e s m below meth c b dC dI ct q0 q1 i i cells slots 203 := by
  intro L f H locs ls hO m0 m1 hT hCp hP hD hS hl
  obtain ⟨gL, gT, gO, gM, ad, gA, g1, g2, g3, g4, g5⟩ := hCp
  obtain ⟨hx, hb, hr, hml, hown, hts, hX, hbl, hlocks, hgv⟩ := id C0
  have hA : ∀ q : Nat, s.heap.size ≤ q → (fun q : Nat => s.heap.size ≤ q) q := fun _ h => h
  have hbA : ¬ (fun q : Nat => s.heap.size ≤ q) b := Nat.not_le.mpr hbl
  have htb := fun w (h : w ∈ TB) => hts w (List.mem_filter.mp h).1
  refine lv_aload_n hx hb d_law_203 rfl (lv_at hl 2 rfl) ?_
  refine lv_aload_n hx hb d_law_204 rfl (lv_at hl 3 rfl) ?_
  refine lv_iload_n hx hb d_law_205 rfl (lv_at hl 0 rfl) ?_
  refine lv_iconst (v := 1) hx hb d_law_206 (by decide +kernel) ?_
  refine lv_iadd hx hb d_law_207 ?_
  refine hb_ti (nI (i + 1)) (nI_add i 1) ?_
  refine va_sld hx hb hX hbl hbA hS (i := nI (i + 1)) (vp_in_nI (by omega) (by omega)) d_law_208 ?_
  refine hb_ti (xs (i + 1)) (congrArg xs (nI_clamp (by omega))) ?_
  have hFc := hb_free hD hS hA
  refine va_calli (va_runV (As := [.int (xs (i + 1))]) (rest := []) ⟨hx, hb, hml, hown, htb⟩ (c_WM_bridge_w l dC dI ct L f hO q0 m0 _ (xs (i + 1)) _ (pr_bridge5 hO m0 m1 gL gA g5 (xs (i + 1)))) (cwV 1 htb (gd_V tw_721 tw_722 tw_723 tw_26 tw_724) rfl rfl rfl (by decide +kernel) ⟨Nat.le_of_ble_eq_true rfl, Nat.le_of_ble_eq_true rfl⟩) ⟨pc_blind, tw_recv hK hP m0 rfl rfl, pc_pre hP hK hD hN⟩ rfl rfl hl.1 rfl (lv_room (Nat.le_of_ble_eq_true rfl)) d_law_209 ⟨(by show cells + 0 ≤ 600000; omega), (by show slots + 0 ≤ 7302250; omega)⟩) hS (fun q _ h => hFc q h) hFc (fun r_1 u t H locs ht hvm er_1 hB hz1 hk1 hS => ?_)
  obtain ⟨L_1, f_1⟩ := u
  obtain ⟨hO_1, hE_1, er_1, hq⟩ := er_1
  obtain ⟨hP, hK1, hD1⟩ := hB
  rw [ht] at hP
  have hP : va_P (dC, dI) vwCl (TW ct L_1 f_1) H := hP
  have hD : va_D (fun q : Nat => s.heap.size ≤ q) (TW ct L_1 f_1) := hD1.weaken (fun _ q _ h => hFc q.1 h)
  have hO_1 : Ok L_1 f_1 := hO_1
  have hE_1 : Ext W_WM_bridge_w L f L_1 f_1 := hE_1
  clear hK1 hD1 ht hvm hz1 hk1
  have m0_1 := hE_1.m m0
  have m1_1 := hE_1.m m1
  have hT_1 : TInv f_1 q1 := TInv.ext hT hO m1 hE_1 (by decide +kernel)
  have hq := hq hO_1 m0_1 m1_1
  refine lv_pop hx hb d_law_212 rfl ?_
  refine lv_aload_n hx hb d_law_213 rfl (lv_at hl 1 rfl) ?_
  refine lv_aload_n hx hb d_law_214 rfl (lv_at hl 3 rfl) ?_
  refine lv_iload_n hx hb d_law_215 rfl (lv_at hl 0 rfl) ?_
  refine lv_iconst (v := 1) hx hb d_law_216 (by decide +kernel) ?_
  refine lv_iadd hx hb d_law_217 ?_
  refine hb_ti (nI (i + 1)) (nI_add i 1) ?_
  refine va_sld hx hb hX hbl hbA hS (i := nI (i + 1)) (vp_in_nI (by omega) (by omega)) d_law_218 ?_
  refine hb_ti (xs (i + 1)) (congrArg xs (nI_clamp (by omega))) ?_
  have hFc := hb_free hD hS hA
  refine va_calli (va_runV (As := [.int (xs (i + 1))]) (rest := []) ⟨hx, hb, hml, hown, htb⟩ (c_Md_bridge_w l dC dI ct L_1 f_1 hO_1 q1 m1_1 _ (xs (i + 1)) _ (hq)) (cwV 1 htb (gd_V tw_725 tw_726 tw_727 tw_89 tw_728) rfl rfl rfl (by decide +kernel) ⟨Nat.le_of_ble_eq_true rfl, Nat.le_of_ble_eq_true rfl⟩) ⟨pc_blind, tw_recv hK hP m1_1 rfl rfl, pc_pre hP hK hD hN⟩ rfl rfl hl.1 rfl (lv_room (Nat.le_of_ble_eq_true rfl)) d_law_219 ⟨(by show cells + 0 ≤ 600000; omega), (by show slots + 0 ≤ 7302250; omega)⟩) hS (fun q _ h => hFc q h) hFc (fun r_2 u t H locs ht hvm er_2 hB hz1 hk1 hS => ?_)
  obtain ⟨L_2, f_2⟩ := u
  obtain ⟨hO_2, hE_2, er_2, hq⟩ := er_2
  obtain ⟨hP, hK1, hD1⟩ := hB
  rw [ht] at hP
  have hP : va_P (dC, dI) vwCl (TW ct L_2 f_2) H := hP
  have hD : va_D (fun q : Nat => s.heap.size ≤ q) (TW ct L_2 f_2) := hD1.weaken (fun _ q _ h => hFc q.1 h)
  have hO_2 : Ok L_2 f_2 := hO_2
  have hE_2 : Ext W_Md_bridge_w L_1 f_1 L_2 f_2 := hE_2
  clear hK1 hD1 ht hvm hz1 hk1
  have m0_2 := hE_2.m m0_1
  have m1_2 := hE_2.m m1_1
  have hT_2 : TInv f_2 q1 := TInv.ext hT_1 hO_1 m1_1 hE_2 (by decide +kernel)
  have hq := hq hO_2
  refine lv_pop hx hb d_law_222 rfl ?_
  refine lv_goto (tgt := 1259) hx hb d_law_223 (by decide) ?_
  refine W.widen (k := cells + 60) (n := slots + 3000) (by omega) (by omega) ?_
  exact hgo L_2 f_2 H locs ls hO_2 m0_2 m1_2 hT_2 ⟨hq.2.1, (CT.ext (CT.ext gT hO m0 m1 hE_1 (by decide +kernel)) hO_1 m0_1 m1_1 hE_2 (by decide +kernel)), (CO.ext (CO.ext gO hO m0 m1 hE_1 (by decide +kernel)) hO_1 m0_1 m1_1 hE_2 (by decide +kernel)), (CM.ext (CM.ext gM hO m0 m1 hE_1 (by decide +kernel)) hO_1 m0_1 m1_1 hE_2 (by decide +kernel)), ad, (Ad.ext (Ad.ext gA hO m0 m1 hE_1 (by decide +kernel)) hO_1 m0_1 m1_1 hE_2 (by decide +kernel)), (K1.extT (K1.extT g1 gA hO m0 m1 hE_1 (by decide +kernel)) (Ad.ext gA hO m0 m1 hE_1 (by decide +kernel)) hO_1 m0_1 m1_1 hE_2 (by decide +kernel)), (K2.mono (K2.extN (K2.extN g2 gA hO m0 m1 hE_1 (by decide +kernel)) (Ad.ext gA hO m0 m1 hE_1 (by decide +kernel)) hO_1 m0_1 m1_1 hE_2 (by decide +kernel)) (by omega) (Nat.le_refl _)), (K3.extT (K3.extT g3 gA hO m0 m1 hE_1 (by decide +kernel)) (Ad.ext gA hO m0 m1 hE_1 (by decide +kernel)) hO_1 m0_1 m1_1 hE_2 (by decide +kernel)), (K4.ext (K4.ext g4 gA hO m0 m1 hE_1 (by decide +kernel)) (Ad.ext gA hO m0 m1 hE_1 (by decide +kernel)) hO_1 m0_1 m1_1 hE_2 (by decide +kernel)), hq.2.2⟩ hP hD hS hl
set_option maxHeartbeats 4000000 in
set_option maxRecDepth 100000 in
theorem law_case_2 {p : Program} {e : Env} {s : State} {m : MethodId} {below : List Frame} {meth : Method} {c : Code} (l : Launch) {b N : Nat} {xs : Nat → Int32} (C0 : lw_At p s m meth c b N xs) (hNN : N ≤ 3072) {dC : Nat → ClassId} {dI : Nat → Nat → Nat} {ct : Nat → ClassId} {q0 q1 : Nat} (hK : va_K (dC, dI) vwCl (TT ct) s) (hN : NW s) {adK adV : Nat → Nat} (hW0 : SW adK adV (fun q : Nat => s.heap.size ≤ q) s s.heap) {i cells slots : Nat} (hi : i + 6 ≤ N) (hc : cells + 60 ≤ 600000) (hs : slots + 3000 ≤ 7302250) (hgo : LGo p l e s m below meth c b dC dI ct q0 q1 i (i + 6) (cells + 60) (slots + 3000) 1259) : LGo p l e s m below meth c b dC dI ct q0 q1 i i cells slots 226 := by
  intro L f H locs ls hO m0 m1 hT hCp hP hD hS hl
  obtain ⟨gL, gT, gO, gM, ad, gA, g1, g2, g3, g4, g5⟩ := hCp
  obtain ⟨hx, hb, hr, hml, hown, hts, hX, hbl, hlocks, hgv⟩ := id C0
  have hA : ∀ q : Nat, s.heap.size ≤ q → (fun q : Nat => s.heap.size ≤ q) q := fun _ h => h
  have hbA : ¬ (fun q : Nat => s.heap.size ≤ q) b := Nat.not_le.mpr hbl
  have htb := fun w (h : w ∈ TB) => hts w (List.mem_filter.mp h).1
  refine lv_aload_n hx hb d_law_226 rfl (lv_at hl 2 rfl) ?_
  refine lv_aload_n hx hb d_law_227 rfl (lv_at hl 3 rfl) ?_
  refine lv_iload_n hx hb d_law_228 rfl (lv_at hl 0 rfl) ?_
  refine lv_iconst (v := 1) hx hb d_law_229 (by decide +kernel) ?_
  refine lv_iadd hx hb d_law_230 ?_
  refine hb_ti (nI (i + 1)) (nI_add i 1) ?_
  refine va_sld hx hb hX hbl hbA hS (i := nI (i + 1)) (vp_in_nI (by omega) (by omega)) d_law_231 ?_
  refine hb_ti (xs (i + 1)) (congrArg xs (nI_clamp (by omega))) ?_
  refine lv_aload_n hx hb d_law_232 rfl (lv_at hl 3 rfl) ?_
  refine lv_iload_n hx hb d_law_233 rfl (lv_at hl 0 rfl) ?_
  refine lv_iconst (v := 2) hx hb d_law_234 (by decide +kernel) ?_
  refine lv_iadd hx hb d_law_235 ?_
  refine hb_ti (nI (i + 2)) (nI_add i 2) ?_
  refine va_sld hx hb hX hbl hbA hS (i := nI (i + 2)) (vp_in_nI (by omega) (by omega)) d_law_236 ?_
  refine hb_ti (xs (i + 2)) (congrArg xs (nI_clamp (by omega))) ?_
  refine lv_aload_n hx hb d_law_237 rfl (lv_at hl 3 rfl) ?_
  refine lv_iload_n hx hb d_law_238 rfl (lv_at hl 0 rfl) ?_
  refine lv_iconst (v := 3) hx hb d_law_239 (by decide +kernel) ?_
  refine lv_iadd hx hb d_law_240 ?_
  refine hb_ti (nI (i + 3)) (nI_add i 3) ?_
  refine va_sld hx hb hX hbl hbA hS (i := nI (i + 3)) (vp_in_nI (by omega) (by omega)) d_law_241 ?_
  refine hb_ti (xs (i + 3)) (congrArg xs (nI_clamp (by omega))) ?_
  have hFc := hb_free hD hS hA
  refine va_calli (va_runV (As := [.int (xs (i + 1)), .int (xs (i + 2)), .int (xs (i + 3))]) (rest := []) ⟨hx, hb, hml, hown, htb⟩ (c_WM_level_w l dC dI ct L f hO q0 m0 _ (xs (i + 1)) (xs (i + 2)) (xs (i + 3)) _ (pr_level hO m0 m1 gL (xs (i + 1)) (xs (i + 2)) (xs (i + 3)))) (cwV 3 htb (gd_V tw_729 tw_730 tw_731 tw_26 tw_732) rfl rfl rfl (by decide +kernel) ⟨Nat.le_of_ble_eq_true rfl, Nat.le_of_ble_eq_true rfl⟩) ⟨pc_blind, tw_recv hK hP m0 rfl rfl, pc_pre hP hK hD hN⟩ rfl rfl hl.1 rfl (lv_room (Nat.le_of_ble_eq_true rfl)) d_law_242 ⟨(by show cells + 1 ≤ 600000; omega), (by show slots + 12 ≤ 7302250; omega)⟩) hS (fun q _ h => hFc q h) hFc (fun r_1 u t H locs ht hvm er_1 hB hz1 hk1 hS => ?_)
  obtain ⟨L_1, f_1⟩ := u
  obtain ⟨hO_1, hE_1, er_1, hq⟩ := er_1
  obtain ⟨hP, hK1, hD1⟩ := hB
  rw [ht] at hP
  have hP : va_P (dC, dI) vwCl (TW ct L_1 f_1) H := hP
  have hD : va_D (fun q : Nat => s.heap.size ≤ q) (TW ct L_1 f_1) := hD1.weaken (fun _ q _ h => hFc q.1 h)
  have hO_1 : Ok L_1 f_1 := hO_1
  have hE_1 : Ext W_WM_level_w L f L_1 f_1 := hE_1
  clear hK1 hD1 ht hvm hz1 hk1
  have m0_1 := hE_1.m m0
  have m1_1 := hE_1.m m1
  have hT_1 : TInv f_1 q1 := TInv.ext hT hO m1 hE_1 (by decide +kernel)
  have hq := hq hO_1 m0_1 m1_1
  refine lv_pop hx hb d_law_245 rfl ?_
  refine lv_aload_n hx hb d_law_246 rfl (lv_at hl 1 rfl) ?_
  refine lv_aload_n hx hb d_law_247 rfl (lv_at hl 3 rfl) ?_
  refine lv_iload_n hx hb d_law_248 rfl (lv_at hl 0 rfl) ?_
  refine lv_iconst (v := 1) hx hb d_law_249 (by decide +kernel) ?_
  refine lv_iadd hx hb d_law_250 ?_
  refine hb_ti (nI (i + 1)) (nI_add i 1) ?_
  refine va_sld hx hb hX hbl hbA hS (i := nI (i + 1)) (vp_in_nI (by omega) (by omega)) d_law_251 ?_
  refine hb_ti (xs (i + 1)) (congrArg xs (nI_clamp (by omega))) ?_
  refine lv_aload_n hx hb d_law_252 rfl (lv_at hl 3 rfl) ?_
  refine lv_iload_n hx hb d_law_253 rfl (lv_at hl 0 rfl) ?_
  refine lv_iconst (v := 2) hx hb d_law_254 (by decide +kernel) ?_
  refine lv_iadd hx hb d_law_255 ?_
  refine hb_ti (nI (i + 2)) (nI_add i 2) ?_
  refine va_sld hx hb hX hbl hbA hS (i := nI (i + 2)) (vp_in_nI (by omega) (by omega)) d_law_256 ?_
  refine hb_ti (xs (i + 2)) (congrArg xs (nI_clamp (by omega))) ?_
  refine lv_aload_n hx hb d_law_257 rfl (lv_at hl 3 rfl) ?_
  refine lv_iload_n hx hb d_law_258 rfl (lv_at hl 0 rfl) ?_
  refine lv_iconst (v := 3) hx hb d_law_259 (by decide +kernel) ?_
  refine lv_iadd hx hb d_law_260 ?_
  refine hb_ti (nI (i + 3)) (nI_add i 3) ?_
  refine va_sld hx hb hX hbl hbA hS (i := nI (i + 3)) (vp_in_nI (by omega) (by omega)) d_law_261 ?_
  refine hb_ti (xs (i + 3)) (congrArg xs (nI_clamp (by omega))) ?_
  have hFc := hb_free hD hS hA
  refine va_calli (va_runV (As := [.int (xs (i + 1)), .int (xs (i + 2)), .int (xs (i + 3))]) (rest := []) ⟨hx, hb, hml, hown, htb⟩ (c_Md_level_w l dC dI ct L_1 f_1 hO_1 q1 m1_1 _ (xs (i + 1)) (xs (i + 2)) (xs (i + 3)) _ (hq)) (cwV 3 htb (gd_V tw_733 tw_734 tw_735 tw_89 tw_736) rfl rfl rfl (by decide +kernel) ⟨Nat.le_of_ble_eq_true rfl, Nat.le_of_ble_eq_true rfl⟩) ⟨pc_blind, tw_recv hK hP m1_1 rfl rfl, pc_pre hP hK hD hN⟩ rfl rfl hl.1 rfl (lv_room (Nat.le_of_ble_eq_true rfl)) d_law_262 ⟨(by show cells + 1 + 0 ≤ 600000; omega), (by show slots + 12 + 0 ≤ 7302250; omega)⟩) hS (fun q _ h => hFc q h) hFc (fun r_2 u t H locs ht hvm er_2 hB hz1 hk1 hS => ?_)
  obtain ⟨L_2, f_2⟩ := u
  obtain ⟨hO_2, hE_2, er_2, hq⟩ := er_2
  obtain ⟨hP, hK1, hD1⟩ := hB
  rw [ht] at hP
  have hP : va_P (dC, dI) vwCl (TW ct L_2 f_2) H := hP
  have hD : va_D (fun q : Nat => s.heap.size ≤ q) (TW ct L_2 f_2) := hD1.weaken (fun _ q _ h => hFc q.1 h)
  have hO_2 : Ok L_2 f_2 := hO_2
  have hE_2 : Ext W_Md_level_w L_1 f_1 L_2 f_2 := hE_2
  clear hK1 hD1 ht hvm hz1 hk1
  have m0_2 := hE_2.m m0_1
  have m1_2 := hE_2.m m1_1
  have hT_2 : TInv f_2 q1 := TInv.ext hT_1 hO_1 m1_1 hE_2 (by decide +kernel)
  have hq := hq hO_2
  refine lv_pop hx hb d_law_265 rfl ?_
  refine lv_goto (tgt := 1259) hx hb d_law_266 (by decide) ?_
  refine W.widen (k := cells + 60) (n := slots + 3000) (by omega) (by omega) ?_
  exact hgo L_2 f_2 H locs ls hO_2 m0_2 m1_2 hT_2 ⟨hq.2, (CT.ext (CT.ext gT hO m0 m1 hE_1 (by decide +kernel)) hO_1 m0_1 m1_1 hE_2 (by decide +kernel)), (CO.ext (CO.ext gO hO m0 m1 hE_1 (by decide +kernel)) hO_1 m0_1 m1_1 hE_2 (by decide +kernel)), (CM.ext (CM.ext gM hO m0 m1 hE_1 (by decide +kernel)) hO_1 m0_1 m1_1 hE_2 (by decide +kernel)), ad, (Ad.ext (Ad.ext gA hO m0 m1 hE_1 (by decide +kernel)) hO_1 m0_1 m1_1 hE_2 (by decide +kernel)), (K1.extT (K1.extT g1 gA hO m0 m1 hE_1 (by decide +kernel)) (Ad.ext gA hO m0 m1 hE_1 (by decide +kernel)) hO_1 m0_1 m1_1 hE_2 (by decide +kernel)), (K2.mono (K2.extN (K2.extN g2 gA hO m0 m1 hE_1 (by decide +kernel)) (Ad.ext gA hO m0 m1 hE_1 (by decide +kernel)) hO_1 m0_1 m1_1 hE_2 (by decide +kernel)) (by omega) (Nat.le_refl _)), (K3.extT (K3.extT g3 gA hO m0 m1 hE_1 (by decide +kernel)) (Ad.ext gA hO m0 m1 hE_1 (by decide +kernel)) hO_1 m0_1 m1_1 hE_2 (by decide +kernel)), (K4.ext (K4.ext g4 gA hO m0 m1 hE_1 (by decide +kernel)) (Ad.ext gA hO m0 m1 hE_1 (by decide +kernel)) hO_1 m0_1 m1_1 hE_2 (by decide +kernel)), (K5.ext (K5.ext g5 gA hO m0 m1 hE_1 (by decide +kernel)) (Ad.ext gA hO m0 m1 hE_1 (by decide +kernel)) hO_1 m0_1 m1_1 hE_2 (by decide +kernel))⟩ hP hD hS hl
set_option maxHeartbeats 4000000 in
set_option maxRecDepth 100000 in
theorem law_case_3 {p : Program} {e : Env} {s : State} {m : MethodId} {below : List Frame} {meth : Method} {c : Code} (l : Launch) {b N : Nat} {xs : Nat → Int32} (C0 : lw_At p s m meth c b N xs) (hNN : N ≤ 3072) {dC : Nat → ClassId} {dI : Nat → Nat → Nat} {ct : Nat → ClassId} {q0 q1 : Nat} (hK : va_K (dC, dI) vwCl (TT ct) s) (hN : NW s) {adK adV : Nat → Nat} (hW0 : SW adK adV (fun q : Nat => s.heap.size ≤ q) s s.heap) {i cells slots : Nat} (hi : i + 6 ≤ N) (hc : cells + 60 ≤ 600000) (hs : slots + 3000 ≤ 7302250) (hgo : LGo p l e s m below meth c b dC dI ct q0 q1 i (i + 6) (cells + 60) (slots + 3000) 1259) : LGo p l e s m below meth c b dC dI ct q0 q1 i i cells slots 269 := by
  intro L f H locs ls hO m0 m1 hT hCp hP hD hS hl
  obtain ⟨gL, gT, gO, gM, ad, gA, g1, g2, g3, g4, g5⟩ := hCp
  obtain ⟨hx, hb, hr, hml, hown, hts, hX, hbl, hlocks, hgv⟩ := id C0
  have hA : ∀ q : Nat, s.heap.size ≤ q → (fun q : Nat => s.heap.size ≤ q) q := fun _ h => h
  have hbA : ¬ (fun q : Nat => s.heap.size ≤ q) b := Nat.not_le.mpr hbl
  have htb := fun w (h : w ∈ TB) => hts w (List.mem_filter.mp h).1
  refine lv_aload_n hx hb d_law_269 rfl (lv_at hl 2 rfl) ?_
  refine lv_aload_n hx hb d_law_270 rfl (lv_at hl 3 rfl) ?_
  refine lv_iload_n hx hb d_law_271 rfl (lv_at hl 0 rfl) ?_
  refine lv_iconst (v := 1) hx hb d_law_272 (by decide +kernel) ?_
  refine lv_iadd hx hb d_law_273 ?_
  refine hb_ti (nI (i + 1)) (nI_add i 1) ?_
  refine va_sld hx hb hX hbl hbA hS (i := nI (i + 1)) (vp_in_nI (by omega) (by omega)) d_law_274 ?_
  refine hb_ti (xs (i + 1)) (congrArg xs (nI_clamp (by omega))) ?_
  refine lv_aload_n hx hb d_law_275 rfl (lv_at hl 3 rfl) ?_
  refine lv_iload_n hx hb d_law_276 rfl (lv_at hl 0 rfl) ?_
  refine lv_iconst (v := 2) hx hb d_law_277 (by decide +kernel) ?_
  refine lv_iadd hx hb d_law_278 ?_
  refine hb_ti (nI (i + 2)) (nI_add i 2) ?_
  refine va_sld hx hb hX hbl hbA hS (i := nI (i + 2)) (vp_in_nI (by omega) (by omega)) d_law_279 ?_
  refine hb_ti (xs (i + 2)) (congrArg xs (nI_clamp (by omega))) ?_
  have hFc := hb_free hD hS hA
  refine va_calli (va_runV (As := [.int (xs (i + 1)), .int (xs (i + 2))]) (rest := []) ⟨hx, hb, hml, hown, htb⟩ (c_WM_table_w l dC dI ct L f hO q0 m0 _ (xs (i + 1)) (xs (i + 2)) _ (pr_table hO m0 m1 gL (xs (i + 1)) (xs (i + 2)))) (cwV 2 htb (gd_V tw_737 tw_738 tw_739 tw_26 tw_740) rfl rfl rfl (by decide +kernel) ⟨Nat.le_of_ble_eq_true rfl, Nat.le_of_ble_eq_true rfl⟩) ⟨pc_blind, tw_recv hK hP m0 rfl rfl, pc_pre hP hK hD hN⟩ rfl rfl hl.1 rfl (lv_room (Nat.le_of_ble_eq_true rfl)) d_law_280 ⟨(by show cells + 0 ≤ 600000; omega), (by show slots + 0 ≤ 7302250; omega)⟩) hS (fun q _ h => hFc q h) hFc (fun r_1 u t H locs ht hvm er_1 hB hz1 hk1 hS => ?_)
  obtain ⟨L_1, f_1⟩ := u
  obtain ⟨hO_1, hE_1, er_1, hq⟩ := er_1
  obtain ⟨hP, hK1, hD1⟩ := hB
  rw [ht] at hP
  have hP : va_P (dC, dI) vwCl (TW ct L_1 f_1) H := hP
  have hD : va_D (fun q : Nat => s.heap.size ≤ q) (TW ct L_1 f_1) := hD1.weaken (fun _ q _ h => hFc q.1 h)
  have hO_1 : Ok L_1 f_1 := hO_1
  have hE_1 : Ext W_WM_table_w L f L_1 f_1 := hE_1
  clear hK1 hD1 ht hvm hz1 hk1
  have m0_1 := hE_1.m m0
  have m1_1 := hE_1.m m1
  have hT_1 : TInv f_1 q1 := TInv.ext hT hO m1 hE_1 (by decide +kernel)
  have hq := hq hO_1 m0_1 m1_1
  refine lv_pop hx hb d_law_283 rfl ?_
  refine lv_aload_n hx hb d_law_284 rfl (lv_at hl 1 rfl) ?_
  refine lv_aload_n hx hb d_law_285 rfl (lv_at hl 3 rfl) ?_
  refine lv_iload_n hx hb d_law_286 rfl (lv_at hl 0 rfl) ?_
  refine lv_iconst (v := 1) hx hb d_law_287 (by decide +kernel) ?_
  refine lv_iadd hx hb d_law_288 ?_
  refine hb_ti (nI (i + 1)) (nI_add i 1) ?_
  refine va_sld hx hb hX hbl hbA hS (i := nI (i + 1)) (vp_in_nI (by omega) (by omega)) d_law_289 ?_
  refine hb_ti (xs (i + 1)) (congrArg xs (nI_clamp (by omega))) ?_
  refine lv_aload_n hx hb d_law_290 rfl (lv_at hl 3 rfl) ?_
  refine lv_iload_n hx hb d_law_291 rfl (lv_at hl 0 rfl) ?_
  refine lv_iconst (v := 2) hx hb d_law_292 (by decide +kernel) ?_
  refine lv_iadd hx hb d_law_293 ?_
  refine hb_ti (nI (i + 2)) (nI_add i 2) ?_
  refine va_sld hx hb hX hbl hbA hS (i := nI (i + 2)) (vp_in_nI (by omega) (by omega)) d_law_294 ?_
  refine hb_ti (xs (i + 2)) (congrArg xs (nI_clamp (by omega))) ?_
  have hFc := hb_free hD hS hA
  refine va_calli (va_runV (As := [.int (xs (i + 1)), .int (xs (i + 2))]) (rest := []) ⟨hx, hb, hml, hown, htb⟩ (c_Md_table_w l dC dI ct L_1 f_1 hO_1 q1 m1_1 _ (xs (i + 1)) (xs (i + 2)) _ (hq)) (cwV 2 htb (gd_V tw_741 tw_742 tw_743 tw_89 tw_744) rfl rfl rfl (by decide +kernel) ⟨Nat.le_of_ble_eq_true rfl, Nat.le_of_ble_eq_true rfl⟩) ⟨pc_blind, tw_recv hK hP m1_1 rfl rfl, pc_pre hP hK hD hN⟩ rfl rfl hl.1 rfl (lv_room (Nat.le_of_ble_eq_true rfl)) d_law_295 ⟨(by show cells + 0 ≤ 600000; omega), (by show slots + 0 ≤ 7302250; omega)⟩) hS (fun q _ h => hFc q h) hFc (fun r_2 u t H locs ht hvm er_2 hB hz1 hk1 hS => ?_)
  obtain ⟨L_2, f_2⟩ := u
  obtain ⟨hO_2, hE_2, er_2, hq⟩ := er_2
  obtain ⟨hP, hK1, hD1⟩ := hB
  rw [ht] at hP
  have hP : va_P (dC, dI) vwCl (TW ct L_2 f_2) H := hP
  have hD : va_D (fun q : Nat => s.heap.size ≤ q) (TW ct L_2 f_2) := hD1.weaken (fun _ q _ h => hFc q.1 h)
  have hO_2 : Ok L_2 f_2 := hO_2
  have hE_2 : Ext W_Md_table_w L_1 f_1 L_2 f_2 := hE_2
  clear hK1 hD1 ht hvm hz1 hk1
  have m0_2 := hE_2.m m0_1
  have m1_2 := hE_2.m m1_1
  have hT_2 : TInv f_2 q1 := TInv.ext hT_1 hO_1 m1_1 hE_2 (by decide +kernel)
  have hq := hq hO_2
  refine lv_pop hx hb d_law_298 rfl ?_
  refine lv_goto (tgt := 1259) hx hb d_law_299 (by decide) ?_
  refine W.widen (k := cells + 60) (n := slots + 3000) (by omega) (by omega) ?_
  exact hgo L_2 f_2 H locs ls hO_2 m0_2 m1_2 hT_2 ⟨hq.2, (CT.ext (CT.ext gT hO m0 m1 hE_1 (by decide +kernel)) hO_1 m0_1 m1_1 hE_2 (by decide +kernel)), (CO.ext (CO.ext gO hO m0 m1 hE_1 (by decide +kernel)) hO_1 m0_1 m1_1 hE_2 (by decide +kernel)), (CM.ext (CM.ext gM hO m0 m1 hE_1 (by decide +kernel)) hO_1 m0_1 m1_1 hE_2 (by decide +kernel)), ad, (Ad.ext (Ad.ext gA hO m0 m1 hE_1 (by decide +kernel)) hO_1 m0_1 m1_1 hE_2 (by decide +kernel)), (K1.extT (K1.extT g1 gA hO m0 m1 hE_1 (by decide +kernel)) (Ad.ext gA hO m0 m1 hE_1 (by decide +kernel)) hO_1 m0_1 m1_1 hE_2 (by decide +kernel)), (K2.mono (K2.extN (K2.extN g2 gA hO m0 m1 hE_1 (by decide +kernel)) (Ad.ext gA hO m0 m1 hE_1 (by decide +kernel)) hO_1 m0_1 m1_1 hE_2 (by decide +kernel)) (by omega) (Nat.le_refl _)), (K3.extT (K3.extT g3 gA hO m0 m1 hE_1 (by decide +kernel)) (Ad.ext gA hO m0 m1 hE_1 (by decide +kernel)) hO_1 m0_1 m1_1 hE_2 (by decide +kernel)), (K4.ext (K4.ext g4 gA hO m0 m1 hE_1 (by decide +kernel)) (Ad.ext gA hO m0 m1 hE_1 (by decide +kernel)) hO_1 m0_1 m1_1 hE_2 (by decide +kernel)), (K5.ext (K5.ext g5 gA hO m0 m1 hE_1 (by decide +kernel)) (Ad.ext gA hO m0 m1 hE_1 (by decide +kernel)) hO_1 m0_1 m1_1 hE_2 (by decide +kernel))⟩ hP hD hS hl
set_option maxHeartbeats 4000000 in
set_option maxRecDepth 100000 in
theorem law_case_4 {p : Program} {e : Env} {s : State} {m : MethodId} {below : List Frame} {meth : Method} {c : Code} (l : Launch) {b N : Nat} {xs : Nat → Int32} (C0 : lw_At p s m meth c b N xs) (hNN : N ≤ 3072) {dC : Nat → ClassId} {dI : Nat → Nat → Nat} {ct : Nat → ClassId} {q0 q1 : Nat} (hK : va_K (dC, dI) vwCl (TT ct) s) (hN : NW s) {adK adV : Nat → Nat} (hW0 : SW adK adV (fun q : Nat => s.heap.size ≤ q) s s.heap) {i cells slots : Nat} (hi : i + 6 ≤ N) (hc : cells + 60 ≤ 600000) (hs : slots + 3000 ≤ 7302250) (hgo : LGo p l e s m below meth c b dC dI ct q0 q1 i (i + 6) (cells + 60) (slots + 3000) 1259) : LGo p l e s m below meth c b dC dI ct q0 q1 i i cells slots 302 := by
  intro L f H locs ls hO m0 m1 hT hCp hP hD hS hl
  obtain ⟨gL, gT, gO, gM, ad, gA, g1, g2, g3, g4, g5⟩ := hCp
  obtain ⟨hx, hb, hr, hml, hown, hts, hX, hbl, hlocks, hgv⟩ := id C0
  have hA : ∀ q : Nat, s.heap.size ≤ q → (fun q : Nat => s.heap.size ≤ q) q := fun _ h => h
  have hbA : ¬ (fun q : Nat => s.heap.size ≤ q) b := Nat.not_le.mpr hbl
  have htb := fun w (h : w ∈ TB) => hts w (List.mem_filter.mp h).1
  refine lv_aload_n hx hb d_law_302 rfl (lv_at hl 2 rfl) ?_
  refine lv_aload_n hx hb d_law_303 rfl (lv_at hl 3 rfl) ?_
  refine lv_iload_n hx hb d_law_304 rfl (lv_at hl 0 rfl) ?_
  refine lv_iconst (v := 1) hx hb d_law_305 (by decide +kernel) ?_
  refine lv_iadd hx hb d_law_306 ?_
  refine hb_ti (nI (i + 1)) (nI_add i 1) ?_
  refine va_sld hx hb hX hbl hbA hS (i := nI (i + 1)) (vp_in_nI (by omega) (by omega)) d_law_307 ?_
  refine hb_ti (xs (i + 1)) (congrArg xs (nI_clamp (by omega))) ?_
  refine lv_aload_n hx hb d_law_308 rfl (lv_at hl 3 rfl) ?_
  refine lv_iload_n hx hb d_law_309 rfl (lv_at hl 0 rfl) ?_
  refine lv_iconst (v := 2) hx hb d_law_310 (by decide +kernel) ?_
  refine lv_iadd hx hb d_law_311 ?_
  refine hb_ti (nI (i + 2)) (nI_add i 2) ?_
  refine va_sld hx hb hX hbl hbA hS (i := nI (i + 2)) (vp_in_nI (by omega) (by omega)) d_law_312 ?_
  refine hb_ti (xs (i + 2)) (congrArg xs (nI_clamp (by omega))) ?_
  refine vp_callSi (va_Run.run (va_runV (As := [.int (xs (i + 1)), .int (xs (i + 2))]) (rest := []) ⟨hx, hb, hml, hown, htb⟩ (c_WM_flow_w l dC dI ct L f hO q0 m0 (xs (i + 1)) (xs (i + 2)) _ (pr_flow hO m0 m1 gL (xs (i + 1)) (xs (i + 2)))) (cwV 2 htb (gd_V tw_745 tw_746 tw_747 tw_26 tw_748) rfl rfl rfl (by decide +kernel) ⟨Nat.le_of_ble_eq_true rfl, Nat.le_of_ble_eq_true rfl⟩) ⟨pr_blind, tw_recv hK hP m0 rfl rfl, pr_pre hP hK hN⟩ rfl rfl hl.1 rfl (lv_room (Nat.le_of_ble_eq_true rfl)) d_law_313 ⟨(by show cells + 0 ≤ 600000; omega), (by show slots + 0 ≤ 7302250; omega)⟩)) (fun r_1 er_1 => ?_)
  obtain ⟨er_1, hq⟩ := er_1
  refine lv_pop hx hb d_law_316 rfl ?_
  refine lv_aload_n hx hb d_law_317 rfl (lv_at hl 1 rfl) ?_
  refine lv_aload_n hx hb d_law_318 rfl (lv_at hl 3 rfl) ?_
  refine lv_iload_n hx hb d_law_319 rfl (lv_at hl 0 rfl) ?_
  refine lv_iconst (v := 1) hx hb d_law_320 (by decide +kernel) ?_
  refine lv_iadd hx hb d_law_321 ?_
  refine hb_ti (nI (i + 1)) (nI_add i 1) ?_
  refine va_sld hx hb hX hbl hbA hS (i := nI (i + 1)) (vp_in_nI (by omega) (by omega)) d_law_322 ?_
  refine hb_ti (xs (i + 1)) (congrArg xs (nI_clamp (by omega))) ?_
  refine lv_aload_n hx hb d_law_323 rfl (lv_at hl 3 rfl) ?_
  refine lv_iload_n hx hb d_law_324 rfl (lv_at hl 0 rfl) ?_
  refine lv_iconst (v := 2) hx hb d_law_325 (by decide +kernel) ?_
  refine lv_iadd hx hb d_law_326 ?_
  refine hb_ti (nI (i + 2)) (nI_add i 2) ?_
  refine va_sld hx hb hX hbl hbA hS (i := nI (i + 2)) (vp_in_nI (by omega) (by omega)) d_law_327 ?_
  refine hb_ti (xs (i + 2)) (congrArg xs (nI_clamp (by omega))) ?_
  refine vp_callSi (va_Run.run (va_runV (As := [.int (xs (i + 1)), .int (xs (i + 2))]) (rest := []) ⟨hx, hb, hml, hown, htb⟩ (c_Md_flow_w l dC dI ct L f hO q1 m1 (xs (i + 1)) (xs (i + 2)) _ (hq)) (cwV 2 htb (gd_V tw_749 tw_750 tw_751 tw_89 tw_752) rfl rfl rfl (by decide +kernel) ⟨Nat.le_of_ble_eq_true rfl, Nat.le_of_ble_eq_true rfl⟩) ⟨pr_blind, tw_recv hK hP m1 rfl rfl, pr_pre hP hK hN⟩ rfl rfl hl.1 rfl (lv_room (Nat.le_of_ble_eq_true rfl)) d_law_328 ⟨(by show cells + 0 ≤ 600000; omega), (by show slots + 0 ≤ 7302250; omega)⟩)) (fun r_2 er_2 => ?_)
  obtain ⟨er_2, hq⟩ := er_2
  refine lv_pop hx hb d_law_331 rfl ?_
  refine lv_goto (tgt := 1259) hx hb d_law_332 (by decide) ?_
  refine W.widen (k := cells + 60) (n := slots + 3000) (by omega) (by omega) ?_
  exact hgo L f H locs ls hO m0 m1 hT ⟨gL, gT, gO, gM, ad, gA, g1, K2.mono g2 (by omega) (Nat.le_refl _), g3, g4, g5⟩ hP hD hS hl
set_option maxHeartbeats 4000000 in
set_option maxRecDepth 100000 in
theorem law_case_5 {p : Program} {e : Env} {s : State} {m : MethodId} {below : List Frame} {meth : Method} {c : Code} (l : Launch) {b N : Nat} {xs : Nat → Int32} (C0 : lw_At p s m meth c b N xs) (hNN : N ≤ 3072) {dC : Nat → ClassId} {dI : Nat → Nat → Nat} {ct : Nat → ClassId} {q0 q1 : Nat} (hK : va_K (dC, dI) vwCl (TT ct) s) (hN : NW s) {adK adV : Nat → Nat} (hW0 : SW adK adV (fun q : Nat => s.heap.size ≤ q) s s.heap) {i cells slots : Nat} (hi : i + 6 ≤ N) (hc : cells + 60 ≤ 600000) (hs : slots + 3000 ≤ 7302250) (hgo : LGo p l e s m below meth c b dC dI ct q0 q1 i (i + 6) (cells + 60) (slots + 3000) 1259) : LGo p l e s m below meth c b dC dI ct q0 q1 i i cells slots 335 := by
  intro L f H locs ls hO m0 m1 hT hCp hP hD hS hl
  obtain ⟨gL, gT, gO, gM, ad, gA, g1, g2, g3, g4, g5⟩ := hCp
  obtain ⟨hx, hb, hr, hml, hown, hts, hX, hbl, hlocks, hgv⟩ := id C0
  have hA : ∀ q : Nat, s.heap.size ≤ q → (fun q : Nat => s.heap.size ≤ q) q := fun _ h => h
  have hbA : ¬ (fun q : Nat => s.heap.size ≤ q) b := Nat.not_le.mpr hbl
  have htb := fun w (h : w ∈ TB) => hts w (List.mem_filter.mp h).1
  refine lv_aload_n hx hb d_law_335 rfl (lv_at hl 2 rfl) ?_
  refine lv_aload_n hx hb d_law_336 rfl (lv_at hl 3 rfl) ?_
  refine lv_iload_n hx hb d_law_337 rfl (lv_at hl 0 rfl) ?_
  refine lv_iconst (v := 1) hx hb d_law_338 (by decide +kernel) ?_
  refine lv_iadd hx hb d_law_339 ?_
  refine hb_ti (nI (i + 1)) (nI_add i 1) ?_
  refine va_sld hx hb hX hbl hbA hS (i := nI (i + 1)) (vp_in_nI (by omega) (by omega)) d_law_340 ?_
  refine hb_ti (xs (i + 1)) (congrArg xs (nI_clamp (by omega))) ?_
  refine lv_aload_n hx hb d_law_341 rfl (lv_at hl 3 rfl) ?_
  refine lv_iload_n hx hb d_law_342 rfl (lv_at hl 0 rfl) ?_
  refine lv_iconst (v := 2) hx hb d_law_343 (by decide +kernel) ?_
  refine lv_iadd hx hb d_law_344 ?_
  refine hb_ti (nI (i + 2)) (nI_add i 2) ?_
  refine va_sld hx hb hX hbl hbA hS (i := nI (i + 2)) (vp_in_nI (by omega) (by omega)) d_law_345 ?_
  refine hb_ti (xs (i + 2)) (congrArg xs (nI_clamp (by omega))) ?_
  have hFc := hb_free hD hS hA
  refine va_calli (va_runV (As := [.int (xs (i + 1)), .int (xs (i + 2))]) (rest := []) ⟨hx, hb, hml, hown, htb⟩ (c_WM_frost_w l dC dI ct L f hO q0 m0 _ (xs (i + 1)) (xs (i + 2)) _ (pr_frost hO m0 m1 gL (xs (i + 1)) (xs (i + 2)))) (cwV 2 htb (gd_V tw_753 tw_754 tw_755 tw_26 tw_756) rfl rfl rfl (by decide +kernel) ⟨Nat.le_of_ble_eq_true rfl, Nat.le_of_ble_eq_true rfl⟩) ⟨pc_blind, tw_recv hK hP m0 rfl rfl, pc_pre hP hK hD hN⟩ rfl rfl hl.1 rfl (lv_room (Nat.le_of_ble_eq_true rfl)) d_law_346 ⟨(by show cells + 0 ≤ 600000; omega), (by show slots + 0 ≤ 7302250; omega)⟩) hS (fun q _ h => hFc q h) hFc (fun r_1 u t H locs ht hvm er_1 hB hz1 hk1 hS => ?_)
  obtain ⟨L_1, f_1⟩ := u
  obtain ⟨hO_1, hE_1, er_1, hq⟩ := er_1
  obtain ⟨hP, hK1, hD1⟩ := hB
  rw [ht] at hP
  have hP : va_P (dC, dI) vwCl (TW ct L_1 f_1) H := hP
  have hD : va_D (fun q : Nat => s.heap.size ≤ q) (TW ct L_1 f_1) := hD1.weaken (fun _ q _ h => hFc q.1 h)
  have hO_1 : Ok L_1 f_1 := hO_1
  have hE_1 : Ext W_WM_frost_w L f L_1 f_1 := hE_1
  clear hK1 hD1 ht hvm hz1 hk1
  have m0_1 := hE_1.m m0
  have m1_1 := hE_1.m m1
  have hT_1 : TInv f_1 q1 := TInv.ext hT hO m1 hE_1 (by decide +kernel)
  have hq := hq hO_1 m0_1 m1_1
  refine lv_pop hx hb d_law_349 rfl ?_
  refine lv_aload_n hx hb d_law_350 rfl (lv_at hl 1 rfl) ?_
  refine lv_aload_n hx hb d_law_351 rfl (lv_at hl 3 rfl) ?_
  refine lv_iload_n hx hb d_law_352 rfl (lv_at hl 0 rfl) ?_
  refine lv_iconst (v := 1) hx hb d_law_353 (by decide +kernel) ?_
  refine lv_iadd hx hb d_law_354 ?_
  refine hb_ti (nI (i + 1)) (nI_add i 1) ?_
  refine va_sld hx hb hX hbl hbA hS (i := nI (i + 1)) (vp_in_nI (by omega) (by omega)) d_law_355 ?_
  refine hb_ti (xs (i + 1)) (congrArg xs (nI_clamp (by omega))) ?_
  refine lv_aload_n hx hb d_law_356 rfl (lv_at hl 3 rfl) ?_
  refine lv_iload_n hx hb d_law_357 rfl (lv_at hl 0 rfl) ?_
  refine lv_iconst (v := 2) hx hb d_law_358 (by decide +kernel) ?_
  refine lv_iadd hx hb d_law_359 ?_
  refine hb_ti (nI (i + 2)) (nI_add i 2) ?_
  refine va_sld hx hb hX hbl hbA hS (i := nI (i + 2)) (vp_in_nI (by omega) (by omega)) d_law_360 ?_
  refine hb_ti (xs (i + 2)) (congrArg xs (nI_clamp (by omega))) ?_
  have hFc := hb_free hD hS hA
  refine va_calli (va_runV (As := [.int (xs (i + 1)), .int (xs (i + 2))]) (rest := []) ⟨hx, hb, hml, hown, htb⟩ (c_Md_frost_w l dC dI ct L_1 f_1 hO_1 q1 m1_1 _ (xs (i + 1)) (xs (i + 2)) _ (hq)) (cwV 2 htb (gd_V tw_757 tw_758 tw_759 tw_89 tw_760) rfl rfl rfl (by decide +kernel) ⟨Nat.le_of_ble_eq_true rfl, Nat.le_of_ble_eq_true rfl⟩) ⟨pc_blind, tw_recv hK hP m1_1 rfl rfl, pc_pre hP hK hD hN⟩ rfl rfl hl.1 rfl (lv_room (Nat.le_of_ble_eq_true rfl)) d_law_361 ⟨(by show cells + 0 ≤ 600000; omega), (by show slots + 0 ≤ 7302250; omega)⟩) hS (fun q _ h => hFc q h) hFc (fun r_2 u t H locs ht hvm er_2 hB hz1 hk1 hS => ?_)
  obtain ⟨L_2, f_2⟩ := u
  obtain ⟨hO_2, hE_2, er_2, hq⟩ := er_2
  obtain ⟨hP, hK1, hD1⟩ := hB
  rw [ht] at hP
  have hP : va_P (dC, dI) vwCl (TW ct L_2 f_2) H := hP
  have hD : va_D (fun q : Nat => s.heap.size ≤ q) (TW ct L_2 f_2) := hD1.weaken (fun _ q _ h => hFc q.1 h)
  have hO_2 : Ok L_2 f_2 := hO_2
  have hE_2 : Ext W_Md_frost_w L_1 f_1 L_2 f_2 := hE_2
  clear hK1 hD1 ht hvm hz1 hk1
  have m0_2 := hE_2.m m0_1
  have m1_2 := hE_2.m m1_1
  have hT_2 : TInv f_2 q1 := TInv.ext hT_1 hO_1 m1_1 hE_2 (by decide +kernel)
  have hq := hq hO_2
  refine lv_pop hx hb d_law_364 rfl ?_
  refine lv_goto (tgt := 1259) hx hb d_law_365 (by decide) ?_
  refine W.widen (k := cells + 60) (n := slots + 3000) (by omega) (by omega) ?_
  exact hgo L_2 f_2 H locs ls hO_2 m0_2 m1_2 hT_2 ⟨hq.2, (CT.ext (CT.ext gT hO m0 m1 hE_1 (by decide +kernel)) hO_1 m0_1 m1_1 hE_2 (by decide +kernel)), (CO.ext (CO.ext gO hO m0 m1 hE_1 (by decide +kernel)) hO_1 m0_1 m1_1 hE_2 (by decide +kernel)), (CM.ext (CM.ext gM hO m0 m1 hE_1 (by decide +kernel)) hO_1 m0_1 m1_1 hE_2 (by decide +kernel)), ad, (Ad.ext (Ad.ext gA hO m0 m1 hE_1 (by decide +kernel)) hO_1 m0_1 m1_1 hE_2 (by decide +kernel)), (K1.extT (K1.extT g1 gA hO m0 m1 hE_1 (by decide +kernel)) (Ad.ext gA hO m0 m1 hE_1 (by decide +kernel)) hO_1 m0_1 m1_1 hE_2 (by decide +kernel)), (K2.mono (K2.extN (K2.extN g2 gA hO m0 m1 hE_1 (by decide +kernel)) (Ad.ext gA hO m0 m1 hE_1 (by decide +kernel)) hO_1 m0_1 m1_1 hE_2 (by decide +kernel)) (by omega) (Nat.le_refl _)), (K3.extT (K3.extT g3 gA hO m0 m1 hE_1 (by decide +kernel)) (Ad.ext gA hO m0 m1 hE_1 (by decide +kernel)) hO_1 m0_1 m1_1 hE_2 (by decide +kernel)), (K4.ext (K4.ext g4 gA hO m0 m1 hE_1 (by decide +kernel)) (Ad.ext gA hO m0 m1 hE_1 (by decide +kernel)) hO_1 m0_1 m1_1 hE_2 (by decide +kernel)), (K5.ext (K5.ext g5 gA hO m0 m1 hE_1 (by decide +kernel)) (Ad.ext gA hO m0 m1 hE_1 (by decide +kernel)) hO_1 m0_1 m1_1 hE_2 (by decide +kernel))⟩ hP hD hS hl
set_option maxHeartbeats 4000000 in
set_option maxRecDepth 100000 in
theorem law_case_6 {p : Program} {e : Env} {s : State} {m : MethodId} {below : List Frame} {meth : Method} {c : Code} (l : Launch) {b N : Nat} {xs : Nat → Int32} (C0 : lw_At p s m meth c b N xs) (hNN : N ≤ 3072) {dC : Nat → ClassId} {dI : Nat → Nat → Nat} {ct : Nat → ClassId} {q0 q1 : Nat} (hK : va_K (dC, dI) vwCl (TT ct) s) (hN : NW s) {adK adV : Nat → Nat} (hW0 : SW adK adV (fun q : Nat => s.heap.size ≤ q) s s.heap) {i cells slots : Nat} (hi : i + 6 ≤ N) (hc : cells + 60 ≤ 600000) (hs : slots + 3000 ≤ 7302250) (hgo : LGo p l e s m below meth c b dC dI ct q0 q1 i (i + 6) (cells + 60) (slots + 3000) 1259) : LGo p l e s m below meth c b dC dI ct q0 q1 i i cells slots 368 := by
  intro L f H locs ls hO m0 m1 hT hCp hP hD hS hl
  obtain ⟨gL, gT, gO, gM, ad, gA, g1, g2, g3, g4, g5⟩ := hCp
  obtain ⟨hx, hb, hr, hml, hown, hts, hX, hbl, hlocks, hgv⟩ := id C0
  have hA : ∀ q : Nat, s.heap.size ≤ q → (fun q : Nat => s.heap.size ≤ q) q := fun _ h => h
  have hbA : ¬ (fun q : Nat => s.heap.size ≤ q) b := Nat.not_le.mpr hbl
  have htb := fun w (h : w ∈ TB) => hts w (List.mem_filter.mp h).1
  refine lv_aload_n hx hb d_law_368 rfl (lv_at hl 2 rfl) ?_
  refine lv_aload_n hx hb d_law_369 rfl (lv_at hl 3 rfl) ?_
  refine lv_iload_n hx hb d_law_370 rfl (lv_at hl 0 rfl) ?_
  refine lv_iconst (v := 1) hx hb d_law_371 (by decide +kernel) ?_
  refine lv_iadd hx hb d_law_372 ?_
  refine hb_ti (nI (i + 1)) (nI_add i 1) ?_
  refine va_sld hx hb hX hbl hbA hS (i := nI (i + 1)) (vp_in_nI (by omega) (by omega)) d_law_373 ?_
  refine hb_ti (xs (i + 1)) (congrArg xs (nI_clamp (by omega))) ?_
  have hFc := hb_free hD hS hA
  refine va_calli (va_runV (As := [.int (xs (i + 1))]) (rest := []) ⟨hx, hb, hml, hown, htb⟩ (c_WM_free_w l dC dI ct L f hO q0 m0 _ (xs (i + 1)) _ (pr_free hO m0 m1 gA g1 (xs (i + 1)))) (cwV 1 htb (gd_V tw_761 tw_762 tw_763 tw_26 tw_764) rfl rfl rfl (by decide +kernel) ⟨Nat.le_of_ble_eq_true rfl, Nat.le_of_ble_eq_true rfl⟩) ⟨pc_blind, tw_recv hK hP m0 rfl rfl, pc_pre hP hK hD hN⟩ rfl rfl hl.1 rfl (lv_room (Nat.le_of_ble_eq_true rfl)) d_law_374 ⟨(by show cells + 0 ≤ 600000; omega), (by show slots + 0 ≤ 7302250; omega)⟩) hS (fun q _ h => hFc q h) hFc (fun r_1 u t H locs ht hvm er_1 hB hz1 hk1 hS => ?_)
  obtain ⟨L_1, f_1⟩ := u
  obtain ⟨hO_1, hE_1, er_1, hq⟩ := er_1
  obtain ⟨hP, hK1, hD1⟩ := hB
  rw [ht] at hP
  have hP : va_P (dC, dI) vwCl (TW ct L_1 f_1) H := hP
  have hD : va_D (fun q : Nat => s.heap.size ≤ q) (TW ct L_1 f_1) := hD1.weaken (fun _ q _ h => hFc q.1 h)
  have hO_1 : Ok L_1 f_1 := hO_1
  have hE_1 : Ext W_WM_free_w L f L_1 f_1 := hE_1
  clear hK1 hD1 ht hvm hz1 hk1
  have m0_1 := hE_1.m m0
  have m1_1 := hE_1.m m1
  have hT_1 : TInv f_1 q1 := TInv.ext hT hO m1 hE_1 (by decide +kernel)
  have hq := hq hO_1 m0_1 m1_1
  refine lv_pop hx hb d_law_377 rfl ?_
  refine lv_aload_n hx hb d_law_378 rfl (lv_at hl 1 rfl) ?_
  refine lv_aload_n hx hb d_law_379 rfl (lv_at hl 3 rfl) ?_
  refine lv_iload_n hx hb d_law_380 rfl (lv_at hl 0 rfl) ?_
  refine lv_iconst (v := 1) hx hb d_law_381 (by decide +kernel) ?_
  refine lv_iadd hx hb d_law_382 ?_
  refine hb_ti (nI (i + 1)) (nI_add i 1) ?_
  refine va_sld hx hb hX hbl hbA hS (i := nI (i + 1)) (vp_in_nI (by omega) (by omega)) d_law_383 ?_
  refine hb_ti (xs (i + 1)) (congrArg xs (nI_clamp (by omega))) ?_
  have hFc := hb_free hD hS hA
  refine va_calli (va_runV (As := [.int (xs (i + 1))]) (rest := []) ⟨hx, hb, hml, hown, htb⟩ (c_Md_free_w l dC dI ct L_1 f_1 hO_1 q1 m1_1 _ (xs (i + 1)) _ (hq)) (cwV 1 htb (gd_V tw_765 tw_766 tw_767 tw_89 tw_768) rfl rfl rfl (by decide +kernel) ⟨Nat.le_of_ble_eq_true rfl, Nat.le_of_ble_eq_true rfl⟩) ⟨pc_blind, tw_recv hK hP m1_1 rfl rfl, pc_pre hP hK hD hN⟩ rfl rfl hl.1 rfl (lv_room (Nat.le_of_ble_eq_true rfl)) d_law_384 ⟨(by show cells + 0 ≤ 600000; omega), (by show slots + 0 ≤ 7302250; omega)⟩) hS (fun q _ h => hFc q h) hFc (fun r_2 u t H locs ht hvm er_2 hB hz1 hk1 hS => ?_)
  obtain ⟨L_2, f_2⟩ := u
  obtain ⟨hO_2, hE_2, er_2, hq⟩ := er_2
  obtain ⟨hP, hK1, hD1⟩ := hB
  rw [ht] at hP
  have hP : va_P (dC, dI) vwCl (TW ct L_2 f_2) H := hP
  have hD : va_D (fun q : Nat => s.heap.size ≤ q) (TW ct L_2 f_2) := hD1.weaken (fun _ q _ h => hFc q.1 h)
  have hO_2 : Ok L_2 f_2 := hO_2
  have hE_2 : Ext W_Md_free_w L_1 f_1 L_2 f_2 := hE_2
  clear hK1 hD1 ht hvm hz1 hk1
  have m0_2 := hE_2.m m0_1
  have m1_2 := hE_2.m m1_1
  have hT_2 : TInv f_2 q1 := TInv.ext hT_1 hO_1 m1_1 hE_2 (by decide +kernel)
  have hq := hq hO_2
  refine lv_pop hx hb d_law_387 rfl ?_
  refine lv_goto (tgt := 1259) hx hb d_law_388 (by decide) ?_
  refine W.widen (k := cells + 60) (n := slots + 3000) (by omega) (by omega) ?_
  exact hgo L_2 f_2 H locs ls hO_2 m0_2 m1_2 hT_2 ⟨(Cpl.ext (Cpl.ext gL hO m0 m1 hE_1 (by decide +kernel)) hO_1 m0_1 m1_1 hE_2 (by decide +kernel)), (CT.ext (CT.ext gT hO m0 m1 hE_1 (by decide +kernel)) hO_1 m0_1 m1_1 hE_2 (by decide +kernel)), (CO.ext (CO.ext gO hO m0 m1 hE_1 (by decide +kernel)) hO_1 m0_1 m1_1 hE_2 (by decide +kernel)), (CM.ext (CM.ext gM hO m0 m1 hE_1 (by decide +kernel)) hO_1 m0_1 m1_1 hE_2 (by decide +kernel)), ad, (Ad.ext (Ad.ext gA hO m0 m1 hE_1 (by decide +kernel)) hO_1 m0_1 m1_1 hE_2 (by decide +kernel)), (K1.toT hq.2 ((hE_2.ei m1_1 (by decide +kernel)).trans (hE_1.ei m1 (by decide +kernel)))), (K2.mono (K2.extN (K2.extN g2 gA hO m0 m1 hE_1 (by decide +kernel)) (Ad.ext gA hO m0 m1 hE_1 (by decide +kernel)) hO_1 m0_1 m1_1 hE_2 (by decide +kernel)) (by omega) (Nat.le_refl _)), (K3.extT (K3.extT g3 gA hO m0 m1 hE_1 (by decide +kernel)) (Ad.ext gA hO m0 m1 hE_1 (by decide +kernel)) hO_1 m0_1 m1_1 hE_2 (by decide +kernel)), (K4.ext (K4.ext g4 gA hO m0 m1 hE_1 (by decide +kernel)) (Ad.ext gA hO m0 m1 hE_1 (by decide +kernel)) hO_1 m0_1 m1_1 hE_2 (by decide +kernel)), (K5.ext (K5.ext g5 gA hO m0 m1 hE_1 (by decide +kernel)) (Ad.ext gA hO m0 m1 hE_1 (by decide +kernel)) hO_1 m0_1 m1_1 hE_2 (by decide +kernel))⟩ hP hD hS hl
set_option maxHeartbeats 4000000 in
set_option maxRecDepth 100000 in
theorem law_case_7 {p : Program} {e : Env} {s : State} {m : MethodId} {below : List Frame} {meth : Method} {c : Code} (l : Launch) {b N : Nat} {xs : Nat → Int32} (C0 : lw_At p s m meth c b N xs) (hNN : N ≤ 3072) {dC : Nat → ClassId} {dI : Nat → Nat → Nat} {ct : Nat → ClassId} {q0 q1 : Nat} (hK : va_K (dC, dI) vwCl (TT ct) s) (hN : NW s) {adK adV : Nat → Nat} (hW0 : SW adK adV (fun q : Nat => s.heap.size ≤ q) s s.heap) {i cells slots : Nat} (hi : i + 6 ≤ N) (hc : cells + 60 ≤ 600000) (hs : slots + 3000 ≤ 7302250) (hgo : LGo p l e s m below meth c b dC dI ct q0 q1 i (i + 6) (cells + 60) (slots + 3000) 1259) : LGo p l e s m below meth c b dC dI ct q0 q1 i i cells slots 391 := by
  intro L f H locs ls hO m0 m1 hT hCp hP hD hS hl
  obtain ⟨gL, gT, gO, gM, ad, gA, g1, g2, g3, g4, g5⟩ := hCp
  obtain ⟨hx, hb, hr, hml, hown, hts, hX, hbl, hlocks, hgv⟩ := id C0
  have hA : ∀ q : Nat, s.heap.size ≤ q → (fun q : Nat => s.heap.size ≤ q) q := fun _ h => h
  have hbA : ¬ (fun q : Nat => s.heap.size ≤ q) b := Nat.not_le.mpr hbl
  have htb := fun w (h : w ∈ TB) => hts w (List.mem_filter.mp h).1
  refine lv_aload_n hx hb d_law_391 rfl (lv_at hl 2 rfl) ?_
  refine lv_aload_n hx hb d_law_392 rfl (lv_at hl 3 rfl) ?_
  refine lv_iload_n hx hb d_law_393 rfl (lv_at hl 0 rfl) ?_
  refine lv_iconst (v := 1) hx hb d_law_394 (by decide +kernel) ?_
  refine lv_iadd hx hb d_law_395 ?_
  refine hb_ti (nI (i + 1)) (nI_add i 1) ?_
  refine va_sld hx hb hX hbl hbA hS (i := nI (i + 1)) (vp_in_nI (by omega) (by omega)) d_law_396 ?_
  refine hb_ti (xs (i + 1)) (congrArg xs (nI_clamp (by omega))) ?_
  refine lv_aload_n hx hb d_law_397 rfl (lv_at hl 3 rfl) ?_
  refine lv_iload_n hx hb d_law_398 rfl (lv_at hl 0 rfl) ?_
  refine lv_iconst (v := 2) hx hb d_law_399 (by decide +kernel) ?_
  refine lv_iadd hx hb d_law_400 ?_
  refine hb_ti (nI (i + 2)) (nI_add i 2) ?_
  refine va_sld hx hb hX hbl hbA hS (i := nI (i + 2)) (vp_in_nI (by omega) (by omega)) d_law_401 ?_
  refine hb_ti (xs (i + 2)) (congrArg xs (nI_clamp (by omega))) ?_
  have hFc := hb_free hD hS hA
  refine va_calli (va_runV (As := [.int (xs (i + 1)), .int (xs (i + 2))]) (rest := []) ⟨hx, hb, hml, hown, htb⟩ (c_WM_bind_w l dC dI ct L f hO q0 m0 _ (xs (i + 1)) (xs (i + 2)) _ (pr_bind hO m0 m1 gA g1 (Cpl.time gL) (xs (i + 1)) (xs (i + 2)))) (cwV 2 htb (gd_V tw_769 tw_770 tw_771 tw_26 tw_772) rfl rfl rfl (by decide +kernel) ⟨Nat.le_of_ble_eq_true rfl, Nat.le_of_ble_eq_true rfl⟩) ⟨pc_blind, tw_recv hK hP m0 rfl rfl, pc_pre hP hK hD hN⟩ rfl rfl hl.1 rfl (lv_room (Nat.le_of_ble_eq_true rfl)) d_law_402 ⟨(by show cells + 3 ≤ 600000; omega), (by show slots + 17 ≤ 7302250; omega)⟩) hS (fun q _ h => hFc q h) hFc (fun r_1 u t H locs ht hvm er_1 hB hz1 hk1 hS => ?_)
  obtain ⟨L_1, f_1⟩ := u
  obtain ⟨hO_1, hE_1, er_1, hq⟩ := er_1
  obtain ⟨hP, hK1, hD1⟩ := hB
  rw [ht] at hP
  have hP : va_P (dC, dI) vwCl (TW ct L_1 f_1) H := hP
  have hD : va_D (fun q : Nat => s.heap.size ≤ q) (TW ct L_1 f_1) := hD1.weaken (fun _ q _ h => hFc q.1 h)
  have hO_1 : Ok L_1 f_1 := hO_1
  have hE_1 : Ext W_WM_bind_w L f L_1 f_1 := hE_1
  clear hK1 hD1 ht hvm hz1 hk1
  have m0_1 := hE_1.m m0
  have m1_1 := hE_1.m m1
  have hT_1 : TInv f_1 q1 := TInv.ext hT hO m1 hE_1 (by decide +kernel)
  have hq := hq hO_1 m0_1 m1_1
  refine lv_pop hx hb d_law_405 rfl ?_
  refine lv_aload_n hx hb d_law_406 rfl (lv_at hl 1 rfl) ?_
  refine lv_aload_n hx hb d_law_407 rfl (lv_at hl 3 rfl) ?_
  refine lv_iload_n hx hb d_law_408 rfl (lv_at hl 0 rfl) ?_
  refine lv_iconst (v := 1) hx hb d_law_409 (by decide +kernel) ?_
  refine lv_iadd hx hb d_law_410 ?_
  refine hb_ti (nI (i + 1)) (nI_add i 1) ?_
  refine va_sld hx hb hX hbl hbA hS (i := nI (i + 1)) (vp_in_nI (by omega) (by omega)) d_law_411 ?_
  refine hb_ti (xs (i + 1)) (congrArg xs (nI_clamp (by omega))) ?_
  refine lv_aload_n hx hb d_law_412 rfl (lv_at hl 3 rfl) ?_
  refine lv_iload_n hx hb d_law_413 rfl (lv_at hl 0 rfl) ?_
  refine lv_iconst (v := 2) hx hb d_law_414 (by decide +kernel) ?_
  refine lv_iadd hx hb d_law_415 ?_
  refine hb_ti (nI (i + 2)) (nI_add i 2) ?_
  refine va_sld hx hb hX hbl hbA hS (i := nI (i + 2)) (vp_in_nI (by omega) (by omega)) d_law_416 ?_
  refine hb_ti (xs (i + 2)) (congrArg xs (nI_clamp (by omega))) ?_
  have hFc := hb_free hD hS hA
  refine va_calli (va_runV (As := [.int (xs (i + 1)), .int (xs (i + 2))]) (rest := []) ⟨hx, hb, hml, hown, htb⟩ (c_Md_bind_w l dC dI ct L_1 f_1 hO_1 q1 m1_1 _ (xs (i + 1)) (xs (i + 2)) _ (hq)) (cwV 2 htb (gd_V tw_773 tw_774 tw_775 tw_89 tw_776) rfl rfl rfl (by decide +kernel) ⟨Nat.le_of_ble_eq_true rfl, Nat.le_of_ble_eq_true rfl⟩) ⟨pc_blind, tw_recv hK hP m1_1 rfl rfl, pc_pre hP hK hD hN⟩ rfl rfl hl.1 rfl (lv_room (Nat.le_of_ble_eq_true rfl)) d_law_417 ⟨(by show cells + 3 + 0 ≤ 600000; omega), (by show slots + 17 + 0 ≤ 7302250; omega)⟩) hS (fun q _ h => hFc q h) hFc (fun r_2 u t H locs ht hvm er_2 hB hz1 hk1 hS => ?_)
  obtain ⟨L_2, f_2⟩ := u
  obtain ⟨hO_2, hE_2, er_2, hq⟩ := er_2
  obtain ⟨hP, hK1, hD1⟩ := hB
  rw [ht] at hP
  have hP : va_P (dC, dI) vwCl (TW ct L_2 f_2) H := hP
  have hD : va_D (fun q : Nat => s.heap.size ≤ q) (TW ct L_2 f_2) := hD1.weaken (fun _ q _ h => hFc q.1 h)
  have hO_2 : Ok L_2 f_2 := hO_2
  have hE_2 : Ext W_Md_bind_w L_1 f_1 L_2 f_2 := hE_2
  clear hK1 hD1 ht hvm hz1 hk1
  have m0_2 := hE_2.m m0_1
  have m1_2 := hE_2.m m1_1
  have hT_2 : TInv f_2 q1 := TInv.ext hT_1 hO_1 m1_1 hE_2 (by decide +kernel)
  have hq := hq hO_2
  refine lv_pop hx hb d_law_420 rfl ?_
  refine lv_goto (tgt := 1259) hx hb d_law_421 (by decide) ?_
  refine W.widen (k := cells + 60) (n := slots + 3000) (by omega) (by omega) ?_
  exact hgo L_2 f_2 H locs ls hO_2 m0_2 m1_2 hT_2 ⟨(Cpl.ext (Cpl.ext gL hO m0 m1 hE_1 (by decide +kernel)) hO_1 m0_1 m1_1 hE_2 (by decide +kernel)), (CT.ext (CT.ext gT hO m0 m1 hE_1 (by decide +kernel)) hO_1 m0_1 m1_1 hE_2 (by decide +kernel)), (CO.ext (CO.ext gO hO m0 m1 hE_1 (by decide +kernel)) hO_1 m0_1 m1_1 hE_2 (by decide +kernel)), (CM.ext (CM.ext gM hO m0 m1 hE_1 (by decide +kernel)) hO_1 m0_1 m1_1 hE_2 (by decide +kernel)), ad, (Ad.ext (Ad.ext gA hO m0 m1 hE_1 (by decide +kernel)) hO_1 m0_1 m1_1 hE_2 (by decide +kernel)), (K1.toT hq.2 ((hE_2.ei m1_1 (by decide +kernel)).trans (hE_1.ei m1 (by decide +kernel)))), (K2.mono (K2.extN (K2.extN g2 gA hO m0 m1 hE_1 (by decide +kernel)) (Ad.ext gA hO m0 m1 hE_1 (by decide +kernel)) hO_1 m0_1 m1_1 hE_2 (by decide +kernel)) (by omega) (Nat.le_refl _)), (K3.extT (K3.extT g3 gA hO m0 m1 hE_1 (by decide +kernel)) (Ad.ext gA hO m0 m1 hE_1 (by decide +kernel)) hO_1 m0_1 m1_1 hE_2 (by decide +kernel)), (K4.ext (K4.ext g4 gA hO m0 m1 hE_1 (by decide +kernel)) (Ad.ext gA hO m0 m1 hE_1 (by decide +kernel)) hO_1 m0_1 m1_1 hE_2 (by decide +kernel)), (K5.ext (K5.ext g5 gA hO m0 m1 hE_1 (by decide +kernel)) (Ad.ext gA hO m0 m1 hE_1 (by decide +kernel)) hO_1 m0_1 m1_1 hE_2 (by decide +kernel))⟩ hP hD hS hl
set_option maxHeartbeats 4000000 in
set_option maxRecDepth 100000 in
theorem law_case_8 {p : Program} {e : Env} {s : State} {m : MethodId} {below : List Frame} {meth : Method} {c : Code} (l : Launch) {b N : Nat} {xs : Nat → Int32} (C0 : lw_At p s m meth c b N xs) (hNN : N ≤ 3072) {dC : Nat → ClassId} {dI : Nat → Nat → Nat} {ct : Nat → ClassId} {q0 q1 : Nat} (hK : va_K (dC, dI) vwCl (TT ct) s) (hN : NW s) {adK adV : Nat → Nat} (hW0 : SW adK adV (fun q : Nat => s.heap.size ≤ q) s s.heap) {i cells slots : Nat} (hi : i + 6 ≤ N) (hc : cells + 60 ≤ 600000) (hs : slots + 3000 ≤ 7302250) (hgo : LGo p l e s m below meth c b dC dI ct q0 q1 i (i + 6) (cells + 60) (slots + 3000) 1259) : LGo p l e s m below meth c b dC dI ct q0 q1 i i cells slots 424 := by
  intro L f H locs ls hO m0 m1 hT hCp hP hD hS hl
  obtain ⟨gL, gT, gO, gM, ad, gA, g1, g2, g3, g4, g5⟩ := hCp
  obtain ⟨hx, hb, hr, hml, hown, hts, hX, hbl, hlocks, hgv⟩ := id C0
  have hA : ∀ q : Nat, s.heap.size ≤ q → (fun q : Nat => s.heap.size ≤ q) q := fun _ h => h
  have hbA : ¬ (fun q : Nat => s.heap.size ≤ q) b := Nat.not_le.mpr hbl
  have htb := fun w (h : w ∈ TB) => hts w (List.mem_filter.mp h).1
  refine lv_aload_n hx hb d_law_424 rfl (lv_at hl 2 rfl) ?_
  refine lv_aload_n hx hb d_law_425 rfl (lv_at hl 3 rfl) ?_
  refine lv_iload_n hx hb d_law_426 rfl (lv_at hl 0 rfl) ?_
  refine lv_iconst (v := 1) hx hb d_law_427 (by decide +kernel) ?_
  refine lv_iadd hx hb d_law_428 ?_
  refine hb_ti (nI (i + 1)) (nI_add i 1) ?_
  refine va_sld hx hb hX hbl hbA hS (i := nI (i + 1)) (vp_in_nI (by omega) (by omega)) d_law_429 ?_
  refine hb_ti (xs (i + 1)) (congrArg xs (nI_clamp (by omega))) ?_
  refine lv_aload_n hx hb d_law_430 rfl (lv_at hl 3 rfl) ?_
  refine lv_iload_n hx hb d_law_431 rfl (lv_at hl 0 rfl) ?_
  refine lv_iconst (v := 2) hx hb d_law_432 (by decide +kernel) ?_
  refine lv_iadd hx hb d_law_433 ?_
  refine hb_ti (nI (i + 2)) (nI_add i 2) ?_
  refine va_sld hx hb hX hbl hbA hS (i := nI (i + 2)) (vp_in_nI (by omega) (by omega)) d_law_434 ?_
  refine hb_ti (xs (i + 2)) (congrArg xs (nI_clamp (by omega))) ?_
  refine lv_aload_n hx hb d_law_435 rfl (lv_at hl 3 rfl) ?_
  refine lv_iload_n hx hb d_law_436 rfl (lv_at hl 0 rfl) ?_
  refine lv_iconst (v := 3) hx hb d_law_437 (by decide +kernel) ?_
  refine lv_iadd hx hb d_law_438 ?_
  refine hb_ti (nI (i + 3)) (nI_add i 3) ?_
  refine va_sld hx hb hX hbl hbA hS (i := nI (i + 3)) (vp_in_nI (by omega) (by omega)) d_law_439 ?_
  refine hb_ti (xs (i + 3)) (congrArg xs (nI_clamp (by omega))) ?_
  have hFc := hb_free hD hS hA
  refine va_calli (va_runV (As := [.int (xs (i + 1)), .int (xs (i + 2)), .int (xs (i + 3))]) (rest := []) ⟨hx, hb, hml, hown, htb⟩ (c_WM_absent_w l dC dI ct L f hO q0 m0 _ (xs (i + 1)) (xs (i + 2)) (xs (i + 3)) _ (pr_absent hO m0 m1 gA g1 (Cpl.time gL) (xs (i + 1)) (xs (i + 2)) (xs (i + 3)))) (cwV 3 htb (gd_V tw_777 tw_778 tw_779 tw_26 tw_780) rfl rfl rfl (by decide +kernel) ⟨Nat.le_of_ble_eq_true rfl, Nat.le_of_ble_eq_true rfl⟩) ⟨pc_blind, tw_recv hK hP m0 rfl rfl, pc_pre hP hK hD hN⟩ rfl rfl hl.1 rfl (lv_room (Nat.le_of_ble_eq_true rfl)) d_law_440 ⟨(by show cells + 0 ≤ 600000; omega), (by show slots + 0 ≤ 7302250; omega)⟩) hS (fun q _ h => hFc q h) hFc (fun r_1 u t H locs ht hvm er_1 hB hz1 hk1 hS => ?_)
  obtain ⟨L_1, f_1⟩ := u
  obtain ⟨hO_1, hE_1, er_1, hq⟩ := er_1
  obtain ⟨hP, hK1, hD1⟩ := hB
  rw [ht] at hP
  have hP : va_P (dC, dI) vwCl (TW ct L_1 f_1) H := hP
  have hD : va_D (fun q : Nat => s.heap.size ≤ q) (TW ct L_1 f_1) := hD1.weaken (fun _ q _ h => hFc q.1 h)
  have hO_1 : Ok L_1 f_1 := hO_1
  have hE_1 : Ext W_WM_absent_w L f L_1 f_1 := hE_1
  clear hK1 hD1 ht hvm hz1 hk1
  have m0_1 := hE_1.m m0
  have m1_1 := hE_1.m m1
  have hT_1 : TInv f_1 q1 := TInv.ext hT hO m1 hE_1 (by decide +kernel)
  have hq := hq hO_1 m0_1 m1_1
  refine lv_pop hx hb d_law_443 rfl ?_
  refine lv_aload_n hx hb d_law_444 rfl (lv_at hl 1 rfl) ?_
  refine lv_aload_n hx hb d_law_445 rfl (lv_at hl 3 rfl) ?_
  refine lv_iload_n hx hb d_law_446 rfl (lv_at hl 0 rfl) ?_
  refine lv_iconst (v := 1) hx hb d_law_447 (by decide +kernel) ?_
  refine lv_iadd hx hb d_law_448 ?_
  refine hb_ti (nI (i + 1)) (nI_add i 1) ?_
  refine va_sld hx hb hX hbl hbA hS (i := nI (i + 1)) (vp_in_nI (by omega) (by omega)) d_law_449 ?_
  refine hb_ti (xs (i + 1)) (congrArg xs (nI_clamp (by omega))) ?_
  refine lv_aload_n hx hb d_law_450 rfl (lv_at hl 3 rfl) ?_
  refine lv_iload_n hx hb d_law_451 rfl (lv_at hl 0 rfl) ?_
  refine lv_iconst (v := 2) hx hb d_law_452 (by decide +kernel) ?_
  refine lv_iadd hx hb d_law_453 ?_
  refine hb_ti (nI (i + 2)) (nI_add i 2) ?_
  refine va_sld hx hb hX hbl hbA hS (i := nI (i + 2)) (vp_in_nI (by omega) (by omega)) d_law_454 ?_
  refine hb_ti (xs (i + 2)) (congrArg xs (nI_clamp (by omega))) ?_
  refine lv_aload_n hx hb d_law_455 rfl (lv_at hl 3 rfl) ?_
  refine lv_iload_n hx hb d_law_456 rfl (lv_at hl 0 rfl) ?_
  refine lv_iconst (v := 3) hx hb d_law_457 (by decide +kernel) ?_
  refine lv_iadd hx hb d_law_458 ?_
  refine hb_ti (nI (i + 3)) (nI_add i 3) ?_
  refine va_sld hx hb hX hbl hbA hS (i := nI (i + 3)) (vp_in_nI (by omega) (by omega)) d_law_459 ?_
  refine hb_ti (xs (i + 3)) (congrArg xs (nI_clamp (by omega))) ?_
  have hFc := hb_free hD hS hA
  refine va_calli (va_runV (As := [.int (xs (i + 1)), .int (xs (i + 2)), .int (xs (i + 3))]) (rest := []) ⟨hx, hb, hml, hown, htb⟩ (c_Md_absent_w l dC dI ct L_1 f_1 hO_1 q1 m1_1 _ (xs (i + 1)) (xs (i + 2)) (xs (i + 3)) _ (hq)) (cwV 3 htb (gd_V tw_781 tw_782 tw_783 tw_89 tw_784) rfl rfl rfl (by decide +kernel) ⟨Nat.le_of_ble_eq_true rfl, Nat.le_of_ble_eq_true rfl⟩) ⟨pc_blind, tw_recv hK hP m1_1 rfl rfl, pc_pre hP hK hD hN⟩ rfl rfl hl.1 rfl (lv_room (Nat.le_of_ble_eq_true rfl)) d_law_460 ⟨(by show cells + 0 ≤ 600000; omega), (by show slots + 0 ≤ 7302250; omega)⟩) hS (fun q _ h => hFc q h) hFc (fun r_2 u t H locs ht hvm er_2 hB hz1 hk1 hS => ?_)
  obtain ⟨L_2, f_2⟩ := u
  obtain ⟨hO_2, hE_2, er_2, hq⟩ := er_2
  obtain ⟨hP, hK1, hD1⟩ := hB
  rw [ht] at hP
  have hP : va_P (dC, dI) vwCl (TW ct L_2 f_2) H := hP
  have hD : va_D (fun q : Nat => s.heap.size ≤ q) (TW ct L_2 f_2) := hD1.weaken (fun _ q _ h => hFc q.1 h)
  have hO_2 : Ok L_2 f_2 := hO_2
  have hE_2 : Ext W_Md_absent_w L_1 f_1 L_2 f_2 := hE_2
  clear hK1 hD1 ht hvm hz1 hk1
  have m0_2 := hE_2.m m0_1
  have m1_2 := hE_2.m m1_1
  have hT_2 : TInv f_2 q1 := TInv.ext hT_1 hO_1 m1_1 hE_2 (by decide +kernel)
  have hq := hq hO_2
  refine lv_pop hx hb d_law_463 rfl ?_
  refine lv_goto (tgt := 1259) hx hb d_law_464 (by decide) ?_
  refine W.widen (k := cells + 60) (n := slots + 3000) (by omega) (by omega) ?_
  exact hgo L_2 f_2 H locs ls hO_2 m0_2 m1_2 hT_2 ⟨(Cpl.ext (Cpl.ext gL hO m0 m1 hE_1 (by decide +kernel)) hO_1 m0_1 m1_1 hE_2 (by decide +kernel)), (CT.ext (CT.ext gT hO m0 m1 hE_1 (by decide +kernel)) hO_1 m0_1 m1_1 hE_2 (by decide +kernel)), (CO.ext (CO.ext gO hO m0 m1 hE_1 (by decide +kernel)) hO_1 m0_1 m1_1 hE_2 (by decide +kernel)), (CM.ext (CM.ext gM hO m0 m1 hE_1 (by decide +kernel)) hO_1 m0_1 m1_1 hE_2 (by decide +kernel)), ad, (Ad.ext (Ad.ext gA hO m0 m1 hE_1 (by decide +kernel)) hO_1 m0_1 m1_1 hE_2 (by decide +kernel)), (K1.toT hq ((hE_2.ei m1_1 (by decide +kernel)).trans (hE_1.ei m1 (by decide +kernel)))), (K2.mono (K2.extN (K2.extN g2 gA hO m0 m1 hE_1 (by decide +kernel)) (Ad.ext gA hO m0 m1 hE_1 (by decide +kernel)) hO_1 m0_1 m1_1 hE_2 (by decide +kernel)) (by omega) (Nat.le_refl _)), (K3.extT (K3.extT g3 gA hO m0 m1 hE_1 (by decide +kernel)) (Ad.ext gA hO m0 m1 hE_1 (by decide +kernel)) hO_1 m0_1 m1_1 hE_2 (by decide +kernel)), (K4.ext (K4.ext g4 gA hO m0 m1 hE_1 (by decide +kernel)) (Ad.ext gA hO m0 m1 hE_1 (by decide +kernel)) hO_1 m0_1 m1_1 hE_2 (by decide +kernel)), (K5.ext (K5.ext g5 gA hO m0 m1 hE_1 (by decide +kernel)) (Ad.ext gA hO m0 m1 hE_1 (by decide +kernel)) hO_1 m0_1 m1_1 hE_2 (by decide +kernel))⟩ hP hD hS hl
