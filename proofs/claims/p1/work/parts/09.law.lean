set_option maxHeartbeats 4000000 in
set_option maxRecDepth 100000 in
theorem law_end {p : Program} {e : Env} {s : State} {m : MethodId} {below : List Frame} {meth : Method} {c : Code} (l : Launch) {b : Nat} {xs : Nat → Int32} (C0 : lw_At p s m meth c b 6 xs) {r1 r2 : Nat} {H : Heap} {locs : List Loc} (hS : va_S (fun q : Nat => s.heap.size ≤ q) s.heap H locs) {ls : Array Slot} (hl : lv_has ls 4 [(3, .int 0), (2, .ref r2), (1, .ref r1), (0, .ref b)]) {cells slots : Nat} (hc : cells ≤ 600000) (hs : slots ≤ 7302250) : W p l e room_1 s m #[Value.ref b] below meth c H locs cells slots (lw_Z below #[Value.ref b] s) (F0 m 1259 ls []) := by
  obtain ⟨hx, hb, hr, hml, hown, hts, hX, hbl, hlocks, hgv⟩ := id C0
  have hbA : ¬ (fun q : Nat => s.heap.size ≤ q) b := Nat.not_le.mpr hbl
  refine lv_iinc (v := 6) (lv' := [(3, .int 6), (2, .ref r2), (1, .ref r1), (0, .ref b)]) hx hb d_law_1259 hl (k := 0) rfl (by decide +kernel) (by decide) rfl (fun ls hl => ?_)
  refine lv_goto (tgt := 18) hx hb d_law_1262 (by decide) ?_
  refine lv_iload_n hx hb d_law_18 rfl (lv_at hl 0 rfl) ?_
  refine lv_aload_n hx hb d_law_19 rfl (lv_at hl 3 rfl) ?_
  refine va_slen hx hb hX hbl hbA hS d_law_20 ?_
  refine lv_bipush (v := 6) hx hb d_law_21 (by decide +kernel) ?_
  refine lv_isub hx hb d_law_23 ?_
  refine hb_ti 0 (by decide +kernel) ?_
  refine lv_icmp_gt (tgt := 1265) hx hb d_law_24 (by decide) (fun _ => ?_) (fun h => absurd (by decide +kernel) h)
  refine lv_iconst (v := 1) hx hb d_law_1265 (by decide +kernel) ?_
  refine va_forget (fun q hq => hS.2.2 q hq) ?_
  refine W.widen (k := 600000) (n := 7302250) hc hs ?_
  exact lw_ret hx hb hr hlocks d_law_1266
set_option maxHeartbeats 4000000 in
set_option maxRecDepth 100000 in
theorem law_case_0 {p : Program} {e : Env} {s : State} {m : MethodId} {below : List Frame} {meth : Method} {c : Code} (l : Launch) {b : Nat} {xs : Nat → Int32} (C0 : lw_At p s m meth c b 6 xs) {dC : Nat → ClassId} {dI : Nat → Nat → Nat} {a a2 : Nat → Nat} {k k2 : Nat → ClassId} {L : List Nat} (hL : L.length = 40) (hKx : va_K (dC, dI) vwCl (XT k) s) (hKm : va_K (dC, dI) vwCl (MT k2) s) (hN : NW s) {H : Heap} {locs : List Loc} (hP : va_P (dC, dI) vwCl (MW a2 k2 ++ XW a k L) H) (hD : va_D (fun q : Nat => s.heap.size ≤ q) (MW a2 k2 ++ XW a k L)) (hS : va_S (fun q : Nat => s.heap.size ≤ q) s.heap H locs) {ls : Array Slot} (hl : lv_has ls 4 [(3, .int 0), (2, .ref (a2 0)), (1, .ref (a 0)), (0, .ref b)]) : W p l e room_1 s m #[Value.ref b] below meth c H locs 107 19066 (lw_Z below #[Value.ref b] s) (F0 m 180 ls []) := by
  obtain ⟨hx, hb, hr, hml, hown, hts, hX, hbl, hlocks, hgv⟩ := id C0
  have hA : ∀ q : Nat, s.heap.size ≤ q → (fun q : Nat => s.heap.size ≤ q) q := fun _ h => h
  have hbA : ¬ (fun q : Nat => s.heap.size ≤ q) b := Nat.not_le.mpr hbl
  have htb := fun w (h : w ∈ TB) => hts w (List.mem_filter.mp h).1
  refine lv_aload_n hx hb d_law_180 rfl (lv_at hl 2 rfl) ?_
  refine lv_aload_n hx hb d_law_181 rfl (lv_at hl 3 rfl) ?_
  refine lv_iload_n hx hb d_law_182 rfl (lv_at hl 0 rfl) ?_
  refine lv_iconst (v := 1) hx hb d_law_183 (by decide +kernel) ?_
  refine lv_iadd hx hb d_law_184 ?_
  refine hb_ti 1 (by decide +kernel) ?_
  refine va_sld hx hb hX hbl hbA hS (i := 1) (by unfold vp_in; decide +kernel) d_law_185 ?_
  refine hb_ti (xs 1) rfl ?_
  have hPc := (hb_right hP)
  have hDc := (hb_rightD hD)
  have hFc := hb_free hDc hS hA
  refine va_calli (va_runV (As := [.int (xs 1)]) (rest := []) ⟨hx, hb, hml, hown, htb⟩ (c_WM_stairs l dC dI a k L hL _ (xs 1)) (cwV 1 htb (gd_V tw_386 tw_387 tw_388 tw_124 tw_389) rfl rfl rfl (by decide +kernel) ⟨Nat.le_of_ble_eq_true rfl, Nat.le_of_ble_eq_true rfl⟩) ⟨pc_blind, va_recv hKx hPc (ci := 0) (q0 := 0) rfl rfl, pc_pre hPc hKx hDc hN⟩ rfl rfl hl.1 rfl (lv_room (Nat.le_of_ble_eq_true rfl)) d_law_186 ⟨by decide +kernel, by decide +kernel⟩) hS (fun q _ h => hFc q h) hFc (fun r u t H1 locs1 ht hvm er hB hz1 hk1 hS1 => ?_)
  subst er
  have hPm := hb_keep hP hD hk1
  have hS := hS1
  refine lv_aload_n hx hb d_law_189 rfl (lv_at hl 1 rfl) ?_
  refine lv_aload_n hx hb d_law_190 rfl (lv_at hl 3 rfl) ?_
  refine lv_iload_n hx hb d_law_191 rfl (lv_at hl 0 rfl) ?_
  refine lv_iconst (v := 1) hx hb d_law_192 (by decide +kernel) ?_
  refine lv_iadd hx hb d_law_193 ?_
  refine hb_ti 1 (by decide +kernel) ?_
  refine va_sld hx hb hX hbl hbA hS (i := 1) (by unfold vp_in; decide +kernel) d_law_194 ?_
  refine hb_ti (xs 1) rfl ?_
  have hPc := hPm
  have hDc := (hb_leftD hD)
  have hFc := hb_free hDc hS hA
  refine va_calli (va_runV (As := [.int (xs 1)]) (rest := [.int (f_WM_stairs (xs 1))]) ⟨hx, hb, hml, hown, htb⟩ (c_Md_stairs l dC dI a2 k2 _ (xs 1)) (cwV 1 htb (gd_V tw_390 tw_391 tw_392 tw_296 tw_393) rfl rfl rfl (by decide +kernel) ⟨Nat.le_of_ble_eq_true rfl, Nat.le_of_ble_eq_true rfl⟩) ⟨pc_blind, va_recv hKm hPc (ci := 7) (q0 := 0) rfl rfl, pc_pre hPc hKm hDc hN⟩ rfl rfl hl.1 rfl (lv_room (Nat.le_of_ble_eq_true rfl)) d_law_195 ⟨by decide +kernel, by decide +kernel⟩) hS (fun q _ h => hFc q h) hFc (fun r u t H1 locs1 ht hvm er hB hz1 hk1 hS1 => ?_)
  subst er
  have hS := hS1
  refine lv_icmp_eq (tgt := 1259) hx hb d_law_198 (by decide) (fun _ => ?_) (fun h => absurd (eq_stairs (xs 1)) h)
  exact law_end l C0 hS hl (by decide +kernel) (by decide +kernel)
set_option maxHeartbeats 4000000 in
set_option maxRecDepth 100000 in
theorem law_case_1 {p : Program} {e : Env} {s : State} {m : MethodId} {below : List Frame} {meth : Method} {c : Code} (l : Launch) {b : Nat} {xs : Nat → Int32} (C0 : lw_At p s m meth c b 6 xs) {dC : Nat → ClassId} {dI : Nat → Nat → Nat} {a a2 : Nat → Nat} {k k2 : Nat → ClassId} {L : List Nat} (hL : L.length = 40) (hKx : va_K (dC, dI) vwCl (XT k) s) (hKm : va_K (dC, dI) vwCl (MT k2) s) (hN : NW s) {H : Heap} {locs : List Loc} (hP : va_P (dC, dI) vwCl (MW a2 k2 ++ XW a k L) H) (hD : va_D (fun q : Nat => s.heap.size ≤ q) (MW a2 k2 ++ XW a k L)) (hS : va_S (fun q : Nat => s.heap.size ≤ q) s.heap H locs) {ls : Array Slot} (hl : lv_has ls 4 [(3, .int 0), (2, .ref (a2 0)), (1, .ref (a 0)), (0, .ref b)]) : W p l e room_1 s m #[Value.ref b] below meth c H locs 107 19066 (lw_Z below #[Value.ref b] s) (F0 m 203 ls []) := by
  obtain ⟨hx, hb, hr, hml, hown, hts, hX, hbl, hlocks, hgv⟩ := id C0
  have hA : ∀ q : Nat, s.heap.size ≤ q → (fun q : Nat => s.heap.size ≤ q) q := fun _ h => h
  have hbA : ¬ (fun q : Nat => s.heap.size ≤ q) b := Nat.not_le.mpr hbl
  have htb := fun w (h : w ∈ TB) => hts w (List.mem_filter.mp h).1
  refine lv_aload_n hx hb d_law_203 rfl (lv_at hl 2 rfl) ?_
  refine lv_aload_n hx hb d_law_204 rfl (lv_at hl 3 rfl) ?_
  refine lv_iload_n hx hb d_law_205 rfl (lv_at hl 0 rfl) ?_
  refine lv_iconst (v := 1) hx hb d_law_206 (by decide +kernel) ?_
  refine lv_iadd hx hb d_law_207 ?_
  refine hb_ti 1 (by decide +kernel) ?_
  refine va_sld hx hb hX hbl hbA hS (i := 1) (by unfold vp_in; decide +kernel) d_law_208 ?_
  refine hb_ti (xs 1) rfl ?_
  have hPc := (hb_right hP)
  have hDc := (hb_rightD hD)
  have hFc := hb_free hDc hS hA
  refine va_calli (va_runV (As := [.int (xs 1)]) (rest := []) ⟨hx, hb, hml, hown, htb⟩ (c_WM_bridge l dC dI a k L hL _ (xs 1)) (cwV 1 htb (gd_V tw_394 tw_395 tw_396 tw_124 tw_397) rfl rfl rfl (by decide +kernel) ⟨Nat.le_of_ble_eq_true rfl, Nat.le_of_ble_eq_true rfl⟩) ⟨pc_blind, va_recv hKx hPc (ci := 0) (q0 := 0) rfl rfl, pc_pre hPc hKx hDc hN⟩ rfl rfl hl.1 rfl (lv_room (Nat.le_of_ble_eq_true rfl)) d_law_209 ⟨by decide +kernel, by decide +kernel⟩) hS (fun q _ h => hFc q h) hFc (fun r u t H1 locs1 ht hvm er hB hz1 hk1 hS1 => ?_)
  subst er
  have hPm := hb_keep hP hD hk1
  have hS := hS1
  refine lv_aload_n hx hb d_law_212 rfl (lv_at hl 1 rfl) ?_
  refine lv_aload_n hx hb d_law_213 rfl (lv_at hl 3 rfl) ?_
  refine lv_iload_n hx hb d_law_214 rfl (lv_at hl 0 rfl) ?_
  refine lv_iconst (v := 1) hx hb d_law_215 (by decide +kernel) ?_
  refine lv_iadd hx hb d_law_216 ?_
  refine hb_ti 1 (by decide +kernel) ?_
  refine va_sld hx hb hX hbl hbA hS (i := 1) (by unfold vp_in; decide +kernel) d_law_217 ?_
  refine hb_ti (xs 1) rfl ?_
  have hPc := hPm
  have hDc := (hb_leftD hD)
  have hFc := hb_free hDc hS hA
  refine va_calli (va_runV (As := [.int (xs 1)]) (rest := [.int (f_WM_bridge (xs 1))]) ⟨hx, hb, hml, hown, htb⟩ (c_Md_bridge l dC dI a2 k2 _ (xs 1)) (cwV 1 htb (gd_V tw_398 tw_399 tw_400 tw_296 tw_401) rfl rfl rfl (by decide +kernel) ⟨Nat.le_of_ble_eq_true rfl, Nat.le_of_ble_eq_true rfl⟩) ⟨pc_blind, va_recv hKm hPc (ci := 7) (q0 := 0) rfl rfl, pc_pre hPc hKm hDc hN⟩ rfl rfl hl.1 rfl (lv_room (Nat.le_of_ble_eq_true rfl)) d_law_218 ⟨by decide +kernel, by decide +kernel⟩) hS (fun q _ h => hFc q h) hFc (fun r u t H1 locs1 ht hvm er hB hz1 hk1 hS1 => ?_)
  subst er
  have hS := hS1
  refine lv_icmp_eq (tgt := 1259) hx hb d_law_221 (by decide) (fun _ => ?_) (fun h => absurd (eq_bridge (xs 1)) h)
  exact law_end l C0 hS hl (by decide +kernel) (by decide +kernel)
set_option maxHeartbeats 4000000 in
set_option maxRecDepth 100000 in
theorem law_case_2 {p : Program} {e : Env} {s : State} {m : MethodId} {below : List Frame} {meth : Method} {c : Code} (l : Launch) {b : Nat} {xs : Nat → Int32} (C0 : lw_At p s m meth c b 6 xs) {dC : Nat → ClassId} {dI : Nat → Nat → Nat} {a a2 : Nat → Nat} {k k2 : Nat → ClassId} {L : List Nat} (hL : L.length = 40) (hKx : va_K (dC, dI) vwCl (XT k) s) (hKm : va_K (dC, dI) vwCl (MT k2) s) (hN : NW s) {H : Heap} {locs : List Loc} (hP : va_P (dC, dI) vwCl (MW a2 k2 ++ XW a k L) H) (hD : va_D (fun q : Nat => s.heap.size ≤ q) (MW a2 k2 ++ XW a k L)) (hS : va_S (fun q : Nat => s.heap.size ≤ q) s.heap H locs) {ls : Array Slot} (hl : lv_has ls 4 [(3, .int 0), (2, .ref (a2 0)), (1, .ref (a 0)), (0, .ref b)]) : W p l e room_1 s m #[Value.ref b] below meth c H locs 107 19066 (lw_Z below #[Value.ref b] s) (F0 m 226 ls []) := by
  obtain ⟨hx, hb, hr, hml, hown, hts, hX, hbl, hlocks, hgv⟩ := id C0
  have hA : ∀ q : Nat, s.heap.size ≤ q → (fun q : Nat => s.heap.size ≤ q) q := fun _ h => h
  have hbA : ¬ (fun q : Nat => s.heap.size ≤ q) b := Nat.not_le.mpr hbl
  have htb := fun w (h : w ∈ TB) => hts w (List.mem_filter.mp h).1
  refine lv_aload_n hx hb d_law_226 rfl (lv_at hl 2 rfl) ?_
  refine lv_aload_n hx hb d_law_227 rfl (lv_at hl 3 rfl) ?_
  refine lv_iload_n hx hb d_law_228 rfl (lv_at hl 0 rfl) ?_
  refine lv_iconst (v := 1) hx hb d_law_229 (by decide +kernel) ?_
  refine lv_iadd hx hb d_law_230 ?_
  refine hb_ti 1 (by decide +kernel) ?_
  refine va_sld hx hb hX hbl hbA hS (i := 1) (by unfold vp_in; decide +kernel) d_law_231 ?_
  refine hb_ti (xs 1) rfl ?_
  refine lv_aload_n hx hb d_law_232 rfl (lv_at hl 3 rfl) ?_
  refine lv_iload_n hx hb d_law_233 rfl (lv_at hl 0 rfl) ?_
  refine lv_iconst (v := 2) hx hb d_law_234 (by decide +kernel) ?_
  refine lv_iadd hx hb d_law_235 ?_
  refine hb_ti 2 (by decide +kernel) ?_
  refine va_sld hx hb hX hbl hbA hS (i := 2) (by unfold vp_in; decide +kernel) d_law_236 ?_
  refine hb_ti (xs 2) rfl ?_
  refine lv_aload_n hx hb d_law_237 rfl (lv_at hl 3 rfl) ?_
  refine lv_iload_n hx hb d_law_238 rfl (lv_at hl 0 rfl) ?_
  refine lv_iconst (v := 3) hx hb d_law_239 (by decide +kernel) ?_
  refine lv_iadd hx hb d_law_240 ?_
  refine hb_ti 3 (by decide +kernel) ?_
  refine va_sld hx hb hX hbl hbA hS (i := 3) (by unfold vp_in; decide +kernel) d_law_241 ?_
  refine hb_ti (xs 3) rfl ?_
  have hPc := (hb_right hP)
  have hDc := (hb_rightD hD)
  have hFc := hb_free hDc hS hA
  refine va_calli (va_runV (As := [.int (xs 1), .int (xs 2), .int (xs 3)]) (rest := []) ⟨hx, hb, hml, hown, htb⟩ (c_WM_level l dC dI a k L hL _ (xs 1) (xs 2) (xs 3)) (cwV 3 htb (gd_V tw_402 tw_403 tw_404 tw_124 tw_405) rfl rfl rfl (by decide +kernel) ⟨Nat.le_of_ble_eq_true rfl, Nat.le_of_ble_eq_true rfl⟩) ⟨pc_blind, va_recv hKx hPc (ci := 0) (q0 := 0) rfl rfl, pc_pre hPc hKx hDc hN⟩ rfl rfl hl.1 rfl (lv_room (Nat.le_of_ble_eq_true rfl)) d_law_242 ⟨by decide +kernel, by decide +kernel⟩) hS (fun q _ h => hFc q h) hFc (fun r u t H1 locs1 ht hvm er hB hz1 hk1 hS1 => ?_)
  subst er
  have hPm := hb_keep hP hD hk1
  have hS := hS1
  refine lv_aload_n hx hb d_law_245 rfl (lv_at hl 1 rfl) ?_
  refine lv_aload_n hx hb d_law_246 rfl (lv_at hl 3 rfl) ?_
  refine lv_iload_n hx hb d_law_247 rfl (lv_at hl 0 rfl) ?_
  refine lv_iconst (v := 1) hx hb d_law_248 (by decide +kernel) ?_
  refine lv_iadd hx hb d_law_249 ?_
  refine hb_ti 1 (by decide +kernel) ?_
  refine va_sld hx hb hX hbl hbA hS (i := 1) (by unfold vp_in; decide +kernel) d_law_250 ?_
  refine hb_ti (xs 1) rfl ?_
  refine lv_aload_n hx hb d_law_251 rfl (lv_at hl 3 rfl) ?_
  refine lv_iload_n hx hb d_law_252 rfl (lv_at hl 0 rfl) ?_
  refine lv_iconst (v := 2) hx hb d_law_253 (by decide +kernel) ?_
  refine lv_iadd hx hb d_law_254 ?_
  refine hb_ti 2 (by decide +kernel) ?_
  refine va_sld hx hb hX hbl hbA hS (i := 2) (by unfold vp_in; decide +kernel) d_law_255 ?_
  refine hb_ti (xs 2) rfl ?_
  refine lv_aload_n hx hb d_law_256 rfl (lv_at hl 3 rfl) ?_
  refine lv_iload_n hx hb d_law_257 rfl (lv_at hl 0 rfl) ?_
  refine lv_iconst (v := 3) hx hb d_law_258 (by decide +kernel) ?_
  refine lv_iadd hx hb d_law_259 ?_
  refine hb_ti 3 (by decide +kernel) ?_
  refine va_sld hx hb hX hbl hbA hS (i := 3) (by unfold vp_in; decide +kernel) d_law_260 ?_
  refine hb_ti (xs 3) rfl ?_
  have hPc := hPm
  have hDc := (hb_leftD hD)
  have hFc := hb_free hDc hS hA
  refine va_calli (va_runV (As := [.int (xs 1), .int (xs 2), .int (xs 3)]) (rest := [.int (f_WM_level (xs 1) (xs 2) (xs 3))]) ⟨hx, hb, hml, hown, htb⟩ (c_Md_level l dC dI a2 k2 _ (xs 1) (xs 2) (xs 3)) (cwV 3 htb (gd_V tw_406 tw_407 tw_408 tw_296 tw_409) rfl rfl rfl (by decide +kernel) ⟨Nat.le_of_ble_eq_true rfl, Nat.le_of_ble_eq_true rfl⟩) ⟨pc_blind, va_recv hKm hPc (ci := 7) (q0 := 0) rfl rfl, pc_pre hPc hKm hDc hN⟩ rfl rfl hl.1 rfl (lv_room (Nat.le_of_ble_eq_true rfl)) d_law_261 ⟨by decide +kernel, by decide +kernel⟩) hS (fun q _ h => hFc q h) hFc (fun r u t H1 locs1 ht hvm er hB hz1 hk1 hS1 => ?_)
  subst er
  have hS := hS1
  refine lv_icmp_eq (tgt := 1259) hx hb d_law_264 (by decide) (fun _ => ?_) (fun h => absurd (eq_level (xs 1) (xs 2) (xs 3)) h)
  exact law_end l C0 hS hl (by decide +kernel) (by decide +kernel)
set_option maxHeartbeats 4000000 in
set_option maxRecDepth 100000 in
theorem law_case_3 {p : Program} {e : Env} {s : State} {m : MethodId} {below : List Frame} {meth : Method} {c : Code} (l : Launch) {b : Nat} {xs : Nat → Int32} (C0 : lw_At p s m meth c b 6 xs) {dC : Nat → ClassId} {dI : Nat → Nat → Nat} {a a2 : Nat → Nat} {k k2 : Nat → ClassId} {L : List Nat} (hL : L.length = 40) (hKx : va_K (dC, dI) vwCl (XT k) s) (hKm : va_K (dC, dI) vwCl (MT k2) s) (hN : NW s) {H : Heap} {locs : List Loc} (hP : va_P (dC, dI) vwCl (MW a2 k2 ++ XW a k L) H) (hD : va_D (fun q : Nat => s.heap.size ≤ q) (MW a2 k2 ++ XW a k L)) (hS : va_S (fun q : Nat => s.heap.size ≤ q) s.heap H locs) {ls : Array Slot} (hl : lv_has ls 4 [(3, .int 0), (2, .ref (a2 0)), (1, .ref (a 0)), (0, .ref b)]) : W p l e room_1 s m #[Value.ref b] below meth c H locs 107 19066 (lw_Z below #[Value.ref b] s) (F0 m 269 ls []) := by
  obtain ⟨hx, hb, hr, hml, hown, hts, hX, hbl, hlocks, hgv⟩ := id C0
  have hA : ∀ q : Nat, s.heap.size ≤ q → (fun q : Nat => s.heap.size ≤ q) q := fun _ h => h
  have hbA : ¬ (fun q : Nat => s.heap.size ≤ q) b := Nat.not_le.mpr hbl
  have htb := fun w (h : w ∈ TB) => hts w (List.mem_filter.mp h).1
  refine lv_aload_n hx hb d_law_269 rfl (lv_at hl 2 rfl) ?_
  refine lv_aload_n hx hb d_law_270 rfl (lv_at hl 3 rfl) ?_
  refine lv_iload_n hx hb d_law_271 rfl (lv_at hl 0 rfl) ?_
  refine lv_iconst (v := 1) hx hb d_law_272 (by decide +kernel) ?_
  refine lv_iadd hx hb d_law_273 ?_
  refine hb_ti 1 (by decide +kernel) ?_
  refine va_sld hx hb hX hbl hbA hS (i := 1) (by unfold vp_in; decide +kernel) d_law_274 ?_
  refine hb_ti (xs 1) rfl ?_
  refine lv_aload_n hx hb d_law_275 rfl (lv_at hl 3 rfl) ?_
  refine lv_iload_n hx hb d_law_276 rfl (lv_at hl 0 rfl) ?_
  refine lv_iconst (v := 2) hx hb d_law_277 (by decide +kernel) ?_
  refine lv_iadd hx hb d_law_278 ?_
  refine hb_ti 2 (by decide +kernel) ?_
  refine va_sld hx hb hX hbl hbA hS (i := 2) (by unfold vp_in; decide +kernel) d_law_279 ?_
  refine hb_ti (xs 2) rfl ?_
  have hPc := (hb_right hP)
  have hDc := (hb_rightD hD)
  have hFc := hb_free hDc hS hA
  refine va_calli (va_runV (As := [.int (xs 1), .int (xs 2)]) (rest := []) ⟨hx, hb, hml, hown, htb⟩ (c_WM_table l dC dI a k L hL _ (xs 1) (xs 2)) (cwV 2 htb (gd_V tw_410 tw_411 tw_412 tw_124 tw_413) rfl rfl rfl (by decide +kernel) ⟨Nat.le_of_ble_eq_true rfl, Nat.le_of_ble_eq_true rfl⟩) ⟨pc_blind, va_recv hKx hPc (ci := 0) (q0 := 0) rfl rfl, pc_pre hPc hKx hDc hN⟩ rfl rfl hl.1 rfl (lv_room (Nat.le_of_ble_eq_true rfl)) d_law_280 ⟨by decide +kernel, by decide +kernel⟩) hS (fun q _ h => hFc q h) hFc (fun r u t H1 locs1 ht hvm er hB hz1 hk1 hS1 => ?_)
  subst er
  have hPm := hb_keep hP hD hk1
  have hS := hS1
  refine lv_aload_n hx hb d_law_283 rfl (lv_at hl 1 rfl) ?_
  refine lv_aload_n hx hb d_law_284 rfl (lv_at hl 3 rfl) ?_
  refine lv_iload_n hx hb d_law_285 rfl (lv_at hl 0 rfl) ?_
  refine lv_iconst (v := 1) hx hb d_law_286 (by decide +kernel) ?_
  refine lv_iadd hx hb d_law_287 ?_
  refine hb_ti 1 (by decide +kernel) ?_
  refine va_sld hx hb hX hbl hbA hS (i := 1) (by unfold vp_in; decide +kernel) d_law_288 ?_
  refine hb_ti (xs 1) rfl ?_
  refine lv_aload_n hx hb d_law_289 rfl (lv_at hl 3 rfl) ?_
  refine lv_iload_n hx hb d_law_290 rfl (lv_at hl 0 rfl) ?_
  refine lv_iconst (v := 2) hx hb d_law_291 (by decide +kernel) ?_
  refine lv_iadd hx hb d_law_292 ?_
  refine hb_ti 2 (by decide +kernel) ?_
  refine va_sld hx hb hX hbl hbA hS (i := 2) (by unfold vp_in; decide +kernel) d_law_293 ?_
  refine hb_ti (xs 2) rfl ?_
  have hPc := hPm
  have hDc := (hb_leftD hD)
  have hFc := hb_free hDc hS hA
  refine va_calli (va_runV (As := [.int (xs 1), .int (xs 2)]) (rest := [.int (f_WM_table (xs 1) (xs 2))]) ⟨hx, hb, hml, hown, htb⟩ (c_Md_table l dC dI a2 k2 _ (xs 1) (xs 2)) (cwV 2 htb (gd_V tw_414 tw_415 tw_416 tw_296 tw_417) rfl rfl rfl (by decide +kernel) ⟨Nat.le_of_ble_eq_true rfl, Nat.le_of_ble_eq_true rfl⟩) ⟨pc_blind, va_recv hKm hPc (ci := 7) (q0 := 0) rfl rfl, pc_pre hPc hKm hDc hN⟩ rfl rfl hl.1 rfl (lv_room (Nat.le_of_ble_eq_true rfl)) d_law_294 ⟨by decide +kernel, by decide +kernel⟩) hS (fun q _ h => hFc q h) hFc (fun r u t H1 locs1 ht hvm er hB hz1 hk1 hS1 => ?_)
  subst er
  have hS := hS1
  refine lv_icmp_eq (tgt := 1259) hx hb d_law_297 (by decide) (fun _ => ?_) (fun h => absurd (eq_table (xs 1) (xs 2)) h)
  exact law_end l C0 hS hl (by decide +kernel) (by decide +kernel)
set_option maxHeartbeats 4000000 in
set_option maxRecDepth 100000 in
theorem law_case_4 {p : Program} {e : Env} {s : State} {m : MethodId} {below : List Frame} {meth : Method} {c : Code} (l : Launch) {b : Nat} {xs : Nat → Int32} (C0 : lw_At p s m meth c b 6 xs) {dC : Nat → ClassId} {dI : Nat → Nat → Nat} {a a2 : Nat → Nat} {k k2 : Nat → ClassId} {L : List Nat} (hL : L.length = 40) (hKx : va_K (dC, dI) vwCl (XT k) s) (hKm : va_K (dC, dI) vwCl (MT k2) s) (hN : NW s) {H : Heap} {locs : List Loc} (hP : va_P (dC, dI) vwCl (MW a2 k2 ++ XW a k L) H) (hD : va_D (fun q : Nat => s.heap.size ≤ q) (MW a2 k2 ++ XW a k L)) (hS : va_S (fun q : Nat => s.heap.size ≤ q) s.heap H locs) {ls : Array Slot} (hl : lv_has ls 4 [(3, .int 0), (2, .ref (a2 0)), (1, .ref (a 0)), (0, .ref b)]) : W p l e room_1 s m #[Value.ref b] below meth c H locs 107 19066 (lw_Z below #[Value.ref b] s) (F0 m 302 ls []) := by
  obtain ⟨hx, hb, hr, hml, hown, hts, hX, hbl, hlocks, hgv⟩ := id C0
  have hA : ∀ q : Nat, s.heap.size ≤ q → (fun q : Nat => s.heap.size ≤ q) q := fun _ h => h
  have hbA : ¬ (fun q : Nat => s.heap.size ≤ q) b := Nat.not_le.mpr hbl
  have htb := fun w (h : w ∈ TB) => hts w (List.mem_filter.mp h).1
  refine lv_aload_n hx hb d_law_302 rfl (lv_at hl 2 rfl) ?_
  refine lv_aload_n hx hb d_law_303 rfl (lv_at hl 3 rfl) ?_
  refine lv_iload_n hx hb d_law_304 rfl (lv_at hl 0 rfl) ?_
  refine lv_iconst (v := 1) hx hb d_law_305 (by decide +kernel) ?_
  refine lv_iadd hx hb d_law_306 ?_
  refine hb_ti 1 (by decide +kernel) ?_
  refine va_sld hx hb hX hbl hbA hS (i := 1) (by unfold vp_in; decide +kernel) d_law_307 ?_
  refine hb_ti (xs 1) rfl ?_
  refine lv_aload_n hx hb d_law_308 rfl (lv_at hl 3 rfl) ?_
  refine lv_iload_n hx hb d_law_309 rfl (lv_at hl 0 rfl) ?_
  refine lv_iconst (v := 2) hx hb d_law_310 (by decide +kernel) ?_
  refine lv_iadd hx hb d_law_311 ?_
  refine hb_ti 2 (by decide +kernel) ?_
  refine va_sld hx hb hX hbl hbA hS (i := 2) (by unfold vp_in; decide +kernel) d_law_312 ?_
  refine hb_ti (xs 2) rfl ?_
  have hPc := (hb_right hP)
  refine vp_callSi (va_Run.run (va_runV (As := [.int (xs 1), .int (xs 2)]) (rest := []) ⟨hx, hb, hml, hown, htb⟩ (c_WM_flow l dC dI a k L hL (xs 1) (xs 2)) (cwV 2 htb (gd_V tw_418 tw_419 tw_420 tw_124 tw_421) rfl rfl rfl (by decide +kernel) ⟨Nat.le_of_ble_eq_true rfl, Nat.le_of_ble_eq_true rfl⟩) ⟨pr_blind, va_recv hKx hPc (ci := 0) (q0 := 0) rfl rfl, pr_pre hPc hKx hN⟩ rfl rfl hl.1 rfl (lv_room (Nat.le_of_ble_eq_true rfl)) d_law_313 ⟨by decide +kernel, by decide +kernel⟩)) (fun r er => ?_)
  subst er
  refine lv_aload_n hx hb d_law_316 rfl (lv_at hl 1 rfl) ?_
  refine lv_aload_n hx hb d_law_317 rfl (lv_at hl 3 rfl) ?_
  refine lv_iload_n hx hb d_law_318 rfl (lv_at hl 0 rfl) ?_
  refine lv_iconst (v := 1) hx hb d_law_319 (by decide +kernel) ?_
  refine lv_iadd hx hb d_law_320 ?_
  refine hb_ti 1 (by decide +kernel) ?_
  refine va_sld hx hb hX hbl hbA hS (i := 1) (by unfold vp_in; decide +kernel) d_law_321 ?_
  refine hb_ti (xs 1) rfl ?_
  refine lv_aload_n hx hb d_law_322 rfl (lv_at hl 3 rfl) ?_
  refine lv_iload_n hx hb d_law_323 rfl (lv_at hl 0 rfl) ?_
  refine lv_iconst (v := 2) hx hb d_law_324 (by decide +kernel) ?_
  refine lv_iadd hx hb d_law_325 ?_
  refine hb_ti 2 (by decide +kernel) ?_
  refine va_sld hx hb hX hbl hbA hS (i := 2) (by unfold vp_in; decide +kernel) d_law_326 ?_
  refine hb_ti (xs 2) rfl ?_
  have hPc := (hb_left hP)
  refine vp_callSi (va_Run.run (va_runV (As := [.int (xs 1), .int (xs 2)]) (rest := [.int (f_WM_flow (xs 1) (xs 2))]) ⟨hx, hb, hml, hown, htb⟩ (c_Md_flow l dC dI a2 k2 (xs 1) (xs 2)) (cwV 2 htb (gd_V tw_422 tw_423 tw_424 tw_296 tw_425) rfl rfl rfl (by decide +kernel) ⟨Nat.le_of_ble_eq_true rfl, Nat.le_of_ble_eq_true rfl⟩) ⟨pr_blind, va_recv hKm hPc (ci := 7) (q0 := 0) rfl rfl, pr_pre hPc hKm hN⟩ rfl rfl hl.1 rfl (lv_room (Nat.le_of_ble_eq_true rfl)) d_law_327 ⟨by decide +kernel, by decide +kernel⟩)) (fun r er => ?_)
  subst er
  refine lv_icmp_eq (tgt := 1259) hx hb d_law_330 (by decide) (fun _ => ?_) (fun h => absurd (eq_flow (xs 1) (xs 2)) h)
  exact law_end l C0 hS hl (by decide +kernel) (by decide +kernel)
set_option maxHeartbeats 4000000 in
set_option maxRecDepth 100000 in
theorem law_case_5 {p : Program} {e : Env} {s : State} {m : MethodId} {below : List Frame} {meth : Method} {c : Code} (l : Launch) {b : Nat} {xs : Nat → Int32} (C0 : lw_At p s m meth c b 6 xs) {dC : Nat → ClassId} {dI : Nat → Nat → Nat} {a a2 : Nat → Nat} {k k2 : Nat → ClassId} {L : List Nat} (hL : L.length = 40) (hKx : va_K (dC, dI) vwCl (XT k) s) (hKm : va_K (dC, dI) vwCl (MT k2) s) (hN : NW s) {H : Heap} {locs : List Loc} (hP : va_P (dC, dI) vwCl (MW a2 k2 ++ XW a k L) H) (hD : va_D (fun q : Nat => s.heap.size ≤ q) (MW a2 k2 ++ XW a k L)) (hS : va_S (fun q : Nat => s.heap.size ≤ q) s.heap H locs) {ls : Array Slot} (hl : lv_has ls 4 [(3, .int 0), (2, .ref (a2 0)), (1, .ref (a 0)), (0, .ref b)]) : W p l e room_1 s m #[Value.ref b] below meth c H locs 107 19066 (lw_Z below #[Value.ref b] s) (F0 m 335 ls []) := by
  obtain ⟨hx, hb, hr, hml, hown, hts, hX, hbl, hlocks, hgv⟩ := id C0
  have hA : ∀ q : Nat, s.heap.size ≤ q → (fun q : Nat => s.heap.size ≤ q) q := fun _ h => h
  have hbA : ¬ (fun q : Nat => s.heap.size ≤ q) b := Nat.not_le.mpr hbl
  have htb := fun w (h : w ∈ TB) => hts w (List.mem_filter.mp h).1
  refine lv_aload_n hx hb d_law_335 rfl (lv_at hl 2 rfl) ?_
  refine lv_aload_n hx hb d_law_336 rfl (lv_at hl 3 rfl) ?_
  refine lv_iload_n hx hb d_law_337 rfl (lv_at hl 0 rfl) ?_
  refine lv_iconst (v := 1) hx hb d_law_338 (by decide +kernel) ?_
  refine lv_iadd hx hb d_law_339 ?_
  refine hb_ti 1 (by decide +kernel) ?_
  refine va_sld hx hb hX hbl hbA hS (i := 1) (by unfold vp_in; decide +kernel) d_law_340 ?_
  refine hb_ti (xs 1) rfl ?_
  refine lv_aload_n hx hb d_law_341 rfl (lv_at hl 3 rfl) ?_
  refine lv_iload_n hx hb d_law_342 rfl (lv_at hl 0 rfl) ?_
  refine lv_iconst (v := 2) hx hb d_law_343 (by decide +kernel) ?_
  refine lv_iadd hx hb d_law_344 ?_
  refine hb_ti 2 (by decide +kernel) ?_
  refine va_sld hx hb hX hbl hbA hS (i := 2) (by unfold vp_in; decide +kernel) d_law_345 ?_
  refine hb_ti (xs 2) rfl ?_
  have hPc := (hb_right hP)
  have hDc := (hb_rightD hD)
  have hFc := hb_free hDc hS hA
  refine va_calli (va_runV (As := [.int (xs 1), .int (xs 2)]) (rest := []) ⟨hx, hb, hml, hown, htb⟩ (c_WM_frost l dC dI a k L hL _ (xs 1) (xs 2)) (cwV 2 htb (gd_V tw_426 tw_427 tw_428 tw_124 tw_429) rfl rfl rfl (by decide +kernel) ⟨Nat.le_of_ble_eq_true rfl, Nat.le_of_ble_eq_true rfl⟩) ⟨pc_blind, va_recv hKx hPc (ci := 0) (q0 := 0) rfl rfl, pc_pre hPc hKx hDc hN⟩ rfl rfl hl.1 rfl (lv_room (Nat.le_of_ble_eq_true rfl)) d_law_346 ⟨by decide +kernel, by decide +kernel⟩) hS (fun q _ h => hFc q h) hFc (fun r u t H1 locs1 ht hvm er hB hz1 hk1 hS1 => ?_)
  subst er
  have hPm := hb_keep hP hD hk1
  have hS := hS1
  refine lv_aload_n hx hb d_law_349 rfl (lv_at hl 1 rfl) ?_
  refine lv_aload_n hx hb d_law_350 rfl (lv_at hl 3 rfl) ?_
  refine lv_iload_n hx hb d_law_351 rfl (lv_at hl 0 rfl) ?_
  refine lv_iconst (v := 1) hx hb d_law_352 (by decide +kernel) ?_
  refine lv_iadd hx hb d_law_353 ?_
  refine hb_ti 1 (by decide +kernel) ?_
  refine va_sld hx hb hX hbl hbA hS (i := 1) (by unfold vp_in; decide +kernel) d_law_354 ?_
  refine hb_ti (xs 1) rfl ?_
  refine lv_aload_n hx hb d_law_355 rfl (lv_at hl 3 rfl) ?_
  refine lv_iload_n hx hb d_law_356 rfl (lv_at hl 0 rfl) ?_
  refine lv_iconst (v := 2) hx hb d_law_357 (by decide +kernel) ?_
  refine lv_iadd hx hb d_law_358 ?_
  refine hb_ti 2 (by decide +kernel) ?_
  refine va_sld hx hb hX hbl hbA hS (i := 2) (by unfold vp_in; decide +kernel) d_law_359 ?_
  refine hb_ti (xs 2) rfl ?_
  have hPc := hPm
  have hDc := (hb_leftD hD)
  have hFc := hb_free hDc hS hA
  refine va_calli (va_runV (As := [.int (xs 1), .int (xs 2)]) (rest := [.int (f_WM_frost (xs 1) (xs 2))]) ⟨hx, hb, hml, hown, htb⟩ (c_Md_frost l dC dI a2 k2 _ (xs 1) (xs 2)) (cwV 2 htb (gd_V tw_430 tw_431 tw_432 tw_296 tw_433) rfl rfl rfl (by decide +kernel) ⟨Nat.le_of_ble_eq_true rfl, Nat.le_of_ble_eq_true rfl⟩) ⟨pc_blind, va_recv hKm hPc (ci := 7) (q0 := 0) rfl rfl, pc_pre hPc hKm hDc hN⟩ rfl rfl hl.1 rfl (lv_room (Nat.le_of_ble_eq_true rfl)) d_law_360 ⟨by decide +kernel, by decide +kernel⟩) hS (fun q _ h => hFc q h) hFc (fun r u t H1 locs1 ht hvm er hB hz1 hk1 hS1 => ?_)
  subst er
  have hS := hS1
  refine lv_icmp_eq (tgt := 1259) hx hb d_law_363 (by decide) (fun _ => ?_) (fun h => absurd (eq_frost (xs 1) (xs 2)) h)
  exact law_end l C0 hS hl (by decide +kernel) (by decide +kernel)
set_option maxHeartbeats 4000000 in
set_option maxRecDepth 100000 in
theorem law_case_6 {p : Program} {e : Env} {s : State} {m : MethodId} {below : List Frame} {meth : Method} {c : Code} (l : Launch) {b : Nat} {xs : Nat → Int32} (C0 : lw_At p s m meth c b 6 xs) {dC : Nat → ClassId} {dI : Nat → Nat → Nat} {a a2 : Nat → Nat} {k k2 : Nat → ClassId} {L : List Nat} (hL : L.length = 40) (hKx : va_K (dC, dI) vwCl (XT k) s) (hKm : va_K (dC, dI) vwCl (MT k2) s) (hN : NW s) {H : Heap} {locs : List Loc} (hP : va_P (dC, dI) vwCl (MW a2 k2 ++ XW a k L) H) (hD : va_D (fun q : Nat => s.heap.size ≤ q) (MW a2 k2 ++ XW a k L)) (hS : va_S (fun q : Nat => s.heap.size ≤ q) s.heap H locs) {ls : Array Slot} (hl : lv_has ls 4 [(3, .int 0), (2, .ref (a2 0)), (1, .ref (a 0)), (0, .ref b)]) : W p l e room_1 s m #[Value.ref b] below meth c H locs 107 19066 (lw_Z below #[Value.ref b] s) (F0 m 368 ls []) := by
  obtain ⟨hx, hb, hr, hml, hown, hts, hX, hbl, hlocks, hgv⟩ := id C0
  have hA : ∀ q : Nat, s.heap.size ≤ q → (fun q : Nat => s.heap.size ≤ q) q := fun _ h => h
  have hbA : ¬ (fun q : Nat => s.heap.size ≤ q) b := Nat.not_le.mpr hbl
  have htb := fun w (h : w ∈ TB) => hts w (List.mem_filter.mp h).1
  refine lv_aload_n hx hb d_law_368 rfl (lv_at hl 2 rfl) ?_
  refine lv_aload_n hx hb d_law_369 rfl (lv_at hl 3 rfl) ?_
  refine lv_iload_n hx hb d_law_370 rfl (lv_at hl 0 rfl) ?_
  refine lv_iconst (v := 1) hx hb d_law_371 (by decide +kernel) ?_
  refine lv_iadd hx hb d_law_372 ?_
  refine hb_ti 1 (by decide +kernel) ?_
  refine va_sld hx hb hX hbl hbA hS (i := 1) (by unfold vp_in; decide +kernel) d_law_373 ?_
  refine hb_ti (xs 1) rfl ?_
  have hPc := (hb_right hP)
  have hDc := (hb_rightD hD)
  have hFc := hb_free hDc hS hA
  refine va_calli (va_runV (As := [.int (xs 1)]) (rest := []) ⟨hx, hb, hml, hown, htb⟩ (c_WM_free l dC dI a k L hL _ (xs 1)) (cwV 1 htb (gd_V tw_434 tw_435 tw_436 tw_124 tw_437) rfl rfl rfl (by decide +kernel) ⟨Nat.le_of_ble_eq_true rfl, Nat.le_of_ble_eq_true rfl⟩) ⟨pc_blind, va_recv hKx hPc (ci := 0) (q0 := 0) rfl rfl, pc_pre hPc hKx hDc hN⟩ rfl rfl hl.1 rfl (lv_room (Nat.le_of_ble_eq_true rfl)) d_law_374 ⟨by decide +kernel, by decide +kernel⟩) hS (fun q _ h => hFc q h) hFc (fun r u t H1 locs1 ht hvm er hB hz1 hk1 hS1 => ?_)
  subst er
  have hPm := hb_keep hP hD hk1
  have hS := hS1
  refine lv_aload_n hx hb d_law_377 rfl (lv_at hl 1 rfl) ?_
  refine lv_aload_n hx hb d_law_378 rfl (lv_at hl 3 rfl) ?_
  refine lv_iload_n hx hb d_law_379 rfl (lv_at hl 0 rfl) ?_
  refine lv_iconst (v := 1) hx hb d_law_380 (by decide +kernel) ?_
  refine lv_iadd hx hb d_law_381 ?_
  refine hb_ti 1 (by decide +kernel) ?_
  refine va_sld hx hb hX hbl hbA hS (i := 1) (by unfold vp_in; decide +kernel) d_law_382 ?_
  refine hb_ti (xs 1) rfl ?_
  have hPc := hPm
  have hDc := (hb_leftD hD)
  have hFc := hb_free hDc hS hA
  refine va_calli (va_runV (As := [.int (xs 1)]) (rest := [.int (f_WM_free (xs 1))]) ⟨hx, hb, hml, hown, htb⟩ (c_Md_free l dC dI a2 k2 _ (xs 1)) (cwV 1 htb (gd_V tw_438 tw_439 tw_440 tw_296 tw_441) rfl rfl rfl (by decide +kernel) ⟨Nat.le_of_ble_eq_true rfl, Nat.le_of_ble_eq_true rfl⟩) ⟨pc_blind, va_recv hKm hPc (ci := 7) (q0 := 0) rfl rfl, pc_pre hPc hKm hDc hN⟩ rfl rfl hl.1 rfl (lv_room (Nat.le_of_ble_eq_true rfl)) d_law_383 ⟨by decide +kernel, by decide +kernel⟩) hS (fun q _ h => hFc q h) hFc (fun r u t H1 locs1 ht hvm er hB hz1 hk1 hS1 => ?_)
  subst er
  have hS := hS1
  refine lv_icmp_eq (tgt := 1259) hx hb d_law_386 (by decide) (fun _ => ?_) (fun h => absurd (eq_free (xs 1)) h)
  exact law_end l C0 hS hl (by decide +kernel) (by decide +kernel)
set_option maxHeartbeats 4000000 in
set_option maxRecDepth 100000 in
theorem law_case_7 {p : Program} {e : Env} {s : State} {m : MethodId} {below : List Frame} {meth : Method} {c : Code} (l : Launch) {b : Nat} {xs : Nat → Int32} (C0 : lw_At p s m meth c b 6 xs) {dC : Nat → ClassId} {dI : Nat → Nat → Nat} {a a2 : Nat → Nat} {k k2 : Nat → ClassId} {L : List Nat} (hL : L.length = 40) (hKx : va_K (dC, dI) vwCl (XT k) s) (hKm : va_K (dC, dI) vwCl (MT k2) s) (hN : NW s) {H : Heap} {locs : List Loc} (hP : va_P (dC, dI) vwCl (MW a2 k2 ++ XW a k L) H) (hD : va_D (fun q : Nat => s.heap.size ≤ q) (MW a2 k2 ++ XW a k L)) (hS : va_S (fun q : Nat => s.heap.size ≤ q) s.heap H locs) {ls : Array Slot} (hl : lv_has ls 4 [(3, .int 0), (2, .ref (a2 0)), (1, .ref (a 0)), (0, .ref b)]) : W p l e room_1 s m #[Value.ref b] below meth c H locs 107 19066 (lw_Z below #[Value.ref b] s) (F0 m 391 ls []) := by
  obtain ⟨hx, hb, hr, hml, hown, hts, hX, hbl, hlocks, hgv⟩ := id C0
  have hA : ∀ q : Nat, s.heap.size ≤ q → (fun q : Nat => s.heap.size ≤ q) q := fun _ h => h
  have hbA : ¬ (fun q : Nat => s.heap.size ≤ q) b := Nat.not_le.mpr hbl
  have htb := fun w (h : w ∈ TB) => hts w (List.mem_filter.mp h).1
  refine lv_aload_n hx hb d_law_391 rfl (lv_at hl 2 rfl) ?_
  refine lv_aload_n hx hb d_law_392 rfl (lv_at hl 3 rfl) ?_
  refine lv_iload_n hx hb d_law_393 rfl (lv_at hl 0 rfl) ?_
  refine lv_iconst (v := 1) hx hb d_law_394 (by decide +kernel) ?_
  refine lv_iadd hx hb d_law_395 ?_
  refine hb_ti 1 (by decide +kernel) ?_
  refine va_sld hx hb hX hbl hbA hS (i := 1) (by unfold vp_in; decide +kernel) d_law_396 ?_
  refine hb_ti (xs 1) rfl ?_
  refine lv_aload_n hx hb d_law_397 rfl (lv_at hl 3 rfl) ?_
  refine lv_iload_n hx hb d_law_398 rfl (lv_at hl 0 rfl) ?_
  refine lv_iconst (v := 2) hx hb d_law_399 (by decide +kernel) ?_
  refine lv_iadd hx hb d_law_400 ?_
  refine hb_ti 2 (by decide +kernel) ?_
  refine va_sld hx hb hX hbl hbA hS (i := 2) (by unfold vp_in; decide +kernel) d_law_401 ?_
  refine hb_ti (xs 2) rfl ?_
  have hPc := (hb_right hP)
  refine vp_callSi (va_Run.run (va_runV (As := [.int (xs 1), .int (xs 2)]) (rest := []) ⟨hx, hb, hml, hown, htb⟩ (c_WM_bind l dC dI a k L hL (xs 1) (xs 2)) (cwV 2 htb (gd_V tw_442 tw_443 tw_444 tw_124 tw_445) rfl rfl rfl (by decide +kernel) ⟨Nat.le_of_ble_eq_true rfl, Nat.le_of_ble_eq_true rfl⟩) ⟨pr_blind, va_recv hKx hPc (ci := 0) (q0 := 0) rfl rfl, pr_pre hPc hKx hN⟩ rfl rfl hl.1 rfl (lv_room (Nat.le_of_ble_eq_true rfl)) d_law_402 ⟨by decide +kernel, by decide +kernel⟩)) (fun r er => ?_)
  subst er
  refine lv_aload_n hx hb d_law_405 rfl (lv_at hl 1 rfl) ?_
  refine lv_aload_n hx hb d_law_406 rfl (lv_at hl 3 rfl) ?_
  refine lv_iload_n hx hb d_law_407 rfl (lv_at hl 0 rfl) ?_
  refine lv_iconst (v := 1) hx hb d_law_408 (by decide +kernel) ?_
  refine lv_iadd hx hb d_law_409 ?_
  refine hb_ti 1 (by decide +kernel) ?_
  refine va_sld hx hb hX hbl hbA hS (i := 1) (by unfold vp_in; decide +kernel) d_law_410 ?_
  refine hb_ti (xs 1) rfl ?_
  refine lv_aload_n hx hb d_law_411 rfl (lv_at hl 3 rfl) ?_
  refine lv_iload_n hx hb d_law_412 rfl (lv_at hl 0 rfl) ?_
  refine lv_iconst (v := 2) hx hb d_law_413 (by decide +kernel) ?_
  refine lv_iadd hx hb d_law_414 ?_
  refine hb_ti 2 (by decide +kernel) ?_
  refine va_sld hx hb hX hbl hbA hS (i := 2) (by unfold vp_in; decide +kernel) d_law_415 ?_
  refine hb_ti (xs 2) rfl ?_
  have hPc := (hb_left hP)
  refine vp_callSi (va_Run.run (va_runV (As := [.int (xs 1), .int (xs 2)]) (rest := [.int (f_WM_bind (xs 1) (xs 2))]) ⟨hx, hb, hml, hown, htb⟩ (c_Md_bind l dC dI a2 k2 (xs 1) (xs 2)) (cwV 2 htb (gd_V tw_446 tw_447 tw_448 tw_296 tw_449) rfl rfl rfl (by decide +kernel) ⟨Nat.le_of_ble_eq_true rfl, Nat.le_of_ble_eq_true rfl⟩) ⟨pr_blind, va_recv hKm hPc (ci := 7) (q0 := 0) rfl rfl, pr_pre hPc hKm hN⟩ rfl rfl hl.1 rfl (lv_room (Nat.le_of_ble_eq_true rfl)) d_law_416 ⟨by decide +kernel, by decide +kernel⟩)) (fun r er => ?_)
  subst er
  refine lv_icmp_eq (tgt := 1259) hx hb d_law_419 (by decide) (fun _ => ?_) (fun h => absurd (eq_bind (xs 1) (xs 2)) h)
  exact law_end l C0 hS hl (by decide +kernel) (by decide +kernel)
set_option maxHeartbeats 4000000 in
set_option maxRecDepth 100000 in
theorem law_case_8 {p : Program} {e : Env} {s : State} {m : MethodId} {below : List Frame} {meth : Method} {c : Code} (l : Launch) {b : Nat} {xs : Nat → Int32} (C0 : lw_At p s m meth c b 6 xs) {dC : Nat → ClassId} {dI : Nat → Nat → Nat} {a a2 : Nat → Nat} {k k2 : Nat → ClassId} {L : List Nat} (hL : L.length = 40) (hKx : va_K (dC, dI) vwCl (XT k) s) (hKm : va_K (dC, dI) vwCl (MT k2) s) (hN : NW s) {H : Heap} {locs : List Loc} (hP : va_P (dC, dI) vwCl (MW a2 k2 ++ XW a k L) H) (hD : va_D (fun q : Nat => s.heap.size ≤ q) (MW a2 k2 ++ XW a k L)) (hS : va_S (fun q : Nat => s.heap.size ≤ q) s.heap H locs) {ls : Array Slot} (hl : lv_has ls 4 [(3, .int 0), (2, .ref (a2 0)), (1, .ref (a 0)), (0, .ref b)]) : W p l e room_1 s m #[Value.ref b] below meth c H locs 107 19066 (lw_Z below #[Value.ref b] s) (F0 m 424 ls []) := by
  obtain ⟨hx, hb, hr, hml, hown, hts, hX, hbl, hlocks, hgv⟩ := id C0
  have hA : ∀ q : Nat, s.heap.size ≤ q → (fun q : Nat => s.heap.size ≤ q) q := fun _ h => h
  have hbA : ¬ (fun q : Nat => s.heap.size ≤ q) b := Nat.not_le.mpr hbl
  have htb := fun w (h : w ∈ TB) => hts w (List.mem_filter.mp h).1
  refine lv_aload_n hx hb d_law_424 rfl (lv_at hl 2 rfl) ?_
  refine lv_aload_n hx hb d_law_425 rfl (lv_at hl 3 rfl) ?_
  refine lv_iload_n hx hb d_law_426 rfl (lv_at hl 0 rfl) ?_
  refine lv_iconst (v := 1) hx hb d_law_427 (by decide +kernel) ?_
  refine lv_iadd hx hb d_law_428 ?_
  refine hb_ti 1 (by decide +kernel) ?_
  refine va_sld hx hb hX hbl hbA hS (i := 1) (by unfold vp_in; decide +kernel) d_law_429 ?_
  refine hb_ti (xs 1) rfl ?_
  refine lv_aload_n hx hb d_law_430 rfl (lv_at hl 3 rfl) ?_
  refine lv_iload_n hx hb d_law_431 rfl (lv_at hl 0 rfl) ?_
  refine lv_iconst (v := 2) hx hb d_law_432 (by decide +kernel) ?_
  refine lv_iadd hx hb d_law_433 ?_
  refine hb_ti 2 (by decide +kernel) ?_
  refine va_sld hx hb hX hbl hbA hS (i := 2) (by unfold vp_in; decide +kernel) d_law_434 ?_
  refine hb_ti (xs 2) rfl ?_
  refine lv_aload_n hx hb d_law_435 rfl (lv_at hl 3 rfl) ?_
  refine lv_iload_n hx hb d_law_436 rfl (lv_at hl 0 rfl) ?_
  refine lv_iconst (v := 3) hx hb d_law_437 (by decide +kernel) ?_
  refine lv_iadd hx hb d_law_438 ?_
  refine hb_ti 3 (by decide +kernel) ?_
  refine va_sld hx hb hX hbl hbA hS (i := 3) (by unfold vp_in; decide +kernel) d_law_439 ?_
  refine hb_ti (xs 3) rfl ?_
  have hPc := (hb_right hP)
  refine vp_callSi (va_Run.run (va_runV (As := [.int (xs 1), .int (xs 2), .int (xs 3)]) (rest := []) ⟨hx, hb, hml, hown, htb⟩ (c_WM_absent l dC dI a k L hL (xs 1) (xs 2) (xs 3)) (cwV 3 htb (gd_V tw_450 tw_451 tw_452 tw_124 tw_453) rfl rfl rfl (by decide +kernel) ⟨Nat.le_of_ble_eq_true rfl, Nat.le_of_ble_eq_true rfl⟩) ⟨pr_blind, va_recv hKx hPc (ci := 0) (q0 := 0) rfl rfl, pr_pre hPc hKx hN⟩ rfl rfl hl.1 rfl (lv_room (Nat.le_of_ble_eq_true rfl)) d_law_440 ⟨by decide +kernel, by decide +kernel⟩)) (fun r er => ?_)
  subst er
  refine lv_aload_n hx hb d_law_443 rfl (lv_at hl 1 rfl) ?_
  refine lv_aload_n hx hb d_law_444 rfl (lv_at hl 3 rfl) ?_
  refine lv_iload_n hx hb d_law_445 rfl (lv_at hl 0 rfl) ?_
  refine lv_iconst (v := 1) hx hb d_law_446 (by decide +kernel) ?_
  refine lv_iadd hx hb d_law_447 ?_
  refine hb_ti 1 (by decide +kernel) ?_
  refine va_sld hx hb hX hbl hbA hS (i := 1) (by unfold vp_in; decide +kernel) d_law_448 ?_
  refine hb_ti (xs 1) rfl ?_
  refine lv_aload_n hx hb d_law_449 rfl (lv_at hl 3 rfl) ?_
  refine lv_iload_n hx hb d_law_450 rfl (lv_at hl 0 rfl) ?_
  refine lv_iconst (v := 2) hx hb d_law_451 (by decide +kernel) ?_
  refine lv_iadd hx hb d_law_452 ?_
  refine hb_ti 2 (by decide +kernel) ?_
  refine va_sld hx hb hX hbl hbA hS (i := 2) (by unfold vp_in; decide +kernel) d_law_453 ?_
  refine hb_ti (xs 2) rfl ?_
  refine lv_aload_n hx hb d_law_454 rfl (lv_at hl 3 rfl) ?_
  refine lv_iload_n hx hb d_law_455 rfl (lv_at hl 0 rfl) ?_
  refine lv_iconst (v := 3) hx hb d_law_456 (by decide +kernel) ?_
  refine lv_iadd hx hb d_law_457 ?_
  refine hb_ti 3 (by decide +kernel) ?_
  refine va_sld hx hb hX hbl hbA hS (i := 3) (by unfold vp_in; decide +kernel) d_law_458 ?_
  refine hb_ti (xs 3) rfl ?_
  have hPc := (hb_left hP)
  refine vp_callSi (va_Run.run (va_runV (As := [.int (xs 1), .int (xs 2), .int (xs 3)]) (rest := [.int (f_WM_absent (xs 1) (xs 2) (xs 3))]) ⟨hx, hb, hml, hown, htb⟩ (c_Md_absent l dC dI a2 k2 (xs 1) (xs 2) (xs 3)) (cwV 3 htb (gd_V tw_454 tw_455 tw_456 tw_296 tw_457) rfl rfl rfl (by decide +kernel) ⟨Nat.le_of_ble_eq_true rfl, Nat.le_of_ble_eq_true rfl⟩) ⟨pr_blind, va_recv hKm hPc (ci := 7) (q0 := 0) rfl rfl, pr_pre hPc hKm hN⟩ rfl rfl hl.1 rfl (lv_room (Nat.le_of_ble_eq_true rfl)) d_law_459 ⟨by decide +kernel, by decide +kernel⟩)) (fun r er => ?_)
  subst er
  refine lv_icmp_eq (tgt := 1259) hx hb d_law_462 (by decide) (fun _ => ?_) (fun h => absurd (eq_absent (xs 1) (xs 2) (xs 3)) h)
  exact law_end l C0 hS hl (by decide +kernel) (by decide +kernel)
set_option maxHeartbeats 4000000 in
set_option maxRecDepth 100000 in
theorem law_case_9 {p : Program} {e : Env} {s : State} {m : MethodId} {below : List Frame} {meth : Method} {c : Code} (l : Launch) {b : Nat} {xs : Nat → Int32} (C0 : lw_At p s m meth c b 6 xs) {dC : Nat → ClassId} {dI : Nat → Nat → Nat} {a a2 : Nat → Nat} {k k2 : Nat → ClassId} {L : List Nat} (hL : L.length = 40) (hKx : va_K (dC, dI) vwCl (XT k) s) (hKm : va_K (dC, dI) vwCl (MT k2) s) (hN : NW s) {H : Heap} {locs : List Loc} (hP : va_P (dC, dI) vwCl (MW a2 k2 ++ XW a k L) H) (hD : va_D (fun q : Nat => s.heap.size ≤ q) (MW a2 k2 ++ XW a k L)) (hS : va_S (fun q : Nat => s.heap.size ≤ q) s.heap H locs) {ls : Array Slot} (hl : lv_has ls 4 [(3, .int 0), (2, .ref (a2 0)), (1, .ref (a 0)), (0, .ref b)]) : W p l e room_1 s m #[Value.ref b] below meth c H locs 107 19066 (lw_Z below #[Value.ref b] s) (F0 m 467 ls []) := by
  obtain ⟨hx, hb, hr, hml, hown, hts, hX, hbl, hlocks, hgv⟩ := id C0
  have hA : ∀ q : Nat, s.heap.size ≤ q → (fun q : Nat => s.heap.size ≤ q) q := fun _ h => h
  have hbA : ¬ (fun q : Nat => s.heap.size ≤ q) b := Nat.not_le.mpr hbl
  have htb := fun w (h : w ∈ TB) => hts w (List.mem_filter.mp h).1
  refine lv_aload_n hx hb d_law_467 rfl (lv_at hl 2 rfl) ?_
  refine lv_aload_n hx hb d_law_468 rfl (lv_at hl 3 rfl) ?_
  refine lv_iload_n hx hb d_law_469 rfl (lv_at hl 0 rfl) ?_
  refine lv_iconst (v := 1) hx hb d_law_470 (by decide +kernel) ?_
  refine lv_iadd hx hb d_law_471 ?_
  refine hb_ti 1 (by decide +kernel) ?_
  refine va_sld hx hb hX hbl hbA hS (i := 1) (by unfold vp_in; decide +kernel) d_law_472 ?_
  refine hb_ti (xs 1) rfl ?_
  have hPc := (hb_right hP)
  refine vp_callSi (va_Run.run (va_runV (As := [.int (xs 1)]) (rest := []) ⟨hx, hb, hml, hown, htb⟩ (c_WM_served l dC dI a k L hL (xs 1)) (cwV 1 htb (gd_V tw_458 tw_164 tw_165 tw_124 tw_162) rfl rfl rfl (by decide +kernel) ⟨Nat.le_of_ble_eq_true rfl, Nat.le_of_ble_eq_true rfl⟩) ⟨pr_blind, va_recv hKx hPc (ci := 0) (q0 := 0) rfl rfl, pr_pre hPc hKx hN⟩ rfl rfl hl.1 rfl (lv_room (Nat.le_of_ble_eq_true rfl)) d_law_473 ⟨by decide +kernel, by decide +kernel⟩)) (fun r er => ?_)
  subst er
  refine lv_aload_n hx hb d_law_476 rfl (lv_at hl 1 rfl) ?_
  refine lv_aload_n hx hb d_law_477 rfl (lv_at hl 3 rfl) ?_
  refine lv_iload_n hx hb d_law_478 rfl (lv_at hl 0 rfl) ?_
  refine lv_iconst (v := 1) hx hb d_law_479 (by decide +kernel) ?_
  refine lv_iadd hx hb d_law_480 ?_
  refine hb_ti 1 (by decide +kernel) ?_
  refine va_sld hx hb hX hbl hbA hS (i := 1) (by unfold vp_in; decide +kernel) d_law_481 ?_
  refine hb_ti (xs 1) rfl ?_
  have hPc := (hb_left hP)
  refine vp_callSi (va_Run.run (va_runV (As := [.int (xs 1)]) (rest := [.int (f_WM_served (xs 1))]) ⟨hx, hb, hml, hown, htb⟩ (c_Md_served l dC dI a2 k2 (xs 1)) (cwV 1 htb (gd_V tw_459 tw_460 tw_461 tw_296 tw_462) rfl rfl rfl (by decide +kernel) ⟨Nat.le_of_ble_eq_true rfl, Nat.le_of_ble_eq_true rfl⟩) ⟨pr_blind, va_recv hKm hPc (ci := 7) (q0 := 0) rfl rfl, pr_pre hPc hKm hN⟩ rfl rfl hl.1 rfl (lv_room (Nat.le_of_ble_eq_true rfl)) d_law_482 ⟨by decide +kernel, by decide +kernel⟩)) (fun r er => ?_)
  subst er
  refine lv_icmp_eq (tgt := 1259) hx hb d_law_485 (by decide) (fun _ => ?_) (fun h => absurd (eq_served (xs 1)) h)
  exact law_end l C0 hS hl (by decide +kernel) (by decide +kernel)
set_option maxHeartbeats 4000000 in
set_option maxRecDepth 100000 in
theorem law_case_10 {p : Program} {e : Env} {s : State} {m : MethodId} {below : List Frame} {meth : Method} {c : Code} (l : Launch) {b : Nat} {xs : Nat → Int32} (C0 : lw_At p s m meth c b 6 xs) {dC : Nat → ClassId} {dI : Nat → Nat → Nat} {a a2 : Nat → Nat} {k k2 : Nat → ClassId} {L : List Nat} (hL : L.length = 40) (hKx : va_K (dC, dI) vwCl (XT k) s) (hKm : va_K (dC, dI) vwCl (MT k2) s) (hN : NW s) {H : Heap} {locs : List Loc} (hP : va_P (dC, dI) vwCl (MW a2 k2 ++ XW a k L) H) (hD : va_D (fun q : Nat => s.heap.size ≤ q) (MW a2 k2 ++ XW a k L)) (hS : va_S (fun q : Nat => s.heap.size ≤ q) s.heap H locs) {ls : Array Slot} (hl : lv_has ls 4 [(3, .int 0), (2, .ref (a2 0)), (1, .ref (a 0)), (0, .ref b)]) : W p l e room_1 s m #[Value.ref b] below meth c H locs 107 19066 (lw_Z below #[Value.ref b] s) (F0 m 490 ls []) := by
  obtain ⟨hx, hb, hr, hml, hown, hts, hX, hbl, hlocks, hgv⟩ := id C0
  have hA : ∀ q : Nat, s.heap.size ≤ q → (fun q : Nat => s.heap.size ≤ q) q := fun _ h => h
  have hbA : ¬ (fun q : Nat => s.heap.size ≤ q) b := Nat.not_le.mpr hbl
  have htb := fun w (h : w ∈ TB) => hts w (List.mem_filter.mp h).1
  refine lv_aload_n hx hb d_law_490 rfl (lv_at hl 2 rfl) ?_
  refine lv_aload_n hx hb d_law_491 rfl (lv_at hl 3 rfl) ?_
  refine lv_iload_n hx hb d_law_492 rfl (lv_at hl 0 rfl) ?_
  refine lv_iconst (v := 1) hx hb d_law_493 (by decide +kernel) ?_
  refine lv_iadd hx hb d_law_494 ?_
  refine hb_ti 1 (by decide +kernel) ?_
  refine va_sld hx hb hX hbl hbA hS (i := 1) (by unfold vp_in; decide +kernel) d_law_495 ?_
  refine hb_ti (xs 1) rfl ?_
  have hPc := (hb_right hP)
  refine vp_callSi (va_Run.run (va_runV (As := [.int (xs 1)]) (rest := []) ⟨hx, hb, hml, hown, htb⟩ (c_WM_pass l dC dI a k L hL (xs 1)) (cwV 1 htb (gd_V tw_463 tw_464 tw_465 tw_124 tw_466) rfl rfl rfl (by decide +kernel) ⟨Nat.le_of_ble_eq_true rfl, Nat.le_of_ble_eq_true rfl⟩) ⟨pr_blind, va_recv hKx hPc (ci := 0) (q0 := 0) rfl rfl, pr_pre hPc hKx hN⟩ rfl rfl hl.1 rfl (lv_room (Nat.le_of_ble_eq_true rfl)) d_law_496 ⟨by decide +kernel, by decide +kernel⟩)) (fun r er => ?_)
  subst er
  refine lv_aload_n hx hb d_law_499 rfl (lv_at hl 1 rfl) ?_
  refine lv_aload_n hx hb d_law_500 rfl (lv_at hl 3 rfl) ?_
  refine lv_iload_n hx hb d_law_501 rfl (lv_at hl 0 rfl) ?_
  refine lv_iconst (v := 1) hx hb d_law_502 (by decide +kernel) ?_
  refine lv_iadd hx hb d_law_503 ?_
  refine hb_ti 1 (by decide +kernel) ?_
  refine va_sld hx hb hX hbl hbA hS (i := 1) (by unfold vp_in; decide +kernel) d_law_504 ?_
  refine hb_ti (xs 1) rfl ?_
  have hPc := (hb_left hP)
  refine vp_callSi (va_Run.run (va_runV (As := [.int (xs 1)]) (rest := [.int (f_WM_pass (xs 1))]) ⟨hx, hb, hml, hown, htb⟩ (c_Md_pass l dC dI a2 k2 (xs 1)) (cwV 1 htb (gd_V tw_467 tw_468 tw_469 tw_296 tw_470) rfl rfl rfl (by decide +kernel) ⟨Nat.le_of_ble_eq_true rfl, Nat.le_of_ble_eq_true rfl⟩) ⟨pr_blind, va_recv hKm hPc (ci := 7) (q0 := 0) rfl rfl, pr_pre hPc hKm hN⟩ rfl rfl hl.1 rfl (lv_room (Nat.le_of_ble_eq_true rfl)) d_law_505 ⟨by decide +kernel, by decide +kernel⟩)) (fun r er => ?_)
  subst er
  refine lv_icmp_eq (tgt := 1259) hx hb d_law_508 (by decide) (fun _ => ?_) (fun h => absurd (eq_pass (xs 1)) h)
  exact law_end l C0 hS hl (by decide +kernel) (by decide +kernel)
set_option maxHeartbeats 4000000 in
set_option maxRecDepth 100000 in
theorem law_case_11 {p : Program} {e : Env} {s : State} {m : MethodId} {below : List Frame} {meth : Method} {c : Code} (l : Launch) {b : Nat} {xs : Nat → Int32} (C0 : lw_At p s m meth c b 6 xs) {dC : Nat → ClassId} {dI : Nat → Nat → Nat} {a a2 : Nat → Nat} {k k2 : Nat → ClassId} {L : List Nat} (hL : L.length = 40) (hKx : va_K (dC, dI) vwCl (XT k) s) (hKm : va_K (dC, dI) vwCl (MT k2) s) (hN : NW s) {H : Heap} {locs : List Loc} (hP : va_P (dC, dI) vwCl (MW a2 k2 ++ XW a k L) H) (hD : va_D (fun q : Nat => s.heap.size ≤ q) (MW a2 k2 ++ XW a k L)) (hS : va_S (fun q : Nat => s.heap.size ≤ q) s.heap H locs) {ls : Array Slot} (hl : lv_has ls 4 [(3, .int 0), (2, .ref (a2 0)), (1, .ref (a 0)), (0, .ref b)]) : W p l e room_1 s m #[Value.ref b] below meth c H locs 107 19066 (lw_Z below #[Value.ref b] s) (F0 m 513 ls []) := by
  obtain ⟨hx, hb, hr, hml, hown, hts, hX, hbl, hlocks, hgv⟩ := id C0
  have hA : ∀ q : Nat, s.heap.size ≤ q → (fun q : Nat => s.heap.size ≤ q) q := fun _ h => h
  have hbA : ¬ (fun q : Nat => s.heap.size ≤ q) b := Nat.not_le.mpr hbl
  have htb := fun w (h : w ∈ TB) => hts w (List.mem_filter.mp h).1
  refine lv_aload_n hx hb d_law_513 rfl (lv_at hl 2 rfl) ?_
  refine lv_aload_n hx hb d_law_514 rfl (lv_at hl 3 rfl) ?_
  refine lv_iload_n hx hb d_law_515 rfl (lv_at hl 0 rfl) ?_
  refine lv_iconst (v := 1) hx hb d_law_516 (by decide +kernel) ?_
  refine lv_iadd hx hb d_law_517 ?_
  refine hb_ti 1 (by decide +kernel) ?_
  refine va_sld hx hb hX hbl hbA hS (i := 1) (by unfold vp_in; decide +kernel) d_law_518 ?_
  refine hb_ti (xs 1) rfl ?_
  refine lv_aload_n hx hb d_law_519 rfl (lv_at hl 3 rfl) ?_
  refine lv_iload_n hx hb d_law_520 rfl (lv_at hl 0 rfl) ?_
  refine lv_iconst (v := 2) hx hb d_law_521 (by decide +kernel) ?_
  refine lv_iadd hx hb d_law_522 ?_
  refine hb_ti 2 (by decide +kernel) ?_
  refine va_sld hx hb hX hbl hbA hS (i := 2) (by unfold vp_in; decide +kernel) d_law_523 ?_
  refine hb_ti (xs 2) rfl ?_
  have hPc := (hb_right hP)
  refine vp_callSi (va_Run.run (va_runV (As := [.int (xs 1), .int (xs 2)]) (rest := []) ⟨hx, hb, hml, hown, htb⟩ (c_WM_man l dC dI a k L hL (xs 1) (xs 2)) (cwV 2 htb (gd_V tw_471 tw_472 tw_473 tw_124 tw_474) rfl rfl rfl (by decide +kernel) ⟨Nat.le_of_ble_eq_true rfl, Nat.le_of_ble_eq_true rfl⟩) ⟨pr_blind, va_recv hKx hPc (ci := 0) (q0 := 0) rfl rfl, pr_pre hPc hKx hN⟩ rfl rfl hl.1 rfl (lv_room (Nat.le_of_ble_eq_true rfl)) d_law_524 ⟨by decide +kernel, by decide +kernel⟩)) (fun r er => ?_)
  subst er
  refine lv_aload_n hx hb d_law_527 rfl (lv_at hl 1 rfl) ?_
  refine lv_aload_n hx hb d_law_528 rfl (lv_at hl 3 rfl) ?_
  refine lv_iload_n hx hb d_law_529 rfl (lv_at hl 0 rfl) ?_
  refine lv_iconst (v := 1) hx hb d_law_530 (by decide +kernel) ?_
  refine lv_iadd hx hb d_law_531 ?_
  refine hb_ti 1 (by decide +kernel) ?_
  refine va_sld hx hb hX hbl hbA hS (i := 1) (by unfold vp_in; decide +kernel) d_law_532 ?_
  refine hb_ti (xs 1) rfl ?_
  refine lv_aload_n hx hb d_law_533 rfl (lv_at hl 3 rfl) ?_
  refine lv_iload_n hx hb d_law_534 rfl (lv_at hl 0 rfl) ?_
  refine lv_iconst (v := 2) hx hb d_law_535 (by decide +kernel) ?_
  refine lv_iadd hx hb d_law_536 ?_
  refine hb_ti 2 (by decide +kernel) ?_
  refine va_sld hx hb hX hbl hbA hS (i := 2) (by unfold vp_in; decide +kernel) d_law_537 ?_
  refine hb_ti (xs 2) rfl ?_
  have hPc := (hb_left hP)
  refine vp_callSi (va_Run.run (va_runV (As := [.int (xs 1), .int (xs 2)]) (rest := [.int (f_WM_man (xs 1) (xs 2))]) ⟨hx, hb, hml, hown, htb⟩ (c_Md_man l dC dI a2 k2 (xs 1) (xs 2)) (cwV 2 htb (gd_V tw_475 tw_476 tw_477 tw_296 tw_478) rfl rfl rfl (by decide +kernel) ⟨Nat.le_of_ble_eq_true rfl, Nat.le_of_ble_eq_true rfl⟩) ⟨pr_blind, va_recv hKm hPc (ci := 7) (q0 := 0) rfl rfl, pr_pre hPc hKm hN⟩ rfl rfl hl.1 rfl (lv_room (Nat.le_of_ble_eq_true rfl)) d_law_538 ⟨by decide +kernel, by decide +kernel⟩)) (fun r er => ?_)
  subst er
  refine lv_icmp_eq (tgt := 1259) hx hb d_law_541 (by decide) (fun _ => ?_) (fun h => absurd (eq_man (xs 1) (xs 2)) h)
  exact law_end l C0 hS hl (by decide +kernel) (by decide +kernel)
set_option maxHeartbeats 4000000 in
set_option maxRecDepth 100000 in
theorem law_case_12 {p : Program} {e : Env} {s : State} {m : MethodId} {below : List Frame} {meth : Method} {c : Code} (l : Launch) {b : Nat} {xs : Nat → Int32} (C0 : lw_At p s m meth c b 6 xs) {dC : Nat → ClassId} {dI : Nat → Nat → Nat} {a a2 : Nat → Nat} {k k2 : Nat → ClassId} {L : List Nat} (hL : L.length = 40) (hKx : va_K (dC, dI) vwCl (XT k) s) (hKm : va_K (dC, dI) vwCl (MT k2) s) (hN : NW s) {H : Heap} {locs : List Loc} (hP : va_P (dC, dI) vwCl (MW a2 k2 ++ XW a k L) H) (hD : va_D (fun q : Nat => s.heap.size ≤ q) (MW a2 k2 ++ XW a k L)) (hS : va_S (fun q : Nat => s.heap.size ≤ q) s.heap H locs) {ls : Array Slot} (hl : lv_has ls 4 [(3, .int 0), (2, .ref (a2 0)), (1, .ref (a 0)), (0, .ref b)]) : W p l e room_1 s m #[Value.ref b] below meth c H locs 107 19066 (lw_Z below #[Value.ref b] s) (F0 m 546 ls []) := by
  obtain ⟨hx, hb, hr, hml, hown, hts, hX, hbl, hlocks, hgv⟩ := id C0
  have hA : ∀ q : Nat, s.heap.size ≤ q → (fun q : Nat => s.heap.size ≤ q) q := fun _ h => h
  have hbA : ¬ (fun q : Nat => s.heap.size ≤ q) b := Nat.not_le.mpr hbl
  have htb := fun w (h : w ∈ TB) => hts w (List.mem_filter.mp h).1
  refine lv_aload_n hx hb d_law_546 rfl (lv_at hl 2 rfl) ?_
  refine lv_aload_n hx hb d_law_547 rfl (lv_at hl 3 rfl) ?_
  refine lv_iload_n hx hb d_law_548 rfl (lv_at hl 0 rfl) ?_
  refine lv_iconst (v := 1) hx hb d_law_549 (by decide +kernel) ?_
  refine lv_iadd hx hb d_law_550 ?_
  refine hb_ti 1 (by decide +kernel) ?_
  refine va_sld hx hb hX hbl hbA hS (i := 1) (by unfold vp_in; decide +kernel) d_law_551 ?_
  refine hb_ti (xs 1) rfl ?_
  refine lv_aload_n hx hb d_law_552 rfl (lv_at hl 3 rfl) ?_
  refine lv_iload_n hx hb d_law_553 rfl (lv_at hl 0 rfl) ?_
  refine lv_iconst (v := 2) hx hb d_law_554 (by decide +kernel) ?_
  refine lv_iadd hx hb d_law_555 ?_
  refine hb_ti 2 (by decide +kernel) ?_
  refine va_sld hx hb hX hbl hbA hS (i := 2) (by unfold vp_in; decide +kernel) d_law_556 ?_
  refine hb_ti (xs 2) rfl ?_
  have hPc := (hb_right hP)
  refine vp_callSi (va_Run.run (va_runV (As := [.int (xs 1), .int (xs 2)]) (rest := []) ⟨hx, hb, hml, hown, htb⟩ (c_WM_boat l dC dI a k L hL (xs 1) (xs 2)) (cwV 2 htb (gd_V tw_479 tw_480 tw_481 tw_124 tw_482) rfl rfl rfl (by decide +kernel) ⟨Nat.le_of_ble_eq_true rfl, Nat.le_of_ble_eq_true rfl⟩) ⟨pr_blind, va_recv hKx hPc (ci := 0) (q0 := 0) rfl rfl, pr_pre hPc hKx hN⟩ rfl rfl hl.1 rfl (lv_room (Nat.le_of_ble_eq_true rfl)) d_law_557 ⟨by decide +kernel, by decide +kernel⟩)) (fun r er => ?_)
  subst er
  refine lv_aload_n hx hb d_law_560 rfl (lv_at hl 1 rfl) ?_
  refine lv_aload_n hx hb d_law_561 rfl (lv_at hl 3 rfl) ?_
  refine lv_iload_n hx hb d_law_562 rfl (lv_at hl 0 rfl) ?_
  refine lv_iconst (v := 1) hx hb d_law_563 (by decide +kernel) ?_
  refine lv_iadd hx hb d_law_564 ?_
  refine hb_ti 1 (by decide +kernel) ?_
  refine va_sld hx hb hX hbl hbA hS (i := 1) (by unfold vp_in; decide +kernel) d_law_565 ?_
  refine hb_ti (xs 1) rfl ?_
  refine lv_aload_n hx hb d_law_566 rfl (lv_at hl 3 rfl) ?_
  refine lv_iload_n hx hb d_law_567 rfl (lv_at hl 0 rfl) ?_
  refine lv_iconst (v := 2) hx hb d_law_568 (by decide +kernel) ?_
  refine lv_iadd hx hb d_law_569 ?_
  refine hb_ti 2 (by decide +kernel) ?_
  refine va_sld hx hb hX hbl hbA hS (i := 2) (by unfold vp_in; decide +kernel) d_law_570 ?_
  refine hb_ti (xs 2) rfl ?_
  have hPc := (hb_left hP)
  refine vp_callSi (va_Run.run (va_runV (As := [.int (xs 1), .int (xs 2)]) (rest := [.int (f_WM_boat (xs 1) (xs 2))]) ⟨hx, hb, hml, hown, htb⟩ (c_Md_boat l dC dI a2 k2 (xs 1) (xs 2)) (cwV 2 htb (gd_V tw_483 tw_484 tw_485 tw_296 tw_486) rfl rfl rfl (by decide +kernel) ⟨Nat.le_of_ble_eq_true rfl, Nat.le_of_ble_eq_true rfl⟩) ⟨pr_blind, va_recv hKm hPc (ci := 7) (q0 := 0) rfl rfl, pr_pre hPc hKm hN⟩ rfl rfl hl.1 rfl (lv_room (Nat.le_of_ble_eq_true rfl)) d_law_571 ⟨by decide +kernel, by decide +kernel⟩)) (fun r er => ?_)
  subst er
  refine lv_icmp_eq (tgt := 1259) hx hb d_law_574 (by decide) (fun _ => ?_) (fun h => absurd (eq_boat (xs 1) (xs 2)) h)
  exact law_end l C0 hS hl (by decide +kernel) (by decide +kernel)
set_option maxHeartbeats 4000000 in
set_option maxRecDepth 100000 in
theorem law_case_13 {p : Program} {e : Env} {s : State} {m : MethodId} {below : List Frame} {meth : Method} {c : Code} (l : Launch) {b : Nat} {xs : Nat → Int32} (C0 : lw_At p s m meth c b 6 xs) {dC : Nat → ClassId} {dI : Nat → Nat → Nat} {a a2 : Nat → Nat} {k k2 : Nat → ClassId} {L : List Nat} (hL : L.length = 40) (hKx : va_K (dC, dI) vwCl (XT k) s) (hKm : va_K (dC, dI) vwCl (MT k2) s) (hN : NW s) {H : Heap} {locs : List Loc} (hP : va_P (dC, dI) vwCl (MW a2 k2 ++ XW a k L) H) (hD : va_D (fun q : Nat => s.heap.size ≤ q) (MW a2 k2 ++ XW a k L)) (hS : va_S (fun q : Nat => s.heap.size ≤ q) s.heap H locs) {ls : Array Slot} (hl : lv_has ls 4 [(3, .int 0), (2, .ref (a2 0)), (1, .ref (a 0)), (0, .ref b)]) : W p l e room_1 s m #[Value.ref b] below meth c H locs 107 19066 (lw_Z below #[Value.ref b] s) (F0 m 579 ls []) := by
  obtain ⟨hx, hb, hr, hml, hown, hts, hX, hbl, hlocks, hgv⟩ := id C0
  have hA : ∀ q : Nat, s.heap.size ≤ q → (fun q : Nat => s.heap.size ≤ q) q := fun _ h => h
  have hbA : ¬ (fun q : Nat => s.heap.size ≤ q) b := Nat.not_le.mpr hbl
  have htb := fun w (h : w ∈ TB) => hts w (List.mem_filter.mp h).1
  refine lv_aload_n hx hb d_law_579 rfl (lv_at hl 2 rfl) ?_
  refine lv_aload_n hx hb d_law_580 rfl (lv_at hl 3 rfl) ?_
  refine lv_iload_n hx hb d_law_581 rfl (lv_at hl 0 rfl) ?_
  refine lv_iconst (v := 1) hx hb d_law_582 (by decide +kernel) ?_
  refine lv_iadd hx hb d_law_583 ?_
  refine hb_ti 1 (by decide +kernel) ?_
  refine va_sld hx hb hX hbl hbA hS (i := 1) (by unfold vp_in; decide +kernel) d_law_584 ?_
  refine hb_ti (xs 1) rfl ?_
  refine lv_aload_n hx hb d_law_585 rfl (lv_at hl 3 rfl) ?_
  refine lv_iload_n hx hb d_law_586 rfl (lv_at hl 0 rfl) ?_
  refine lv_iconst (v := 2) hx hb d_law_587 (by decide +kernel) ?_
  refine lv_iadd hx hb d_law_588 ?_
  refine hb_ti 2 (by decide +kernel) ?_
  refine va_sld hx hb hX hbl hbA hS (i := 2) (by unfold vp_in; decide +kernel) d_law_589 ?_
  refine hb_ti (xs 2) rfl ?_
  have hPc := (hb_right hP)
  refine vp_callSi (va_Run.run (va_runV (As := [.int (xs 1), .int (xs 2)]) (rest := []) ⟨hx, hb, hml, hown, htb⟩ (c_WM_craft l dC dI a k L hL (xs 1) (xs 2)) (cwV 2 htb (gd_V tw_487 tw_488 tw_489 tw_124 tw_490) rfl rfl rfl (by decide +kernel) ⟨Nat.le_of_ble_eq_true rfl, Nat.le_of_ble_eq_true rfl⟩) ⟨pr_blind, va_recv hKx hPc (ci := 0) (q0 := 0) rfl rfl, pr_pre hPc hKx hN⟩ rfl rfl hl.1 rfl (lv_room (Nat.le_of_ble_eq_true rfl)) d_law_590 ⟨by decide +kernel, by decide +kernel⟩)) (fun r er => ?_)
  subst er
  refine lv_aload_n hx hb d_law_593 rfl (lv_at hl 1 rfl) ?_
  refine lv_aload_n hx hb d_law_594 rfl (lv_at hl 3 rfl) ?_
  refine lv_iload_n hx hb d_law_595 rfl (lv_at hl 0 rfl) ?_
  refine lv_iconst (v := 1) hx hb d_law_596 (by decide +kernel) ?_
  refine lv_iadd hx hb d_law_597 ?_
  refine hb_ti 1 (by decide +kernel) ?_
  refine va_sld hx hb hX hbl hbA hS (i := 1) (by unfold vp_in; decide +kernel) d_law_598 ?_
  refine hb_ti (xs 1) rfl ?_
  refine lv_aload_n hx hb d_law_599 rfl (lv_at hl 3 rfl) ?_
  refine lv_iload_n hx hb d_law_600 rfl (lv_at hl 0 rfl) ?_
  refine lv_iconst (v := 2) hx hb d_law_601 (by decide +kernel) ?_
  refine lv_iadd hx hb d_law_602 ?_
  refine hb_ti 2 (by decide +kernel) ?_
  refine va_sld hx hb hX hbl hbA hS (i := 2) (by unfold vp_in; decide +kernel) d_law_603 ?_
  refine hb_ti (xs 2) rfl ?_
  have hPc := (hb_left hP)
  refine vp_callSi (va_Run.run (va_runV (As := [.int (xs 1), .int (xs 2)]) (rest := [.int (f_WM_craft (xs 1) (xs 2))]) ⟨hx, hb, hml, hown, htb⟩ (c_Md_craft l dC dI a2 k2 (xs 1) (xs 2)) (cwV 2 htb (gd_V tw_491 tw_492 tw_493 tw_296 tw_494) rfl rfl rfl (by decide +kernel) ⟨Nat.le_of_ble_eq_true rfl, Nat.le_of_ble_eq_true rfl⟩) ⟨pr_blind, va_recv hKm hPc (ci := 7) (q0 := 0) rfl rfl, pr_pre hPc hKm hN⟩ rfl rfl hl.1 rfl (lv_room (Nat.le_of_ble_eq_true rfl)) d_law_604 ⟨by decide +kernel, by decide +kernel⟩)) (fun r er => ?_)
  subst er
  refine lv_icmp_eq (tgt := 1259) hx hb d_law_607 (by decide) (fun _ => ?_) (fun h => absurd (eq_craft (xs 1) (xs 2)) h)
  exact law_end l C0 hS hl (by decide +kernel) (by decide +kernel)
set_option maxHeartbeats 4000000 in
set_option maxRecDepth 100000 in
theorem law_case_14 {p : Program} {e : Env} {s : State} {m : MethodId} {below : List Frame} {meth : Method} {c : Code} (l : Launch) {b : Nat} {xs : Nat → Int32} (C0 : lw_At p s m meth c b 6 xs) {dC : Nat → ClassId} {dI : Nat → Nat → Nat} {a a2 : Nat → Nat} {k k2 : Nat → ClassId} {L : List Nat} (hL : L.length = 40) (hKx : va_K (dC, dI) vwCl (XT k) s) (hKm : va_K (dC, dI) vwCl (MT k2) s) (hN : NW s) {H : Heap} {locs : List Loc} (hP : va_P (dC, dI) vwCl (MW a2 k2 ++ XW a k L) H) (hD : va_D (fun q : Nat => s.heap.size ≤ q) (MW a2 k2 ++ XW a k L)) (hS : va_S (fun q : Nat => s.heap.size ≤ q) s.heap H locs) {ls : Array Slot} (hl : lv_has ls 4 [(3, .int 0), (2, .ref (a2 0)), (1, .ref (a 0)), (0, .ref b)]) : W p l e room_1 s m #[Value.ref b] below meth c H locs 107 19066 (lw_Z below #[Value.ref b] s) (F0 m 612 ls []) := by
  obtain ⟨hx, hb, hr, hml, hown, hts, hX, hbl, hlocks, hgv⟩ := id C0
  have hA : ∀ q : Nat, s.heap.size ≤ q → (fun q : Nat => s.heap.size ≤ q) q := fun _ h => h
  have hbA : ¬ (fun q : Nat => s.heap.size ≤ q) b := Nat.not_le.mpr hbl
  have htb := fun w (h : w ∈ TB) => hts w (List.mem_filter.mp h).1
  refine lv_aload_n hx hb d_law_612 rfl (lv_at hl 2 rfl) ?_
  refine lv_aload_n hx hb d_law_613 rfl (lv_at hl 3 rfl) ?_
  refine lv_iload_n hx hb d_law_614 rfl (lv_at hl 0 rfl) ?_
  refine lv_iconst (v := 1) hx hb d_law_615 (by decide +kernel) ?_
  refine lv_iadd hx hb d_law_616 ?_
  refine hb_ti 1 (by decide +kernel) ?_
  refine va_sld hx hb hX hbl hbA hS (i := 1) (by unfold vp_in; decide +kernel) d_law_617 ?_
  refine hb_ti (xs 1) rfl ?_
  refine lv_aload_n hx hb d_law_618 rfl (lv_at hl 3 rfl) ?_
  refine lv_iload_n hx hb d_law_619 rfl (lv_at hl 0 rfl) ?_
  refine lv_iconst (v := 2) hx hb d_law_620 (by decide +kernel) ?_
  refine lv_iadd hx hb d_law_621 ?_
  refine hb_ti 2 (by decide +kernel) ?_
  refine va_sld hx hb hX hbl hbA hS (i := 2) (by unfold vp_in; decide +kernel) d_law_622 ?_
  refine hb_ti (xs 2) rfl ?_
  have hPc := (hb_right hP)
  refine vp_callSi (va_Run.run (va_runV (As := [.int (xs 1), .int (xs 2)]) (rest := []) ⟨hx, hb, hml, hown, htb⟩ (c_WM_join l dC dI a k L hL (xs 1) (xs 2)) (cwV 2 htb (gd_V tw_495 tw_496 tw_497 tw_124 tw_498) rfl rfl rfl (by decide +kernel) ⟨Nat.le_of_ble_eq_true rfl, Nat.le_of_ble_eq_true rfl⟩) ⟨pr_blind, va_recv hKx hPc (ci := 0) (q0 := 0) rfl rfl, pr_pre hPc hKx hN⟩ rfl rfl hl.1 rfl (lv_room (Nat.le_of_ble_eq_true rfl)) d_law_623 ⟨by decide +kernel, by decide +kernel⟩)) (fun r er => ?_)
  subst er
  refine lv_aload_n hx hb d_law_626 rfl (lv_at hl 1 rfl) ?_
  refine lv_aload_n hx hb d_law_627 rfl (lv_at hl 3 rfl) ?_
  refine lv_iload_n hx hb d_law_628 rfl (lv_at hl 0 rfl) ?_
  refine lv_iconst (v := 1) hx hb d_law_629 (by decide +kernel) ?_
  refine lv_iadd hx hb d_law_630 ?_
  refine hb_ti 1 (by decide +kernel) ?_
  refine va_sld hx hb hX hbl hbA hS (i := 1) (by unfold vp_in; decide +kernel) d_law_631 ?_
  refine hb_ti (xs 1) rfl ?_
  refine lv_aload_n hx hb d_law_632 rfl (lv_at hl 3 rfl) ?_
  refine lv_iload_n hx hb d_law_633 rfl (lv_at hl 0 rfl) ?_
  refine lv_iconst (v := 2) hx hb d_law_634 (by decide +kernel) ?_
  refine lv_iadd hx hb d_law_635 ?_
  refine hb_ti 2 (by decide +kernel) ?_
  refine va_sld hx hb hX hbl hbA hS (i := 2) (by unfold vp_in; decide +kernel) d_law_636 ?_
  refine hb_ti (xs 2) rfl ?_
  have hPc := (hb_left hP)
  refine vp_callSi (va_Run.run (va_runV (As := [.int (xs 1), .int (xs 2)]) (rest := [.int (f_WM_join (xs 1) (xs 2))]) ⟨hx, hb, hml, hown, htb⟩ (c_Md_join l dC dI a2 k2 (xs 1) (xs 2)) (cwV 2 htb (gd_V tw_499 tw_500 tw_501 tw_296 tw_502) rfl rfl rfl (by decide +kernel) ⟨Nat.le_of_ble_eq_true rfl, Nat.le_of_ble_eq_true rfl⟩) ⟨pr_blind, va_recv hKm hPc (ci := 7) (q0 := 0) rfl rfl, pr_pre hPc hKm hN⟩ rfl rfl hl.1 rfl (lv_room (Nat.le_of_ble_eq_true rfl)) d_law_637 ⟨by decide +kernel, by decide +kernel⟩)) (fun r er => ?_)
  subst er
  refine lv_icmp_eq (tgt := 1259) hx hb d_law_640 (by decide) (fun _ => ?_) (fun h => absurd (eq_join (xs 1) (xs 2)) h)
  exact law_end l C0 hS hl (by decide +kernel) (by decide +kernel)
set_option maxHeartbeats 4000000 in
set_option maxRecDepth 100000 in
theorem law_case_15 {p : Program} {e : Env} {s : State} {m : MethodId} {below : List Frame} {meth : Method} {c : Code} (l : Launch) {b : Nat} {xs : Nat → Int32} (C0 : lw_At p s m meth c b 6 xs) {dC : Nat → ClassId} {dI : Nat → Nat → Nat} {a a2 : Nat → Nat} {k k2 : Nat → ClassId} {L : List Nat} (hL : L.length = 40) (hKx : va_K (dC, dI) vwCl (XT k) s) (hKm : va_K (dC, dI) vwCl (MT k2) s) (hN : NW s) {H : Heap} {locs : List Loc} (hP : va_P (dC, dI) vwCl (MW a2 k2 ++ XW a k L) H) (hD : va_D (fun q : Nat => s.heap.size ≤ q) (MW a2 k2 ++ XW a k L)) (hS : va_S (fun q : Nat => s.heap.size ≤ q) s.heap H locs) {ls : Array Slot} (hl : lv_has ls 4 [(3, .int 0), (2, .ref (a2 0)), (1, .ref (a 0)), (0, .ref b)]) : W p l e room_1 s m #[Value.ref b] below meth c H locs 107 19066 (lw_Z below #[Value.ref b] s) (F0 m 645 ls []) := by
  obtain ⟨hx, hb, hr, hml, hown, hts, hX, hbl, hlocks, hgv⟩ := id C0
  have hA : ∀ q : Nat, s.heap.size ≤ q → (fun q : Nat => s.heap.size ≤ q) q := fun _ h => h
  have hbA : ¬ (fun q : Nat => s.heap.size ≤ q) b := Nat.not_le.mpr hbl
  have htb := fun w (h : w ∈ TB) => hts w (List.mem_filter.mp h).1
  refine lv_aload_n hx hb d_law_645 rfl (lv_at hl 2 rfl) ?_
  refine lv_aload_n hx hb d_law_646 rfl (lv_at hl 3 rfl) ?_
  refine lv_iload_n hx hb d_law_647 rfl (lv_at hl 0 rfl) ?_
  refine lv_iconst (v := 1) hx hb d_law_648 (by decide +kernel) ?_
  refine lv_iadd hx hb d_law_649 ?_
  refine hb_ti 1 (by decide +kernel) ?_
  refine va_sld hx hb hX hbl hbA hS (i := 1) (by unfold vp_in; decide +kernel) d_law_650 ?_
  refine hb_ti (xs 1) rfl ?_
  have hPc := (hb_right hP)
  refine vp_callSi (va_Run.run (va_runV (As := [.int (xs 1)]) (rest := []) ⟨hx, hb, hml, hown, htb⟩ (c_WM_leave l dC dI a k L hL (xs 1)) (cwV 1 htb (gd_V tw_503 tw_504 tw_505 tw_124 tw_506) rfl rfl rfl (by decide +kernel) ⟨Nat.le_of_ble_eq_true rfl, Nat.le_of_ble_eq_true rfl⟩) ⟨pr_blind, va_recv hKx hPc (ci := 0) (q0 := 0) rfl rfl, pr_pre hPc hKx hN⟩ rfl rfl hl.1 rfl (lv_room (Nat.le_of_ble_eq_true rfl)) d_law_651 ⟨by decide +kernel, by decide +kernel⟩)) (fun r er => ?_)
  subst er
  refine lv_aload_n hx hb d_law_654 rfl (lv_at hl 1 rfl) ?_
  refine lv_aload_n hx hb d_law_655 rfl (lv_at hl 3 rfl) ?_
  refine lv_iload_n hx hb d_law_656 rfl (lv_at hl 0 rfl) ?_
  refine lv_iconst (v := 1) hx hb d_law_657 (by decide +kernel) ?_
  refine lv_iadd hx hb d_law_658 ?_
  refine hb_ti 1 (by decide +kernel) ?_
  refine va_sld hx hb hX hbl hbA hS (i := 1) (by unfold vp_in; decide +kernel) d_law_659 ?_
  refine hb_ti (xs 1) rfl ?_
  have hPc := (hb_left hP)
  refine vp_callSi (va_Run.run (va_runV (As := [.int (xs 1)]) (rest := [.int (f_WM_leave (xs 1))]) ⟨hx, hb, hml, hown, htb⟩ (c_Md_leave l dC dI a2 k2 (xs 1)) (cwV 1 htb (gd_V tw_507 tw_508 tw_509 tw_296 tw_510) rfl rfl rfl (by decide +kernel) ⟨Nat.le_of_ble_eq_true rfl, Nat.le_of_ble_eq_true rfl⟩) ⟨pr_blind, va_recv hKm hPc (ci := 7) (q0 := 0) rfl rfl, pr_pre hPc hKm hN⟩ rfl rfl hl.1 rfl (lv_room (Nat.le_of_ble_eq_true rfl)) d_law_660 ⟨by decide +kernel, by decide +kernel⟩)) (fun r er => ?_)
  subst er
  refine lv_icmp_eq (tgt := 1259) hx hb d_law_663 (by decide) (fun _ => ?_) (fun h => absurd (eq_leave (xs 1)) h)
  exact law_end l C0 hS hl (by decide +kernel) (by decide +kernel)
set_option maxHeartbeats 4000000 in
set_option maxRecDepth 100000 in
theorem law_case_16 {p : Program} {e : Env} {s : State} {m : MethodId} {below : List Frame} {meth : Method} {c : Code} (l : Launch) {b : Nat} {xs : Nat → Int32} (C0 : lw_At p s m meth c b 6 xs) {dC : Nat → ClassId} {dI : Nat → Nat → Nat} {a a2 : Nat → Nat} {k k2 : Nat → ClassId} {L : List Nat} (hL : L.length = 40) (hKx : va_K (dC, dI) vwCl (XT k) s) (hKm : va_K (dC, dI) vwCl (MT k2) s) (hN : NW s) {H : Heap} {locs : List Loc} (hP : va_P (dC, dI) vwCl (MW a2 k2 ++ XW a k L) H) (hD : va_D (fun q : Nat => s.heap.size ≤ q) (MW a2 k2 ++ XW a k L)) (hS : va_S (fun q : Nat => s.heap.size ≤ q) s.heap H locs) {ls : Array Slot} (hl : lv_has ls 4 [(3, .int 0), (2, .ref (a2 0)), (1, .ref (a 0)), (0, .ref b)]) : W p l e room_1 s m #[Value.ref b] below meth c H locs 107 19066 (lw_Z below #[Value.ref b] s) (F0 m 668 ls []) := by
  obtain ⟨hx, hb, hr, hml, hown, hts, hX, hbl, hlocks, hgv⟩ := id C0
  have hA : ∀ q : Nat, s.heap.size ≤ q → (fun q : Nat => s.heap.size ≤ q) q := fun _ h => h
  have hbA : ¬ (fun q : Nat => s.heap.size ≤ q) b := Nat.not_le.mpr hbl
  have htb := fun w (h : w ∈ TB) => hts w (List.mem_filter.mp h).1
  refine lv_aload_n hx hb d_law_668 rfl (lv_at hl 2 rfl) ?_
  refine lv_aload_n hx hb d_law_669 rfl (lv_at hl 3 rfl) ?_
  refine lv_iload_n hx hb d_law_670 rfl (lv_at hl 0 rfl) ?_
  refine lv_iconst (v := 1) hx hb d_law_671 (by decide +kernel) ?_
  refine lv_iadd hx hb d_law_672 ?_
  refine hb_ti 1 (by decide +kernel) ?_
  refine va_sld hx hb hX hbl hbA hS (i := 1) (by unfold vp_in; decide +kernel) d_law_673 ?_
  refine hb_ti (xs 1) rfl ?_
  refine lv_aload_n hx hb d_law_674 rfl (lv_at hl 3 rfl) ?_
  refine lv_iload_n hx hb d_law_675 rfl (lv_at hl 0 rfl) ?_
  refine lv_iconst (v := 2) hx hb d_law_676 (by decide +kernel) ?_
  refine lv_iadd hx hb d_law_677 ?_
  refine hb_ti 2 (by decide +kernel) ?_
  refine va_sld hx hb hX hbl hbA hS (i := 2) (by unfold vp_in; decide +kernel) d_law_678 ?_
  refine hb_ti (xs 2) rfl ?_
  refine lv_aload_n hx hb d_law_679 rfl (lv_at hl 3 rfl) ?_
  refine lv_iload_n hx hb d_law_680 rfl (lv_at hl 0 rfl) ?_
  refine lv_iconst (v := 3) hx hb d_law_681 (by decide +kernel) ?_
  refine lv_iadd hx hb d_law_682 ?_
  refine hb_ti 3 (by decide +kernel) ?_
  refine va_sld hx hb hX hbl hbA hS (i := 3) (by unfold vp_in; decide +kernel) d_law_683 ?_
  refine hb_ti (xs 3) rfl ?_
  refine lv_aload_n hx hb d_law_684 rfl (lv_at hl 3 rfl) ?_
  refine lv_iload_n hx hb d_law_685 rfl (lv_at hl 0 rfl) ?_
  refine lv_iconst (v := 4) hx hb d_law_686 (by decide +kernel) ?_
  refine lv_iadd hx hb d_law_687 ?_
  refine hb_ti 4 (by decide +kernel) ?_
  refine va_sld hx hb hX hbl hbA hS (i := 4) (by unfold vp_in; decide +kernel) d_law_688 ?_
  refine hb_ti (xs 4) rfl ?_
  refine lv_aload_n hx hb d_law_689 rfl (lv_at hl 3 rfl) ?_
  refine lv_iload_n hx hb d_law_690 rfl (lv_at hl 0 rfl) ?_
  refine lv_iconst (v := 5) hx hb d_law_691 (by decide +kernel) ?_
  refine lv_iadd hx hb d_law_692 ?_
  refine hb_ti 5 (by decide +kernel) ?_
  refine va_sld hx hb hX hbl hbA hS (i := 5) (by unfold vp_in; decide +kernel) d_law_693 ?_
  refine hb_ti (xs 5) rfl ?_
  have hPc := (hb_right hP)
  have hDc := (hb_rightD hD)
  have hFc := hb_free hDc hS hA
  refine va_calli (va_runV (As := [.int (xs 1), .int (xs 2), .int (xs 3), .int (xs 4), .int (xs 5)]) (rest := []) ⟨hx, hb, hml, hown, htb⟩ (c_WM_feed l dC dI a k L hL _ (xs 1) (xs 2) (xs 3) (xs 4) (xs 5)) (cwV 5 htb (gd_V tw_511 tw_512 tw_513 tw_124 tw_514) rfl rfl rfl (by decide +kernel) ⟨Nat.le_of_ble_eq_true rfl, Nat.le_of_ble_eq_true rfl⟩) ⟨pc_blind, va_recv hKx hPc (ci := 0) (q0 := 0) rfl rfl, pc_pre hPc hKx hDc hN⟩ rfl rfl hl.1 rfl (lv_room (Nat.le_of_ble_eq_true rfl)) d_law_694 ⟨by decide +kernel, by decide +kernel⟩) hS (fun q _ h => hFc q h) hFc (fun r u t H1 locs1 ht hvm er hB hz1 hk1 hS1 => ?_)
  subst er
  have hPm := hb_keep hP hD hk1
  have hS := hS1
  refine lv_aload_n hx hb d_law_697 rfl (lv_at hl 1 rfl) ?_
  refine lv_aload_n hx hb d_law_698 rfl (lv_at hl 3 rfl) ?_
  refine lv_iload_n hx hb d_law_699 rfl (lv_at hl 0 rfl) ?_
  refine lv_iconst (v := 1) hx hb d_law_700 (by decide +kernel) ?_
  refine lv_iadd hx hb d_law_701 ?_
  refine hb_ti 1 (by decide +kernel) ?_
  refine va_sld hx hb hX hbl hbA hS (i := 1) (by unfold vp_in; decide +kernel) d_law_702 ?_
  refine hb_ti (xs 1) rfl ?_
  refine lv_aload_n hx hb d_law_703 rfl (lv_at hl 3 rfl) ?_
  refine lv_iload_n hx hb d_law_704 rfl (lv_at hl 0 rfl) ?_
  refine lv_iconst (v := 2) hx hb d_law_705 (by decide +kernel) ?_
  refine lv_iadd hx hb d_law_706 ?_
  refine hb_ti 2 (by decide +kernel) ?_
  refine va_sld hx hb hX hbl hbA hS (i := 2) (by unfold vp_in; decide +kernel) d_law_707 ?_
  refine hb_ti (xs 2) rfl ?_
  refine lv_aload_n hx hb d_law_708 rfl (lv_at hl 3 rfl) ?_
  refine lv_iload_n hx hb d_law_709 rfl (lv_at hl 0 rfl) ?_
  refine lv_iconst (v := 3) hx hb d_law_710 (by decide +kernel) ?_
  refine lv_iadd hx hb d_law_711 ?_
  refine hb_ti 3 (by decide +kernel) ?_
  refine va_sld hx hb hX hbl hbA hS (i := 3) (by unfold vp_in; decide +kernel) d_law_712 ?_
  refine hb_ti (xs 3) rfl ?_
  refine lv_aload_n hx hb d_law_713 rfl (lv_at hl 3 rfl) ?_
  refine lv_iload_n hx hb d_law_714 rfl (lv_at hl 0 rfl) ?_
  refine lv_iconst (v := 4) hx hb d_law_715 (by decide +kernel) ?_
  refine lv_iadd hx hb d_law_716 ?_
  refine hb_ti 4 (by decide +kernel) ?_
  refine va_sld hx hb hX hbl hbA hS (i := 4) (by unfold vp_in; decide +kernel) d_law_717 ?_
  refine hb_ti (xs 4) rfl ?_
  refine lv_aload_n hx hb d_law_718 rfl (lv_at hl 3 rfl) ?_
  refine lv_iload_n hx hb d_law_719 rfl (lv_at hl 0 rfl) ?_
  refine lv_iconst (v := 5) hx hb d_law_720 (by decide +kernel) ?_
  refine lv_iadd hx hb d_law_721 ?_
  refine hb_ti 5 (by decide +kernel) ?_
  refine va_sld hx hb hX hbl hbA hS (i := 5) (by unfold vp_in; decide +kernel) d_law_722 ?_
  refine hb_ti (xs 5) rfl ?_
  have hPc := hPm
  have hDc := (hb_leftD hD)
  have hFc := hb_free hDc hS hA
  refine va_calli (va_runV (As := [.int (xs 1), .int (xs 2), .int (xs 3), .int (xs 4), .int (xs 5)]) (rest := [.int (f_WM_feed (xs 1) (xs 2) (xs 3) (xs 4) (xs 5))]) ⟨hx, hb, hml, hown, htb⟩ (c_Md_feed l dC dI a2 k2 _ (xs 1) (xs 2) (xs 3) (xs 4) (xs 5)) (cwV 5 htb (gd_V tw_515 tw_516 tw_517 tw_296 tw_518) rfl rfl rfl (by decide +kernel) ⟨Nat.le_of_ble_eq_true rfl, Nat.le_of_ble_eq_true rfl⟩) ⟨pc_blind, va_recv hKm hPc (ci := 7) (q0 := 0) rfl rfl, pc_pre hPc hKm hDc hN⟩ rfl rfl hl.1 rfl (lv_room (Nat.le_of_ble_eq_true rfl)) d_law_723 ⟨by decide +kernel, by decide +kernel⟩) hS (fun q _ h => hFc q h) hFc (fun r u t H1 locs1 ht hvm er hB hz1 hk1 hS1 => ?_)
  subst er
  have hS := hS1
  refine lv_icmp_eq (tgt := 1259) hx hb d_law_726 (by decide) (fun _ => ?_) (fun h => absurd (eq_feed (xs 1) (xs 2) (xs 3) (xs 4) (xs 5)) h)
  exact law_end l C0 hS hl (by decide +kernel) (by decide +kernel)
set_option maxHeartbeats 4000000 in
set_option maxRecDepth 100000 in
theorem law_case_17 {p : Program} {e : Env} {s : State} {m : MethodId} {below : List Frame} {meth : Method} {c : Code} (l : Launch) {b : Nat} {xs : Nat → Int32} (C0 : lw_At p s m meth c b 6 xs) {dC : Nat → ClassId} {dI : Nat → Nat → Nat} {a a2 : Nat → Nat} {k k2 : Nat → ClassId} {L : List Nat} (hL : L.length = 40) (hKx : va_K (dC, dI) vwCl (XT k) s) (hKm : va_K (dC, dI) vwCl (MT k2) s) (hN : NW s) {H : Heap} {locs : List Loc} (hP : va_P (dC, dI) vwCl (MW a2 k2 ++ XW a k L) H) (hD : va_D (fun q : Nat => s.heap.size ≤ q) (MW a2 k2 ++ XW a k L)) (hS : va_S (fun q : Nat => s.heap.size ≤ q) s.heap H locs) {ls : Array Slot} (hl : lv_has ls 4 [(3, .int 0), (2, .ref (a2 0)), (1, .ref (a 0)), (0, .ref b)]) : W p l e room_1 s m #[Value.ref b] below meth c H locs 107 19066 (lw_Z below #[Value.ref b] s) (F0 m 731 ls []) := by
  obtain ⟨hx, hb, hr, hml, hown, hts, hX, hbl, hlocks, hgv⟩ := id C0
  have hA : ∀ q : Nat, s.heap.size ≤ q → (fun q : Nat => s.heap.size ≤ q) q := fun _ h => h
  have hbA : ¬ (fun q : Nat => s.heap.size ≤ q) b := Nat.not_le.mpr hbl
  have htb := fun w (h : w ∈ TB) => hts w (List.mem_filter.mp h).1
  refine lv_aload_n hx hb d_law_731 rfl (lv_at hl 2 rfl) ?_
  refine lv_aload_n hx hb d_law_732 rfl (lv_at hl 3 rfl) ?_
  refine lv_iload_n hx hb d_law_733 rfl (lv_at hl 0 rfl) ?_
  refine lv_iconst (v := 1) hx hb d_law_734 (by decide +kernel) ?_
  refine lv_iadd hx hb d_law_735 ?_
  refine hb_ti 1 (by decide +kernel) ?_
  refine va_sld hx hb hX hbl hbA hS (i := 1) (by unfold vp_in; decide +kernel) d_law_736 ?_
  refine hb_ti (xs 1) rfl ?_
  have hPc := (hb_right hP)
  have hDc := (hb_rightD hD)
  have hFc := hb_free hDc hS hA
  refine va_calli (va_runV (As := [.int (xs 1)]) (rest := []) ⟨hx, hb, hml, hown, htb⟩ (c_WM_end l dC dI a k L hL _ (xs 1)) (cwV 1 htb (gd_V tw_519 tw_520 tw_521 tw_124 tw_522) rfl rfl rfl (by decide +kernel) ⟨Nat.le_of_ble_eq_true rfl, Nat.le_of_ble_eq_true rfl⟩) ⟨pc_blind, va_recv hKx hPc (ci := 0) (q0 := 0) rfl rfl, pc_pre hPc hKx hDc hN⟩ rfl rfl hl.1 rfl (lv_room (Nat.le_of_ble_eq_true rfl)) d_law_737 ⟨by decide +kernel, by decide +kernel⟩) hS (fun q _ h => hFc q h) hFc (fun r u t H1 locs1 ht hvm er hB hz1 hk1 hS1 => ?_)
  subst er
  have hPm := hb_keep hP hD hk1
  have hS := hS1
  refine lv_aload_n hx hb d_law_740 rfl (lv_at hl 1 rfl) ?_
  refine lv_aload_n hx hb d_law_741 rfl (lv_at hl 3 rfl) ?_
  refine lv_iload_n hx hb d_law_742 rfl (lv_at hl 0 rfl) ?_
  refine lv_iconst (v := 1) hx hb d_law_743 (by decide +kernel) ?_
  refine lv_iadd hx hb d_law_744 ?_
  refine hb_ti 1 (by decide +kernel) ?_
  refine va_sld hx hb hX hbl hbA hS (i := 1) (by unfold vp_in; decide +kernel) d_law_745 ?_
  refine hb_ti (xs 1) rfl ?_
  have hPc := hPm
  have hDc := (hb_leftD hD)
  have hFc := hb_free hDc hS hA
  refine va_calli (va_runV (As := [.int (xs 1)]) (rest := [.int (f_WM_end (xs 1))]) ⟨hx, hb, hml, hown, htb⟩ (c_Md_end l dC dI a2 k2 _ (xs 1)) (cwV 1 htb (gd_V tw_523 tw_524 tw_525 tw_296 tw_526) rfl rfl rfl (by decide +kernel) ⟨Nat.le_of_ble_eq_true rfl, Nat.le_of_ble_eq_true rfl⟩) ⟨pc_blind, va_recv hKm hPc (ci := 7) (q0 := 0) rfl rfl, pc_pre hPc hKm hDc hN⟩ rfl rfl hl.1 rfl (lv_room (Nat.le_of_ble_eq_true rfl)) d_law_746 ⟨by decide +kernel, by decide +kernel⟩) hS (fun q _ h => hFc q h) hFc (fun r u t H1 locs1 ht hvm er hB hz1 hk1 hS1 => ?_)
  subst er
  have hS := hS1
  refine lv_icmp_eq (tgt := 1259) hx hb d_law_749 (by decide) (fun _ => ?_) (fun h => absurd (eq_end (xs 1)) h)
  exact law_end l C0 hS hl (by decide +kernel) (by decide +kernel)
set_option maxHeartbeats 4000000 in
set_option maxRecDepth 100000 in
theorem law_case_18 {p : Program} {e : Env} {s : State} {m : MethodId} {below : List Frame} {meth : Method} {c : Code} (l : Launch) {b : Nat} {xs : Nat → Int32} (C0 : lw_At p s m meth c b 6 xs) {dC : Nat → ClassId} {dI : Nat → Nat → Nat} {a a2 : Nat → Nat} {k k2 : Nat → ClassId} {L : List Nat} (hL : L.length = 40) (hKx : va_K (dC, dI) vwCl (XT k) s) (hKm : va_K (dC, dI) vwCl (MT k2) s) (hN : NW s) {H : Heap} {locs : List Loc} (hP : va_P (dC, dI) vwCl (MW a2 k2 ++ XW a k L) H) (hD : va_D (fun q : Nat => s.heap.size ≤ q) (MW a2 k2 ++ XW a k L)) (hS : va_S (fun q : Nat => s.heap.size ≤ q) s.heap H locs) {ls : Array Slot} (hl : lv_has ls 4 [(3, .int 0), (2, .ref (a2 0)), (1, .ref (a 0)), (0, .ref b)]) : W p l e room_1 s m #[Value.ref b] below meth c H locs 107 19066 (lw_Z below #[Value.ref b] s) (F0 m 754 ls []) := by
  obtain ⟨hx, hb, hr, hml, hown, hts, hX, hbl, hlocks, hgv⟩ := id C0
  have hA : ∀ q : Nat, s.heap.size ≤ q → (fun q : Nat => s.heap.size ≤ q) q := fun _ h => h
  have hbA : ¬ (fun q : Nat => s.heap.size ≤ q) b := Nat.not_le.mpr hbl
  have htb := fun w (h : w ∈ TB) => hts w (List.mem_filter.mp h).1
  refine lv_aload_n hx hb d_law_754 rfl (lv_at hl 2 rfl) ?_
  refine lv_aload_n hx hb d_law_755 rfl (lv_at hl 3 rfl) ?_
  refine lv_iload_n hx hb d_law_756 rfl (lv_at hl 0 rfl) ?_
  refine lv_iconst (v := 1) hx hb d_law_757 (by decide +kernel) ?_
  refine lv_iadd hx hb d_law_758 ?_
  refine hb_ti 1 (by decide +kernel) ?_
  refine va_sld hx hb hX hbl hbA hS (i := 1) (by unfold vp_in; decide +kernel) d_law_759 ?_
  refine hb_ti (xs 1) rfl ?_
  have hPc := (hb_right hP)
  have hDc := (hb_rightD hD)
  have hFc := hb_free hDc hS hA
  refine va_calli (va_runV (As := [.int (xs 1)]) (rest := []) ⟨hx, hb, hml, hown, htb⟩ (c_WM_order l dC dI a k L hL _ (xs 1)) (cwV 1 htb (gd_V tw_527 tw_528 tw_529 tw_124 tw_530) rfl rfl rfl (by decide +kernel) ⟨Nat.le_of_ble_eq_true rfl, Nat.le_of_ble_eq_true rfl⟩) ⟨pc_blind, va_recv hKx hPc (ci := 0) (q0 := 0) rfl rfl, pc_pre hPc hKx hDc hN⟩ rfl rfl hl.1 rfl (lv_room (Nat.le_of_ble_eq_true rfl)) d_law_760 ⟨by decide +kernel, by decide +kernel⟩) hS (fun q _ h => hFc q h) hFc (fun r u t H1 locs1 ht hvm er hB hz1 hk1 hS1 => ?_)
  subst er
  have hPm := hb_keep hP hD hk1
  have hS := hS1
  refine lv_aload_n hx hb d_law_763 rfl (lv_at hl 1 rfl) ?_
  refine lv_aload_n hx hb d_law_764 rfl (lv_at hl 3 rfl) ?_
  refine lv_iload_n hx hb d_law_765 rfl (lv_at hl 0 rfl) ?_
  refine lv_iconst (v := 1) hx hb d_law_766 (by decide +kernel) ?_
  refine lv_iadd hx hb d_law_767 ?_
  refine hb_ti 1 (by decide +kernel) ?_
  refine va_sld hx hb hX hbl hbA hS (i := 1) (by unfold vp_in; decide +kernel) d_law_768 ?_
  refine hb_ti (xs 1) rfl ?_
  have hPc := hPm
  have hDc := (hb_leftD hD)
  have hFc := hb_free hDc hS hA
  refine va_calli (va_runV (As := [.int (xs 1)]) (rest := [.int (f_WM_order (xs 1))]) ⟨hx, hb, hml, hown, htb⟩ (c_Md_order l dC dI a2 k2 _ (xs 1)) (cwV 1 htb (gd_V tw_531 tw_532 tw_533 tw_296 tw_534) rfl rfl rfl (by decide +kernel) ⟨Nat.le_of_ble_eq_true rfl, Nat.le_of_ble_eq_true rfl⟩) ⟨pc_blind, va_recv hKm hPc (ci := 7) (q0 := 0) rfl rfl, pc_pre hPc hKm hDc hN⟩ rfl rfl hl.1 rfl (lv_room (Nat.le_of_ble_eq_true rfl)) d_law_769 ⟨by decide +kernel, by decide +kernel⟩) hS (fun q _ h => hFc q h) hFc (fun r u t H1 locs1 ht hvm er hB hz1 hk1 hS1 => ?_)
  subst er
  have hS := hS1
  refine lv_icmp_eq (tgt := 1259) hx hb d_law_772 (by decide) (fun _ => ?_) (fun h => absurd (eq_order (xs 1)) h)
  exact law_end l C0 hS hl (by decide +kernel) (by decide +kernel)
set_option maxHeartbeats 4000000 in
set_option maxRecDepth 100000 in
theorem law_case_19 {p : Program} {e : Env} {s : State} {m : MethodId} {below : List Frame} {meth : Method} {c : Code} (l : Launch) {b : Nat} {xs : Nat → Int32} (C0 : lw_At p s m meth c b 6 xs) {dC : Nat → ClassId} {dI : Nat → Nat → Nat} {a a2 : Nat → Nat} {k k2 : Nat → ClassId} {L : List Nat} (hL : L.length = 40) (hKx : va_K (dC, dI) vwCl (XT k) s) (hKm : va_K (dC, dI) vwCl (MT k2) s) (hN : NW s) {H : Heap} {locs : List Loc} (hP : va_P (dC, dI) vwCl (MW a2 k2 ++ XW a k L) H) (hD : va_D (fun q : Nat => s.heap.size ≤ q) (MW a2 k2 ++ XW a k L)) (hS : va_S (fun q : Nat => s.heap.size ≤ q) s.heap H locs) {ls : Array Slot} (hl : lv_has ls 4 [(3, .int 0), (2, .ref (a2 0)), (1, .ref (a 0)), (0, .ref b)]) : W p l e room_1 s m #[Value.ref b] below meth c H locs 107 19066 (lw_Z below #[Value.ref b] s) (F0 m 777 ls []) := by
  obtain ⟨hx, hb, hr, hml, hown, hts, hX, hbl, hlocks, hgv⟩ := id C0
  have hA : ∀ q : Nat, s.heap.size ≤ q → (fun q : Nat => s.heap.size ≤ q) q := fun _ h => h
  have hbA : ¬ (fun q : Nat => s.heap.size ≤ q) b := Nat.not_le.mpr hbl
  have htb := fun w (h : w ∈ TB) => hts w (List.mem_filter.mp h).1
  refine lv_aload_n hx hb d_law_777 rfl (lv_at hl 2 rfl) ?_
  refine lv_aload_n hx hb d_law_778 rfl (lv_at hl 3 rfl) ?_
  refine lv_iload_n hx hb d_law_779 rfl (lv_at hl 0 rfl) ?_
  refine lv_iconst (v := 1) hx hb d_law_780 (by decide +kernel) ?_
  refine lv_iadd hx hb d_law_781 ?_
  refine hb_ti 1 (by decide +kernel) ?_
  refine va_sld hx hb hX hbl hbA hS (i := 1) (by unfold vp_in; decide +kernel) d_law_782 ?_
  refine hb_ti (xs 1) rfl ?_
  refine lv_aload_n hx hb d_law_783 rfl (lv_at hl 3 rfl) ?_
  refine lv_iload_n hx hb d_law_784 rfl (lv_at hl 0 rfl) ?_
  refine lv_iconst (v := 2) hx hb d_law_785 (by decide +kernel) ?_
  refine lv_iadd hx hb d_law_786 ?_
  refine hb_ti 2 (by decide +kernel) ?_
  refine va_sld hx hb hX hbl hbA hS (i := 2) (by unfold vp_in; decide +kernel) d_law_787 ?_
  refine hb_ti (xs 2) rfl ?_
  have hPc := (hb_right hP)
  refine vp_callSi (va_Run.run (va_runV (As := [.int (xs 1), .int (xs 2)]) (rest := []) ⟨hx, hb, hml, hown, htb⟩ (c_WM_inForce l dC dI a k L hL (xs 1) (xs 2)) (cwV 2 htb (gd_V tw_535 tw_536 tw_537 tw_124 tw_538) rfl rfl rfl (by decide +kernel) ⟨Nat.le_of_ble_eq_true rfl, Nat.le_of_ble_eq_true rfl⟩) ⟨pr_blind, va_recv hKx hPc (ci := 0) (q0 := 0) rfl rfl, pr_pre hPc hKx hN⟩ rfl rfl hl.1 rfl (lv_room (Nat.le_of_ble_eq_true rfl)) d_law_788 ⟨by decide +kernel, by decide +kernel⟩)) (fun r er => ?_)
  subst er
  refine lv_aload_n hx hb d_law_791 rfl (lv_at hl 1 rfl) ?_
  refine lv_aload_n hx hb d_law_792 rfl (lv_at hl 3 rfl) ?_
  refine lv_iload_n hx hb d_law_793 rfl (lv_at hl 0 rfl) ?_
  refine lv_iconst (v := 1) hx hb d_law_794 (by decide +kernel) ?_
  refine lv_iadd hx hb d_law_795 ?_
  refine hb_ti 1 (by decide +kernel) ?_
  refine va_sld hx hb hX hbl hbA hS (i := 1) (by unfold vp_in; decide +kernel) d_law_796 ?_
  refine hb_ti (xs 1) rfl ?_
  refine lv_aload_n hx hb d_law_797 rfl (lv_at hl 3 rfl) ?_
  refine lv_iload_n hx hb d_law_798 rfl (lv_at hl 0 rfl) ?_
  refine lv_iconst (v := 2) hx hb d_law_799 (by decide +kernel) ?_
  refine lv_iadd hx hb d_law_800 ?_
  refine hb_ti 2 (by decide +kernel) ?_
  refine va_sld hx hb hX hbl hbA hS (i := 2) (by unfold vp_in; decide +kernel) d_law_801 ?_
  refine hb_ti (xs 2) rfl ?_
  have hPc := (hb_left hP)
  refine vp_callSi (va_Run.run (va_runV (As := [.int (xs 1), .int (xs 2)]) (rest := [.int (f_WM_inForce (xs 1) (xs 2))]) ⟨hx, hb, hml, hown, htb⟩ (c_Md_inForce l dC dI a2 k2 (xs 1) (xs 2)) (cwV 2 htb (gd_V tw_539 tw_540 tw_541 tw_296 tw_542) rfl rfl rfl (by decide +kernel) ⟨Nat.le_of_ble_eq_true rfl, Nat.le_of_ble_eq_true rfl⟩) ⟨pr_blind, va_recv hKm hPc (ci := 7) (q0 := 0) rfl rfl, pr_pre hPc hKm hN⟩ rfl rfl hl.1 rfl (lv_room (Nat.le_of_ble_eq_true rfl)) d_law_802 ⟨by decide +kernel, by decide +kernel⟩)) (fun r er => ?_)
  subst er
  refine lv_icmp_eq (tgt := 1259) hx hb d_law_805 (by decide) (fun _ => ?_) (fun h => absurd (eq_inForce (xs 1) (xs 2)) h)
  exact law_end l C0 hS hl (by decide +kernel) (by decide +kernel)
set_option maxHeartbeats 4000000 in
set_option maxRecDepth 100000 in
theorem law_case_20 {p : Program} {e : Env} {s : State} {m : MethodId} {below : List Frame} {meth : Method} {c : Code} (l : Launch) {b : Nat} {xs : Nat → Int32} (C0 : lw_At p s m meth c b 6 xs) {dC : Nat → ClassId} {dI : Nat → Nat → Nat} {a a2 : Nat → Nat} {k k2 : Nat → ClassId} {L : List Nat} (hL : L.length = 40) (hKx : va_K (dC, dI) vwCl (XT k) s) (hKm : va_K (dC, dI) vwCl (MT k2) s) (hN : NW s) {H : Heap} {locs : List Loc} (hP : va_P (dC, dI) vwCl (MW a2 k2 ++ XW a k L) H) (hD : va_D (fun q : Nat => s.heap.size ≤ q) (MW a2 k2 ++ XW a k L)) (hS : va_S (fun q : Nat => s.heap.size ≤ q) s.heap H locs) {ls : Array Slot} (hl : lv_has ls 4 [(3, .int 0), (2, .ref (a2 0)), (1, .ref (a 0)), (0, .ref b)]) : W p l e room_1 s m #[Value.ref b] below meth c H locs 107 19066 (lw_Z below #[Value.ref b] s) (F0 m 810 ls []) := by
  obtain ⟨hx, hb, hr, hml, hown, hts, hX, hbl, hlocks, hgv⟩ := id C0
  have hA : ∀ q : Nat, s.heap.size ≤ q → (fun q : Nat => s.heap.size ≤ q) q := fun _ h => h
  have hbA : ¬ (fun q : Nat => s.heap.size ≤ q) b := Nat.not_le.mpr hbl
  have htb := fun w (h : w ∈ TB) => hts w (List.mem_filter.mp h).1
  refine lv_aload_n hx hb d_law_810 rfl (lv_at hl 2 rfl) ?_
  refine lv_aload_n hx hb d_law_811 rfl (lv_at hl 3 rfl) ?_
  refine lv_iload_n hx hb d_law_812 rfl (lv_at hl 0 rfl) ?_
  refine lv_iconst (v := 1) hx hb d_law_813 (by decide +kernel) ?_
  refine lv_iadd hx hb d_law_814 ?_
  refine hb_ti 1 (by decide +kernel) ?_
  refine va_sld hx hb hX hbl hbA hS (i := 1) (by unfold vp_in; decide +kernel) d_law_815 ?_
  refine hb_ti (xs 1) rfl ?_
  refine lv_aload_n hx hb d_law_816 rfl (lv_at hl 3 rfl) ?_
  refine lv_iload_n hx hb d_law_817 rfl (lv_at hl 0 rfl) ?_
  refine lv_iconst (v := 2) hx hb d_law_818 (by decide +kernel) ?_
  refine lv_iadd hx hb d_law_819 ?_
  refine hb_ti 2 (by decide +kernel) ?_
  refine va_sld hx hb hX hbl hbA hS (i := 2) (by unfold vp_in; decide +kernel) d_law_820 ?_
  refine hb_ti (xs 2) rfl ?_
  refine lv_aload_n hx hb d_law_821 rfl (lv_at hl 3 rfl) ?_
  refine lv_iload_n hx hb d_law_822 rfl (lv_at hl 0 rfl) ?_
  refine lv_iconst (v := 3) hx hb d_law_823 (by decide +kernel) ?_
  refine lv_iadd hx hb d_law_824 ?_
  refine hb_ti 3 (by decide +kernel) ?_
  refine va_sld hx hb hX hbl hbA hS (i := 3) (by unfold vp_in; decide +kernel) d_law_825 ?_
  refine hb_ti (xs 3) rfl ?_
  refine lv_aload_n hx hb d_law_826 rfl (lv_at hl 3 rfl) ?_
  refine lv_iload_n hx hb d_law_827 rfl (lv_at hl 0 rfl) ?_
  refine lv_iconst (v := 4) hx hb d_law_828 (by decide +kernel) ?_
  refine lv_iadd hx hb d_law_829 ?_
  refine hb_ti 4 (by decide +kernel) ?_
  refine va_sld hx hb hX hbl hbA hS (i := 4) (by unfold vp_in; decide +kernel) d_law_830 ?_
  refine hb_ti (xs 4) rfl ?_
  refine lv_aload_n hx hb d_law_831 rfl (lv_at hl 3 rfl) ?_
  refine lv_iload_n hx hb d_law_832 rfl (lv_at hl 0 rfl) ?_
  refine lv_iconst (v := 5) hx hb d_law_833 (by decide +kernel) ?_
  refine lv_iadd hx hb d_law_834 ?_
  refine hb_ti 5 (by decide +kernel) ?_
  refine va_sld hx hb hX hbl hbA hS (i := 5) (by unfold vp_in; decide +kernel) d_law_835 ?_
  refine hb_ti (xs 5) rfl ?_
  have hPc := (hb_right hP)
  refine vp_callSi (va_Run.run (va_runV (As := [.int (xs 1), .int (xs 2), .int (xs 3), .int (xs 4), .int (xs 5)]) (rest := []) ⟨hx, hb, hml, hown, htb⟩ (c_WM_fare l dC dI a k L hL (xs 1) (xs 2) (xs 3) (xs 4) (xs 5)) (cwV 5 htb (gd_V tw_543 tw_544 tw_545 tw_124 tw_546) rfl rfl rfl (by decide +kernel) ⟨Nat.le_of_ble_eq_true rfl, Nat.le_of_ble_eq_true rfl⟩) ⟨pr_blind, va_recv hKx hPc (ci := 0) (q0 := 0) rfl rfl, pr_pre hPc hKx hN⟩ rfl rfl hl.1 rfl (lv_room (Nat.le_of_ble_eq_true rfl)) d_law_836 ⟨by decide +kernel, by decide +kernel⟩)) (fun r er => ?_)
  subst er
  refine lv_aload_n hx hb d_law_839 rfl (lv_at hl 1 rfl) ?_
  refine lv_aload_n hx hb d_law_840 rfl (lv_at hl 3 rfl) ?_
  refine lv_iload_n hx hb d_law_841 rfl (lv_at hl 0 rfl) ?_
  refine lv_iconst (v := 1) hx hb d_law_842 (by decide +kernel) ?_
  refine lv_iadd hx hb d_law_843 ?_
  refine hb_ti 1 (by decide +kernel) ?_
  refine va_sld hx hb hX hbl hbA hS (i := 1) (by unfold vp_in; decide +kernel) d_law_844 ?_
  refine hb_ti (xs 1) rfl ?_
  refine lv_aload_n hx hb d_law_845 rfl (lv_at hl 3 rfl) ?_
  refine lv_iload_n hx hb d_law_846 rfl (lv_at hl 0 rfl) ?_
  refine lv_iconst (v := 2) hx hb d_law_847 (by decide +kernel) ?_
  refine lv_iadd hx hb d_law_848 ?_
  refine hb_ti 2 (by decide +kernel) ?_
  refine va_sld hx hb hX hbl hbA hS (i := 2) (by unfold vp_in; decide +kernel) d_law_849 ?_
  refine hb_ti (xs 2) rfl ?_
  refine lv_aload_n hx hb d_law_850 rfl (lv_at hl 3 rfl) ?_
  refine lv_iload_n hx hb d_law_851 rfl (lv_at hl 0 rfl) ?_
  refine lv_iconst (v := 3) hx hb d_law_852 (by decide +kernel) ?_
  refine lv_iadd hx hb d_law_853 ?_
  refine hb_ti 3 (by decide +kernel) ?_
  refine va_sld hx hb hX hbl hbA hS (i := 3) (by unfold vp_in; decide +kernel) d_law_854 ?_
  refine hb_ti (xs 3) rfl ?_
  refine lv_aload_n hx hb d_law_855 rfl (lv_at hl 3 rfl) ?_
  refine lv_iload_n hx hb d_law_856 rfl (lv_at hl 0 rfl) ?_
  refine lv_iconst (v := 4) hx hb d_law_857 (by decide +kernel) ?_
  refine lv_iadd hx hb d_law_858 ?_
  refine hb_ti 4 (by decide +kernel) ?_
  refine va_sld hx hb hX hbl hbA hS (i := 4) (by unfold vp_in; decide +kernel) d_law_859 ?_
  refine hb_ti (xs 4) rfl ?_
  refine lv_aload_n hx hb d_law_860 rfl (lv_at hl 3 rfl) ?_
  refine lv_iload_n hx hb d_law_861 rfl (lv_at hl 0 rfl) ?_
  refine lv_iconst (v := 5) hx hb d_law_862 (by decide +kernel) ?_
  refine lv_iadd hx hb d_law_863 ?_
  refine hb_ti 5 (by decide +kernel) ?_
  refine va_sld hx hb hX hbl hbA hS (i := 5) (by unfold vp_in; decide +kernel) d_law_864 ?_
  refine hb_ti (xs 5) rfl ?_
  have hPc := (hb_left hP)
  refine vp_callSi (va_Run.run (va_runV (As := [.int (xs 1), .int (xs 2), .int (xs 3), .int (xs 4), .int (xs 5)]) (rest := [.int (f_WM_fare (xs 1) (xs 2) (xs 3) (xs 4) (xs 5))]) ⟨hx, hb, hml, hown, htb⟩ (c_Md_fare l dC dI a2 k2 (xs 1) (xs 2) (xs 3) (xs 4) (xs 5)) (cwV 5 htb (gd_V tw_547 tw_548 tw_549 tw_296 tw_550) rfl rfl rfl (by decide +kernel) ⟨Nat.le_of_ble_eq_true rfl, Nat.le_of_ble_eq_true rfl⟩) ⟨pr_blind, va_recv hKm hPc (ci := 7) (q0 := 0) rfl rfl, pr_pre hPc hKm hN⟩ rfl rfl hl.1 rfl (lv_room (Nat.le_of_ble_eq_true rfl)) d_law_865 ⟨by decide +kernel, by decide +kernel⟩)) (fun r er => ?_)
  subst er
  refine lv_icmp_eq (tgt := 1259) hx hb d_law_868 (by decide) (fun _ => ?_) (fun h => absurd (eq_fare (xs 1) (xs 2) (xs 3) (xs 4) (xs 5)) h)
  exact law_end l C0 hS hl (by decide +kernel) (by decide +kernel)
set_option maxHeartbeats 4000000 in
set_option maxRecDepth 100000 in
theorem law_case_21 {p : Program} {e : Env} {s : State} {m : MethodId} {below : List Frame} {meth : Method} {c : Code} (l : Launch) {b : Nat} {xs : Nat → Int32} (C0 : lw_At p s m meth c b 6 xs) {dC : Nat → ClassId} {dI : Nat → Nat → Nat} {a a2 : Nat → Nat} {k k2 : Nat → ClassId} {L : List Nat} (hL : L.length = 40) (hKx : va_K (dC, dI) vwCl (XT k) s) (hKm : va_K (dC, dI) vwCl (MT k2) s) (hN : NW s) {H : Heap} {locs : List Loc} (hP : va_P (dC, dI) vwCl (MW a2 k2 ++ XW a k L) H) (hD : va_D (fun q : Nat => s.heap.size ≤ q) (MW a2 k2 ++ XW a k L)) (hS : va_S (fun q : Nat => s.heap.size ≤ q) s.heap H locs) {ls : Array Slot} (hl : lv_has ls 4 [(3, .int 0), (2, .ref (a2 0)), (1, .ref (a 0)), (0, .ref b)]) : W p l e room_1 s m #[Value.ref b] below meth c H locs 107 19066 (lw_Z below #[Value.ref b] s) (F0 m 873 ls []) := by
  obtain ⟨hx, hb, hr, hml, hown, hts, hX, hbl, hlocks, hgv⟩ := id C0
  have hA : ∀ q : Nat, s.heap.size ≤ q → (fun q : Nat => s.heap.size ≤ q) q := fun _ h => h
  have hbA : ¬ (fun q : Nat => s.heap.size ≤ q) b := Nat.not_le.mpr hbl
  have htb := fun w (h : w ∈ TB) => hts w (List.mem_filter.mp h).1
  refine lv_aload_n hx hb d_law_873 rfl (lv_at hl 2 rfl) ?_
  refine lv_aload_n hx hb d_law_874 rfl (lv_at hl 3 rfl) ?_
  refine lv_iload_n hx hb d_law_875 rfl (lv_at hl 0 rfl) ?_
  refine lv_iconst (v := 1) hx hb d_law_876 (by decide +kernel) ?_
  refine lv_iadd hx hb d_law_877 ?_
  refine hb_ti 1 (by decide +kernel) ?_
  refine va_sld hx hb hX hbl hbA hS (i := 1) (by unfold vp_in; decide +kernel) d_law_878 ?_
  refine hb_ti (xs 1) rfl ?_
  refine lv_aload_n hx hb d_law_879 rfl (lv_at hl 3 rfl) ?_
  refine lv_iload_n hx hb d_law_880 rfl (lv_at hl 0 rfl) ?_
  refine lv_iconst (v := 2) hx hb d_law_881 (by decide +kernel) ?_
  refine lv_iadd hx hb d_law_882 ?_
  refine hb_ti 2 (by decide +kernel) ?_
  refine va_sld hx hb hX hbl hbA hS (i := 2) (by unfold vp_in; decide +kernel) d_law_883 ?_
  refine hb_ti (xs 2) rfl ?_
  refine lv_aload_n hx hb d_law_884 rfl (lv_at hl 3 rfl) ?_
  refine lv_iload_n hx hb d_law_885 rfl (lv_at hl 0 rfl) ?_
  refine lv_iconst (v := 3) hx hb d_law_886 (by decide +kernel) ?_
  refine lv_iadd hx hb d_law_887 ?_
  refine hb_ti 3 (by decide +kernel) ?_
  refine va_sld hx hb hX hbl hbA hS (i := 3) (by unfold vp_in; decide +kernel) d_law_888 ?_
  refine hb_ti (xs 3) rfl ?_
  have hPc := (hb_right hP)
  refine vp_callSi (va_Run.run (va_runV (As := [.int (xs 1), .int (xs 2), .int (xs 3)]) (rest := []) ⟨hx, hb, hml, hown, htb⟩ (c_WM_why l dC dI a k L hL (xs 1) (xs 2) (xs 3)) (cwV 3 htb (gd_V tw_551 tw_552 tw_553 tw_124 tw_554) rfl rfl rfl (by decide +kernel) ⟨Nat.le_of_ble_eq_true rfl, Nat.le_of_ble_eq_true rfl⟩) ⟨pr_blind, va_recv hKx hPc (ci := 0) (q0 := 0) rfl rfl, pr_pre hPc hKx hN⟩ rfl rfl hl.1 rfl (lv_room (Nat.le_of_ble_eq_true rfl)) d_law_889 ⟨by decide +kernel, by decide +kernel⟩)) (fun r er => ?_)
  subst er
  refine lv_aload_n hx hb d_law_892 rfl (lv_at hl 1 rfl) ?_
  refine lv_aload_n hx hb d_law_893 rfl (lv_at hl 3 rfl) ?_
  refine lv_iload_n hx hb d_law_894 rfl (lv_at hl 0 rfl) ?_
  refine lv_iconst (v := 1) hx hb d_law_895 (by decide +kernel) ?_
  refine lv_iadd hx hb d_law_896 ?_
  refine hb_ti 1 (by decide +kernel) ?_
  refine va_sld hx hb hX hbl hbA hS (i := 1) (by unfold vp_in; decide +kernel) d_law_897 ?_
  refine hb_ti (xs 1) rfl ?_
  refine lv_aload_n hx hb d_law_898 rfl (lv_at hl 3 rfl) ?_
  refine lv_iload_n hx hb d_law_899 rfl (lv_at hl 0 rfl) ?_
  refine lv_iconst (v := 2) hx hb d_law_900 (by decide +kernel) ?_
  refine lv_iadd hx hb d_law_901 ?_
  refine hb_ti 2 (by decide +kernel) ?_
  refine va_sld hx hb hX hbl hbA hS (i := 2) (by unfold vp_in; decide +kernel) d_law_902 ?_
  refine hb_ti (xs 2) rfl ?_
  refine lv_aload_n hx hb d_law_903 rfl (lv_at hl 3 rfl) ?_
  refine lv_iload_n hx hb d_law_904 rfl (lv_at hl 0 rfl) ?_
  refine lv_iconst (v := 3) hx hb d_law_905 (by decide +kernel) ?_
  refine lv_iadd hx hb d_law_906 ?_
  refine hb_ti 3 (by decide +kernel) ?_
  refine va_sld hx hb hX hbl hbA hS (i := 3) (by unfold vp_in; decide +kernel) d_law_907 ?_
  refine hb_ti (xs 3) rfl ?_
  have hPc := (hb_left hP)
  refine vp_callSi (va_Run.run (va_runV (As := [.int (xs 1), .int (xs 2), .int (xs 3)]) (rest := [.int (f_WM_why (xs 1) (xs 2) (xs 3))]) ⟨hx, hb, hml, hown, htb⟩ (c_Md_why l dC dI a2 k2 (xs 1) (xs 2) (xs 3)) (cwV 3 htb (gd_V tw_555 tw_556 tw_557 tw_296 tw_558) rfl rfl rfl (by decide +kernel) ⟨Nat.le_of_ble_eq_true rfl, Nat.le_of_ble_eq_true rfl⟩) ⟨pr_blind, va_recv hKm hPc (ci := 7) (q0 := 0) rfl rfl, pr_pre hPc hKm hN⟩ rfl rfl hl.1 rfl (lv_room (Nat.le_of_ble_eq_true rfl)) d_law_908 ⟨by decide +kernel, by decide +kernel⟩)) (fun r er => ?_)
  subst er
  refine lv_icmp_eq (tgt := 1259) hx hb d_law_911 (by decide) (fun _ => ?_) (fun h => absurd (eq_why (xs 1) (xs 2) (xs 3)) h)
  exact law_end l C0 hS hl (by decide +kernel) (by decide +kernel)
set_option maxHeartbeats 4000000 in
set_option maxRecDepth 100000 in
theorem law_case_22 {p : Program} {e : Env} {s : State} {m : MethodId} {below : List Frame} {meth : Method} {c : Code} (l : Launch) {b : Nat} {xs : Nat → Int32} (C0 : lw_At p s m meth c b 6 xs) {dC : Nat → ClassId} {dI : Nat → Nat → Nat} {a a2 : Nat → Nat} {k k2 : Nat → ClassId} {L : List Nat} (hL : L.length = 40) (hKx : va_K (dC, dI) vwCl (XT k) s) (hKm : va_K (dC, dI) vwCl (MT k2) s) (hN : NW s) {H : Heap} {locs : List Loc} (hP : va_P (dC, dI) vwCl (MW a2 k2 ++ XW a k L) H) (hD : va_D (fun q : Nat => s.heap.size ≤ q) (MW a2 k2 ++ XW a k L)) (hS : va_S (fun q : Nat => s.heap.size ≤ q) s.heap H locs) {ls : Array Slot} (hl : lv_has ls 4 [(3, .int 0), (2, .ref (a2 0)), (1, .ref (a 0)), (0, .ref b)]) : W p l e room_1 s m #[Value.ref b] below meth c H locs 107 19066 (lw_Z below #[Value.ref b] s) (F0 m 916 ls []) := by
  obtain ⟨hx, hb, hr, hml, hown, hts, hX, hbl, hlocks, hgv⟩ := id C0
  have hA : ∀ q : Nat, s.heap.size ≤ q → (fun q : Nat => s.heap.size ≤ q) q := fun _ h => h
  have hbA : ¬ (fun q : Nat => s.heap.size ≤ q) b := Nat.not_le.mpr hbl
  have htb := fun w (h : w ∈ TB) => hts w (List.mem_filter.mp h).1
  refine lv_aload_n hx hb d_law_916 rfl (lv_at hl 2 rfl) ?_
  refine lv_aload_n hx hb d_law_917 rfl (lv_at hl 3 rfl) ?_
  refine lv_iload_n hx hb d_law_918 rfl (lv_at hl 0 rfl) ?_
  refine lv_iconst (v := 1) hx hb d_law_919 (by decide +kernel) ?_
  refine lv_iadd hx hb d_law_920 ?_
  refine hb_ti 1 (by decide +kernel) ?_
  refine va_sld hx hb hX hbl hbA hS (i := 1) (by unfold vp_in; decide +kernel) d_law_921 ?_
  refine hb_ti (xs 1) rfl ?_
  refine lv_aload_n hx hb d_law_922 rfl (lv_at hl 3 rfl) ?_
  refine lv_iload_n hx hb d_law_923 rfl (lv_at hl 0 rfl) ?_
  refine lv_iconst (v := 2) hx hb d_law_924 (by decide +kernel) ?_
  refine lv_iadd hx hb d_law_925 ?_
  refine hb_ti 2 (by decide +kernel) ?_
  refine va_sld hx hb hX hbl hbA hS (i := 2) (by unfold vp_in; decide +kernel) d_law_926 ?_
  refine hb_ti (xs 2) rfl ?_
  refine lv_aload_n hx hb d_law_927 rfl (lv_at hl 3 rfl) ?_
  refine lv_iload_n hx hb d_law_928 rfl (lv_at hl 0 rfl) ?_
  refine lv_iconst (v := 3) hx hb d_law_929 (by decide +kernel) ?_
  refine lv_iadd hx hb d_law_930 ?_
  refine hb_ti 3 (by decide +kernel) ?_
  refine va_sld hx hb hX hbl hbA hS (i := 3) (by unfold vp_in; decide +kernel) d_law_931 ?_
  refine hb_ti (xs 3) rfl ?_
  refine lv_aload_n hx hb d_law_932 rfl (lv_at hl 3 rfl) ?_
  refine lv_iload_n hx hb d_law_933 rfl (lv_at hl 0 rfl) ?_
  refine lv_iconst (v := 4) hx hb d_law_934 (by decide +kernel) ?_
  refine lv_iadd hx hb d_law_935 ?_
  refine hb_ti 4 (by decide +kernel) ?_
  refine va_sld hx hb hX hbl hbA hS (i := 4) (by unfold vp_in; decide +kernel) d_law_936 ?_
  refine hb_ti (xs 4) rfl ?_
  have hPc := (hb_right hP)
  refine vp_callSi (va_Run.run (va_runV (As := [.int (xs 1), .int (xs 2), .int (xs 3), .int (xs 4)]) (rest := []) ⟨hx, hb, hml, hown, htb⟩ (c_WM_row l dC dI a k L hL (xs 1) (xs 2) (xs 3) (xs 4)) (cwV 4 htb (gd_V tw_559 tw_560 tw_561 tw_124 tw_562) rfl rfl rfl (by decide +kernel) ⟨Nat.le_of_ble_eq_true rfl, Nat.le_of_ble_eq_true rfl⟩) ⟨pr_blind, va_recv hKx hPc (ci := 0) (q0 := 0) rfl rfl, pr_pre hPc hKx hN⟩ rfl rfl hl.1 rfl (lv_room (Nat.le_of_ble_eq_true rfl)) d_law_937 ⟨by decide +kernel, by decide +kernel⟩)) (fun r er => ?_)
  subst er
  refine lv_aload_n hx hb d_law_940 rfl (lv_at hl 1 rfl) ?_
  refine lv_aload_n hx hb d_law_941 rfl (lv_at hl 3 rfl) ?_
  refine lv_iload_n hx hb d_law_942 rfl (lv_at hl 0 rfl) ?_
  refine lv_iconst (v := 1) hx hb d_law_943 (by decide +kernel) ?_
  refine lv_iadd hx hb d_law_944 ?_
  refine hb_ti 1 (by decide +kernel) ?_
  refine va_sld hx hb hX hbl hbA hS (i := 1) (by unfold vp_in; decide +kernel) d_law_945 ?_
  refine hb_ti (xs 1) rfl ?_
  refine lv_aload_n hx hb d_law_946 rfl (lv_at hl 3 rfl) ?_
  refine lv_iload_n hx hb d_law_947 rfl (lv_at hl 0 rfl) ?_
  refine lv_iconst (v := 2) hx hb d_law_948 (by decide +kernel) ?_
  refine lv_iadd hx hb d_law_949 ?_
  refine hb_ti 2 (by decide +kernel) ?_
  refine va_sld hx hb hX hbl hbA hS (i := 2) (by unfold vp_in; decide +kernel) d_law_950 ?_
  refine hb_ti (xs 2) rfl ?_
  refine lv_aload_n hx hb d_law_951 rfl (lv_at hl 3 rfl) ?_
  refine lv_iload_n hx hb d_law_952 rfl (lv_at hl 0 rfl) ?_
  refine lv_iconst (v := 3) hx hb d_law_953 (by decide +kernel) ?_
  refine lv_iadd hx hb d_law_954 ?_
  refine hb_ti 3 (by decide +kernel) ?_
  refine va_sld hx hb hX hbl hbA hS (i := 3) (by unfold vp_in; decide +kernel) d_law_955 ?_
  refine hb_ti (xs 3) rfl ?_
  refine lv_aload_n hx hb d_law_956 rfl (lv_at hl 3 rfl) ?_
  refine lv_iload_n hx hb d_law_957 rfl (lv_at hl 0 rfl) ?_
  refine lv_iconst (v := 4) hx hb d_law_958 (by decide +kernel) ?_
  refine lv_iadd hx hb d_law_959 ?_
  refine hb_ti 4 (by decide +kernel) ?_
  refine va_sld hx hb hX hbl hbA hS (i := 4) (by unfold vp_in; decide +kernel) d_law_960 ?_
  refine hb_ti (xs 4) rfl ?_
  have hPc := (hb_left hP)
  refine vp_callSi (va_Run.run (va_runV (As := [.int (xs 1), .int (xs 2), .int (xs 3), .int (xs 4)]) (rest := [.int (f_WM_row (xs 1) (xs 2) (xs 3) (xs 4))]) ⟨hx, hb, hml, hown, htb⟩ (c_Md_row l dC dI a2 k2 (xs 1) (xs 2) (xs 3) (xs 4)) (cwV 4 htb (gd_V tw_563 tw_564 tw_565 tw_296 tw_566) rfl rfl rfl (by decide +kernel) ⟨Nat.le_of_ble_eq_true rfl, Nat.le_of_ble_eq_true rfl⟩) ⟨pr_blind, va_recv hKm hPc (ci := 7) (q0 := 0) rfl rfl, pr_pre hPc hKm hN⟩ rfl rfl hl.1 rfl (lv_room (Nat.le_of_ble_eq_true rfl)) d_law_961 ⟨by decide +kernel, by decide +kernel⟩)) (fun r er => ?_)
  subst er
  refine lv_icmp_eq (tgt := 1259) hx hb d_law_964 (by decide) (fun _ => ?_) (fun h => absurd (eq_row (xs 1) (xs 2) (xs 3) (xs 4)) h)
  exact law_end l C0 hS hl (by decide +kernel) (by decide +kernel)
set_option maxHeartbeats 4000000 in
set_option maxRecDepth 100000 in
theorem law_case_23 {p : Program} {e : Env} {s : State} {m : MethodId} {below : List Frame} {meth : Method} {c : Code} (l : Launch) {b : Nat} {xs : Nat → Int32} (C0 : lw_At p s m meth c b 6 xs) {dC : Nat → ClassId} {dI : Nat → Nat → Nat} {a a2 : Nat → Nat} {k k2 : Nat → ClassId} {L : List Nat} (hL : L.length = 40) (hKx : va_K (dC, dI) vwCl (XT k) s) (hKm : va_K (dC, dI) vwCl (MT k2) s) (hN : NW s) {H : Heap} {locs : List Loc} (hP : va_P (dC, dI) vwCl (MW a2 k2 ++ XW a k L) H) (hD : va_D (fun q : Nat => s.heap.size ≤ q) (MW a2 k2 ++ XW a k L)) (hS : va_S (fun q : Nat => s.heap.size ≤ q) s.heap H locs) {ls : Array Slot} (hl : lv_has ls 4 [(3, .int 0), (2, .ref (a2 0)), (1, .ref (a 0)), (0, .ref b)]) : W p l e room_1 s m #[Value.ref b] below meth c H locs 107 19066 (lw_Z below #[Value.ref b] s) (F0 m 969 ls []) := by
  obtain ⟨hx, hb, hr, hml, hown, hts, hX, hbl, hlocks, hgv⟩ := id C0
  have hA : ∀ q : Nat, s.heap.size ≤ q → (fun q : Nat => s.heap.size ≤ q) q := fun _ h => h
  have hbA : ¬ (fun q : Nat => s.heap.size ≤ q) b := Nat.not_le.mpr hbl
  have htb := fun w (h : w ∈ TB) => hts w (List.mem_filter.mp h).1
  refine lv_aload_n hx hb d_law_969 rfl (lv_at hl 2 rfl) ?_
  refine lv_aload_n hx hb d_law_970 rfl (lv_at hl 3 rfl) ?_
  refine lv_iload_n hx hb d_law_971 rfl (lv_at hl 0 rfl) ?_
  refine lv_iconst (v := 1) hx hb d_law_972 (by decide +kernel) ?_
  refine lv_iadd hx hb d_law_973 ?_
  refine hb_ti 1 (by decide +kernel) ?_
  refine va_sld hx hb hX hbl hbA hS (i := 1) (by unfold vp_in; decide +kernel) d_law_974 ?_
  refine hb_ti (xs 1) rfl ?_
  have hPc := (hb_right hP)
  have hDc := (hb_rightD hD)
  have hFc := hb_free hDc hS hA
  refine va_calli (va_runV (As := [.int (xs 1)]) (rest := []) ⟨hx, hb, hml, hown, htb⟩ (c_WM_minutes l dC dI a k L hL _ (xs 1)) (cwV 1 htb (gd_V tw_567 tw_568 tw_569 tw_124 tw_570) rfl rfl rfl (by decide +kernel) ⟨Nat.le_of_ble_eq_true rfl, Nat.le_of_ble_eq_true rfl⟩) ⟨pc_blind, va_recv hKx hPc (ci := 0) (q0 := 0) rfl rfl, pc_pre hPc hKx hDc hN⟩ rfl rfl hl.1 rfl (lv_room (Nat.le_of_ble_eq_true rfl)) d_law_975 ⟨by decide +kernel, by decide +kernel⟩) hS (fun q _ h => hFc q h) hFc (fun r u t H1 locs1 ht hvm er hB hz1 hk1 hS1 => ?_)
  subst er
  have hPm := hb_keep hP hD hk1
  have hS := hS1
  refine lv_aload_n hx hb d_law_978 rfl (lv_at hl 1 rfl) ?_
  refine lv_aload_n hx hb d_law_979 rfl (lv_at hl 3 rfl) ?_
  refine lv_iload_n hx hb d_law_980 rfl (lv_at hl 0 rfl) ?_
  refine lv_iconst (v := 1) hx hb d_law_981 (by decide +kernel) ?_
  refine lv_iadd hx hb d_law_982 ?_
  refine hb_ti 1 (by decide +kernel) ?_
  refine va_sld hx hb hX hbl hbA hS (i := 1) (by unfold vp_in; decide +kernel) d_law_983 ?_
  refine hb_ti (xs 1) rfl ?_
  have hPc := hPm
  have hDc := (hb_leftD hD)
  have hFc := hb_free hDc hS hA
  refine va_calli (va_runV (As := [.int (xs 1)]) (rest := [.int (f_WM_minutes (xs 1))]) ⟨hx, hb, hml, hown, htb⟩ (c_Md_minutes l dC dI a2 k2 _ (xs 1)) (cwV 1 htb (gd_V tw_571 tw_572 tw_573 tw_296 tw_574) rfl rfl rfl (by decide +kernel) ⟨Nat.le_of_ble_eq_true rfl, Nat.le_of_ble_eq_true rfl⟩) ⟨pc_blind, va_recv hKm hPc (ci := 7) (q0 := 0) rfl rfl, pc_pre hPc hKm hDc hN⟩ rfl rfl hl.1 rfl (lv_room (Nat.le_of_ble_eq_true rfl)) d_law_984 ⟨by decide +kernel, by decide +kernel⟩) hS (fun q _ h => hFc q h) hFc (fun r u t H1 locs1 ht hvm er hB hz1 hk1 hS1 => ?_)
  subst er
  have hS := hS1
  refine lv_icmp_eq (tgt := 1259) hx hb d_law_987 (by decide) (fun _ => ?_) (fun h => absurd (eq_minutes (xs 1)) h)
  exact law_end l C0 hS hl (by decide +kernel) (by decide +kernel)
set_option maxHeartbeats 4000000 in
set_option maxRecDepth 100000 in
theorem law_case_24 {p : Program} {e : Env} {s : State} {m : MethodId} {below : List Frame} {meth : Method} {c : Code} (l : Launch) {b : Nat} {xs : Nat → Int32} (C0 : lw_At p s m meth c b 6 xs) {dC : Nat → ClassId} {dI : Nat → Nat → Nat} {a a2 : Nat → Nat} {k k2 : Nat → ClassId} {L : List Nat} (hL : L.length = 40) (hKx : va_K (dC, dI) vwCl (XT k) s) (hKm : va_K (dC, dI) vwCl (MT k2) s) (hN : NW s) {H : Heap} {locs : List Loc} (hP : va_P (dC, dI) vwCl (MW a2 k2 ++ XW a k L) H) (hD : va_D (fun q : Nat => s.heap.size ≤ q) (MW a2 k2 ++ XW a k L)) (hS : va_S (fun q : Nat => s.heap.size ≤ q) s.heap H locs) {ls : Array Slot} (hl : lv_has ls 4 [(3, .int 0), (2, .ref (a2 0)), (1, .ref (a 0)), (0, .ref b)]) : W p l e room_1 s m #[Value.ref b] below meth c H locs 107 19066 (lw_Z below #[Value.ref b] s) (F0 m 992 ls []) := by
  obtain ⟨hx, hb, hr, hml, hown, hts, hX, hbl, hlocks, hgv⟩ := id C0
  have hA : ∀ q : Nat, s.heap.size ≤ q → (fun q : Nat => s.heap.size ≤ q) q := fun _ h => h
  have hbA : ¬ (fun q : Nat => s.heap.size ≤ q) b := Nat.not_le.mpr hbl
  have htb := fun w (h : w ∈ TB) => hts w (List.mem_filter.mp h).1
  refine lv_aload_n hx hb d_law_992 rfl (lv_at hl 2 rfl) ?_
  refine lv_aload_n hx hb d_law_993 rfl (lv_at hl 3 rfl) ?_
  refine lv_iload_n hx hb d_law_994 rfl (lv_at hl 0 rfl) ?_
  refine lv_iconst (v := 1) hx hb d_law_995 (by decide +kernel) ?_
  refine lv_iadd hx hb d_law_996 ?_
  refine hb_ti 1 (by decide +kernel) ?_
  refine va_sld hx hb hX hbl hbA hS (i := 1) (by unfold vp_in; decide +kernel) d_law_997 ?_
  refine hb_ti (xs 1) rfl ?_
  refine lv_aload_n hx hb d_law_998 rfl (lv_at hl 3 rfl) ?_
  refine lv_iload_n hx hb d_law_999 rfl (lv_at hl 0 rfl) ?_
  refine lv_iconst (v := 2) hx hb d_law_1000 (by decide +kernel) ?_
  refine lv_iadd hx hb d_law_1001 ?_
  refine hb_ti 2 (by decide +kernel) ?_
  refine va_sld hx hb hX hbl hbA hS (i := 2) (by unfold vp_in; decide +kernel) d_law_1002 ?_
  refine hb_ti (xs 2) rfl ?_
  refine lv_aload_n hx hb d_law_1003 rfl (lv_at hl 3 rfl) ?_
  refine lv_iload_n hx hb d_law_1004 rfl (lv_at hl 0 rfl) ?_
  refine lv_iconst (v := 3) hx hb d_law_1005 (by decide +kernel) ?_
  refine lv_iadd hx hb d_law_1006 ?_
  refine hb_ti 3 (by decide +kernel) ?_
  refine va_sld hx hb hX hbl hbA hS (i := 3) (by unfold vp_in; decide +kernel) d_law_1007 ?_
  refine hb_ti (xs 3) rfl ?_
  have hPc := (hb_right hP)
  refine vp_callSi (va_Run.run (va_runV (As := [.int (xs 1), .int (xs 2), .int (xs 3)]) (rest := []) ⟨hx, hb, hml, hown, htb⟩ (c_WM_sink l dC dI a k L hL (xs 1) (xs 2) (xs 3)) (cwV 3 htb (gd_V tw_575 tw_576 tw_577 tw_124 tw_578) rfl rfl rfl (by decide +kernel) ⟨Nat.le_of_ble_eq_true rfl, Nat.le_of_ble_eq_true rfl⟩) ⟨pr_blind, va_recv hKx hPc (ci := 0) (q0 := 0) rfl rfl, pr_pre hPc hKx hN⟩ rfl rfl hl.1 rfl (lv_room (Nat.le_of_ble_eq_true rfl)) d_law_1008 ⟨by decide +kernel, by decide +kernel⟩)) (fun r er => ?_)
  subst er
  refine lv_aload_n hx hb d_law_1011 rfl (lv_at hl 1 rfl) ?_
  refine lv_aload_n hx hb d_law_1012 rfl (lv_at hl 3 rfl) ?_
  refine lv_iload_n hx hb d_law_1013 rfl (lv_at hl 0 rfl) ?_
  refine lv_iconst (v := 1) hx hb d_law_1014 (by decide +kernel) ?_
  refine lv_iadd hx hb d_law_1015 ?_
  refine hb_ti 1 (by decide +kernel) ?_
  refine va_sld hx hb hX hbl hbA hS (i := 1) (by unfold vp_in; decide +kernel) d_law_1016 ?_
  refine hb_ti (xs 1) rfl ?_
  refine lv_aload_n hx hb d_law_1017 rfl (lv_at hl 3 rfl) ?_
  refine lv_iload_n hx hb d_law_1018 rfl (lv_at hl 0 rfl) ?_
  refine lv_iconst (v := 2) hx hb d_law_1019 (by decide +kernel) ?_
  refine lv_iadd hx hb d_law_1020 ?_
  refine hb_ti 2 (by decide +kernel) ?_
  refine va_sld hx hb hX hbl hbA hS (i := 2) (by unfold vp_in; decide +kernel) d_law_1021 ?_
  refine hb_ti (xs 2) rfl ?_
  refine lv_aload_n hx hb d_law_1022 rfl (lv_at hl 3 rfl) ?_
  refine lv_iload_n hx hb d_law_1023 rfl (lv_at hl 0 rfl) ?_
  refine lv_iconst (v := 3) hx hb d_law_1024 (by decide +kernel) ?_
  refine lv_iadd hx hb d_law_1025 ?_
  refine hb_ti 3 (by decide +kernel) ?_
  refine va_sld hx hb hX hbl hbA hS (i := 3) (by unfold vp_in; decide +kernel) d_law_1026 ?_
  refine hb_ti (xs 3) rfl ?_
  have hPc := (hb_left hP)
  refine vp_callSi (va_Run.run (va_runV (As := [.int (xs 1), .int (xs 2), .int (xs 3)]) (rest := [.int (f_WM_sink (xs 1) (xs 2) (xs 3))]) ⟨hx, hb, hml, hown, htb⟩ (c_Md_sink l dC dI a2 k2 (xs 1) (xs 2) (xs 3)) (cwV 3 htb (gd_V tw_579 tw_580 tw_581 tw_296 tw_582) rfl rfl rfl (by decide +kernel) ⟨Nat.le_of_ble_eq_true rfl, Nat.le_of_ble_eq_true rfl⟩) ⟨pr_blind, va_recv hKm hPc (ci := 7) (q0 := 0) rfl rfl, pr_pre hPc hKm hN⟩ rfl rfl hl.1 rfl (lv_room (Nat.le_of_ble_eq_true rfl)) d_law_1027 ⟨by decide +kernel, by decide +kernel⟩)) (fun r er => ?_)
  subst er
  refine lv_icmp_eq (tgt := 1259) hx hb d_law_1030 (by decide) (fun _ => ?_) (fun h => absurd (eq_sink (xs 1) (xs 2) (xs 3)) h)
  exact law_end l C0 hS hl (by decide +kernel) (by decide +kernel)
set_option maxHeartbeats 4000000 in
set_option maxRecDepth 100000 in
theorem law_case_25 {p : Program} {e : Env} {s : State} {m : MethodId} {below : List Frame} {meth : Method} {c : Code} (l : Launch) {b : Nat} {xs : Nat → Int32} (C0 : lw_At p s m meth c b 6 xs) {dC : Nat → ClassId} {dI : Nat → Nat → Nat} {a a2 : Nat → Nat} {k k2 : Nat → ClassId} {L : List Nat} (hL : L.length = 40) (hKx : va_K (dC, dI) vwCl (XT k) s) (hKm : va_K (dC, dI) vwCl (MT k2) s) (hN : NW s) {H : Heap} {locs : List Loc} (hP : va_P (dC, dI) vwCl (MW a2 k2 ++ XW a k L) H) (hD : va_D (fun q : Nat => s.heap.size ≤ q) (MW a2 k2 ++ XW a k L)) (hS : va_S (fun q : Nat => s.heap.size ≤ q) s.heap H locs) {ls : Array Slot} (hl : lv_has ls 4 [(3, .int 0), (2, .ref (a2 0)), (1, .ref (a 0)), (0, .ref b)]) : W p l e room_1 s m #[Value.ref b] below meth c H locs 107 19066 (lw_Z below #[Value.ref b] s) (F0 m 1035 ls []) := by
  obtain ⟨hx, hb, hr, hml, hown, hts, hX, hbl, hlocks, hgv⟩ := id C0
  have hA : ∀ q : Nat, s.heap.size ≤ q → (fun q : Nat => s.heap.size ≤ q) q := fun _ h => h
  have hbA : ¬ (fun q : Nat => s.heap.size ≤ q) b := Nat.not_le.mpr hbl
  have htb := fun w (h : w ∈ TB) => hts w (List.mem_filter.mp h).1
  refine lv_aload_n hx hb d_law_1035 rfl (lv_at hl 2 rfl) ?_
  refine lv_aload_n hx hb d_law_1036 rfl (lv_at hl 3 rfl) ?_
  refine lv_iload_n hx hb d_law_1037 rfl (lv_at hl 0 rfl) ?_
  refine lv_iconst (v := 1) hx hb d_law_1038 (by decide +kernel) ?_
  refine lv_iadd hx hb d_law_1039 ?_
  refine hb_ti 1 (by decide +kernel) ?_
  refine va_sld hx hb hX hbl hbA hS (i := 1) (by unfold vp_in; decide +kernel) d_law_1040 ?_
  refine hb_ti (xs 1) rfl ?_
  refine lv_aload_n hx hb d_law_1041 rfl (lv_at hl 3 rfl) ?_
  refine lv_iload_n hx hb d_law_1042 rfl (lv_at hl 0 rfl) ?_
  refine lv_iconst (v := 2) hx hb d_law_1043 (by decide +kernel) ?_
  refine lv_iadd hx hb d_law_1044 ?_
  refine hb_ti 2 (by decide +kernel) ?_
  refine va_sld hx hb hX hbl hbA hS (i := 2) (by unfold vp_in; decide +kernel) d_law_1045 ?_
  refine hb_ti (xs 2) rfl ?_
  have hPc := (hb_right hP)
  refine vp_callSi (va_Run.run (va_runV (As := [.int (xs 1), .int (xs 2)]) (rest := []) ⟨hx, hb, hml, hown, htb⟩ (c_WM_trip l dC dI a k L hL (xs 1) (xs 2)) (cwV 2 htb (gd_V tw_583 tw_584 tw_585 tw_124 tw_586) rfl rfl rfl (by decide +kernel) ⟨Nat.le_of_ble_eq_true rfl, Nat.le_of_ble_eq_true rfl⟩) ⟨pr_blind, va_recv hKx hPc (ci := 0) (q0 := 0) rfl rfl, pr_pre hPc hKx hN⟩ rfl rfl hl.1 rfl (lv_room (Nat.le_of_ble_eq_true rfl)) d_law_1046 ⟨by decide +kernel, by decide +kernel⟩)) (fun r er => ?_)
  subst er
  refine lv_aload_n hx hb d_law_1049 rfl (lv_at hl 1 rfl) ?_
  refine lv_aload_n hx hb d_law_1050 rfl (lv_at hl 3 rfl) ?_
  refine lv_iload_n hx hb d_law_1051 rfl (lv_at hl 0 rfl) ?_
  refine lv_iconst (v := 1) hx hb d_law_1052 (by decide +kernel) ?_
  refine lv_iadd hx hb d_law_1053 ?_
  refine hb_ti 1 (by decide +kernel) ?_
  refine va_sld hx hb hX hbl hbA hS (i := 1) (by unfold vp_in; decide +kernel) d_law_1054 ?_
  refine hb_ti (xs 1) rfl ?_
  refine lv_aload_n hx hb d_law_1055 rfl (lv_at hl 3 rfl) ?_
  refine lv_iload_n hx hb d_law_1056 rfl (lv_at hl 0 rfl) ?_
  refine lv_iconst (v := 2) hx hb d_law_1057 (by decide +kernel) ?_
  refine lv_iadd hx hb d_law_1058 ?_
  refine hb_ti 2 (by decide +kernel) ?_
  refine va_sld hx hb hX hbl hbA hS (i := 2) (by unfold vp_in; decide +kernel) d_law_1059 ?_
  refine hb_ti (xs 2) rfl ?_
  have hPc := (hb_left hP)
  refine vp_callSi (va_Run.run (va_runV (As := [.int (xs 1), .int (xs 2)]) (rest := [.int (f_WM_trip (xs 1) (xs 2))]) ⟨hx, hb, hml, hown, htb⟩ (c_Md_trip l dC dI a2 k2 (xs 1) (xs 2)) (cwV 2 htb (gd_V tw_587 tw_588 tw_589 tw_296 tw_590) rfl rfl rfl (by decide +kernel) ⟨Nat.le_of_ble_eq_true rfl, Nat.le_of_ble_eq_true rfl⟩) ⟨pr_blind, va_recv hKm hPc (ci := 7) (q0 := 0) rfl rfl, pr_pre hPc hKm hN⟩ rfl rfl hl.1 rfl (lv_room (Nat.le_of_ble_eq_true rfl)) d_law_1060 ⟨by decide +kernel, by decide +kernel⟩)) (fun r er => ?_)
  subst er
  refine lv_icmp_eq (tgt := 1259) hx hb d_law_1063 (by decide) (fun _ => ?_) (fun h => absurd (eq_trip (xs 1) (xs 2)) h)
  exact law_end l C0 hS hl (by decide +kernel) (by decide +kernel)
set_option maxHeartbeats 4000000 in
set_option maxRecDepth 100000 in
theorem law_case_26 {p : Program} {e : Env} {s : State} {m : MethodId} {below : List Frame} {meth : Method} {c : Code} (l : Launch) {b : Nat} {xs : Nat → Int32} (C0 : lw_At p s m meth c b 6 xs) {dC : Nat → ClassId} {dI : Nat → Nat → Nat} {a a2 : Nat → Nat} {k k2 : Nat → ClassId} {L : List Nat} (hL : L.length = 40) (hKx : va_K (dC, dI) vwCl (XT k) s) (hKm : va_K (dC, dI) vwCl (MT k2) s) (hN : NW s) {H : Heap} {locs : List Loc} (hP : va_P (dC, dI) vwCl (MW a2 k2 ++ XW a k L) H) (hD : va_D (fun q : Nat => s.heap.size ≤ q) (MW a2 k2 ++ XW a k L)) (hS : va_S (fun q : Nat => s.heap.size ≤ q) s.heap H locs) {ls : Array Slot} (hl : lv_has ls 4 [(3, .int 0), (2, .ref (a2 0)), (1, .ref (a 0)), (0, .ref b)]) : W p l e room_1 s m #[Value.ref b] below meth c H locs 107 19066 (lw_Z below #[Value.ref b] s) (F0 m 1068 ls []) := by
  obtain ⟨hx, hb, hr, hml, hown, hts, hX, hbl, hlocks, hgv⟩ := id C0
  have hA : ∀ q : Nat, s.heap.size ≤ q → (fun q : Nat => s.heap.size ≤ q) q := fun _ h => h
  have hbA : ¬ (fun q : Nat => s.heap.size ≤ q) b := Nat.not_le.mpr hbl
  have htb := fun w (h : w ∈ TB) => hts w (List.mem_filter.mp h).1
  refine lv_aload_n hx hb d_law_1068 rfl (lv_at hl 2 rfl) ?_
  refine lv_aload_n hx hb d_law_1069 rfl (lv_at hl 3 rfl) ?_
  refine lv_iload_n hx hb d_law_1070 rfl (lv_at hl 0 rfl) ?_
  refine lv_iconst (v := 1) hx hb d_law_1071 (by decide +kernel) ?_
  refine lv_iadd hx hb d_law_1072 ?_
  refine hb_ti 1 (by decide +kernel) ?_
  refine va_sld hx hb hX hbl hbA hS (i := 1) (by unfold vp_in; decide +kernel) d_law_1073 ?_
  refine hb_ti (xs 1) rfl ?_
  refine lv_aload_n hx hb d_law_1074 rfl (lv_at hl 3 rfl) ?_
  refine lv_iload_n hx hb d_law_1075 rfl (lv_at hl 0 rfl) ?_
  refine lv_iconst (v := 2) hx hb d_law_1076 (by decide +kernel) ?_
  refine lv_iadd hx hb d_law_1077 ?_
  refine hb_ti 2 (by decide +kernel) ?_
  refine va_sld hx hb hX hbl hbA hS (i := 2) (by unfold vp_in; decide +kernel) d_law_1078 ?_
  refine hb_ti (xs 2) rfl ?_
  have hPc := (hb_right hP)
  refine vp_callSi (va_Run.run (va_runV (As := [.int (xs 1), .int (xs 2)]) (rest := []) ⟨hx, hb, hml, hown, htb⟩ (c_WM_due l dC dI a k L hL (xs 1) (xs 2)) (cwV 2 htb (gd_V tw_591 tw_592 tw_593 tw_124 tw_594) rfl rfl rfl (by decide +kernel) ⟨Nat.le_of_ble_eq_true rfl, Nat.le_of_ble_eq_true rfl⟩) ⟨pr_blind, va_recv hKx hPc (ci := 0) (q0 := 0) rfl rfl, pr_pre hPc hKx hN⟩ rfl rfl hl.1 rfl (lv_room (Nat.le_of_ble_eq_true rfl)) d_law_1079 ⟨by decide +kernel, by decide +kernel⟩)) (fun r er => ?_)
  subst er
  refine lv_aload_n hx hb d_law_1082 rfl (lv_at hl 1 rfl) ?_
  refine lv_aload_n hx hb d_law_1083 rfl (lv_at hl 3 rfl) ?_
  refine lv_iload_n hx hb d_law_1084 rfl (lv_at hl 0 rfl) ?_
  refine lv_iconst (v := 1) hx hb d_law_1085 (by decide +kernel) ?_
  refine lv_iadd hx hb d_law_1086 ?_
  refine hb_ti 1 (by decide +kernel) ?_
  refine va_sld hx hb hX hbl hbA hS (i := 1) (by unfold vp_in; decide +kernel) d_law_1087 ?_
  refine hb_ti (xs 1) rfl ?_
  refine lv_aload_n hx hb d_law_1088 rfl (lv_at hl 3 rfl) ?_
  refine lv_iload_n hx hb d_law_1089 rfl (lv_at hl 0 rfl) ?_
  refine lv_iconst (v := 2) hx hb d_law_1090 (by decide +kernel) ?_
  refine lv_iadd hx hb d_law_1091 ?_
  refine hb_ti 2 (by decide +kernel) ?_
  refine va_sld hx hb hX hbl hbA hS (i := 2) (by unfold vp_in; decide +kernel) d_law_1092 ?_
  refine hb_ti (xs 2) rfl ?_
  have hPc := (hb_left hP)
  refine vp_callSi (va_Run.run (va_runV (As := [.int (xs 1), .int (xs 2)]) (rest := [.int (f_WM_due (xs 1) (xs 2))]) ⟨hx, hb, hml, hown, htb⟩ (c_Md_due l dC dI a2 k2 (xs 1) (xs 2)) (cwV 2 htb (gd_V tw_595 tw_596 tw_597 tw_296 tw_598) rfl rfl rfl (by decide +kernel) ⟨Nat.le_of_ble_eq_true rfl, Nat.le_of_ble_eq_true rfl⟩) ⟨pr_blind, va_recv hKm hPc (ci := 7) (q0 := 0) rfl rfl, pr_pre hPc hKm hN⟩ rfl rfl hl.1 rfl (lv_room (Nat.le_of_ble_eq_true rfl)) d_law_1093 ⟨by decide +kernel, by decide +kernel⟩)) (fun r er => ?_)
  subst er
  refine lv_icmp_eq (tgt := 1259) hx hb d_law_1096 (by decide) (fun _ => ?_) (fun h => absurd (eq_due (xs 1) (xs 2)) h)
  exact law_end l C0 hS hl (by decide +kernel) (by decide +kernel)
set_option maxHeartbeats 4000000 in
set_option maxRecDepth 100000 in
theorem law_case_27 {p : Program} {e : Env} {s : State} {m : MethodId} {below : List Frame} {meth : Method} {c : Code} (l : Launch) {b : Nat} {xs : Nat → Int32} (C0 : lw_At p s m meth c b 6 xs) {dC : Nat → ClassId} {dI : Nat → Nat → Nat} {a a2 : Nat → Nat} {k k2 : Nat → ClassId} {L : List Nat} (hL : L.length = 40) (hKx : va_K (dC, dI) vwCl (XT k) s) (hKm : va_K (dC, dI) vwCl (MT k2) s) (hN : NW s) {H : Heap} {locs : List Loc} (hP : va_P (dC, dI) vwCl (MW a2 k2 ++ XW a k L) H) (hD : va_D (fun q : Nat => s.heap.size ≤ q) (MW a2 k2 ++ XW a k L)) (hS : va_S (fun q : Nat => s.heap.size ≤ q) s.heap H locs) {ls : Array Slot} (hl : lv_has ls 4 [(3, .int 0), (2, .ref (a2 0)), (1, .ref (a 0)), (0, .ref b)]) : W p l e room_1 s m #[Value.ref b] below meth c H locs 107 19066 (lw_Z below #[Value.ref b] s) (F0 m 1101 ls []) := by
  obtain ⟨hx, hb, hr, hml, hown, hts, hX, hbl, hlocks, hgv⟩ := id C0
  have hA : ∀ q : Nat, s.heap.size ≤ q → (fun q : Nat => s.heap.size ≤ q) q := fun _ h => h
  have hbA : ¬ (fun q : Nat => s.heap.size ≤ q) b := Nat.not_le.mpr hbl
  have htb := fun w (h : w ∈ TB) => hts w (List.mem_filter.mp h).1
  refine lv_aload_n hx hb d_law_1101 rfl (lv_at hl 2 rfl) ?_
  refine lv_aload_n hx hb d_law_1102 rfl (lv_at hl 3 rfl) ?_
  refine lv_iload_n hx hb d_law_1103 rfl (lv_at hl 0 rfl) ?_
  refine lv_iconst (v := 1) hx hb d_law_1104 (by decide +kernel) ?_
  refine lv_iadd hx hb d_law_1105 ?_
  refine hb_ti 1 (by decide +kernel) ?_
  refine va_sld hx hb hX hbl hbA hS (i := 1) (by unfold vp_in; decide +kernel) d_law_1106 ?_
  refine hb_ti (xs 1) rfl ?_
  refine lv_aload_n hx hb d_law_1107 rfl (lv_at hl 3 rfl) ?_
  refine lv_iload_n hx hb d_law_1108 rfl (lv_at hl 0 rfl) ?_
  refine lv_iconst (v := 2) hx hb d_law_1109 (by decide +kernel) ?_
  refine lv_iadd hx hb d_law_1110 ?_
  refine hb_ti 2 (by decide +kernel) ?_
  refine va_sld hx hb hX hbl hbA hS (i := 2) (by unfold vp_in; decide +kernel) d_law_1111 ?_
  refine hb_ti (xs 2) rfl ?_
  have hPc := (hb_right hP)
  refine vp_callSi (va_Run.run (va_runV (As := [.int (xs 1), .int (xs 2)]) (rest := []) ⟨hx, hb, hml, hown, htb⟩ (c_WM_over l dC dI a k L hL (xs 1) (xs 2)) (cwV 2 htb (gd_V tw_599 tw_600 tw_601 tw_124 tw_602) rfl rfl rfl (by decide +kernel) ⟨Nat.le_of_ble_eq_true rfl, Nat.le_of_ble_eq_true rfl⟩) ⟨pr_blind, va_recv hKx hPc (ci := 0) (q0 := 0) rfl rfl, pr_pre hPc hKx hN⟩ rfl rfl hl.1 rfl (lv_room (Nat.le_of_ble_eq_true rfl)) d_law_1112 ⟨by decide +kernel, by decide +kernel⟩)) (fun r er => ?_)
  subst er
  refine lv_aload_n hx hb d_law_1115 rfl (lv_at hl 1 rfl) ?_
  refine lv_aload_n hx hb d_law_1116 rfl (lv_at hl 3 rfl) ?_
  refine lv_iload_n hx hb d_law_1117 rfl (lv_at hl 0 rfl) ?_
  refine lv_iconst (v := 1) hx hb d_law_1118 (by decide +kernel) ?_
  refine lv_iadd hx hb d_law_1119 ?_
  refine hb_ti 1 (by decide +kernel) ?_
  refine va_sld hx hb hX hbl hbA hS (i := 1) (by unfold vp_in; decide +kernel) d_law_1120 ?_
  refine hb_ti (xs 1) rfl ?_
  refine lv_aload_n hx hb d_law_1121 rfl (lv_at hl 3 rfl) ?_
  refine lv_iload_n hx hb d_law_1122 rfl (lv_at hl 0 rfl) ?_
  refine lv_iconst (v := 2) hx hb d_law_1123 (by decide +kernel) ?_
  refine lv_iadd hx hb d_law_1124 ?_
  refine hb_ti 2 (by decide +kernel) ?_
  refine va_sld hx hb hX hbl hbA hS (i := 2) (by unfold vp_in; decide +kernel) d_law_1125 ?_
  refine hb_ti (xs 2) rfl ?_
  have hPc := (hb_left hP)
  refine vp_callSi (va_Run.run (va_runV (As := [.int (xs 1), .int (xs 2)]) (rest := [.int (f_WM_over (xs 1) (xs 2))]) ⟨hx, hb, hml, hown, htb⟩ (c_Md_over l dC dI a2 k2 (xs 1) (xs 2)) (cwV 2 htb (gd_V tw_603 tw_604 tw_605 tw_296 tw_606) rfl rfl rfl (by decide +kernel) ⟨Nat.le_of_ble_eq_true rfl, Nat.le_of_ble_eq_true rfl⟩) ⟨pr_blind, va_recv hKm hPc (ci := 7) (q0 := 0) rfl rfl, pr_pre hPc hKm hN⟩ rfl rfl hl.1 rfl (lv_room (Nat.le_of_ble_eq_true rfl)) d_law_1126 ⟨by decide +kernel, by decide +kernel⟩)) (fun r er => ?_)
  subst er
  refine lv_icmp_eq (tgt := 1259) hx hb d_law_1129 (by decide) (fun _ => ?_) (fun h => absurd (eq_over (xs 1) (xs 2)) h)
  exact law_end l C0 hS hl (by decide +kernel) (by decide +kernel)
set_option maxHeartbeats 4000000 in
set_option maxRecDepth 100000 in
theorem law_case_28 {p : Program} {e : Env} {s : State} {m : MethodId} {below : List Frame} {meth : Method} {c : Code} (l : Launch) {b : Nat} {xs : Nat → Int32} (C0 : lw_At p s m meth c b 6 xs) {dC : Nat → ClassId} {dI : Nat → Nat → Nat} {a a2 : Nat → Nat} {k k2 : Nat → ClassId} {L : List Nat} (hL : L.length = 40) (hKx : va_K (dC, dI) vwCl (XT k) s) (hKm : va_K (dC, dI) vwCl (MT k2) s) (hN : NW s) {H : Heap} {locs : List Loc} (hP : va_P (dC, dI) vwCl (MW a2 k2 ++ XW a k L) H) (hD : va_D (fun q : Nat => s.heap.size ≤ q) (MW a2 k2 ++ XW a k L)) (hS : va_S (fun q : Nat => s.heap.size ≤ q) s.heap H locs) {ls : Array Slot} (hl : lv_has ls 4 [(3, .int 0), (2, .ref (a2 0)), (1, .ref (a 0)), (0, .ref b)]) : W p l e room_1 s m #[Value.ref b] below meth c H locs 107 19066 (lw_Z below #[Value.ref b] s) (F0 m 1134 ls []) := by
  obtain ⟨hx, hb, hr, hml, hown, hts, hX, hbl, hlocks, hgv⟩ := id C0
  have hA : ∀ q : Nat, s.heap.size ≤ q → (fun q : Nat => s.heap.size ≤ q) q := fun _ h => h
  have hbA : ¬ (fun q : Nat => s.heap.size ≤ q) b := Nat.not_le.mpr hbl
  have htb := fun w (h : w ∈ TB) => hts w (List.mem_filter.mp h).1
  refine lv_aload_n hx hb d_law_1134 rfl (lv_at hl 2 rfl) ?_
  refine lv_aload_n hx hb d_law_1135 rfl (lv_at hl 3 rfl) ?_
  refine lv_iload_n hx hb d_law_1136 rfl (lv_at hl 0 rfl) ?_
  refine lv_iconst (v := 1) hx hb d_law_1137 (by decide +kernel) ?_
  refine lv_iadd hx hb d_law_1138 ?_
  refine hb_ti 1 (by decide +kernel) ?_
  refine va_sld hx hb hX hbl hbA hS (i := 1) (by unfold vp_in; decide +kernel) d_law_1139 ?_
  refine hb_ti (xs 1) rfl ?_
  refine lv_aload_n hx hb d_law_1140 rfl (lv_at hl 3 rfl) ?_
  refine lv_iload_n hx hb d_law_1141 rfl (lv_at hl 0 rfl) ?_
  refine lv_iconst (v := 2) hx hb d_law_1142 (by decide +kernel) ?_
  refine lv_iadd hx hb d_law_1143 ?_
  refine hb_ti 2 (by decide +kernel) ?_
  refine va_sld hx hb hX hbl hbA hS (i := 2) (by unfold vp_in; decide +kernel) d_law_1144 ?_
  refine hb_ti (xs 2) rfl ?_
  have hPc := (hb_right hP)
  have hDc := (hb_rightD hD)
  have hFc := hb_free hDc hS hA
  refine va_calli (va_runV (As := [.int (xs 1), .int (xs 2)]) (rest := []) ⟨hx, hb, hml, hown, htb⟩ (c_WM_pension l dC dI a k L hL _ (xs 1) (xs 2)) (cwV 2 htb (gd_V tw_607 tw_608 tw_609 tw_124 tw_610) rfl rfl rfl (by decide +kernel) ⟨Nat.le_of_ble_eq_true rfl, Nat.le_of_ble_eq_true rfl⟩) ⟨pc_blind, va_recv hKx hPc (ci := 0) (q0 := 0) rfl rfl, pc_pre hPc hKx hDc hN⟩ rfl rfl hl.1 rfl (lv_room (Nat.le_of_ble_eq_true rfl)) d_law_1145 ⟨by decide +kernel, by decide +kernel⟩) hS (fun q _ h => hFc q h) hFc (fun r u t H1 locs1 ht hvm er hB hz1 hk1 hS1 => ?_)
  subst er
  have hPm := hb_keep hP hD hk1
  have hS := hS1
  refine lv_aload_n hx hb d_law_1148 rfl (lv_at hl 1 rfl) ?_
  refine lv_aload_n hx hb d_law_1149 rfl (lv_at hl 3 rfl) ?_
  refine lv_iload_n hx hb d_law_1150 rfl (lv_at hl 0 rfl) ?_
  refine lv_iconst (v := 1) hx hb d_law_1151 (by decide +kernel) ?_
  refine lv_iadd hx hb d_law_1152 ?_
  refine hb_ti 1 (by decide +kernel) ?_
  refine va_sld hx hb hX hbl hbA hS (i := 1) (by unfold vp_in; decide +kernel) d_law_1153 ?_
  refine hb_ti (xs 1) rfl ?_
  refine lv_aload_n hx hb d_law_1154 rfl (lv_at hl 3 rfl) ?_
  refine lv_iload_n hx hb d_law_1155 rfl (lv_at hl 0 rfl) ?_
  refine lv_iconst (v := 2) hx hb d_law_1156 (by decide +kernel) ?_
  refine lv_iadd hx hb d_law_1157 ?_
  refine hb_ti 2 (by decide +kernel) ?_
  refine va_sld hx hb hX hbl hbA hS (i := 2) (by unfold vp_in; decide +kernel) d_law_1158 ?_
  refine hb_ti (xs 2) rfl ?_
  have hPc := hPm
  have hDc := (hb_leftD hD)
  have hFc := hb_free hDc hS hA
  refine va_calli (va_runV (As := [.int (xs 1), .int (xs 2)]) (rest := [.int (f_WM_pension (xs 1) (xs 2))]) ⟨hx, hb, hml, hown, htb⟩ (c_Md_pension l dC dI a2 k2 _ (xs 1) (xs 2)) (cwV 2 htb (gd_V tw_611 tw_612 tw_613 tw_296 tw_614) rfl rfl rfl (by decide +kernel) ⟨Nat.le_of_ble_eq_true rfl, Nat.le_of_ble_eq_true rfl⟩) ⟨pc_blind, va_recv hKm hPc (ci := 7) (q0 := 0) rfl rfl, pc_pre hPc hKm hDc hN⟩ rfl rfl hl.1 rfl (lv_room (Nat.le_of_ble_eq_true rfl)) d_law_1159 ⟨by decide +kernel, by decide +kernel⟩) hS (fun q _ h => hFc q h) hFc (fun r u t H1 locs1 ht hvm er hB hz1 hk1 hS1 => ?_)
  subst er
  have hS := hS1
  refine lv_icmp_eq (tgt := 1259) hx hb d_law_1162 (by decide) (fun _ => ?_) (fun h => absurd (eq_pension (xs 1) (xs 2)) h)
  exact law_end l C0 hS hl (by decide +kernel) (by decide +kernel)
set_option maxHeartbeats 4000000 in
set_option maxRecDepth 100000 in
theorem law_case_29 {p : Program} {e : Env} {s : State} {m : MethodId} {below : List Frame} {meth : Method} {c : Code} (l : Launch) {b : Nat} {xs : Nat → Int32} (C0 : lw_At p s m meth c b 6 xs) {dC : Nat → ClassId} {dI : Nat → Nat → Nat} {a a2 : Nat → Nat} {k k2 : Nat → ClassId} {L : List Nat} (hL : L.length = 40) (hKx : va_K (dC, dI) vwCl (XT k) s) (hKm : va_K (dC, dI) vwCl (MT k2) s) (hN : NW s) {H : Heap} {locs : List Loc} (hP : va_P (dC, dI) vwCl (MW a2 k2 ++ XW a k L) H) (hD : va_D (fun q : Nat => s.heap.size ≤ q) (MW a2 k2 ++ XW a k L)) (hS : va_S (fun q : Nat => s.heap.size ≤ q) s.heap H locs) {ls : Array Slot} (hl : lv_has ls 4 [(3, .int 0), (2, .ref (a2 0)), (1, .ref (a 0)), (0, .ref b)]) : W p l e room_1 s m #[Value.ref b] below meth c H locs 107 19066 (lw_Z below #[Value.ref b] s) (F0 m 1167 ls []) := by
  obtain ⟨hx, hb, hr, hml, hown, hts, hX, hbl, hlocks, hgv⟩ := id C0
  have hA : ∀ q : Nat, s.heap.size ≤ q → (fun q : Nat => s.heap.size ≤ q) q := fun _ h => h
  have hbA : ¬ (fun q : Nat => s.heap.size ≤ q) b := Nat.not_le.mpr hbl
  have htb := fun w (h : w ∈ TB) => hts w (List.mem_filter.mp h).1
  refine lv_aload_n hx hb d_law_1167 rfl (lv_at hl 2 rfl) ?_
  have hPc := (hb_right hP)
  refine vp_callSi (va_Run.run (va_runV (As := []) (rest := []) ⟨hx, hb, hml, hown, htb⟩ (c_WM_foretold l dC dI a k L hL) (cwV 0 htb (gd_V tw_615 tw_616 tw_617 tw_124 tw_618) rfl rfl rfl (by decide +kernel) ⟨Nat.le_of_ble_eq_true rfl, Nat.le_of_ble_eq_true rfl⟩) ⟨pr_blind, va_recv hKx hPc (ci := 0) (q0 := 0) rfl rfl, pr_pre hPc hKx hN⟩ rfl rfl hl.1 rfl (lv_room (Nat.le_of_ble_eq_true rfl)) d_law_1168 ⟨by decide +kernel, by decide +kernel⟩)) (fun r er => ?_)
  subst er
  refine lv_aload_n hx hb d_law_1171 rfl (lv_at hl 1 rfl) ?_
  have hPc := (hb_left hP)
  refine vp_callSi (va_Run.run (va_runV (As := []) (rest := [.int (f_WM_foretold)]) ⟨hx, hb, hml, hown, htb⟩ (c_Md_foretold l dC dI a2 k2) (cwV 0 htb (gd_V tw_619 tw_620 tw_621 tw_296 tw_622) rfl rfl rfl (by decide +kernel) ⟨Nat.le_of_ble_eq_true rfl, Nat.le_of_ble_eq_true rfl⟩) ⟨pr_blind, va_recv hKm hPc (ci := 7) (q0 := 0) rfl rfl, pr_pre hPc hKm hN⟩ rfl rfl hl.1 rfl (lv_room (Nat.le_of_ble_eq_true rfl)) d_law_1172 ⟨by decide +kernel, by decide +kernel⟩)) (fun r er => ?_)
  subst er
  refine lv_icmp_eq (tgt := 1259) hx hb d_law_1175 (by decide) (fun _ => ?_) (fun h => absurd (eq_foretold) h)
  exact law_end l C0 hS hl (by decide +kernel) (by decide +kernel)
set_option maxHeartbeats 4000000 in
set_option maxRecDepth 100000 in
theorem law_case_30 {p : Program} {e : Env} {s : State} {m : MethodId} {below : List Frame} {meth : Method} {c : Code} (l : Launch) {b : Nat} {xs : Nat → Int32} (C0 : lw_At p s m meth c b 6 xs) {dC : Nat → ClassId} {dI : Nat → Nat → Nat} {a a2 : Nat → Nat} {k k2 : Nat → ClassId} {L : List Nat} (hL : L.length = 40) (hKx : va_K (dC, dI) vwCl (XT k) s) (hKm : va_K (dC, dI) vwCl (MT k2) s) (hN : NW s) {H : Heap} {locs : List Loc} (hP : va_P (dC, dI) vwCl (MW a2 k2 ++ XW a k L) H) (hD : va_D (fun q : Nat => s.heap.size ≤ q) (MW a2 k2 ++ XW a k L)) (hS : va_S (fun q : Nat => s.heap.size ≤ q) s.heap H locs) {ls : Array Slot} (hl : lv_has ls 4 [(3, .int 0), (2, .ref (a2 0)), (1, .ref (a 0)), (0, .ref b)]) : W p l e room_1 s m #[Value.ref b] below meth c H locs 107 19066 (lw_Z below #[Value.ref b] s) (F0 m 1180 ls []) := by
  obtain ⟨hx, hb, hr, hml, hown, hts, hX, hbl, hlocks, hgv⟩ := id C0
  have hA : ∀ q : Nat, s.heap.size ≤ q → (fun q : Nat => s.heap.size ≤ q) q := fun _ h => h
  have hbA : ¬ (fun q : Nat => s.heap.size ≤ q) b := Nat.not_le.mpr hbl
  have htb := fun w (h : w ∈ TB) => hts w (List.mem_filter.mp h).1
  refine lv_aload_n hx hb d_law_1180 rfl (lv_at hl 2 rfl) ?_
  refine lv_aload_n hx hb d_law_1181 rfl (lv_at hl 3 rfl) ?_
  refine lv_iload_n hx hb d_law_1182 rfl (lv_at hl 0 rfl) ?_
  refine lv_iconst (v := 1) hx hb d_law_1183 (by decide +kernel) ?_
  refine lv_iadd hx hb d_law_1184 ?_
  refine hb_ti 1 (by decide +kernel) ?_
  refine va_sld hx hb hX hbl hbA hS (i := 1) (by unfold vp_in; decide +kernel) d_law_1185 ?_
  refine hb_ti (xs 1) rfl ?_
  refine lv_aload_n hx hb d_law_1186 rfl (lv_at hl 3 rfl) ?_
  refine lv_iload_n hx hb d_law_1187 rfl (lv_at hl 0 rfl) ?_
  refine lv_iconst (v := 2) hx hb d_law_1188 (by decide +kernel) ?_
  refine lv_iadd hx hb d_law_1189 ?_
  refine hb_ti 2 (by decide +kernel) ?_
  refine va_sld hx hb hX hbl hbA hS (i := 2) (by unfold vp_in; decide +kernel) d_law_1190 ?_
  refine hb_ti (xs 2) rfl ?_
  have hPc := (hb_right hP)
  refine vp_callSi (va_Run.run (va_runV (As := [.int (xs 1), .int (xs 2)]) (rest := []) ⟨hx, hb, hml, hown, htb⟩ (c_WM_pensioner l dC dI a k L hL (xs 1) (xs 2)) (cwV 2 htb (gd_V tw_623 tw_624 tw_625 tw_124 tw_626) rfl rfl rfl (by decide +kernel) ⟨Nat.le_of_ble_eq_true rfl, Nat.le_of_ble_eq_true rfl⟩) ⟨pr_blind, va_recv hKx hPc (ci := 0) (q0 := 0) rfl rfl, pr_pre hPc hKx hN⟩ rfl rfl hl.1 rfl (lv_room (Nat.le_of_ble_eq_true rfl)) d_law_1191 ⟨by decide +kernel, by decide +kernel⟩)) (fun r er => ?_)
  subst er
  refine lv_aload_n hx hb d_law_1194 rfl (lv_at hl 1 rfl) ?_
  refine lv_aload_n hx hb d_law_1195 rfl (lv_at hl 3 rfl) ?_
  refine lv_iload_n hx hb d_law_1196 rfl (lv_at hl 0 rfl) ?_
  refine lv_iconst (v := 1) hx hb d_law_1197 (by decide +kernel) ?_
  refine lv_iadd hx hb d_law_1198 ?_
  refine hb_ti 1 (by decide +kernel) ?_
  refine va_sld hx hb hX hbl hbA hS (i := 1) (by unfold vp_in; decide +kernel) d_law_1199 ?_
  refine hb_ti (xs 1) rfl ?_
  refine lv_aload_n hx hb d_law_1200 rfl (lv_at hl 3 rfl) ?_
  refine lv_iload_n hx hb d_law_1201 rfl (lv_at hl 0 rfl) ?_
  refine lv_iconst (v := 2) hx hb d_law_1202 (by decide +kernel) ?_
  refine lv_iadd hx hb d_law_1203 ?_
  refine hb_ti 2 (by decide +kernel) ?_
  refine va_sld hx hb hX hbl hbA hS (i := 2) (by unfold vp_in; decide +kernel) d_law_1204 ?_
  refine hb_ti (xs 2) rfl ?_
  have hPc := (hb_left hP)
  refine vp_callSi (va_Run.run (va_runV (As := [.int (xs 1), .int (xs 2)]) (rest := [.int (f_WM_pensioner (xs 1) (xs 2))]) ⟨hx, hb, hml, hown, htb⟩ (c_Md_pensioner l dC dI a2 k2 (xs 1) (xs 2)) (cwV 2 htb (gd_V tw_627 tw_628 tw_629 tw_296 tw_630) rfl rfl rfl (by decide +kernel) ⟨Nat.le_of_ble_eq_true rfl, Nat.le_of_ble_eq_true rfl⟩) ⟨pr_blind, va_recv hKm hPc (ci := 7) (q0 := 0) rfl rfl, pr_pre hPc hKm hN⟩ rfl rfl hl.1 rfl (lv_room (Nat.le_of_ble_eq_true rfl)) d_law_1205 ⟨by decide +kernel, by decide +kernel⟩)) (fun r er => ?_)
  subst er
  refine lv_icmp_eq (tgt := 1259) hx hb d_law_1208 (by decide) (fun _ => ?_) (fun h => absurd (eq_pensioner (xs 1) (xs 2)) h)
  exact law_end l C0 hS hl (by decide +kernel) (by decide +kernel)
set_option maxHeartbeats 4000000 in
set_option maxRecDepth 100000 in
theorem law_case_31 {p : Program} {e : Env} {s : State} {m : MethodId} {below : List Frame} {meth : Method} {c : Code} (l : Launch) {b : Nat} {xs : Nat → Int32} (C0 : lw_At p s m meth c b 6 xs) {dC : Nat → ClassId} {dI : Nat → Nat → Nat} {a a2 : Nat → Nat} {k k2 : Nat → ClassId} {L : List Nat} (hL : L.length = 40) (hKx : va_K (dC, dI) vwCl (XT k) s) (hKm : va_K (dC, dI) vwCl (MT k2) s) (hN : NW s) {H : Heap} {locs : List Loc} (hP : va_P (dC, dI) vwCl (MW a2 k2 ++ XW a k L) H) (hD : va_D (fun q : Nat => s.heap.size ≤ q) (MW a2 k2 ++ XW a k L)) (hS : va_S (fun q : Nat => s.heap.size ≤ q) s.heap H locs) {ls : Array Slot} (hl : lv_has ls 4 [(3, .int 0), (2, .ref (a2 0)), (1, .ref (a 0)), (0, .ref b)]) : W p l e room_1 s m #[Value.ref b] below meth c H locs 107 19066 (lw_Z below #[Value.ref b] s) (F0 m 1213 ls []) := by
  obtain ⟨hx, hb, hr, hml, hown, hts, hX, hbl, hlocks, hgv⟩ := id C0
  have hA : ∀ q : Nat, s.heap.size ≤ q → (fun q : Nat => s.heap.size ≤ q) q := fun _ h => h
  have hbA : ¬ (fun q : Nat => s.heap.size ≤ q) b := Nat.not_le.mpr hbl
  have htb := fun w (h : w ∈ TB) => hts w (List.mem_filter.mp h).1
  refine lv_aload_n hx hb d_law_1213 rfl (lv_at hl 2 rfl) ?_
  refine lv_aload_n hx hb d_law_1214 rfl (lv_at hl 3 rfl) ?_
  refine lv_iload_n hx hb d_law_1215 rfl (lv_at hl 0 rfl) ?_
  refine lv_iconst (v := 1) hx hb d_law_1216 (by decide +kernel) ?_
  refine lv_iadd hx hb d_law_1217 ?_
  refine hb_ti 1 (by decide +kernel) ?_
  refine va_sld hx hb hX hbl hbA hS (i := 1) (by unfold vp_in; decide +kernel) d_law_1218 ?_
  refine hb_ti (xs 1) rfl ?_
  have hPc := (hb_right hP)
  refine vp_callSi (va_Run.run (va_runV (As := [.int (xs 1)]) (rest := []) ⟨hx, hb, hml, hown, htb⟩ (c_WM_count l dC dI a k L hL (xs 1)) (cwV 1 htb (gd_V tw_631 tw_632 tw_633 tw_124 tw_634) rfl rfl rfl (by decide +kernel) ⟨Nat.le_of_ble_eq_true rfl, Nat.le_of_ble_eq_true rfl⟩) ⟨pr_blind, va_recv hKx hPc (ci := 0) (q0 := 0) rfl rfl, pr_pre hPc hKx hN⟩ rfl rfl hl.1 rfl (lv_room (Nat.le_of_ble_eq_true rfl)) d_law_1219 ⟨by decide +kernel, by decide +kernel⟩)) (fun r er => ?_)
  subst er
  refine lv_aload_n hx hb d_law_1222 rfl (lv_at hl 1 rfl) ?_
  refine lv_aload_n hx hb d_law_1223 rfl (lv_at hl 3 rfl) ?_
  refine lv_iload_n hx hb d_law_1224 rfl (lv_at hl 0 rfl) ?_
  refine lv_iconst (v := 1) hx hb d_law_1225 (by decide +kernel) ?_
  refine lv_iadd hx hb d_law_1226 ?_
  refine hb_ti 1 (by decide +kernel) ?_
  refine va_sld hx hb hX hbl hbA hS (i := 1) (by unfold vp_in; decide +kernel) d_law_1227 ?_
  refine hb_ti (xs 1) rfl ?_
  have hPc := (hb_left hP)
  refine vp_callSi (va_Run.run (va_runV (As := [.int (xs 1)]) (rest := [.int (f_WM_count (xs 1))]) ⟨hx, hb, hml, hown, htb⟩ (c_Md_count l dC dI a2 k2 (xs 1)) (cwV 1 htb (gd_V tw_635 tw_636 tw_637 tw_296 tw_638) rfl rfl rfl (by decide +kernel) ⟨Nat.le_of_ble_eq_true rfl, Nat.le_of_ble_eq_true rfl⟩) ⟨pr_blind, va_recv hKm hPc (ci := 7) (q0 := 0) rfl rfl, pr_pre hPc hKm hN⟩ rfl rfl hl.1 rfl (lv_room (Nat.le_of_ble_eq_true rfl)) d_law_1228 ⟨by decide +kernel, by decide +kernel⟩)) (fun r er => ?_)
  subst er
  refine lv_icmp_eq (tgt := 1259) hx hb d_law_1231 (by decide) (fun _ => ?_) (fun h => absurd (eq_count (xs 1)) h)
  exact law_end l C0 hS hl (by decide +kernel) (by decide +kernel)
set_option maxHeartbeats 4000000 in
set_option maxRecDepth 100000 in
theorem law_case_32 {p : Program} {e : Env} {s : State} {m : MethodId} {below : List Frame} {meth : Method} {c : Code} (l : Launch) {b : Nat} {xs : Nat → Int32} (C0 : lw_At p s m meth c b 6 xs) {dC : Nat → ClassId} {dI : Nat → Nat → Nat} {a a2 : Nat → Nat} {k k2 : Nat → ClassId} {L : List Nat} (hL : L.length = 40) (hKx : va_K (dC, dI) vwCl (XT k) s) (hKm : va_K (dC, dI) vwCl (MT k2) s) (hN : NW s) {H : Heap} {locs : List Loc} (hP : va_P (dC, dI) vwCl (MW a2 k2 ++ XW a k L) H) (hD : va_D (fun q : Nat => s.heap.size ≤ q) (MW a2 k2 ++ XW a k L)) (hS : va_S (fun q : Nat => s.heap.size ≤ q) s.heap H locs) {ls : Array Slot} (hl : lv_has ls 4 [(3, .int 0), (2, .ref (a2 0)), (1, .ref (a 0)), (0, .ref b)]) : W p l e room_1 s m #[Value.ref b] below meth c H locs 107 19066 (lw_Z below #[Value.ref b] s) (F0 m 1236 ls []) := by
  obtain ⟨hx, hb, hr, hml, hown, hts, hX, hbl, hlocks, hgv⟩ := id C0
  have hA : ∀ q : Nat, s.heap.size ≤ q → (fun q : Nat => s.heap.size ≤ q) q := fun _ h => h
  have hbA : ¬ (fun q : Nat => s.heap.size ≤ q) b := Nat.not_le.mpr hbl
  have htb := fun w (h : w ∈ TB) => hts w (List.mem_filter.mp h).1
  refine lv_aload_n hx hb d_law_1236 rfl (lv_at hl 2 rfl) ?_
  refine lv_aload_n hx hb d_law_1237 rfl (lv_at hl 3 rfl) ?_
  refine lv_iload_n hx hb d_law_1238 rfl (lv_at hl 0 rfl) ?_
  refine lv_iconst (v := 1) hx hb d_law_1239 (by decide +kernel) ?_
  refine lv_iadd hx hb d_law_1240 ?_
  refine hb_ti 1 (by decide +kernel) ?_
  refine va_sld hx hb hX hbl hbA hS (i := 1) (by unfold vp_in; decide +kernel) d_law_1241 ?_
  refine hb_ti (xs 1) rfl ?_
  have hPc := (hb_right hP)
  refine vp_callSi (va_Run.run (va_runV (As := [.int (xs 1)]) (rest := []) ⟨hx, hb, hml, hown, htb⟩ (c_WM_coins l dC dI a k L hL (xs 1)) (cwV 1 htb (gd_V tw_639 tw_640 tw_641 tw_124 tw_642) rfl rfl rfl (by decide +kernel) ⟨Nat.le_of_ble_eq_true rfl, Nat.le_of_ble_eq_true rfl⟩) ⟨pr_blind, va_recv hKx hPc (ci := 0) (q0 := 0) rfl rfl, pr_pre hPc hKx hN⟩ rfl rfl hl.1 rfl (lv_room (Nat.le_of_ble_eq_true rfl)) d_law_1242 ⟨by decide +kernel, by decide +kernel⟩)) (fun r er => ?_)
  subst er
  refine lv_aload_n hx hb d_law_1245 rfl (lv_at hl 1 rfl) ?_
  refine lv_aload_n hx hb d_law_1246 rfl (lv_at hl 3 rfl) ?_
  refine lv_iload_n hx hb d_law_1247 rfl (lv_at hl 0 rfl) ?_
  refine lv_iconst (v := 1) hx hb d_law_1248 (by decide +kernel) ?_
  refine lv_iadd hx hb d_law_1249 ?_
  refine hb_ti 1 (by decide +kernel) ?_
  refine va_sld hx hb hX hbl hbA hS (i := 1) (by unfold vp_in; decide +kernel) d_law_1250 ?_
  refine hb_ti (xs 1) rfl ?_
  have hPc := (hb_left hP)
  refine vp_callSi (va_Run.run (va_runV (As := [.int (xs 1)]) (rest := [.int (f_WM_coins (xs 1))]) ⟨hx, hb, hml, hown, htb⟩ (c_Md_coins l dC dI a2 k2 (xs 1)) (cwV 1 htb (gd_V tw_643 tw_644 tw_645 tw_296 tw_646) rfl rfl rfl (by decide +kernel) ⟨Nat.le_of_ble_eq_true rfl, Nat.le_of_ble_eq_true rfl⟩) ⟨pr_blind, va_recv hKm hPc (ci := 7) (q0 := 0) rfl rfl, pr_pre hPc hKm hN⟩ rfl rfl hl.1 rfl (lv_room (Nat.le_of_ble_eq_true rfl)) d_law_1251 ⟨by decide +kernel, by decide +kernel⟩)) (fun r er => ?_)
  subst er
  refine lv_icmp_eq (tgt := 1259) hx hb d_law_1254 (by decide) (fun _ => ?_) (fun h => absurd (eq_coins (xs 1)) h)
  exact law_end l C0 hS hl (by decide +kernel) (by decide +kernel)
set_option maxHeartbeats 4000000 in
set_option maxRecDepth 100000 in
theorem law_switch {p : Program} {e : Env} {s : State} {m : MethodId} {below : List Frame} {meth : Method} {c : Code} (l : Launch) {b : Nat} {xs : Nat → Int32} (C0 : lw_At p s m meth c b 6 xs) {dC : Nat → ClassId} {dI : Nat → Nat → Nat} {a a2 : Nat → Nat} {k k2 : Nat → ClassId} {L : List Nat} (hL : L.length = 40) (hKx : va_K (dC, dI) vwCl (XT k) s) (hKm : va_K (dC, dI) vwCl (MT k2) s) (hN : NW s) {H : Heap} {locs : List Loc} (hP : va_P (dC, dI) vwCl (MW a2 k2 ++ XW a k L) H) (hD : va_D (fun q : Nat => s.heap.size ≤ q) (MW a2 k2 ++ XW a k L)) (hS : va_S (fun q : Nat => s.heap.size ≤ q) s.heap H locs) {ls : Array Slot} (hl : lv_has ls 4 [(3, .int 0), (2, .ref (a2 0)), (1, .ref (a 0)), (0, .ref b)]) : W p l e room_1 s m #[Value.ref b] below meth c H locs 107 19066 (lw_Z below #[Value.ref b] s) (F0 m 33 ls [.int (xs 0 &&& 63)]) := by
  obtain ⟨hx, hb, hr, hml, hown, hts, hX, hbl, hlocks, hgv⟩ := id C0
  by_cases h_0 : xs 0 &&& 63 = 0
  · refine lv_tableIn (off := 147) (tgt := 180) hx hb d_law_33 (by rw [h_0]; decide +kernel) (by rw [h_0]; decide +kernel) (by rw [h_0]; decide +kernel) (by decide) ?_
    exact law_case_0 l C0 hL hKx hKm hN hP hD hS hl
  by_cases h_1 : xs 0 &&& 63 = 1
  · refine lv_tableIn (off := 170) (tgt := 203) hx hb d_law_33 (by rw [h_1]; decide +kernel) (by rw [h_1]; decide +kernel) (by rw [h_1]; decide +kernel) (by decide) ?_
    exact law_case_1 l C0 hL hKx hKm hN hP hD hS hl
  by_cases h_2 : xs 0 &&& 63 = 2
  · refine lv_tableIn (off := 193) (tgt := 226) hx hb d_law_33 (by rw [h_2]; decide +kernel) (by rw [h_2]; decide +kernel) (by rw [h_2]; decide +kernel) (by decide) ?_
    exact law_case_2 l C0 hL hKx hKm hN hP hD hS hl
  by_cases h_3 : xs 0 &&& 63 = 3
  · refine lv_tableIn (off := 236) (tgt := 269) hx hb d_law_33 (by rw [h_3]; decide +kernel) (by rw [h_3]; decide +kernel) (by rw [h_3]; decide +kernel) (by decide) ?_
    exact law_case_3 l C0 hL hKx hKm hN hP hD hS hl
  by_cases h_4 : xs 0 &&& 63 = 4
  · refine lv_tableIn (off := 269) (tgt := 302) hx hb d_law_33 (by rw [h_4]; decide +kernel) (by rw [h_4]; decide +kernel) (by rw [h_4]; decide +kernel) (by decide) ?_
    exact law_case_4 l C0 hL hKx hKm hN hP hD hS hl
  by_cases h_5 : xs 0 &&& 63 = 5
  · refine lv_tableIn (off := 302) (tgt := 335) hx hb d_law_33 (by rw [h_5]; decide +kernel) (by rw [h_5]; decide +kernel) (by rw [h_5]; decide +kernel) (by decide) ?_
    exact law_case_5 l C0 hL hKx hKm hN hP hD hS hl
  by_cases h_6 : xs 0 &&& 63 = 6
  · refine lv_tableIn (off := 335) (tgt := 368) hx hb d_law_33 (by rw [h_6]; decide +kernel) (by rw [h_6]; decide +kernel) (by rw [h_6]; decide +kernel) (by decide) ?_
    exact law_case_6 l C0 hL hKx hKm hN hP hD hS hl
  by_cases h_7 : xs 0 &&& 63 = 7
  · refine lv_tableIn (off := 358) (tgt := 391) hx hb d_law_33 (by rw [h_7]; decide +kernel) (by rw [h_7]; decide +kernel) (by rw [h_7]; decide +kernel) (by decide) ?_
    exact law_case_7 l C0 hL hKx hKm hN hP hD hS hl
  by_cases h_8 : xs 0 &&& 63 = 8
  · refine lv_tableIn (off := 391) (tgt := 424) hx hb d_law_33 (by rw [h_8]; decide +kernel) (by rw [h_8]; decide +kernel) (by rw [h_8]; decide +kernel) (by decide) ?_
    exact law_case_8 l C0 hL hKx hKm hN hP hD hS hl
  by_cases h_9 : xs 0 &&& 63 = 9
  · refine lv_tableIn (off := 434) (tgt := 467) hx hb d_law_33 (by rw [h_9]; decide +kernel) (by rw [h_9]; decide +kernel) (by rw [h_9]; decide +kernel) (by decide) ?_
    exact law_case_9 l C0 hL hKx hKm hN hP hD hS hl
  by_cases h_10 : xs 0 &&& 63 = 10
  · refine lv_tableIn (off := 457) (tgt := 490) hx hb d_law_33 (by rw [h_10]; decide +kernel) (by rw [h_10]; decide +kernel) (by rw [h_10]; decide +kernel) (by decide) ?_
    exact law_case_10 l C0 hL hKx hKm hN hP hD hS hl
  by_cases h_11 : xs 0 &&& 63 = 11
  · refine lv_tableIn (off := 480) (tgt := 513) hx hb d_law_33 (by rw [h_11]; decide +kernel) (by rw [h_11]; decide +kernel) (by rw [h_11]; decide +kernel) (by decide) ?_
    exact law_case_11 l C0 hL hKx hKm hN hP hD hS hl
  by_cases h_12 : xs 0 &&& 63 = 12
  · refine lv_tableIn (off := 513) (tgt := 546) hx hb d_law_33 (by rw [h_12]; decide +kernel) (by rw [h_12]; decide +kernel) (by rw [h_12]; decide +kernel) (by decide) ?_
    exact law_case_12 l C0 hL hKx hKm hN hP hD hS hl
  by_cases h_13 : xs 0 &&& 63 = 13
  · refine lv_tableIn (off := 546) (tgt := 579) hx hb d_law_33 (by rw [h_13]; decide +kernel) (by rw [h_13]; decide +kernel) (by rw [h_13]; decide +kernel) (by decide) ?_
    exact law_case_13 l C0 hL hKx hKm hN hP hD hS hl
  by_cases h_14 : xs 0 &&& 63 = 14
  · refine lv_tableIn (off := 579) (tgt := 612) hx hb d_law_33 (by rw [h_14]; decide +kernel) (by rw [h_14]; decide +kernel) (by rw [h_14]; decide +kernel) (by decide) ?_
    exact law_case_14 l C0 hL hKx hKm hN hP hD hS hl
  by_cases h_15 : xs 0 &&& 63 = 15
  · refine lv_tableIn (off := 612) (tgt := 645) hx hb d_law_33 (by rw [h_15]; decide +kernel) (by rw [h_15]; decide +kernel) (by rw [h_15]; decide +kernel) (by decide) ?_
    exact law_case_15 l C0 hL hKx hKm hN hP hD hS hl
  by_cases h_16 : xs 0 &&& 63 = 16
  · refine lv_tableIn (off := 635) (tgt := 668) hx hb d_law_33 (by rw [h_16]; decide +kernel) (by rw [h_16]; decide +kernel) (by rw [h_16]; decide +kernel) (by decide) ?_
    exact law_case_16 l C0 hL hKx hKm hN hP hD hS hl
  by_cases h_17 : xs 0 &&& 63 = 17
  · refine lv_tableIn (off := 698) (tgt := 731) hx hb d_law_33 (by rw [h_17]; decide +kernel) (by rw [h_17]; decide +kernel) (by rw [h_17]; decide +kernel) (by decide) ?_
    exact law_case_17 l C0 hL hKx hKm hN hP hD hS hl
  by_cases h_18 : xs 0 &&& 63 = 18
  · refine lv_tableIn (off := 721) (tgt := 754) hx hb d_law_33 (by rw [h_18]; decide +kernel) (by rw [h_18]; decide +kernel) (by rw [h_18]; decide +kernel) (by decide) ?_
    exact law_case_18 l C0 hL hKx hKm hN hP hD hS hl
  by_cases h_19 : xs 0 &&& 63 = 19
  · refine lv_tableIn (off := 744) (tgt := 777) hx hb d_law_33 (by rw [h_19]; decide +kernel) (by rw [h_19]; decide +kernel) (by rw [h_19]; decide +kernel) (by decide) ?_
    exact law_case_19 l C0 hL hKx hKm hN hP hD hS hl
  by_cases h_20 : xs 0 &&& 63 = 20
  · refine lv_tableIn (off := 777) (tgt := 810) hx hb d_law_33 (by rw [h_20]; decide +kernel) (by rw [h_20]; decide +kernel) (by rw [h_20]; decide +kernel) (by decide) ?_
    exact law_case_20 l C0 hL hKx hKm hN hP hD hS hl
  by_cases h_21 : xs 0 &&& 63 = 21
  · refine lv_tableIn (off := 840) (tgt := 873) hx hb d_law_33 (by rw [h_21]; decide +kernel) (by rw [h_21]; decide +kernel) (by rw [h_21]; decide +kernel) (by decide) ?_
    exact law_case_21 l C0 hL hKx hKm hN hP hD hS hl
  by_cases h_22 : xs 0 &&& 63 = 22
  · refine lv_tableIn (off := 883) (tgt := 916) hx hb d_law_33 (by rw [h_22]; decide +kernel) (by rw [h_22]; decide +kernel) (by rw [h_22]; decide +kernel) (by decide) ?_
    exact law_case_22 l C0 hL hKx hKm hN hP hD hS hl
  by_cases h_23 : xs 0 &&& 63 = 23
  · refine lv_tableIn (off := 936) (tgt := 969) hx hb d_law_33 (by rw [h_23]; decide +kernel) (by rw [h_23]; decide +kernel) (by rw [h_23]; decide +kernel) (by decide) ?_
    exact law_case_23 l C0 hL hKx hKm hN hP hD hS hl
  by_cases h_24 : xs 0 &&& 63 = 24
  · refine lv_tableIn (off := 959) (tgt := 992) hx hb d_law_33 (by rw [h_24]; decide +kernel) (by rw [h_24]; decide +kernel) (by rw [h_24]; decide +kernel) (by decide) ?_
    exact law_case_24 l C0 hL hKx hKm hN hP hD hS hl
  by_cases h_25 : xs 0 &&& 63 = 25
  · refine lv_tableIn (off := 1002) (tgt := 1035) hx hb d_law_33 (by rw [h_25]; decide +kernel) (by rw [h_25]; decide +kernel) (by rw [h_25]; decide +kernel) (by decide) ?_
    exact law_case_25 l C0 hL hKx hKm hN hP hD hS hl
  by_cases h_26 : xs 0 &&& 63 = 26
  · refine lv_tableIn (off := 1035) (tgt := 1068) hx hb d_law_33 (by rw [h_26]; decide +kernel) (by rw [h_26]; decide +kernel) (by rw [h_26]; decide +kernel) (by decide) ?_
    exact law_case_26 l C0 hL hKx hKm hN hP hD hS hl
  by_cases h_27 : xs 0 &&& 63 = 27
  · refine lv_tableIn (off := 1068) (tgt := 1101) hx hb d_law_33 (by rw [h_27]; decide +kernel) (by rw [h_27]; decide +kernel) (by rw [h_27]; decide +kernel) (by decide) ?_
    exact law_case_27 l C0 hL hKx hKm hN hP hD hS hl
  by_cases h_28 : xs 0 &&& 63 = 28
  · refine lv_tableIn (off := 1101) (tgt := 1134) hx hb d_law_33 (by rw [h_28]; decide +kernel) (by rw [h_28]; decide +kernel) (by rw [h_28]; decide +kernel) (by decide) ?_
    exact law_case_28 l C0 hL hKx hKm hN hP hD hS hl
  by_cases h_29 : xs 0 &&& 63 = 29
  · refine lv_tableIn (off := 1134) (tgt := 1167) hx hb d_law_33 (by rw [h_29]; decide +kernel) (by rw [h_29]; decide +kernel) (by rw [h_29]; decide +kernel) (by decide) ?_
    exact law_case_29 l C0 hL hKx hKm hN hP hD hS hl
  by_cases h_30 : xs 0 &&& 63 = 30
  · refine lv_tableIn (off := 1147) (tgt := 1180) hx hb d_law_33 (by rw [h_30]; decide +kernel) (by rw [h_30]; decide +kernel) (by rw [h_30]; decide +kernel) (by decide) ?_
    exact law_case_30 l C0 hL hKx hKm hN hP hD hS hl
  by_cases h_31 : xs 0 &&& 63 = 31
  · refine lv_tableIn (off := 1180) (tgt := 1213) hx hb d_law_33 (by rw [h_31]; decide +kernel) (by rw [h_31]; decide +kernel) (by rw [h_31]; decide +kernel) (by decide) ?_
    exact law_case_31 l C0 hL hKx hKm hN hP hD hS hl
  by_cases h_32 : xs 0 &&& 63 = 32
  · refine lv_tableIn (off := 1203) (tgt := 1236) hx hb d_law_33 (by rw [h_32]; decide +kernel) (by rw [h_32]; decide +kernel) (by rw [h_32]; decide +kernel) (by decide) ?_
    exact law_case_32 l C0 hL hKx hKm hN hP hD hS hl
  refine lv_tableOut (tgt := 1259) hx hb d_law_33 (by have g0 := lv_neT h_0 (show (0 : Int32).toInt = 0 by decide +kernel); have g1 := lv_neT h_1 (show (1 : Int32).toInt = 1 by decide +kernel); have g2 := lv_neT h_2 (show (2 : Int32).toInt = 2 by decide +kernel); have g3 := lv_neT h_3 (show (3 : Int32).toInt = 3 by decide +kernel); have g4 := lv_neT h_4 (show (4 : Int32).toInt = 4 by decide +kernel); have g5 := lv_neT h_5 (show (5 : Int32).toInt = 5 by decide +kernel); have g6 := lv_neT h_6 (show (6 : Int32).toInt = 6 by decide +kernel); have g7 := lv_neT h_7 (show (7 : Int32).toInt = 7 by decide +kernel); have g8 := lv_neT h_8 (show (8 : Int32).toInt = 8 by decide +kernel); have g9 := lv_neT h_9 (show (9 : Int32).toInt = 9 by decide +kernel); have g10 := lv_neT h_10 (show (10 : Int32).toInt = 10 by decide +kernel); have g11 := lv_neT h_11 (show (11 : Int32).toInt = 11 by decide +kernel); have g12 := lv_neT h_12 (show (12 : Int32).toInt = 12 by decide +kernel); have g13 := lv_neT h_13 (show (13 : Int32).toInt = 13 by decide +kernel); have g14 := lv_neT h_14 (show (14 : Int32).toInt = 14 by decide +kernel); have g15 := lv_neT h_15 (show (15 : Int32).toInt = 15 by decide +kernel); have g16 := lv_neT h_16 (show (16 : Int32).toInt = 16 by decide +kernel); have g17 := lv_neT h_17 (show (17 : Int32).toInt = 17 by decide +kernel); have g18 := lv_neT h_18 (show (18 : Int32).toInt = 18 by decide +kernel); have g19 := lv_neT h_19 (show (19 : Int32).toInt = 19 by decide +kernel); have g20 := lv_neT h_20 (show (20 : Int32).toInt = 20 by decide +kernel); have g21 := lv_neT h_21 (show (21 : Int32).toInt = 21 by decide +kernel); have g22 := lv_neT h_22 (show (22 : Int32).toInt = 22 by decide +kernel); have g23 := lv_neT h_23 (show (23 : Int32).toInt = 23 by decide +kernel); have g24 := lv_neT h_24 (show (24 : Int32).toInt = 24 by decide +kernel); have g25 := lv_neT h_25 (show (25 : Int32).toInt = 25 by decide +kernel); have g26 := lv_neT h_26 (show (26 : Int32).toInt = 26 by decide +kernel); have g27 := lv_neT h_27 (show (27 : Int32).toInt = 27 by decide +kernel); have g28 := lv_neT h_28 (show (28 : Int32).toInt = 28 by decide +kernel); have g29 := lv_neT h_29 (show (29 : Int32).toInt = 29 by decide +kernel); have g30 := lv_neT h_30 (show (30 : Int32).toInt = 30 by decide +kernel); have g31 := lv_neT h_31 (show (31 : Int32).toInt = 31 by decide +kernel); have g32 := lv_neT h_32 (show (32 : Int32).toInt = 32 by decide +kernel); omega) (by decide) ?_
  exact law_end l C0 hS hl (by decide) (by decide)
