set_option maxHeartbeats 8000000 in
set_option maxRecDepth 100000 in
/-- THE LAW, from its entry -/
theorem whole_start {p : Program} {e : Env} {s : State} {m : MethodId} {below : List Frame} {meth : Method} {c : Code} (l : Launch) {b L : Nat} {xs : Nat → Int32} (hL : L ≤ 3072) (C0 : lw_At p s m meth c b L xs) : W p l e room_1 s m #[Value.ref b] below meth c s.heap [] 0 0 (lw_Z below #[Value.ref b] s) (entryFrame m ([Value.ref b] : List Value).toArray 4) := by
  obtain ⟨hx, hb, hr, hml, hown, hts, hX, hbl, hlocks, hgv⟩ := id C0
  obtain ⟨adK, adV, hW0⟩ := sg_of C0
  have htb := fun w (h : w ∈ TB) => hts w (List.mem_filter.mp h).1
  have hN : NW s := ⟨fun w hw => va_Nw.of (by revert w hw; decide +kernel) (hts w (nw_tbl w hw)), fun C hC => va_AO.of (hts _ (ao_tbl C hC)), over_moved (Vm.Alike.refl s.vm) (hts _ aa_tbl)⟩
  have hA : ∀ q : Nat, s.heap.size ≤ q → (fun q : Nat => s.heap.size ≤ q) q := fun _ h => h
  have hbA : ¬ (fun q : Nat => s.heap.size ≤ q) b := Nat.not_le.mpr hbl
  obtain ⟨c0, iS0, hKn0⟩ := u_known (C := R_WM) (T := F_WM) (N := 13) (n := 13) htb i_WM (htb (.instantiable R_WM 13) tw_974)
  obtain ⟨c1, iS1, hKn1⟩ := u_known (C := R_Rv) (T := F_Rv) (N := 6) (n := 6) htb i_Rv (htb (.instantiable R_Rv 6) tw_691)
  obtain ⟨c2, iS2, hKn2⟩ := u_known (C := R_Mn) (T := F_Mn) (N := 8) (n := 8) htb i_Mn (htb (.instantiable R_Mn 8) tw_707)
  obtain ⟨c3, iS3, hKn3⟩ := u_known (C := R_Or) (T := F_Or) (N := 9) (n := 9) htb i_Or (htb (.instantiable R_Or 9) tw_327)
  obtain ⟨c4, iS4, hKn4⟩ := u_known (C := R_Tp) (T := F_Tp) (N := 6) (n := 6) htb i_Tp (htb (.instantiable R_Tp 6) tw_698)
  obtain ⟨c5, iS5, hKn5⟩ := u_known (C := R_Bx) (T := F_Bx) (N := 7) (n := 7) htb i_Bx (htb (.instantiable R_Bx 7) tw_703)
  obtain ⟨c6, iS6, hKn6⟩ := u_known (C := R_Pn) (T := F_Pn) (N := 3) (n := 3) htb i_Pn (htb (.instantiable R_Pn 3) tw_641)
  obtain ⟨c7, iS7, hKn7⟩ := u_known (C := R_Md) (T := F_Md) (N := 64) (n := 64) htb i_Md (htb (.instantiable R_Md 64) tw_975)
  obtain ⟨c8, iS8, hKn8⟩ := u_known (C := R_Bd) (T := F_Bd) (N := 5) (n := 5) htb i_Bd (htb (.instantiable R_Bd 5) tw_457)
  obtain ⟨c9, iS9, hKn9⟩ := u_known (C := R_Bt) (T := F_Bt) (N := 6) (n := 6) htb i_Bt (htb (.instantiable R_Bt 6) tw_500)
  obtain ⟨c10, iS10, hKn10⟩ := u_known (C := R_Tr) (T := F_Tr) (N := 8) (n := 8) htb i_Tr (htb (.instantiable R_Tr 8) tw_594)
  obtain ⟨dC, dI, hKc⟩ : ∃ (dC : Nat → ClassId) (dI : Nat → Nat → Nat), ∀ (k : Nat) (q : vw_C), vwCl[k]? = some q → u_Kn s q.1 q.2.1 q.2.2 (dC k) (dI k) := by
    refine ⟨fun k => match k with | 0 => c0 | 1 => c1 | 2 => c2 | 3 => c3 | 4 => c4 | 5 => c5 | 6 => c6 | 7 => c7 | 8 => c8 | 9 => c9 | _ => c10, fun k => match k with | 0 => iS0 | 1 => iS1 | 2 => iS2 | 3 => iS3 | 4 => iS4 | 5 => iS5 | 6 => iS6 | 7 => iS7 | 8 => iS8 | 9 => iS9 | _ => iS10, ?_⟩
    intro k q hq
    match k, hq with
    | 0, hq => cases hq; exact hKn0
    | 1, hq => cases hq; exact hKn1
    | 2, hq => cases hq; exact hKn2
    | 3, hq => cases hq; exact hKn3
    | 4, hq => cases hq; exact hKn4
    | 5, hq => cases hq; exact hKn5
    | 6, hq => cases hq; exact hKn6
    | 7, hq => cases hq; exact hKn7
    | 8, hq => cases hq; exact hKn8
    | 9, hq => cases hq; exact hKn9
    | 10, hq => cases hq; exact hKn10
    | k + 11, hq => simp [vwCl] at hq
  have hS : va_S (fun q : Nat => s.heap.size ≤ q) s.heap s.heap [] := va_S.rf
  have hK : va_K (dC, dI) vwCl [] s := ⟨hKc, fun k q h => by simp at h⟩
  have hP : va_P (dC, dI) vwCl [] s.heap := fun k q h => by simp at h
  have hD : va_D (fun q : Nat => s.heap.size ≤ q) [] := ⟨fun i j p q h => by simp at h, fun k q h => by simp at h⟩
  have hl := lv_entry ([.ref b]) (n := 4) (Nat.le_of_ble_eq_true rfl)
  rw [lg_entry_eq]
  generalize (lg_sl ([.ref b]) ++ List.replicate (4 - (lg_sl ([.ref b])).length) Slot.unset).toArray = ls at hl ⊢
  have hl : lv_has ls 4 [(0, .ref b)] := hl
  refine va_new (ci := 0) (fs := [.null, .null, .null, .null, .null, .null, .null, .int 0, .int 0, .int 0, .int 0, .int 0, .null]) (C := R_WM) (T := F_WM) (N := 13) hx hb htb i_WM t_WM t_WM_ok hown (htb (.classLink R_law 7 R_WM) tw_976) (htb (.instantiable R_WM 13) tw_974) (htb (.initialized R_WM) tw_26) hK hP hD hS hA rfl df_WM (by decide +kernel) (by decide +kernel) d_law_0 (fun q0 H hP hD hS => ?_)
  have hP : va_P (dC, dI) vwCl [(q0, .inr (0, [.null, .null, .null, .null, .null, .null, .null, .int 0, .int 0, .int 0, .int 0, .int 0, .null]))] H := hP
  have hD : va_D (fun q : Nat => s.heap.size ≤ q) [(q0, .inr (0, [.null, .null, .null, .null, .null, .null, .null, .int 0, .int 0, .int 0, .int 0, .int 0, .null]))] := hD
  refine lv_dup hx hb d_law_3 rfl ?_
  have hFc := hb_free hD hS hA
  refine va_callv (va_runI (As := []) (rest := [.ref q0]) ⟨hx, hb, hml, hown, htb⟩ (c_WM_init l dC dI q0 _) (cwI 0 htb (gd_I tw_977) rfl rfl rfl (htb (.initialized R_WM) tw_26) (htb (.methodLink R_law 9 y_WM_init) tw_978) (htb (.instanceMethod y_WM_init) tw_979) rfl (by decide +kernel) ⟨Nat.le_of_ble_eq_true rfl, Nat.le_of_ble_eq_true rfl⟩) ⟨pc_blind, pc_pre hP hK hD hN⟩ rfl rfl hl.1 rfl (lv_room (Nat.le_of_ble_eq_true rfl)) d_law_4 ⟨by decide +kernel, by decide +kernel⟩) hS (fun q _ h => hFc q h) hFc (fun u t H1 locs ht hvm hw hB hz1 hk1 hS => ?_)
  obtain ⟨a, k, Lm, ha0, hLm, hPx, hKx0, hDx0⟩ := hB
  rw [ht] at hPx
  subst ha0
  have hKx := va_K.moved hvm.symm hKx0
  have hDx : va_D (fun q : Nat => s.heap.size ≤ q) (XW a k Lm) := hDx0.weaken (fun _ q _ h => hFc q.1 h)
  refine W.widen (k := 59) (n := 3076) (by decide +kernel) (by decide +kernel) ?_
  refine lv_astore_n (lv' := [(1, .ref (a 0)), (0, .ref b)]) hx hb d_law_7 rfl hl (by decide) rfl (fun ls hl => ?_)
  refine va_new (ci := 7) (fs := [.int 0, .int 0, .int 0, .null, .int 0, .null, .null, .null, .null, .null, .null, .null, .null, .null, .null, .null, .null, .null, .null, .null, .null, .int 0, .null, .null, .null, .null, .null, .null, .int 0, .int 0, .null, .null, .null, .null, .null, .null, .null, .null, .null, .null, .null, .null, .int 0, .int 0, .int 0, .int 0, .int 0, .int 0, .null, .null, .null, .null, .null, .null, .null, .null, .long 0, .long 0, .long 0, .null, .int 0, .null, .null, .null]) (C := R_Md) (T := F_Md) (N := 64) hx hb htb i_Md t_Md t_Md_ok hown (htb (.classLink R_law 10 R_Md) tw_980) (htb (.instantiable R_Md 64) tw_975) (htb (.initialized R_Md) tw_89) hKx hPx hDx hS hA rfl df_Md (by decide +kernel) (by decide +kernel) d_law_8 (fun q1 H hP hD hS => ?_)
  refine lv_dup hx hb d_law_11 rfl ?_
  have hPc : va_P (dC, dI) vwCl [(q1, .inr (7, [.int 0, .int 0, .int 0, .null, .int 0, .null, .null, .null, .null, .null, .null, .null, .null, .null, .null, .null, .null, .null, .null, .null, .null, .int 0, .null, .null, .null, .null, .null, .null, .int 0, .int 0, .null, .null, .null, .null, .null, .null, .null, .null, .null, .null, .null, .null, .int 0, .int 0, .int 0, .int 0, .int 0, .int 0, .null, .null, .null, .null, .null, .null, .null, .null, .long 0, .long 0, .long 0, .null, .int 0, .null, .null, .null]))] H := hb_right hP
  have hDc : va_D (fun q : Nat => s.heap.size ≤ q) [(q1, .inr (7, [.int 0, .int 0, .int 0, .null, .int 0, .null, .null, .null, .null, .null, .null, .null, .null, .null, .null, .null, .null, .null, .null, .null, .null, .int 0, .null, .null, .null, .null, .null, .null, .int 0, .int 0, .null, .null, .null, .null, .null, .null, .null, .null, .null, .null, .null, .null, .int 0, .int 0, .int 0, .int 0, .int 0, .int 0, .null, .null, .null, .null, .null, .null, .null, .null, .long 0, .long 0, .long 0, .null, .int 0, .null, .null, .null]))] := hb_rightD hD
  have hFc := hb_free hDc hS hA
  refine va_callv (va_runI (As := []) (rest := [.ref q1]) ⟨hx, hb, hml, hown, htb⟩ (c_Md_init l dC dI q1 _) (cwI 0 htb (gd_I tw_981) rfl rfl rfl (htb (.initialized R_Md) tw_89) (htb (.methodLink R_law 12 y_Md_init) tw_982) (htb (.instanceMethod y_Md_init) tw_983) rfl (by decide +kernel) ⟨Nat.le_of_ble_eq_true rfl, Nat.le_of_ble_eq_true rfl⟩) ⟨pc_blind, pc_pre hPc hK hDc hN⟩ rfl rfl hl.1 rfl (lv_room (Nat.le_of_ble_eq_true rfl)) d_law_12 ⟨by decide +kernel, by decide +kernel⟩) hS (fun q _ h => hFc q h) hFc (fun u t H1 locs ht hvm hw hB hz1 hk1 hS => ?_)
  obtain ⟨a2, k2, ha0, hPm, hKm0, hDm⟩ := hB
  rw [ht] at hPm
  subst ha0
  have hKm := va_K.moved hvm.symm hKm0
  obtain ⟨hP, hD⟩ := va_joinQ (X := [(a2 0, .inr (7, [.int 0, .int 0, .int 0, .null, .int 0, .null, .null, .null, .null, .null, .null, .null, .null, .null, .null, .null, .null, .null, .null, .null, .null, .int 0, .null, .null, .null, .null, .null, .null, .int 0, .int 0, .null, .null, .null, .null, .null, .null, .null, .null, .null, .null, .null, .null, .int 0, .int 0, .int 0, .int 0, .int 0, .int 0, .null, .null, .null, .null, .null, .null, .null, .null, .long 0, .long 0, .long 0, .null, .int 0, .null, .null, .null]))]) (cx := [(a2 0, .inr (7, [.int 0, .int 0, .int 0, .null, .int 0, .null, .null, .null, .null, .null, .null, .null, .null, .null, .null, .null, .null, .null, .null, .null, .null, .int 0, .null, .null, .null, .null, .null, .null, .int 0, .int 0, .null, .null, .null, .null, .null, .null, .null, .null, .null, .null, .null, .null, .int 0, .int 0, .int 0, .int 0, .int 0, .int 0, .null, .null, .null, .null, .null, .null, .null, .null, .long 0, .long 0, .long 0, .null, .int 0, .null, .null, .null]))]) (wr := []) (pl := XW a k Lm) (hb_flip hP) (hb_flipD hD) [0] [] rfl rfl (by decide) (by decide) hk1 hFc hPm hDm
  have hP : va_P (dC, dI) vwCl (MW a2 k2 ++ XW a k Lm) H1 := hP
  have hD : va_D (fun q : Nat => s.heap.size ≤ q) (MW a2 k2 ++ XW a k Lm) := hD
  refine W.widen (k := 107) (n := 19066) (by decide +kernel) (by decide +kernel) ?_
  refine lv_astore_n (lv' := [(2, .ref (a2 0)), (1, .ref (a 0)), (0, .ref b)]) hx hb d_law_15 rfl hl (by decide) rfl (fun ls hl => ?_)
  refine lv_iconst (v := 0) hx hb d_law_16 (by decide +kernel) ?_
  refine lv_istore_n (lv' := [(3, .int 0), (2, .ref (a2 0)), (1, .ref (a 0)), (0, .ref b)]) hx hb d_law_17 rfl hl (by decide) rfl (fun ls hl => ?_)
  obtain ⟨ct, hKt, eX, eM⟩ := start_k hKx hKm
  rw [eX, eM] at hP hD
  have hap := start_ap hD
  rw [← start_w, ← pfn_tw hap] at hP hD
  have hOk := start_ok hap
  have hmx := (start_mx hap).1
  have hmm := (start_mm hap).1
  have hTi := start_t hap
  exact law_loop l C0 hL hKt hN hW0 512 0 107 19066 (by omega) (by omega) (by omega) (by omega) _ _ H1 locs ls hOk hmx hmm hTi (start_cplC hap hLm) hP hD hS hl
