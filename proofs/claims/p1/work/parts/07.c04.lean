def f_WM_feed (p_0 : Int32) (p_1 : Int32) (p_2 : Int32) (p_3 : Int32) (p_4 : Int32) : Int32 := 20
set_option maxHeartbeats 4000000 in
set_option maxRecDepth 100000 in
theorem c_WM_feed (l : Launch) (dC : Nat → ClassId) (dI : Nat → Nat → Nat) (a : Nat → Nat) (k : Nat → ClassId) (L : List Nat) (hL : L.length = 40) (sz : Nat) (p_0 : Int32) (p_1 : Int32) (p_2 : Int32) (p_3 : Int32) (p_4 : Int32)  : Met l y_WM_feed (.code y_WM_feed b_WM_feed 6 (some .int) :: TB) ({ frames := 1, cells := 0, slots := 0, locals := 21 }) (va_Pc [.ref (a 0), .int p_0, .int p_1, .int p_2, .int p_3, .int p_4] (PC dC dI (XW a k L) (XT k) sz)) (va_Qi (fun r (_ : Unit) => r = f_WM_feed p_0 p_1 p_2 p_3 p_4) (fun (_ : Unit) (_ : State) => True) (va_A (XW a k L) sz)) 0 0 (va_A (XW a k L) sz) := by
  refine Met.ofW (cc := b_WM_feed) (maxL := 6) (ret := (some .int)) (by decide) rfl ?_
  intro p e s m args below meth c s₁ B hml hv
  obtain ⟨rfl, hsz, hP, hK, hD0, hN⟩ := hv
  have hx := B.exec
  have hb := B.bytes
  have hr := B.returns
  have hts := atoms_spec (ws := (.code y_WM_feed b_WM_feed 6 (some .int) :: TB)) B.pre
  have htb := fun w (h : w ∈ TB) => hts w (List.mem_cons_of_mem _ h)
  have hown : s.vm.findClass R_WM = some m.cls := findClass_of_methodNamed B.named
  have hlocks := B.notSynchronized
  have hl := lv_entry ([.ref (a 0), .int p_0, .int p_1, .int p_2, .int p_3, .int p_4]) (n := 6) (Nat.le_of_ble_eq_true rfl)
  rw [lg_entry_eq]
  generalize (lg_sl ([.ref (a 0), .int p_0, .int p_1, .int p_2, .int p_3, .int p_4]) ++ List.replicate (6 - (lg_sl ([.ref (a 0), .int p_0, .int p_1, .int p_2, .int p_3, .int p_4])).length) Slot.unset).toArray = ls at hl ⊢
  have hl : lv_has ls 6 [(0, .ref (a 0)), (1, .int p_0), (2, .int p_1), (3, .int p_2), (4, .int p_3), (5, .int p_4)] := hl
  subst hsz
  have hD := hD0.self (sz := s.heap.size)
  obtain ⟨A, hAe⟩ : ∃ A, va_A (XW a k L) s.heap.size = A := ⟨_, rfl⟩
  rw [hAe] at hD
  have hA : ∀ q : Nat, s.heap.size ≤ q → A q := fun q h => by rw [← hAe]; exact Or.inr h
  have hS : va_S A s.heap s.heap [] := va_S.rf
  have hP := hP
  refine lv_aload_n hx hb d_WM_feed_0 rfl (lv_at hl 0 rfl) ?_
  refine va_get (D := (dC, dI)) (ci := 0) (v := .ref (a 10)) (C := R_WM) (T := F_WM) (N := 13) hx hb htb i_WM hown hK hP 0 rfl rfl 5 (by decide) (htb (.fieldLink R_WM 43 "WaterMen" "tape" "LWaterMen$Tape;") tw_84) (fun _ h9 => h9) rfl d_WM_feed_1 ?_
  refine vp_callSi (va_Run.run (va_runV (As := []) (rest := []) ⟨hx, hb, hml, hown, htb⟩ (c_Tp_hasRoomForFive l dC dI a k L hL) (cwV 0 htb (gd_V tw_192 tw_193 tw_194 tw_79 tw_191) rfl rfl rfl (by decide +kernel) ⟨Nat.le_of_ble_eq_true rfl, Nat.le_of_ble_eq_true rfl⟩) ⟨pr_blind, va_recv hK hP (ci := 4) (q0 := 10) rfl rfl, pr_pre hP hK hN⟩ rfl rfl hl.1 rfl (lv_room (Nat.le_of_ble_eq_true rfl)) d_WM_feed_4 ⟨Nat.le_of_ble_eq_true rfl, Nat.le_of_ble_eq_true rfl⟩)) (fun r er => ?_)
  subst er
  refine hb_ti 1 rfl ?_
  refine lv_if_ne (tgt := 13) hx hb d_WM_feed_7 (by decide) (fun _ => ?_) (fun h => absurd h (by decide +kernel))
  have hP := hP.sub (ws' := [((a 0), .inr (0, [.ref (a 1), .ref (a 6), .ref (a 7), .ref (a 8), .ref (a 9), .ref (a 10), .ref (a 12), .int 0, .int 0, .int 0, .int 0, .int 0, .ref (a 15)])), ((a 10), .inr (4, [.ref (a 11), .int 0, .int 0, .int 0, .int 0, .int 0])), ((a 11), .inl ((k 11), 400, .inl (fun _ => 0)))]) [0, 10, 11] rfl
  have hD := hD.sub (ws' := [((a 0), .inr (0, [.ref (a 1), .ref (a 6), .ref (a 7), .ref (a 8), .ref (a 9), .ref (a 10), .ref (a 12), .int 0, .int 0, .int 0, .int 0, .int 0, .ref (a 15)])), ((a 10), .inr (4, [.ref (a 11), .int 0, .int 0, .int 0, .int 0, .int 0])), ((a 11), .inl ((k 11), 400, .inl (fun _ => 0)))]) [0, 10, 11] (by decide) rfl
  have hK := hK.sub (tys' := [((k 11), .byte)]) [8] rfl
  refine lv_aload_n hx hb d_WM_feed_13 rfl (lv_at hl 0 rfl) ?_
  refine va_get (D := (dC, dI)) (ci := 0) (v := .ref (a 10)) (C := R_WM) (T := F_WM) (N := 13) hx hb htb i_WM hown hK hP 0 rfl rfl 5 (by decide) (htb (.fieldLink R_WM 43 "WaterMen" "tape" "LWaterMen$Tape;") tw_84) (fun _ h9 => h9) rfl d_WM_feed_14 ?_
  refine lv_iload_n hx hb d_WM_feed_17 rfl (lv_at hl 1 rfl) ?_
  have hPc := hP.sub (ws' := [((a 10), .inr (4, [.ref (a 11), .int 0, .int 0, .int 0, .int 0, .int 0])), ((a 11), .inl ((k 11), 400, .inl (fun _ => 0)))]) [1, 2] rfl
  have hDc := hD.sub (ws' := [((a 10), .inr (4, [.ref (a 11), .int 0, .int 0, .int 0, .int 0, .int 0])), ((a 11), .inl ((k 11), 400, .inl (fun _ => 0)))]) [1, 2] (by decide) rfl
  have hKc := hK.sub (tys' := [((k 11), .byte)]) [0] rfl
  have hFc := va_free (wc := [((a 10), .inr (4, [.ref (a 11), .int 0, .int 0, .int 0, .int 0, .int 0])), ((a 11), .inl ((k 11), 400, .inl (fun _ => 0)))]) hD hS hA [1, 2] rfl
  refine va_callv (va_runV (As := [.int p_0]) (rest := []) ⟨hx, hb, hml, hown, htb⟩ (c_Tp_append_c5 l dC dI (a 10) (a 11) (k 11) _ p_0) (cwV 1 htb (gd_V tw_196 tw_197 tw_198 tw_79 tw_195) rfl rfl rfl (by decide +kernel) ⟨Nat.le_of_ble_eq_true rfl, Nat.le_of_ble_eq_true rfl⟩) ⟨pc_blind, va_recv hKc hPc (ci := 4) (q0 := 0) rfl rfl, pc_pre hPc hKc hDc hN⟩ rfl rfl hl.1 rfl (lv_room (Nat.le_of_ble_eq_true rfl)) d_WM_feed_18 ⟨Nat.le_of_ble_eq_true rfl, Nat.le_of_ble_eq_true rfl⟩) hS (fun q _ h => hFc q h) hFc (fun u t H1 locs ht hvm hw hB hz1 hk1 hS => ?_)
  obtain ⟨z_1, hP1, hK1, hD1⟩ := hB
  rw [ht] at hP1
  have hK1 := va_K.moved hvm.symm hK1
  obtain ⟨hP, hD⟩ := va_join (wr := [((a 0), .inr (0, [.ref (a 1), .ref (a 6), .ref (a 7), .ref (a 8), .ref (a 9), .ref (a 10), .ref (a 12), .int 0, .int 0, .int 0, .int 0, .int 0, .ref (a 15)]))]) (w1 := [((a 10), .inr (4, [.ref (a 11), .int 4, .int 0, .int 0, .int 0, .int 0])), ((a 11), .inl ((k 11), 400, .inl z_1))]) hP hD [1, 2] [0] rfl rfl (by decide) (by decide) hk1 hFc hP1 hD1
  have hK := (hK.sub (tys' := []) [] rfl).app hK1
  generalize H1 = H at hP hS ⊢
  have hP : va_P (dC, dI) vwCl [((a 0), .inr (0, [.ref (a 1), .ref (a 6), .ref (a 7), .ref (a 8), .ref (a 9), .ref (a 10), .ref (a 12), .int 0, .int 0, .int 0, .int 0, .int 0, .ref (a 15)])), ((a 10), .inr (4, [.ref (a 11), .int 4, .int 0, .int 0, .int 0, .int 0])), ((a 11), .inl ((k 11), 400, .inl z_1))] H := hP
  have hD : va_D A [((a 0), .inr (0, [.ref (a 1), .ref (a 6), .ref (a 7), .ref (a 8), .ref (a 9), .ref (a 10), .ref (a 12), .int 0, .int 0, .int 0, .int 0, .int 0, .ref (a 15)])), ((a 10), .inr (4, [.ref (a 11), .int 4, .int 0, .int 0, .int 0, .int 0])), ((a 11), .inl ((k 11), 400, .inl z_1))] := hD
  have hK : va_K (dC, dI) vwCl [((k 11), .byte)] s := hK
  refine lv_aload_n hx hb d_WM_feed_21 rfl (lv_at hl 0 rfl) ?_
  refine va_get (D := (dC, dI)) (ci := 0) (v := .ref (a 10)) (C := R_WM) (T := F_WM) (N := 13) hx hb htb i_WM hown hK hP 0 rfl rfl 5 (by decide) (htb (.fieldLink R_WM 43 "WaterMen" "tape" "LWaterMen$Tape;") tw_84) (fun _ h9 => h9) rfl d_WM_feed_22 ?_
  refine lv_iload_n hx hb d_WM_feed_25 rfl (lv_at hl 2 rfl) ?_
  have hPc := hP.sub (ws' := [((a 10), .inr (4, [.ref (a 11), .int 4, .int 0, .int 0, .int 0, .int 0])), ((a 11), .inl ((k 11), 400, .inl z_1))]) [1, 2] rfl
  have hDc := hD.sub (ws' := [((a 10), .inr (4, [.ref (a 11), .int 4, .int 0, .int 0, .int 0, .int 0])), ((a 11), .inl ((k 11), 400, .inl z_1))]) [1, 2] (by decide) rfl
  have hKc := hK.sub (tys' := [((k 11), .byte)]) [0] rfl
  have hFc := va_free (wc := [((a 10), .inr (4, [.ref (a 11), .int 4, .int 0, .int 0, .int 0, .int 0])), ((a 11), .inl ((k 11), 400, .inl z_1))]) hD hS hA [1, 2] rfl
  refine va_callv (va_runV (As := [.int p_1]) (rest := []) ⟨hx, hb, hml, hown, htb⟩ (c_Tp_append_c6 l dC dI (a 10) (a 11) (k 11) z_1 _ p_1) (cwV 1 htb (gd_V tw_196 tw_197 tw_198 tw_79 tw_195) rfl rfl rfl (by decide +kernel) ⟨Nat.le_of_ble_eq_true rfl, Nat.le_of_ble_eq_true rfl⟩) ⟨pc_blind, va_recv hKc hPc (ci := 4) (q0 := 0) rfl rfl, pc_pre hPc hKc hDc hN⟩ rfl rfl hl.1 rfl (lv_room (Nat.le_of_ble_eq_true rfl)) d_WM_feed_26 ⟨Nat.le_of_ble_eq_true rfl, Nat.le_of_ble_eq_true rfl⟩) hS (fun q _ h => hFc q h) hFc (fun u t H1 locs ht hvm hw hB hz1 hk1 hS => ?_)
  obtain ⟨z_2, hP1, hK1, hD1⟩ := hB
  rw [ht] at hP1
  have hK1 := va_K.moved hvm.symm hK1
  obtain ⟨hP, hD⟩ := va_join (wr := [((a 0), .inr (0, [.ref (a 1), .ref (a 6), .ref (a 7), .ref (a 8), .ref (a 9), .ref (a 10), .ref (a 12), .int 0, .int 0, .int 0, .int 0, .int 0, .ref (a 15)]))]) (w1 := [((a 10), .inr (4, [.ref (a 11), .int 8, .int 0, .int 0, .int 0, .int 0])), ((a 11), .inl ((k 11), 400, .inl z_2))]) hP hD [1, 2] [0] rfl rfl (by decide) (by decide) hk1 hFc hP1 hD1
  have hK := (hK.sub (tys' := []) [] rfl).app hK1
  generalize H1 = H at hP hS ⊢
  have hP : va_P (dC, dI) vwCl [((a 0), .inr (0, [.ref (a 1), .ref (a 6), .ref (a 7), .ref (a 8), .ref (a 9), .ref (a 10), .ref (a 12), .int 0, .int 0, .int 0, .int 0, .int 0, .ref (a 15)])), ((a 10), .inr (4, [.ref (a 11), .int 8, .int 0, .int 0, .int 0, .int 0])), ((a 11), .inl ((k 11), 400, .inl z_2))] H := hP
  have hD : va_D A [((a 0), .inr (0, [.ref (a 1), .ref (a 6), .ref (a 7), .ref (a 8), .ref (a 9), .ref (a 10), .ref (a 12), .int 0, .int 0, .int 0, .int 0, .int 0, .ref (a 15)])), ((a 10), .inr (4, [.ref (a 11), .int 8, .int 0, .int 0, .int 0, .int 0])), ((a 11), .inl ((k 11), 400, .inl z_2))] := hD
  have hK : va_K (dC, dI) vwCl [((k 11), .byte)] s := hK
  refine lv_aload_n hx hb d_WM_feed_29 rfl (lv_at hl 0 rfl) ?_
  refine va_get (D := (dC, dI)) (ci := 0) (v := .ref (a 10)) (C := R_WM) (T := F_WM) (N := 13) hx hb htb i_WM hown hK hP 0 rfl rfl 5 (by decide) (htb (.fieldLink R_WM 43 "WaterMen" "tape" "LWaterMen$Tape;") tw_84) (fun _ h9 => h9) rfl d_WM_feed_30 ?_
  refine lv_iload_n hx hb d_WM_feed_33 rfl (lv_at hl 3 rfl) ?_
  have hPc := hP.sub (ws' := [((a 10), .inr (4, [.ref (a 11), .int 8, .int 0, .int 0, .int 0, .int 0])), ((a 11), .inl ((k 11), 400, .inl z_2))]) [1, 2] rfl
  have hDc := hD.sub (ws' := [((a 10), .inr (4, [.ref (a 11), .int 8, .int 0, .int 0, .int 0, .int 0])), ((a 11), .inl ((k 11), 400, .inl z_2))]) [1, 2] (by decide) rfl
  have hKc := hK.sub (tys' := [((k 11), .byte)]) [0] rfl
  have hFc := va_free (wc := [((a 10), .inr (4, [.ref (a 11), .int 8, .int 0, .int 0, .int 0, .int 0])), ((a 11), .inl ((k 11), 400, .inl z_2))]) hD hS hA [1, 2] rfl
  refine va_callv (va_runV (As := [.int p_2]) (rest := []) ⟨hx, hb, hml, hown, htb⟩ (c_Tp_append_c7 l dC dI (a 10) (a 11) (k 11) z_2 _ p_2) (cwV 1 htb (gd_V tw_196 tw_197 tw_198 tw_79 tw_195) rfl rfl rfl (by decide +kernel) ⟨Nat.le_of_ble_eq_true rfl, Nat.le_of_ble_eq_true rfl⟩) ⟨pc_blind, va_recv hKc hPc (ci := 4) (q0 := 0) rfl rfl, pc_pre hPc hKc hDc hN⟩ rfl rfl hl.1 rfl (lv_room (Nat.le_of_ble_eq_true rfl)) d_WM_feed_34 ⟨Nat.le_of_ble_eq_true rfl, Nat.le_of_ble_eq_true rfl⟩) hS (fun q _ h => hFc q h) hFc (fun u t H1 locs ht hvm hw hB hz1 hk1 hS => ?_)
  obtain ⟨z_3, hP1, hK1, hD1⟩ := hB
  rw [ht] at hP1
  have hK1 := va_K.moved hvm.symm hK1
  obtain ⟨hP, hD⟩ := va_join (wr := [((a 0), .inr (0, [.ref (a 1), .ref (a 6), .ref (a 7), .ref (a 8), .ref (a 9), .ref (a 10), .ref (a 12), .int 0, .int 0, .int 0, .int 0, .int 0, .ref (a 15)]))]) (w1 := [((a 10), .inr (4, [.ref (a 11), .int 12, .int 0, .int 0, .int 0, .int 0])), ((a 11), .inl ((k 11), 400, .inl z_3))]) hP hD [1, 2] [0] rfl rfl (by decide) (by decide) hk1 hFc hP1 hD1
  have hK := (hK.sub (tys' := []) [] rfl).app hK1
  generalize H1 = H at hP hS ⊢
  have hP : va_P (dC, dI) vwCl [((a 0), .inr (0, [.ref (a 1), .ref (a 6), .ref (a 7), .ref (a 8), .ref (a 9), .ref (a 10), .ref (a 12), .int 0, .int 0, .int 0, .int 0, .int 0, .ref (a 15)])), ((a 10), .inr (4, [.ref (a 11), .int 12, .int 0, .int 0, .int 0, .int 0])), ((a 11), .inl ((k 11), 400, .inl z_3))] H := hP
  have hD : va_D A [((a 0), .inr (0, [.ref (a 1), .ref (a 6), .ref (a 7), .ref (a 8), .ref (a 9), .ref (a 10), .ref (a 12), .int 0, .int 0, .int 0, .int 0, .int 0, .ref (a 15)])), ((a 10), .inr (4, [.ref (a 11), .int 12, .int 0, .int 0, .int 0, .int 0])), ((a 11), .inl ((k 11), 400, .inl z_3))] := hD
  have hK : va_K (dC, dI) vwCl [((k 11), .byte)] s := hK
  refine lv_aload_n hx hb d_WM_feed_37 rfl (lv_at hl 0 rfl) ?_
  refine va_get (D := (dC, dI)) (ci := 0) (v := .ref (a 10)) (C := R_WM) (T := F_WM) (N := 13) hx hb htb i_WM hown hK hP 0 rfl rfl 5 (by decide) (htb (.fieldLink R_WM 43 "WaterMen" "tape" "LWaterMen$Tape;") tw_84) (fun _ h9 => h9) rfl d_WM_feed_38 ?_
  refine lv_iload hx hb d_WM_feed_41 (lv_at hl 4 rfl) ?_
  have hPc := hP.sub (ws' := [((a 10), .inr (4, [.ref (a 11), .int 12, .int 0, .int 0, .int 0, .int 0])), ((a 11), .inl ((k 11), 400, .inl z_3))]) [1, 2] rfl
  have hDc := hD.sub (ws' := [((a 10), .inr (4, [.ref (a 11), .int 12, .int 0, .int 0, .int 0, .int 0])), ((a 11), .inl ((k 11), 400, .inl z_3))]) [1, 2] (by decide) rfl
  have hKc := hK.sub (tys' := [((k 11), .byte)]) [0] rfl
  have hFc := va_free (wc := [((a 10), .inr (4, [.ref (a 11), .int 12, .int 0, .int 0, .int 0, .int 0])), ((a 11), .inl ((k 11), 400, .inl z_3))]) hD hS hA [1, 2] rfl
  refine va_callv (va_runV (As := [.int p_3]) (rest := []) ⟨hx, hb, hml, hown, htb⟩ (c_Tp_append_c8 l dC dI (a 10) (a 11) (k 11) z_3 _ p_3) (cwV 1 htb (gd_V tw_196 tw_197 tw_198 tw_79 tw_195) rfl rfl rfl (by decide +kernel) ⟨Nat.le_of_ble_eq_true rfl, Nat.le_of_ble_eq_true rfl⟩) ⟨pc_blind, va_recv hKc hPc (ci := 4) (q0 := 0) rfl rfl, pc_pre hPc hKc hDc hN⟩ rfl rfl hl.1 rfl (lv_room (Nat.le_of_ble_eq_true rfl)) d_WM_feed_43 ⟨Nat.le_of_ble_eq_true rfl, Nat.le_of_ble_eq_true rfl⟩) hS (fun q _ h => hFc q h) hFc (fun u t H1 locs ht hvm hw hB hz1 hk1 hS => ?_)
  obtain ⟨z_4, hP1, hK1, hD1⟩ := hB
  rw [ht] at hP1
  have hK1 := va_K.moved hvm.symm hK1
  obtain ⟨hP, hD⟩ := va_join (wr := [((a 0), .inr (0, [.ref (a 1), .ref (a 6), .ref (a 7), .ref (a 8), .ref (a 9), .ref (a 10), .ref (a 12), .int 0, .int 0, .int 0, .int 0, .int 0, .ref (a 15)]))]) (w1 := [((a 10), .inr (4, [.ref (a 11), .int 16, .int 0, .int 0, .int 0, .int 0])), ((a 11), .inl ((k 11), 400, .inl z_4))]) hP hD [1, 2] [0] rfl rfl (by decide) (by decide) hk1 hFc hP1 hD1
  have hK := (hK.sub (tys' := []) [] rfl).app hK1
  generalize H1 = H at hP hS ⊢
  have hP : va_P (dC, dI) vwCl [((a 0), .inr (0, [.ref (a 1), .ref (a 6), .ref (a 7), .ref (a 8), .ref (a 9), .ref (a 10), .ref (a 12), .int 0, .int 0, .int 0, .int 0, .int 0, .ref (a 15)])), ((a 10), .inr (4, [.ref (a 11), .int 16, .int 0, .int 0, .int 0, .int 0])), ((a 11), .inl ((k 11), 400, .inl z_4))] H := hP
  have hD : va_D A [((a 0), .inr (0, [.ref (a 1), .ref (a 6), .ref (a 7), .ref (a 8), .ref (a 9), .ref (a 10), .ref (a 12), .int 0, .int 0, .int 0, .int 0, .int 0, .ref (a 15)])), ((a 10), .inr (4, [.ref (a 11), .int 16, .int 0, .int 0, .int 0, .int 0])), ((a 11), .inl ((k 11), 400, .inl z_4))] := hD
  have hK : va_K (dC, dI) vwCl [((k 11), .byte)] s := hK
  refine lv_aload_n hx hb d_WM_feed_46 rfl (lv_at hl 0 rfl) ?_
  refine va_get (D := (dC, dI)) (ci := 0) (v := .ref (a 10)) (C := R_WM) (T := F_WM) (N := 13) hx hb htb i_WM hown hK hP 0 rfl rfl 5 (by decide) (htb (.fieldLink R_WM 43 "WaterMen" "tape" "LWaterMen$Tape;") tw_84) (fun _ h9 => h9) rfl d_WM_feed_47 ?_
  refine lv_iload hx hb d_WM_feed_50 (lv_at hl 5 rfl) ?_
  have hPc := hP.sub (ws' := [((a 10), .inr (4, [.ref (a 11), .int 16, .int 0, .int 0, .int 0, .int 0])), ((a 11), .inl ((k 11), 400, .inl z_4))]) [1, 2] rfl
  have hDc := hD.sub (ws' := [((a 10), .inr (4, [.ref (a 11), .int 16, .int 0, .int 0, .int 0, .int 0])), ((a 11), .inl ((k 11), 400, .inl z_4))]) [1, 2] (by decide) rfl
  have hKc := hK.sub (tys' := [((k 11), .byte)]) [0] rfl
  have hFc := va_free (wc := [((a 10), .inr (4, [.ref (a 11), .int 16, .int 0, .int 0, .int 0, .int 0])), ((a 11), .inl ((k 11), 400, .inl z_4))]) hD hS hA [1, 2] rfl
  refine va_callv (va_runV (As := [.int p_4]) (rest := []) ⟨hx, hb, hml, hown, htb⟩ (c_Tp_append_c9 l dC dI (a 10) (a 11) (k 11) z_4 _ p_4) (cwV 1 htb (gd_V tw_196 tw_197 tw_198 tw_79 tw_195) rfl rfl rfl (by decide +kernel) ⟨Nat.le_of_ble_eq_true rfl, Nat.le_of_ble_eq_true rfl⟩) ⟨pc_blind, va_recv hKc hPc (ci := 4) (q0 := 0) rfl rfl, pc_pre hPc hKc hDc hN⟩ rfl rfl hl.1 rfl (lv_room (Nat.le_of_ble_eq_true rfl)) d_WM_feed_52 ⟨Nat.le_of_ble_eq_true rfl, Nat.le_of_ble_eq_true rfl⟩) hS (fun q _ h => hFc q h) hFc (fun u t H1 locs ht hvm hw hB hz1 hk1 hS => ?_)
  obtain ⟨z_5, hP1, hK1, hD1⟩ := hB
  rw [ht] at hP1
  have hK1 := va_K.moved hvm.symm hK1
  obtain ⟨hP, hD⟩ := va_join (wr := [((a 0), .inr (0, [.ref (a 1), .ref (a 6), .ref (a 7), .ref (a 8), .ref (a 9), .ref (a 10), .ref (a 12), .int 0, .int 0, .int 0, .int 0, .int 0, .ref (a 15)]))]) (w1 := [((a 10), .inr (4, [.ref (a 11), .int 20, .int 0, .int 0, .int 0, .int 0])), ((a 11), .inl ((k 11), 400, .inl z_5))]) hP hD [1, 2] [0] rfl rfl (by decide) (by decide) hk1 hFc hP1 hD1
  have hK := (hK.sub (tys' := []) [] rfl).app hK1
  generalize H1 = H at hP hS ⊢
  have hP : va_P (dC, dI) vwCl [((a 0), .inr (0, [.ref (a 1), .ref (a 6), .ref (a 7), .ref (a 8), .ref (a 9), .ref (a 10), .ref (a 12), .int 0, .int 0, .int 0, .int 0, .int 0, .ref (a 15)])), ((a 10), .inr (4, [.ref (a 11), .int 20, .int 0, .int 0, .int 0, .int 0])), ((a 11), .inl ((k 11), 400, .inl z_5))] H := hP
  have hD : va_D A [((a 0), .inr (0, [.ref (a 1), .ref (a 6), .ref (a 7), .ref (a 8), .ref (a 9), .ref (a 10), .ref (a 12), .int 0, .int 0, .int 0, .int 0, .int 0, .ref (a 15)])), ((a 10), .inr (4, [.ref (a 11), .int 20, .int 0, .int 0, .int 0, .int 0])), ((a 11), .inl ((k 11), 400, .inl z_5))] := hD
  have hK : va_K (dC, dI) vwCl [((k 11), .byte)] s := hK
  refine lv_aload_n hx hb d_WM_feed_55 rfl (lv_at hl 0 rfl) ?_
  refine va_get (D := (dC, dI)) (ci := 0) (v := .ref (a 10)) (C := R_WM) (T := F_WM) (N := 13) hx hb htb i_WM hown hK hP 0 rfl rfl 5 (by decide) (htb (.fieldLink R_WM 43 "WaterMen" "tape" "LWaterMen$Tape;") tw_84) (fun _ h9 => h9) rfl d_WM_feed_56 ?_
  refine va_get (D := (dC, dI)) (ci := 4) (v := .int 20) (C := R_Tp) (T := F_Tp) (N := 6) hx hb htb i_Tp hown hK hP 1 rfl rfl 1 (by decide) (htb (.fieldLink R_WM 207 "WaterMen$Tape" "length" "I") tw_199) (fun _ h9 => h9) rfl d_WM_feed_59 ?_
  refine W.widen (k := 0) (n := 0) (Nat.le_of_ble_eq_true rfl) (Nat.le_of_ble_eq_true rfl) ?_
  exact W.iret (v := 20) hx hb hr (fun t ht hW => ⟨⟨20, (), rfl, rfl, trivial⟩, by rw [hAe]; exact hS.F ht⟩) (by rw [hAe]; exact hS.2.2) d_WM_feed_62
def f_WM_end (p_0 : Int32) : Int32 := if p_0 < 0 then ((-1)) else (if p_0 ≤ 0 then (p_0) else ((-1)))
set_option maxHeartbeats 4000000 in
set_option maxRecDepth 100000 in
theorem c_WM_end (l : Launch) (dC : Nat → ClassId) (dI : Nat → Nat → Nat) (a : Nat → Nat) (k : Nat → ClassId) (L : List Nat) (hL : L.length = 40) (sz : Nat) (p_0 : Int32)  : Met l y_WM_end (.code y_WM_end b_WM_end 2 (some .int) :: TB) ({ frames := 0, cells := 0, slots := 0, locals := 0 }) (va_Pc [.ref (a 0), .int p_0] (PC dC dI (XW a k L) (XT k) sz)) (va_Qi (fun r (_ : Unit) => r = f_WM_end p_0) (fun (_ : Unit) (_ : State) => True) (va_A (XW a k L) sz)) 0 0 (va_A (XW a k L) sz) := by
  refine Met.ofW (cc := b_WM_end) (maxL := 2) (ret := (some .int)) (by decide) rfl ?_
  intro p e s m args below meth c s₁ B hml hv
  obtain ⟨rfl, hsz, hP, hK, hD0, hN⟩ := hv
  have hx := B.exec
  have hb := B.bytes
  have hr := B.returns
  have hts := atoms_spec (ws := (.code y_WM_end b_WM_end 2 (some .int) :: TB)) B.pre
  have htb := fun w (h : w ∈ TB) => hts w (List.mem_cons_of_mem _ h)
  have hown : s.vm.findClass R_WM = some m.cls := findClass_of_methodNamed B.named
  have hlocks := B.notSynchronized
  have hl := lv_entry ([.ref (a 0), .int p_0]) (n := 2) (Nat.le_of_ble_eq_true rfl)
  rw [lg_entry_eq]
  generalize (lg_sl ([.ref (a 0), .int p_0]) ++ List.replicate (2 - (lg_sl ([.ref (a 0), .int p_0])).length) Slot.unset).toArray = ls at hl ⊢
  have hl : lv_has ls 2 [(0, .ref (a 0)), (1, .int p_0)] := hl
  subst hsz
  have hD := hD0.self (sz := s.heap.size)
  obtain ⟨A, hAe⟩ : ∃ A, va_A (XW a k L) s.heap.size = A := ⟨_, rfl⟩
  rw [hAe] at hD
  have hA : ∀ q : Nat, s.heap.size ≤ q → A q := fun q h => by rw [← hAe]; exact Or.inr h
  have hS : va_S A s.heap s.heap [] := va_S.rf
  have hP := hP
  refine lv_iload_n hx hb d_WM_end_0 rfl (lv_at hl 1 rfl) ?_
  refine lv_if_lt (tgt := 15) hx hb d_WM_end_1 (by decide) (fun c_1 => ?_) (fun c_1 => ?_)
  · refine lv_iconst (v := (-1)) hx hb d_WM_end_15 (by decide +kernel) ?_
    refine W.widen (k := 0) (n := 0) (Nat.le_of_ble_eq_true rfl) (Nat.le_of_ble_eq_true rfl) ?_
    exact W.iret (v := (-1)) hx hb hr (fun t ht hW => ⟨⟨(-1), (), rfl, (by unfold f_WM_end; rw [if_pos c_1]), trivial⟩, by rw [hAe]; exact hS.F ht⟩) (by rw [hAe]; exact hS.2.2) d_WM_end_16
  · refine lv_iload_n hx hb d_WM_end_4 rfl (lv_at hl 1 rfl) ?_
    refine lv_aload_n hx hb d_WM_end_5 rfl (lv_at hl 0 rfl) ?_
    refine va_get (D := (dC, dI)) (ci := 0) (v := .ref (a 10)) (C := R_WM) (T := F_WM) (N := 13) hx hb htb i_WM hown hK hP 0 rfl rfl 5 (by decide) (htb (.fieldLink R_WM 43 "WaterMen" "tape" "LWaterMen$Tape;") tw_84) (fun _ h9 => h9) rfl d_WM_end_6 ?_
    refine va_get (D := (dC, dI)) (ci := 4) (v := .int 0) (C := R_Tp) (T := F_Tp) (N := 6) hx hb htb i_Tp hown hK hP 10 rfl rfl 1 (by decide) (htb (.fieldLink R_WM 207 "WaterMen$Tape" "length" "I") tw_199) (fun _ h9 => h9) rfl d_WM_end_9 ?_
    refine lv_icmp_le (tgt := 17) hx hb d_WM_end_12 (by decide) (fun c_2 => ?_) (fun c_2 => ?_)
    · refine lv_aload_n hx hb d_WM_end_17 rfl (lv_at hl 0 rfl) ?_
      refine va_get (D := (dC, dI)) (ci := 0) (v := .ref (a 10)) (C := R_WM) (T := F_WM) (N := 13) hx hb htb i_WM hown hK hP 0 rfl rfl 5 (by decide) (htb (.fieldLink R_WM 43 "WaterMen" "tape" "LWaterMen$Tape;") tw_84) (fun _ h9 => h9) rfl d_WM_end_18 ?_
      refine lv_iload_n hx hb d_WM_end_21 rfl (lv_at hl 1 rfl) ?_
      refine va_put (D := (dC, dI)) (ci := 4) (v := .int p_0) (ty := .int) (C := R_Tp) (T := F_Tp) (N := 6) hx hb htb i_Tp t_Tp t_Tp_ok n_Tp hown hK hP hD hS 10 rfl rfl 1 (by decide) (htb (.fieldLink R_WM 207 "WaterMen$Tape" "length" "I") tw_199) (fun _ h9 => h9) rfl (by decide +kernel) rfl rfl (Nat.le_of_ble_eq_true rfl) d_WM_end_22 (fun H locs hP hD hS => ?_)
      refine lv_iload_n hx hb d_WM_end_25 rfl (lv_at hl 1 rfl) ?_
      refine W.widen (k := 0) (n := 0) (Nat.le_of_ble_eq_true rfl) (Nat.le_of_ble_eq_true rfl) ?_
      exact W.iret (v := p_0) hx hb hr (fun t ht hW => ⟨⟨p_0, (), rfl, (by unfold f_WM_end; rw [if_neg c_1, if_pos c_2]), trivial⟩, by rw [hAe]; exact hS.F ht⟩) (by rw [hAe]; exact hS.2.2) d_WM_end_26
    · refine lv_iconst (v := (-1)) hx hb d_WM_end_15 (by decide +kernel) ?_
      refine W.widen (k := 0) (n := 0) (Nat.le_of_ble_eq_true rfl) (Nat.le_of_ble_eq_true rfl) ?_
      exact W.iret (v := (-1)) hx hb hr (fun t ht hW => ⟨⟨(-1), (), rfl, (by unfold f_WM_end; rw [if_neg c_1, if_neg c_2]), trivial⟩, by rw [hAe]; exact hS.F ht⟩) (by rw [hAe]; exact hS.2.2) d_WM_end_16
set_option maxHeartbeats 4000000 in
set_option maxRecDepth 100000 in
theorem c_Or_clear_c10 (l : Launch) (dC : Nat → ClassId) (dI : Nat → Nat → Nat) (h_0 y_0_2 y_0_3 h_1 : Nat) (kk_1 : ClassId) (sz : Nat)   : Met l y_Or_clear (.code y_Or_clear b_Or_clear 2 none :: TB) ({ frames := 0, cells := 0, slots := 0, locals := 0 }) (va_Pc [.ref h_0] (PC dC dI [(h_0, .inr (3, [.int 0, .int 0, .ref y_0_2, .ref y_0_3, .ref h_1, .int 0, .int 0, .int 0, .int 0])), (h_1, .inl (kk_1, 9, .inl (fun _ => 0)))] [(kk_1, .int)] sz)) (va_Qv (fun (_ : Unit) => True) (fun (_ : Unit) t => ∃ (g_1 : Nat → Int32) , va_P (dC, dI) vwCl [(h_0, .inr (3, [.int 0, .int 0, .ref y_0_2, .ref y_0_3, .ref h_1, .int 0, .int 0, .int 0, .int 0])), (h_1, .inl (kk_1, 9, .inl g_1))] t.heap ∧ va_K (dC, dI) vwCl [(kk_1, .int)] t ∧ va_D (va_A [(h_0, .inr (3, [.int 0, .int 0, .ref y_0_2, .ref y_0_3, .ref h_1, .int 0, .int 0, .int 0, .int 0])), (h_1, .inl (kk_1, 9, .inl (fun _ => 0)))] sz) [(h_0, .inr (3, [.int 0, .int 0, .ref y_0_2, .ref y_0_3, .ref h_1, .int 0, .int 0, .int 0, .int 0])), (h_1, .inl (kk_1, 9, .inl g_1))]) (va_A [(h_0, .inr (3, [.int 0, .int 0, .ref y_0_2, .ref y_0_3, .ref h_1, .int 0, .int 0, .int 0, .int 0])), (h_1, .inl (kk_1, 9, .inl (fun _ => 0)))] sz)) 0 0 (va_A [(h_0, .inr (3, [.int 0, .int 0, .ref y_0_2, .ref y_0_3, .ref h_1, .int 0, .int 0, .int 0, .int 0])), (h_1, .inl (kk_1, 9, .inl (fun _ => 0)))] sz) := by
  refine Met.ofW (cc := b_Or_clear) (maxL := 2) (ret := none) (by decide) rfl ?_
  intro p e s m args below meth c s₁ B hml hv
  obtain ⟨rfl, hsz, hP, hK, hD0, hN⟩ := hv
  have hx := B.exec
  have hb := B.bytes
  have hr := B.returns
  have hts := atoms_spec (ws := (.code y_Or_clear b_Or_clear 2 none :: TB)) B.pre
  have htb := fun w (h : w ∈ TB) => hts w (List.mem_cons_of_mem _ h)
  have hown : s.vm.findClass R_Or = some m.cls := findClass_of_methodNamed B.named
  have hlocks := B.notSynchronized
  have hl := lv_entry ([.ref h_0]) (n := 2) (Nat.le_of_ble_eq_true rfl)
  rw [lg_entry_eq]
  generalize (lg_sl ([.ref h_0]) ++ List.replicate (2 - (lg_sl ([.ref h_0])).length) Slot.unset).toArray = ls at hl ⊢
  have hl : lv_has ls 2 [(0, .ref h_0)] := hl
  subst hsz
  have hD := hD0.self (sz := s.heap.size)
  obtain ⟨A, hAe⟩ : ∃ A, va_A [(h_0, .inr (3, [.int 0, .int 0, .ref y_0_2, .ref y_0_3, .ref h_1, .int 0, .int 0, .int 0, .int 0])), (h_1, .inl (kk_1, 9, .inl (fun _ => 0)))] s.heap.size = A := ⟨_, rfl⟩
  rw [hAe] at hD
  have hA : ∀ q : Nat, s.heap.size ≤ q → A q := fun q h => by rw [← hAe]; exact Or.inr h
  have hS : va_S A s.heap s.heap [] := va_S.rf
  have hP := hP
  refine lv_iconst (v := 0) hx hb d_Or_clear_0 (by decide +kernel) ?_
  refine lv_istore_n (lv' := [(1, .int 0), (0, .ref h_0)]) hx hb d_Or_clear_1 rfl hl (by decide) rfl (fun ls hl => ?_)
  refine lv_iload_n hx hb d_Or_clear_2 rfl (lv_at hl 0 rfl) ?_
  refine lv_bipush (v := 9) hx hb d_Or_clear_3 (by decide +kernel) ?_
  refine lv_icmp_ge (tgt := 21) hx hb d_Or_clear_5 (by decide) (fun h => absurd h (by decide +kernel)) (fun _ => ?_)
  refine lv_aload_n hx hb d_Or_clear_8 rfl (lv_at hl 1 rfl) ?_
  refine va_get (D := (dC, dI)) (ci := 3) (v := .ref h_1) (C := R_Or) (T := F_Or) (N := 9) hx hb htb i_Or hown hK hP 0 rfl rfl 4 (by decide) (htb (.fieldLink R_Or 20 "WaterMen$Order" "single" "[I") tw_100) (fun _ h9 => h9) rfl d_Or_clear_9 ?_
  refine lv_iload_n hx hb d_Or_clear_12 rfl (lv_at hl 0 rfl) ?_
  refine lv_iconst (v := (-1)) hx hb d_Or_clear_13 (by decide +kernel) ?_
  refine va_iast hx hb hK hP hD hS 1 0 rfl rfl (by unfold vp_in; decide +kernel) d_Or_clear_14 (fun H locs hP hD hS => ?_)
  have hP : va_P (dC, dI) vwCl [(h_0, .inr (3, [.int 0, .int 0, .ref y_0_2, .ref y_0_3, .ref h_1, .int 0, .int 0, .int 0, .int 0])), (h_1, .inl (kk_1, 9, .inl (upd (fun _ => 0) (0 : Int32).toNatClampNeg (-1))))] H := hP
  have hD : va_D A [(h_0, .inr (3, [.int 0, .int 0, .ref y_0_2, .ref y_0_3, .ref h_1, .int 0, .int 0, .int 0, .int 0])), (h_1, .inl (kk_1, 9, .inl (upd (fun _ => 0) (0 : Int32).toNatClampNeg (-1))))] := hD
  refine lv_iinc (v := 1) (lv' := [(1, .int 1), (0, .ref h_0)]) hx hb d_Or_clear_15 hl (k := 0) rfl (by decide +kernel) (by decide) rfl (fun ls hl => ?_)
  refine lv_goto (tgt := 2) hx hb d_Or_clear_18 (by decide) ?_
  refine lv_iload_n hx hb d_Or_clear_2 rfl (lv_at hl 0 rfl) ?_
  refine lv_bipush (v := 9) hx hb d_Or_clear_3 (by decide +kernel) ?_
  refine lv_icmp_ge (tgt := 21) hx hb d_Or_clear_5 (by decide) (fun h => absurd h (by decide +kernel)) (fun _ => ?_)
  refine lv_aload_n hx hb d_Or_clear_8 rfl (lv_at hl 1 rfl) ?_
  refine va_get (D := (dC, dI)) (ci := 3) (v := .ref h_1) (C := R_Or) (T := F_Or) (N := 9) hx hb htb i_Or hown hK hP 0 rfl rfl 4 (by decide) (htb (.fieldLink R_Or 20 "WaterMen$Order" "single" "[I") tw_100) (fun _ h9 => h9) rfl d_Or_clear_9 ?_
  refine lv_iload_n hx hb d_Or_clear_12 rfl (lv_at hl 0 rfl) ?_
  refine lv_iconst (v := (-1)) hx hb d_Or_clear_13 (by decide +kernel) ?_
  refine va_iast hx hb hK hP hD hS 1 0 rfl rfl (by unfold vp_in; decide +kernel) d_Or_clear_14 (fun H locs hP hD hS => ?_)
  have hP : va_P (dC, dI) vwCl [(h_0, .inr (3, [.int 0, .int 0, .ref y_0_2, .ref y_0_3, .ref h_1, .int 0, .int 0, .int 0, .int 0])), (h_1, .inl (kk_1, 9, .inl (upd (upd (fun _ => 0) (0 : Int32).toNatClampNeg (-1)) (1 : Int32).toNatClampNeg (-1))))] H := hP
  have hD : va_D A [(h_0, .inr (3, [.int 0, .int 0, .ref y_0_2, .ref y_0_3, .ref h_1, .int 0, .int 0, .int 0, .int 0])), (h_1, .inl (kk_1, 9, .inl (upd (upd (fun _ => 0) (0 : Int32).toNatClampNeg (-1)) (1 : Int32).toNatClampNeg (-1))))] := hD
  refine lv_iinc (v := 2) (lv' := [(1, .int 2), (0, .ref h_0)]) hx hb d_Or_clear_15 hl (k := 0) rfl (by decide +kernel) (by decide) rfl (fun ls hl => ?_)
  refine lv_goto (tgt := 2) hx hb d_Or_clear_18 (by decide) ?_
  refine lv_iload_n hx hb d_Or_clear_2 rfl (lv_at hl 0 rfl) ?_
  refine lv_bipush (v := 9) hx hb d_Or_clear_3 (by decide +kernel) ?_
  refine lv_icmp_ge (tgt := 21) hx hb d_Or_clear_5 (by decide) (fun h => absurd h (by decide +kernel)) (fun _ => ?_)
  refine lv_aload_n hx hb d_Or_clear_8 rfl (lv_at hl 1 rfl) ?_
  refine va_get (D := (dC, dI)) (ci := 3) (v := .ref h_1) (C := R_Or) (T := F_Or) (N := 9) hx hb htb i_Or hown hK hP 0 rfl rfl 4 (by decide) (htb (.fieldLink R_Or 20 "WaterMen$Order" "single" "[I") tw_100) (fun _ h9 => h9) rfl d_Or_clear_9 ?_
  refine lv_iload_n hx hb d_Or_clear_12 rfl (lv_at hl 0 rfl) ?_
  refine lv_iconst (v := (-1)) hx hb d_Or_clear_13 (by decide +kernel) ?_
  refine va_iast hx hb hK hP hD hS 1 0 rfl rfl (by unfold vp_in; decide +kernel) d_Or_clear_14 (fun H locs hP hD hS => ?_)
  have hP : va_P (dC, dI) vwCl [(h_0, .inr (3, [.int 0, .int 0, .ref y_0_2, .ref y_0_3, .ref h_1, .int 0, .int 0, .int 0, .int 0])), (h_1, .inl (kk_1, 9, .inl (upd (upd (upd (fun _ => 0) (0 : Int32).toNatClampNeg (-1)) (1 : Int32).toNatClampNeg (-1)) (2 : Int32).toNatClampNeg (-1))))] H := hP
  have hD : va_D A [(h_0, .inr (3, [.int 0, .int 0, .ref y_0_2, .ref y_0_3, .ref h_1, .int 0, .int 0, .int 0, .int 0])), (h_1, .inl (kk_1, 9, .inl (upd (upd (upd (fun _ => 0) (0 : Int32).toNatClampNeg (-1)) (1 : Int32).toNatClampNeg (-1)) (2 : Int32).toNatClampNeg (-1))))] := hD
  refine lv_iinc (v := 3) (lv' := [(1, .int 3), (0, .ref h_0)]) hx hb d_Or_clear_15 hl (k := 0) rfl (by decide +kernel) (by decide) rfl (fun ls hl => ?_)
  refine lv_goto (tgt := 2) hx hb d_Or_clear_18 (by decide) ?_
  refine lv_iload_n hx hb d_Or_clear_2 rfl (lv_at hl 0 rfl) ?_
  refine lv_bipush (v := 9) hx hb d_Or_clear_3 (by decide +kernel) ?_
  refine lv_icmp_ge (tgt := 21) hx hb d_Or_clear_5 (by decide) (fun h => absurd h (by decide +kernel)) (fun _ => ?_)
  refine lv_aload_n hx hb d_Or_clear_8 rfl (lv_at hl 1 rfl) ?_
  refine va_get (D := (dC, dI)) (ci := 3) (v := .ref h_1) (C := R_Or) (T := F_Or) (N := 9) hx hb htb i_Or hown hK hP 0 rfl rfl 4 (by decide) (htb (.fieldLink R_Or 20 "WaterMen$Order" "single" "[I") tw_100) (fun _ h9 => h9) rfl d_Or_clear_9 ?_
  refine lv_iload_n hx hb d_Or_clear_12 rfl (lv_at hl 0 rfl) ?_
  refine lv_iconst (v := (-1)) hx hb d_Or_clear_13 (by decide +kernel) ?_
  refine va_iast hx hb hK hP hD hS 1 0 rfl rfl (by unfold vp_in; decide +kernel) d_Or_clear_14 (fun H locs hP hD hS => ?_)
  have hP : va_P (dC, dI) vwCl [(h_0, .inr (3, [.int 0, .int 0, .ref y_0_2, .ref y_0_3, .ref h_1, .int 0, .int 0, .int 0, .int 0])), (h_1, .inl (kk_1, 9, .inl (upd (upd (upd (upd (fun _ => 0) (0 : Int32).toNatClampNeg (-1)) (1 : Int32).toNatClampNeg (-1)) (2 : Int32).toNatClampNeg (-1)) (3 : Int32).toNatClampNeg (-1))))] H := hP
  have hD : va_D A [(h_0, .inr (3, [.int 0, .int 0, .ref y_0_2, .ref y_0_3, .ref h_1, .int 0, .int 0, .int 0, .int 0])), (h_1, .inl (kk_1, 9, .inl (upd (upd (upd (upd (fun _ => 0) (0 : Int32).toNatClampNeg (-1)) (1 : Int32).toNatClampNeg (-1)) (2 : Int32).toNatClampNeg (-1)) (3 : Int32).toNatClampNeg (-1))))] := hD
  refine lv_iinc (v := 4) (lv' := [(1, .int 4), (0, .ref h_0)]) hx hb d_Or_clear_15 hl (k := 0) rfl (by decide +kernel) (by decide) rfl (fun ls hl => ?_)
  refine lv_goto (tgt := 2) hx hb d_Or_clear_18 (by decide) ?_
  refine lv_iload_n hx hb d_Or_clear_2 rfl (lv_at hl 0 rfl) ?_
  refine lv_bipush (v := 9) hx hb d_Or_clear_3 (by decide +kernel) ?_
  refine lv_icmp_ge (tgt := 21) hx hb d_Or_clear_5 (by decide) (fun h => absurd h (by decide +kernel)) (fun _ => ?_)
  refine lv_aload_n hx hb d_Or_clear_8 rfl (lv_at hl 1 rfl) ?_
  refine va_get (D := (dC, dI)) (ci := 3) (v := .ref h_1) (C := R_Or) (T := F_Or) (N := 9) hx hb htb i_Or hown hK hP 0 rfl rfl 4 (by decide) (htb (.fieldLink R_Or 20 "WaterMen$Order" "single" "[I") tw_100) (fun _ h9 => h9) rfl d_Or_clear_9 ?_
  refine lv_iload_n hx hb d_Or_clear_12 rfl (lv_at hl 0 rfl) ?_
  refine lv_iconst (v := (-1)) hx hb d_Or_clear_13 (by decide +kernel) ?_
  refine va_iast hx hb hK hP hD hS 1 0 rfl rfl (by unfold vp_in; decide +kernel) d_Or_clear_14 (fun H locs hP hD hS => ?_)
  have hP : va_P (dC, dI) vwCl [(h_0, .inr (3, [.int 0, .int 0, .ref y_0_2, .ref y_0_3, .ref h_1, .int 0, .int 0, .int 0, .int 0])), (h_1, .inl (kk_1, 9, .inl (upd (upd (upd (upd (upd (fun _ => 0) (0 : Int32).toNatClampNeg (-1)) (1 : Int32).toNatClampNeg (-1)) (2 : Int32).toNatClampNeg (-1)) (3 : Int32).toNatClampNeg (-1)) (4 : Int32).toNatClampNeg (-1))))] H := hP
  have hD : va_D A [(h_0, .inr (3, [.int 0, .int 0, .ref y_0_2, .ref y_0_3, .ref h_1, .int 0, .int 0, .int 0, .int 0])), (h_1, .inl (kk_1, 9, .inl (upd (upd (upd (upd (upd (fun _ => 0) (0 : Int32).toNatClampNeg (-1)) (1 : Int32).toNatClampNeg (-1)) (2 : Int32).toNatClampNeg (-1)) (3 : Int32).toNatClampNeg (-1)) (4 : Int32).toNatClampNeg (-1))))] := hD
  refine lv_iinc (v := 5) (lv' := [(1, .int 5), (0, .ref h_0)]) hx hb d_Or_clear_15 hl (k := 0) rfl (by decide +kernel) (by decide) rfl (fun ls hl => ?_)
  refine lv_goto (tgt := 2) hx hb d_Or_clear_18 (by decide) ?_
  refine lv_iload_n hx hb d_Or_clear_2 rfl (lv_at hl 0 rfl) ?_
  refine lv_bipush (v := 9) hx hb d_Or_clear_3 (by decide +kernel) ?_
  refine lv_icmp_ge (tgt := 21) hx hb d_Or_clear_5 (by decide) (fun h => absurd h (by decide +kernel)) (fun _ => ?_)
  refine lv_aload_n hx hb d_Or_clear_8 rfl (lv_at hl 1 rfl) ?_
  refine va_get (D := (dC, dI)) (ci := 3) (v := .ref h_1) (C := R_Or) (T := F_Or) (N := 9) hx hb htb i_Or hown hK hP 0 rfl rfl 4 (by decide) (htb (.fieldLink R_Or 20 "WaterMen$Order" "single" "[I") tw_100) (fun _ h9 => h9) rfl d_Or_clear_9 ?_
  refine lv_iload_n hx hb d_Or_clear_12 rfl (lv_at hl 0 rfl) ?_
  refine lv_iconst (v := (-1)) hx hb d_Or_clear_13 (by decide +kernel) ?_
  refine va_iast hx hb hK hP hD hS 1 0 rfl rfl (by unfold vp_in; decide +kernel) d_Or_clear_14 (fun H locs hP hD hS => ?_)
  have hP : va_P (dC, dI) vwCl [(h_0, .inr (3, [.int 0, .int 0, .ref y_0_2, .ref y_0_3, .ref h_1, .int 0, .int 0, .int 0, .int 0])), (h_1, .inl (kk_1, 9, .inl (upd (upd (upd (upd (upd (upd (fun _ => 0) (0 : Int32).toNatClampNeg (-1)) (1 : Int32).toNatClampNeg (-1)) (2 : Int32).toNatClampNeg (-1)) (3 : Int32).toNatClampNeg (-1)) (4 : Int32).toNatClampNeg (-1)) (5 : Int32).toNatClampNeg (-1))))] H := hP
  have hD : va_D A [(h_0, .inr (3, [.int 0, .int 0, .ref y_0_2, .ref y_0_3, .ref h_1, .int 0, .int 0, .int 0, .int 0])), (h_1, .inl (kk_1, 9, .inl (upd (upd (upd (upd (upd (upd (fun _ => 0) (0 : Int32).toNatClampNeg (-1)) (1 : Int32).toNatClampNeg (-1)) (2 : Int32).toNatClampNeg (-1)) (3 : Int32).toNatClampNeg (-1)) (4 : Int32).toNatClampNeg (-1)) (5 : Int32).toNatClampNeg (-1))))] := hD
  refine lv_iinc (v := 6) (lv' := [(1, .int 6), (0, .ref h_0)]) hx hb d_Or_clear_15 hl (k := 0) rfl (by decide +kernel) (by decide) rfl (fun ls hl => ?_)
  refine lv_goto (tgt := 2) hx hb d_Or_clear_18 (by decide) ?_
  refine lv_iload_n hx hb d_Or_clear_2 rfl (lv_at hl 0 rfl) ?_
  refine lv_bipush (v := 9) hx hb d_Or_clear_3 (by decide +kernel) ?_
  refine lv_icmp_ge (tgt := 21) hx hb d_Or_clear_5 (by decide) (fun h => absurd h (by decide +kernel)) (fun _ => ?_)
  refine lv_aload_n hx hb d_Or_clear_8 rfl (lv_at hl 1 rfl) ?_
  refine va_get (D := (dC, dI)) (ci := 3) (v := .ref h_1) (C := R_Or) (T := F_Or) (N := 9) hx hb htb i_Or hown hK hP 0 rfl rfl 4 (by decide) (htb (.fieldLink R_Or 20 "WaterMen$Order" "single" "[I") tw_100) (fun _ h9 => h9) rfl d_Or_clear_9 ?_
  refine lv_iload_n hx hb d_Or_clear_12 rfl (lv_at hl 0 rfl) ?_
  refine lv_iconst (v := (-1)) hx hb d_Or_clear_13 (by decide +kernel) ?_
  refine va_iast hx hb hK hP hD hS 1 0 rfl rfl (by unfold vp_in; decide +kernel) d_Or_clear_14 (fun H locs hP hD hS => ?_)
  have hP : va_P (dC, dI) vwCl [(h_0, .inr (3, [.int 0, .int 0, .ref y_0_2, .ref y_0_3, .ref h_1, .int 0, .int 0, .int 0, .int 0])), (h_1, .inl (kk_1, 9, .inl (upd (upd (upd (upd (upd (upd (upd (fun _ => 0) (0 : Int32).toNatClampNeg (-1)) (1 : Int32).toNatClampNeg (-1)) (2 : Int32).toNatClampNeg (-1)) (3 : Int32).toNatClampNeg (-1)) (4 : Int32).toNatClampNeg (-1)) (5 : Int32).toNatClampNeg (-1)) (6 : Int32).toNatClampNeg (-1))))] H := hP
  have hD : va_D A [(h_0, .inr (3, [.int 0, .int 0, .ref y_0_2, .ref y_0_3, .ref h_1, .int 0, .int 0, .int 0, .int 0])), (h_1, .inl (kk_1, 9, .inl (upd (upd (upd (upd (upd (upd (upd (fun _ => 0) (0 : Int32).toNatClampNeg (-1)) (1 : Int32).toNatClampNeg (-1)) (2 : Int32).toNatClampNeg (-1)) (3 : Int32).toNatClampNeg (-1)) (4 : Int32).toNatClampNeg (-1)) (5 : Int32).toNatClampNeg (-1)) (6 : Int32).toNatClampNeg (-1))))] := hD
  refine lv_iinc (v := 7) (lv' := [(1, .int 7), (0, .ref h_0)]) hx hb d_Or_clear_15 hl (k := 0) rfl (by decide +kernel) (by decide) rfl (fun ls hl => ?_)
  refine lv_goto (tgt := 2) hx hb d_Or_clear_18 (by decide) ?_
  refine lv_iload_n hx hb d_Or_clear_2 rfl (lv_at hl 0 rfl) ?_
  refine lv_bipush (v := 9) hx hb d_Or_clear_3 (by decide +kernel) ?_
  refine lv_icmp_ge (tgt := 21) hx hb d_Or_clear_5 (by decide) (fun h => absurd h (by decide +kernel)) (fun _ => ?_)
  refine lv_aload_n hx hb d_Or_clear_8 rfl (lv_at hl 1 rfl) ?_
  refine va_get (D := (dC, dI)) (ci := 3) (v := .ref h_1) (C := R_Or) (T := F_Or) (N := 9) hx hb htb i_Or hown hK hP 0 rfl rfl 4 (by decide) (htb (.fieldLink R_Or 20 "WaterMen$Order" "single" "[I") tw_100) (fun _ h9 => h9) rfl d_Or_clear_9 ?_
  refine lv_iload_n hx hb d_Or_clear_12 rfl (lv_at hl 0 rfl) ?_
  refine lv_iconst (v := (-1)) hx hb d_Or_clear_13 (by decide +kernel) ?_
  refine va_iast hx hb hK hP hD hS 1 0 rfl rfl (by unfold vp_in; decide +kernel) d_Or_clear_14 (fun H locs hP hD hS => ?_)
  have hP : va_P (dC, dI) vwCl [(h_0, .inr (3, [.int 0, .int 0, .ref y_0_2, .ref y_0_3, .ref h_1, .int 0, .int 0, .int 0, .int 0])), (h_1, .inl (kk_1, 9, .inl (upd (upd (upd (upd (upd (upd (upd (upd (fun _ => 0) (0 : Int32).toNatClampNeg (-1)) (1 : Int32).toNatClampNeg (-1)) (2 : Int32).toNatClampNeg (-1)) (3 : Int32).toNatClampNeg (-1)) (4 : Int32).toNatClampNeg (-1)) (5 : Int32).toNatClampNeg (-1)) (6 : Int32).toNatClampNeg (-1)) (7 : Int32).toNatClampNeg (-1))))] H := hP
  have hD : va_D A [(h_0, .inr (3, [.int 0, .int 0, .ref y_0_2, .ref y_0_3, .ref h_1, .int 0, .int 0, .int 0, .int 0])), (h_1, .inl (kk_1, 9, .inl (upd (upd (upd (upd (upd (upd (upd (upd (fun _ => 0) (0 : Int32).toNatClampNeg (-1)) (1 : Int32).toNatClampNeg (-1)) (2 : Int32).toNatClampNeg (-1)) (3 : Int32).toNatClampNeg (-1)) (4 : Int32).toNatClampNeg (-1)) (5 : Int32).toNatClampNeg (-1)) (6 : Int32).toNatClampNeg (-1)) (7 : Int32).toNatClampNeg (-1))))] := hD
  refine lv_iinc (v := 8) (lv' := [(1, .int 8), (0, .ref h_0)]) hx hb d_Or_clear_15 hl (k := 0) rfl (by decide +kernel) (by decide) rfl (fun ls hl => ?_)
  refine lv_goto (tgt := 2) hx hb d_Or_clear_18 (by decide) ?_
  refine lv_iload_n hx hb d_Or_clear_2 rfl (lv_at hl 0 rfl) ?_
  refine lv_bipush (v := 9) hx hb d_Or_clear_3 (by decide +kernel) ?_
  refine lv_icmp_ge (tgt := 21) hx hb d_Or_clear_5 (by decide) (fun h => absurd h (by decide +kernel)) (fun _ => ?_)
  refine lv_aload_n hx hb d_Or_clear_8 rfl (lv_at hl 1 rfl) ?_
  refine va_get (D := (dC, dI)) (ci := 3) (v := .ref h_1) (C := R_Or) (T := F_Or) (N := 9) hx hb htb i_Or hown hK hP 0 rfl rfl 4 (by decide) (htb (.fieldLink R_Or 20 "WaterMen$Order" "single" "[I") tw_100) (fun _ h9 => h9) rfl d_Or_clear_9 ?_
  refine lv_iload_n hx hb d_Or_clear_12 rfl (lv_at hl 0 rfl) ?_
  refine lv_iconst (v := (-1)) hx hb d_Or_clear_13 (by decide +kernel) ?_
  refine va_iast hx hb hK hP hD hS 1 0 rfl rfl (by unfold vp_in; decide +kernel) d_Or_clear_14 (fun H locs hP hD hS => ?_)
  have hP : va_P (dC, dI) vwCl [(h_0, .inr (3, [.int 0, .int 0, .ref y_0_2, .ref y_0_3, .ref h_1, .int 0, .int 0, .int 0, .int 0])), (h_1, .inl (kk_1, 9, .inl (upd (upd (upd (upd (upd (upd (upd (upd (upd (fun _ => 0) (0 : Int32).toNatClampNeg (-1)) (1 : Int32).toNatClampNeg (-1)) (2 : Int32).toNatClampNeg (-1)) (3 : Int32).toNatClampNeg (-1)) (4 : Int32).toNatClampNeg (-1)) (5 : Int32).toNatClampNeg (-1)) (6 : Int32).toNatClampNeg (-1)) (7 : Int32).toNatClampNeg (-1)) (8 : Int32).toNatClampNeg (-1))))] H := hP
  have hD : va_D A [(h_0, .inr (3, [.int 0, .int 0, .ref y_0_2, .ref y_0_3, .ref h_1, .int 0, .int 0, .int 0, .int 0])), (h_1, .inl (kk_1, 9, .inl (upd (upd (upd (upd (upd (upd (upd (upd (upd (fun _ => 0) (0 : Int32).toNatClampNeg (-1)) (1 : Int32).toNatClampNeg (-1)) (2 : Int32).toNatClampNeg (-1)) (3 : Int32).toNatClampNeg (-1)) (4 : Int32).toNatClampNeg (-1)) (5 : Int32).toNatClampNeg (-1)) (6 : Int32).toNatClampNeg (-1)) (7 : Int32).toNatClampNeg (-1)) (8 : Int32).toNatClampNeg (-1))))] := hD
  refine lv_iinc (v := 9) (lv' := [(1, .int 9), (0, .ref h_0)]) hx hb d_Or_clear_15 hl (k := 0) rfl (by decide +kernel) (by decide) rfl (fun ls hl => ?_)
  refine lv_goto (tgt := 2) hx hb d_Or_clear_18 (by decide) ?_
  refine lv_iload_n hx hb d_Or_clear_2 rfl (lv_at hl 0 rfl) ?_
  refine lv_bipush (v := 9) hx hb d_Or_clear_3 (by decide +kernel) ?_
  refine lv_icmp_ge (tgt := 21) hx hb d_Or_clear_5 (by decide) (fun _ => ?_) (fun h => absurd (by decide +kernel) h)
  refine lv_aload_n hx hb d_Or_clear_21 rfl (lv_at hl 1 rfl) ?_
  refine lv_iconst (v := 0) hx hb d_Or_clear_22 (by decide +kernel) ?_
  refine va_put (D := (dC, dI)) (ci := 3) (v := .int 0) (ty := .int) (C := R_Or) (T := F_Or) (N := 9) hx hb htb i_Or t_Or t_Or_ok n_Or hown hK hP hD hS 0 rfl rfl 5 (by decide) (htb (.fieldLink R_Or 23 "WaterMen$Order" "fareCount" "I") tw_201) (fun _ h9 => h9) rfl (by decide +kernel) rfl rfl (Nat.le_of_ble_eq_true rfl) d_Or_clear_23 (fun H locs hP hD hS => ?_)
  have hP : va_P (dC, dI) vwCl [(h_0, .inr (3, [.int 0, .int 0, .ref y_0_2, .ref y_0_3, .ref h_1, .int 0, .int 0, .int 0, .int 0])), (h_1, .inl (kk_1, 9, .inl (upd (upd (upd (upd (upd (upd (upd (upd (upd (fun _ => 0) (0 : Int32).toNatClampNeg (-1)) (1 : Int32).toNatClampNeg (-1)) (2 : Int32).toNatClampNeg (-1)) (3 : Int32).toNatClampNeg (-1)) (4 : Int32).toNatClampNeg (-1)) (5 : Int32).toNatClampNeg (-1)) (6 : Int32).toNatClampNeg (-1)) (7 : Int32).toNatClampNeg (-1)) (8 : Int32).toNatClampNeg (-1))))] H := hP
  have hD : va_D A [(h_0, .inr (3, [.int 0, .int 0, .ref y_0_2, .ref y_0_3, .ref h_1, .int 0, .int 0, .int 0, .int 0])), (h_1, .inl (kk_1, 9, .inl (upd (upd (upd (upd (upd (upd (upd (upd (upd (fun _ => 0) (0 : Int32).toNatClampNeg (-1)) (1 : Int32).toNatClampNeg (-1)) (2 : Int32).toNatClampNeg (-1)) (3 : Int32).toNatClampNeg (-1)) (4 : Int32).toNatClampNeg (-1)) (5 : Int32).toNatClampNeg (-1)) (6 : Int32).toNatClampNeg (-1)) (7 : Int32).toNatClampNeg (-1)) (8 : Int32).toNatClampNeg (-1))))] := hD
  refine lv_aload_n hx hb d_Or_clear_26 rfl (lv_at hl 1 rfl) ?_
  refine lv_iconst (v := 0) hx hb d_Or_clear_27 (by decide +kernel) ?_
  refine va_put (D := (dC, dI)) (ci := 3) (v := .int 0) (ty := .int) (C := R_Or) (T := F_Or) (N := 9) hx hb htb i_Or t_Or t_Or_ok n_Or hown hK hP hD hS 0 rfl rfl 6 (by decide) (htb (.fieldLink R_Or 27 "WaterMen$Order" "hourCount" "I") tw_202) (fun _ h9 => h9) rfl (by decide +kernel) rfl rfl (Nat.le_of_ble_eq_true rfl) d_Or_clear_28 (fun H locs hP hD hS => ?_)
  have hP : va_P (dC, dI) vwCl [(h_0, .inr (3, [.int 0, .int 0, .ref y_0_2, .ref y_0_3, .ref h_1, .int 0, .int 0, .int 0, .int 0])), (h_1, .inl (kk_1, 9, .inl (upd (upd (upd (upd (upd (upd (upd (upd (upd (fun _ => 0) (0 : Int32).toNatClampNeg (-1)) (1 : Int32).toNatClampNeg (-1)) (2 : Int32).toNatClampNeg (-1)) (3 : Int32).toNatClampNeg (-1)) (4 : Int32).toNatClampNeg (-1)) (5 : Int32).toNatClampNeg (-1)) (6 : Int32).toNatClampNeg (-1)) (7 : Int32).toNatClampNeg (-1)) (8 : Int32).toNatClampNeg (-1))))] H := hP
  have hD : va_D A [(h_0, .inr (3, [.int 0, .int 0, .ref y_0_2, .ref y_0_3, .ref h_1, .int 0, .int 0, .int 0, .int 0])), (h_1, .inl (kk_1, 9, .inl (upd (upd (upd (upd (upd (upd (upd (upd (upd (fun _ => 0) (0 : Int32).toNatClampNeg (-1)) (1 : Int32).toNatClampNeg (-1)) (2 : Int32).toNatClampNeg (-1)) (3 : Int32).toNatClampNeg (-1)) (4 : Int32).toNatClampNeg (-1)) (5 : Int32).toNatClampNeg (-1)) (6 : Int32).toNatClampNeg (-1)) (7 : Int32).toNatClampNeg (-1)) (8 : Int32).toNatClampNeg (-1))))] := hD
  refine W.widen (k := 0) (n := 0) (Nat.le_of_ble_eq_true rfl) (Nat.le_of_ble_eq_true rfl) ?_
  exact W.vret hx hb hr (fun t ht hW => ⟨⟨(), rfl, trivial, upd (upd (upd (upd (upd (upd (upd (upd (upd (fun _ => 0) (0 : Int32).toNatClampNeg (-1)) (1 : Int32).toNatClampNeg (-1)) (2 : Int32).toNatClampNeg (-1)) (3 : Int32).toNatClampNeg (-1)) (4 : Int32).toNatClampNeg (-1)) (5 : Int32).toNatClampNeg (-1)) (6 : Int32).toNatClampNeg (-1)) (7 : Int32).toNatClampNeg (-1)) (8 : Int32).toNatClampNeg (-1), by rw [ht]; exact hP, va_K.moved hW.alike hK, by rw [hAe]; exact hD⟩, by rw [hAe]; exact hS.F ht⟩) (by rw [hAe]; exact hS.2.2) d_Or_clear_31
set_option maxHeartbeats 4000000 in
set_option maxRecDepth 100000 in
theorem c_Tp_step_c11 (l : Launch) (dC : Nat → ClassId) (dI : Nat → Nat → Nat) (h_0 h_1 : Nat) (kk_1 : ClassId) (sz : Nat)   : Met l y_Tp_step (.code y_Tp_step b_Tp_step 1 none :: TB) ({ frames := 0, cells := 0, slots := 0, locals := 0 }) (va_Pc [.ref h_0] (PC dC dI [(h_0, .inr (4, [.ref h_1, .int 0, .int 0, .int 0, .int 0, .int 0])), (h_1, .inl (kk_1, 400, .inl (fun _ => 0)))] [(kk_1, .byte)] sz)) (va_Qv (fun (_ : Unit) => True) (fun (_ : Unit) t => va_P (dC, dI) vwCl [(h_0, .inr (4, [.ref h_1, .int 0, .int 0, .int 0, .int 0, .int 0])), (h_1, .inl (kk_1, 400, .inl (fun _ => 0)))] t.heap ∧ va_K (dC, dI) vwCl [(kk_1, .byte)] t ∧ va_D (va_A [(h_0, .inr (4, [.ref h_1, .int 0, .int 0, .int 0, .int 0, .int 0])), (h_1, .inl (kk_1, 400, .inl (fun _ => 0)))] sz) [(h_0, .inr (4, [.ref h_1, .int 0, .int 0, .int 0, .int 0, .int 0])), (h_1, .inl (kk_1, 400, .inl (fun _ => 0)))]) (va_A [(h_0, .inr (4, [.ref h_1, .int 0, .int 0, .int 0, .int 0, .int 0])), (h_1, .inl (kk_1, 400, .inl (fun _ => 0)))] sz)) 0 0 (va_A [(h_0, .inr (4, [.ref h_1, .int 0, .int 0, .int 0, .int 0, .int 0])), (h_1, .inl (kk_1, 400, .inl (fun _ => 0)))] sz) := by
  refine Met.ofW (cc := b_Tp_step) (maxL := 1) (ret := none) (by decide) rfl ?_
  intro p e s m args below meth c s₁ B hml hv
  obtain ⟨rfl, hsz, hP, hK, hD0, hN⟩ := hv
  have hx := B.exec
  have hb := B.bytes
  have hr := B.returns
  have hts := atoms_spec (ws := (.code y_Tp_step b_Tp_step 1 none :: TB)) B.pre
  have htb := fun w (h : w ∈ TB) => hts w (List.mem_cons_of_mem _ h)
  have hown : s.vm.findClass R_Tp = some m.cls := findClass_of_methodNamed B.named
  have hlocks := B.notSynchronized
  have hl := lv_entry ([.ref h_0]) (n := 1) (Nat.le_of_ble_eq_true rfl)
  rw [lg_entry_eq]
  generalize (lg_sl ([.ref h_0]) ++ List.replicate (1 - (lg_sl ([.ref h_0])).length) Slot.unset).toArray = ls at hl ⊢
  have hl : lv_has ls 1 [(0, .ref h_0)] := hl
  subst hsz
  have hD := hD0.self (sz := s.heap.size)
  obtain ⟨A, hAe⟩ : ∃ A, va_A [(h_0, .inr (4, [.ref h_1, .int 0, .int 0, .int 0, .int 0, .int 0])), (h_1, .inl (kk_1, 400, .inl (fun _ => 0)))] s.heap.size = A := ⟨_, rfl⟩
  rw [hAe] at hD
  have hA : ∀ q : Nat, s.heap.size ≤ q → A q := fun q h => by rw [← hAe]; exact Or.inr h
  have hS : va_S A s.heap s.heap [] := va_S.rf
  have hP := hP
  refine lv_aload_n hx hb d_Tp_step_0 rfl (lv_at hl 0 rfl) ?_
  refine lv_aload_n hx hb d_Tp_step_1 rfl (lv_at hl 0 rfl) ?_
  refine va_get (D := (dC, dI)) (ci := 4) (v := .int 0) (C := R_Tp) (T := F_Tp) (N := 6) hx hb htb i_Tp hown hK hP 0 rfl rfl 4 (by decide) (htb (.fieldLink R_Tp 24 "WaterMen$Tape" "behind" "I") tw_207) (fun _ h9 => h9) rfl d_Tp_step_2 ?_
  refine va_put (D := (dC, dI)) (ci := 4) (v := .int 0) (ty := .int) (C := R_Tp) (T := F_Tp) (N := 6) hx hb htb i_Tp t_Tp t_Tp_ok n_Tp hown hK hP hD hS 0 rfl rfl 3 (by decide) (htb (.fieldLink R_Tp 34 "WaterMen$Tape" "start" "I") tw_208) (fun _ h9 => h9) rfl (by decide +kernel) rfl rfl (Nat.le_of_ble_eq_true rfl) d_Tp_step_5 (fun H locs hP hD hS => ?_)
  have hP : va_P (dC, dI) vwCl [(h_0, .inr (4, [.ref h_1, .int 0, .int 0, .int 0, .int 0, .int 0])), (h_1, .inl (kk_1, 400, .inl (fun _ => 0)))] H := hP
  have hD : va_D A [(h_0, .inr (4, [.ref h_1, .int 0, .int 0, .int 0, .int 0, .int 0])), (h_1, .inl (kk_1, 400, .inl (fun _ => 0)))] := hD
  refine lv_aload_n hx hb d_Tp_step_8 rfl (lv_at hl 0 rfl) ?_
  refine va_get (D := (dC, dI)) (ci := 4) (v := .int 0) (C := R_Tp) (T := F_Tp) (N := 6) hx hb htb i_Tp hown hK hP 0 rfl rfl 3 (by decide) (htb (.fieldLink R_Tp 34 "WaterMen$Tape" "start" "I") tw_208) (fun _ h9 => h9) rfl d_Tp_step_9 ?_
  refine lv_aload_n hx hb d_Tp_step_12 rfl (lv_at hl 0 rfl) ?_
  refine va_get (D := (dC, dI)) (ci := 4) (v := .int 0) (C := R_Tp) (T := F_Tp) (N := 6) hx hb htb i_Tp hown hK hP 0 rfl rfl 1 (by decide) (htb (.fieldLink R_Tp 15 "WaterMen$Tape" "length" "I") tw_190) (fun _ h9 => h9) rfl d_Tp_step_13 ?_
  refine lv_icmp_ge (tgt := 46) hx hb d_Tp_step_16 (by decide) (fun _ => ?_) (fun h => absurd (by decide +kernel) h)
  refine lv_aload_n hx hb d_Tp_step_46 rfl (lv_at hl 0 rfl) ?_
  refine lv_aload_n hx hb d_Tp_step_47 rfl (lv_at hl 0 rfl) ?_
  refine va_get (D := (dC, dI)) (ci := 4) (v := .int 0) (C := R_Tp) (T := F_Tp) (N := 6) hx hb htb i_Tp hown hK hP 0 rfl rfl 3 (by decide) (htb (.fieldLink R_Tp 34 "WaterMen$Tape" "start" "I") tw_208) (fun _ h9 => h9) rfl d_Tp_step_48 ?_
  refine va_put (D := (dC, dI)) (ci := 4) (v := .int 0) (ty := .int) (C := R_Tp) (T := F_Tp) (N := 6) hx hb htb i_Tp t_Tp t_Tp_ok n_Tp hown hK hP hD hS 0 rfl rfl 4 (by decide) (htb (.fieldLink R_Tp 24 "WaterMen$Tape" "behind" "I") tw_207) (fun _ h9 => h9) rfl (by decide +kernel) rfl rfl (Nat.le_of_ble_eq_true rfl) d_Tp_step_51 (fun H locs hP hD hS => ?_)
  have hP : va_P (dC, dI) vwCl [(h_0, .inr (4, [.ref h_1, .int 0, .int 0, .int 0, .int 0, .int 0])), (h_1, .inl (kk_1, 400, .inl (fun _ => 0)))] H := hP
  have hD : va_D A [(h_0, .inr (4, [.ref h_1, .int 0, .int 0, .int 0, .int 0, .int 0])), (h_1, .inl (kk_1, 400, .inl (fun _ => 0)))] := hD
  refine lv_aload_n hx hb d_Tp_step_54 rfl (lv_at hl 0 rfl) ?_
  refine lv_iconst (v := 0) hx hb d_Tp_step_55 (by decide +kernel) ?_
  refine va_put (D := (dC, dI)) (ci := 4) (v := .int 0) (ty := .int) (C := R_Tp) (T := F_Tp) (N := 6) hx hb htb i_Tp t_Tp t_Tp_ok n_Tp hown hK hP hD hS 0 rfl rfl 5 (by decide) (htb (.fieldLink R_Tp 48 "WaterMen$Tape" "value" "I") tw_209) (fun _ h9 => h9) rfl (by decide +kernel) rfl rfl (Nat.le_of_ble_eq_true rfl) d_Tp_step_56 (fun H locs hP hD hS => ?_)
  have hP : va_P (dC, dI) vwCl [(h_0, .inr (4, [.ref h_1, .int 0, .int 0, .int 0, .int 0, .int 0])), (h_1, .inl (kk_1, 400, .inl (fun _ => 0)))] H := hP
  have hD : va_D A [(h_0, .inr (4, [.ref h_1, .int 0, .int 0, .int 0, .int 0, .int 0])), (h_1, .inl (kk_1, 400, .inl (fun _ => 0)))] := hD
  refine lv_aload_n hx hb d_Tp_step_59 rfl (lv_at hl 0 rfl) ?_
  refine va_get (D := (dC, dI)) (ci := 4) (v := .int 0) (C := R_Tp) (T := F_Tp) (N := 6) hx hb htb i_Tp hown hK hP 0 rfl rfl 3 (by decide) (htb (.fieldLink R_Tp 34 "WaterMen$Tape" "start" "I") tw_208) (fun _ h9 => h9) rfl d_Tp_step_60 ?_
  refine lv_aload_n hx hb d_Tp_step_63 rfl (lv_at hl 0 rfl) ?_
  refine va_get (D := (dC, dI)) (ci := 4) (v := .int 0) (C := R_Tp) (T := F_Tp) (N := 6) hx hb htb i_Tp hown hK hP 0 rfl rfl 1 (by decide) (htb (.fieldLink R_Tp 15 "WaterMen$Tape" "length" "I") tw_190) (fun _ h9 => h9) rfl d_Tp_step_64 ?_
  refine lv_icmp_lt (tgt := 78) hx hb d_Tp_step_67 (by decide) (fun h => absurd h (by decide +kernel)) (fun _ => ?_)
  refine lv_aload_n hx hb d_Tp_step_70 rfl (lv_at hl 0 rfl) ?_
  refine lv_iconst (v := 0) hx hb d_Tp_step_71 (by decide +kernel) ?_
  refine va_put (D := (dC, dI)) (ci := 4) (v := .int 0) (ty := .int) (C := R_Tp) (T := F_Tp) (N := 6) hx hb htb i_Tp t_Tp t_Tp_ok n_Tp hown hK hP hD hS 0 rfl rfl 2 (by decide) (htb (.fieldLink R_Tp 37 "WaterMen$Tape" "sort" "I") tw_210) (fun _ h9 => h9) rfl (by decide +kernel) rfl rfl (Nat.le_of_ble_eq_true rfl) d_Tp_step_72 (fun H locs hP hD hS => ?_)
  have hP : va_P (dC, dI) vwCl [(h_0, .inr (4, [.ref h_1, .int 0, .int 0, .int 0, .int 0, .int 0])), (h_1, .inl (kk_1, 400, .inl (fun _ => 0)))] H := hP
  have hD : va_D A [(h_0, .inr (4, [.ref h_1, .int 0, .int 0, .int 0, .int 0, .int 0])), (h_1, .inl (kk_1, 400, .inl (fun _ => 0)))] := hD
  refine lv_goto (tgt := 182) hx hb d_Tp_step_75 (by decide) ?_
  refine W.widen (k := 0) (n := 0) (Nat.le_of_ble_eq_true rfl) (Nat.le_of_ble_eq_true rfl) ?_
  exact W.vret hx hb hr (fun t ht hW => ⟨⟨(), rfl, trivial, by rw [ht]; exact hP, va_K.moved hW.alike hK, by rw [hAe]; exact hD⟩, by rw [hAe]; exact hS.F ht⟩) (by rw [hAe]; exact hS.2.2) d_Tp_step_182
def f_Tp_readLine_c12  : Int32 := 0
set_option maxHeartbeats 4000000 in
set_option maxRecDepth 100000 in
theorem c_Tp_readLine_c12 (l : Launch) (dC : Nat → ClassId) (dI : Nat → Nat → Nat) (h_0 h_1 y_1_2 y_1_3 h_2 h_3 : Nat) (kk_2 kk_3 : ClassId) (gg_3 : Nat → Int32) (sz : Nat)   : Met l y_Tp_readLine (.code y_Tp_readLine b_Tp_readLine 8 (some .boolean) :: TB) ({ frames := 0, cells := 0, slots := 0, locals := 0 }) (va_Pc [.ref h_0, .ref h_1] (PC dC dI [(h_0, .inr (4, [.ref h_2, .int 0, .int 0, .int 0, .int 0, .int 0])), (h_1, .inr (3, [.int 0, .int 0, .ref y_1_2, .ref y_1_3, .ref h_3, .int 0, .int 0, .int 0, .int 0])), (h_2, .inl (kk_2, 400, .inl (fun _ => 0))), (h_3, .inl (kk_3, 9, .inl gg_3))] [(kk_2, .byte), (kk_3, .int)] sz)) (va_Qi (fun r (_ : Unit) => r = f_Tp_readLine_c12) (fun (_ : Unit) t => va_P (dC, dI) vwCl [(h_0, .inr (4, [.ref h_2, .int 0, .int 0, .int 0, .int 0, .int 0])), (h_1, .inr (3, [.int 0, .int 0, .ref y_1_2, .ref y_1_3, .ref h_3, .int 0, .int 0, .int 0, .int 0])), (h_2, .inl (kk_2, 400, .inl (fun _ => 0))), (h_3, .inl (kk_3, 9, .inl gg_3))] t.heap ∧ va_K (dC, dI) vwCl [(kk_2, .byte), (kk_3, .int)] t ∧ va_D (va_A [(h_0, .inr (4, [.ref h_2, .int 0, .int 0, .int 0, .int 0, .int 0])), (h_1, .inr (3, [.int 0, .int 0, .ref y_1_2, .ref y_1_3, .ref h_3, .int 0, .int 0, .int 0, .int 0])), (h_2, .inl (kk_2, 400, .inl (fun _ => 0))), (h_3, .inl (kk_3, 9, .inl gg_3))] sz) [(h_0, .inr (4, [.ref h_2, .int 0, .int 0, .int 0, .int 0, .int 0])), (h_1, .inr (3, [.int 0, .int 0, .ref y_1_2, .ref y_1_3, .ref h_3, .int 0, .int 0, .int 0, .int 0])), (h_2, .inl (kk_2, 400, .inl (fun _ => 0))), (h_3, .inl (kk_3, 9, .inl gg_3))]) (va_A [(h_0, .inr (4, [.ref h_2, .int 0, .int 0, .int 0, .int 0, .int 0])), (h_1, .inr (3, [.int 0, .int 0, .ref y_1_2, .ref y_1_3, .ref h_3, .int 0, .int 0, .int 0, .int 0])), (h_2, .inl (kk_2, 400, .inl (fun _ => 0))), (h_3, .inl (kk_3, 9, .inl gg_3))] sz)) 0 0 (va_A [(h_0, .inr (4, [.ref h_2, .int 0, .int 0, .int 0, .int 0, .int 0])), (h_1, .inr (3, [.int 0, .int 0, .ref y_1_2, .ref y_1_3, .ref h_3, .int 0, .int 0, .int 0, .int 0])), (h_2, .inl (kk_2, 400, .inl (fun _ => 0))), (h_3, .inl (kk_3, 9, .inl gg_3))] sz) := by
  refine Met.ofW (cc := b_Tp_readLine) (maxL := 8) (ret := (some .boolean)) (by decide) rfl ?_
  intro p e s m args below meth c s₁ B hml hv
  obtain ⟨rfl, hsz, hP, hK, hD0, hN⟩ := hv
  have hx := B.exec
  have hb := B.bytes
  have hr := B.returns
  have hts := atoms_spec (ws := (.code y_Tp_readLine b_Tp_readLine 8 (some .boolean) :: TB)) B.pre
  have htb := fun w (h : w ∈ TB) => hts w (List.mem_cons_of_mem _ h)
  have hown : s.vm.findClass R_Tp = some m.cls := findClass_of_methodNamed B.named
  have hlocks := B.notSynchronized
  have hl := lv_entry ([.ref h_0, .ref h_1]) (n := 8) (Nat.le_of_ble_eq_true rfl)
  rw [lg_entry_eq]
  generalize (lg_sl ([.ref h_0, .ref h_1]) ++ List.replicate (8 - (lg_sl ([.ref h_0, .ref h_1])).length) Slot.unset).toArray = ls at hl ⊢
  have hl : lv_has ls 8 [(0, .ref h_0), (1, .ref h_1)] := hl
  subst hsz
  have hD := hD0.self (sz := s.heap.size)
  obtain ⟨A, hAe⟩ : ∃ A, va_A [(h_0, .inr (4, [.ref h_2, .int 0, .int 0, .int 0, .int 0, .int 0])), (h_1, .inr (3, [.int 0, .int 0, .ref y_1_2, .ref y_1_3, .ref h_3, .int 0, .int 0, .int 0, .int 0])), (h_2, .inl (kk_2, 400, .inl (fun _ => 0))), (h_3, .inl (kk_3, 9, .inl gg_3))] s.heap.size = A := ⟨_, rfl⟩
  rw [hAe] at hD
  have hA : ∀ q : Nat, s.heap.size ≤ q → A q := fun q h => by rw [← hAe]; exact Or.inr h
  have hS : va_S A s.heap s.heap [] := va_S.rf
  have hP := hP
  refine lv_aload_n hx hb d_Tp_readLine_0 rfl (lv_at hl 0 rfl) ?_
  refine va_get (D := (dC, dI)) (ci := 4) (v := .int 0) (C := R_Tp) (T := F_Tp) (N := 6) hx hb htb i_Tp hown hK hP 0 rfl rfl 2 (by decide) (htb (.fieldLink R_Tp 37 "WaterMen$Tape" "sort" "I") tw_210) (fun _ h9 => h9) rfl d_Tp_readLine_1 ?_
  refine lv_iconst (v := 1) hx hb d_Tp_readLine_4 (by decide +kernel) ?_
  refine lv_icmp_ne (tgt := 15) hx hb d_Tp_readLine_5 (by decide) (fun _ => ?_) (fun h => absurd h (by decide +kernel))
  refine lv_iconst (v := (-1)) hx hb d_Tp_readLine_15 (by decide +kernel) ?_
  refine lv_istore_n (lv' := [(2, .int (-1)), (0, .ref h_0), (1, .ref h_1)]) hx hb d_Tp_readLine_16 rfl hl (by decide) rfl (fun ls hl => ?_)
  refine lv_iload_n hx hb d_Tp_readLine_17 rfl (lv_at hl 0 rfl) ?_
  refine lv_iconst (v := (-1)) hx hb d_Tp_readLine_18 (by decide +kernel) ?_
  refine lv_icmp_eq (tgt := 30) hx hb d_Tp_readLine_19 (by decide) (fun _ => ?_) (fun h => absurd (by decide +kernel) h)
  refine lv_iconst (v := 0) hx hb d_Tp_readLine_30 (by decide +kernel) ?_
  refine W.widen (k := 0) (n := 0) (Nat.le_of_ble_eq_true rfl) (Nat.le_of_ble_eq_true rfl) ?_
  exact W.zret (v := 0) hx hb hr (by decide +kernel) (fun t ht hW => ⟨⟨0, (), rfl, rfl, by rw [ht]; exact hP, va_K.moved hW.alike hK, by rw [hAe]; exact hD⟩, by rw [hAe]; exact hS.F ht⟩) (by rw [hAe]; exact hS.2.2) d_Tp_readLine_31
def f_Tp_readInto_c10  : Int32 := 0
set_option maxHeartbeats 4000000 in
set_option maxRecDepth 100000 in
theorem c_Tp_readInto_c10 (l : Launch) (dC : Nat → ClassId) (dI : Nat → Nat → Nat) (h_0 h_1 y_1_2 y_1_3 h_2 h_3 : Nat) (kk_2 kk_3 : ClassId) (sz : Nat)   : Met l y_Tp_readInto (.code y_Tp_readInto b_Tp_readInto 3 (some .int) :: TB) ({ frames := 1, cells := 0, slots := 0, locals := 27 }) (va_Pc [.ref h_0, .ref h_1] (PC dC dI [(h_0, .inr (4, [.ref h_2, .int 0, .int 0, .int 0, .int 0, .int 0])), (h_1, .inr (3, [.int 0, .int 0, .ref y_1_2, .ref y_1_3, .ref h_3, .int 0, .int 0, .int 0, .int 0])), (h_2, .inl (kk_2, 400, .inl (fun _ => 0))), (h_3, .inl (kk_3, 9, .inl (fun _ => 0)))] [(kk_2, .byte), (kk_3, .int)] sz)) (va_Qi (fun r (_ : Unit) => r = f_Tp_readInto_c10) (fun (_ : Unit) t => ∃ (g_1 : Nat → Int32) , va_P (dC, dI) vwCl [(h_0, .inr (4, [.ref h_2, .int 0, .int 0, .int 0, .int 0, .int 0])), (h_1, .inr (3, [.int 0, .int 0, .ref y_1_2, .ref y_1_3, .ref h_3, .int 0, .int 0, .int 0, .int 0])), (h_2, .inl (kk_2, 400, .inl (fun _ => 0))), (h_3, .inl (kk_3, 9, .inl g_1))] t.heap ∧ va_K (dC, dI) vwCl [(kk_2, .byte), (kk_3, .int)] t ∧ va_D (va_A [(h_0, .inr (4, [.ref h_2, .int 0, .int 0, .int 0, .int 0, .int 0])), (h_1, .inr (3, [.int 0, .int 0, .ref y_1_2, .ref y_1_3, .ref h_3, .int 0, .int 0, .int 0, .int 0])), (h_2, .inl (kk_2, 400, .inl (fun _ => 0))), (h_3, .inl (kk_3, 9, .inl (fun _ => 0)))] sz) [(h_0, .inr (4, [.ref h_2, .int 0, .int 0, .int 0, .int 0, .int 0])), (h_1, .inr (3, [.int 0, .int 0, .ref y_1_2, .ref y_1_3, .ref h_3, .int 0, .int 0, .int 0, .int 0])), (h_2, .inl (kk_2, 400, .inl (fun _ => 0))), (h_3, .inl (kk_3, 9, .inl g_1))]) (va_A [(h_0, .inr (4, [.ref h_2, .int 0, .int 0, .int 0, .int 0, .int 0])), (h_1, .inr (3, [.int 0, .int 0, .ref y_1_2, .ref y_1_3, .ref h_3, .int 0, .int 0, .int 0, .int 0])), (h_2, .inl (kk_2, 400, .inl (fun _ => 0))), (h_3, .inl (kk_3, 9, .inl (fun _ => 0)))] sz)) 0 0 (va_A [(h_0, .inr (4, [.ref h_2, .int 0, .int 0, .int 0, .int 0, .int 0])), (h_1, .inr (3, [.int 0, .int 0, .ref y_1_2, .ref y_1_3, .ref h_3, .int 0, .int 0, .int 0, .int 0])), (h_2, .inl (kk_2, 400, .inl (fun _ => 0))), (h_3, .inl (kk_3, 9, .inl (fun _ => 0)))] sz) := by
  refine Met.ofW (cc := b_Tp_readInto) (maxL := 3) (ret := (some .int)) (by decide) rfl ?_
  intro p e s m args below meth c s₁ B hml hv
  obtain ⟨rfl, hsz, hP, hK, hD0, hN⟩ := hv
  have hx := B.exec
  have hb := B.bytes
  have hr := B.returns
  have hts := atoms_spec (ws := (.code y_Tp_readInto b_Tp_readInto 3 (some .int) :: TB)) B.pre
  have htb := fun w (h : w ∈ TB) => hts w (List.mem_cons_of_mem _ h)
  have hown : s.vm.findClass R_Tp = some m.cls := findClass_of_methodNamed B.named
  have hlocks := B.notSynchronized
  have hl := lv_entry ([.ref h_0, .ref h_1]) (n := 3) (Nat.le_of_ble_eq_true rfl)
  rw [lg_entry_eq]
  generalize (lg_sl ([.ref h_0, .ref h_1]) ++ List.replicate (3 - (lg_sl ([.ref h_0, .ref h_1])).length) Slot.unset).toArray = ls at hl ⊢
  have hl : lv_has ls 3 [(0, .ref h_0), (1, .ref h_1)] := hl
  subst hsz
  have hD := hD0.self (sz := s.heap.size)
  obtain ⟨A, hAe⟩ : ∃ A, va_A [(h_0, .inr (4, [.ref h_2, .int 0, .int 0, .int 0, .int 0, .int 0])), (h_1, .inr (3, [.int 0, .int 0, .ref y_1_2, .ref y_1_3, .ref h_3, .int 0, .int 0, .int 0, .int 0])), (h_2, .inl (kk_2, 400, .inl (fun _ => 0))), (h_3, .inl (kk_3, 9, .inl (fun _ => 0)))] s.heap.size = A := ⟨_, rfl⟩
  rw [hAe] at hD
  have hA : ∀ q : Nat, s.heap.size ≤ q → A q := fun q h => by rw [← hAe]; exact Or.inr h
  have hS : va_S A s.heap s.heap [] := va_S.rf
  have hP := hP
  refine lv_aload_n hx hb d_Tp_readInto_0 rfl (lv_at hl 1 rfl) ?_
  have hPc := hP.sub (ws' := [(h_1, .inr (3, [.int 0, .int 0, .ref y_1_2, .ref y_1_3, .ref h_3, .int 0, .int 0, .int 0, .int 0])), (h_3, .inl (kk_3, 9, .inl (fun _ => 0)))]) [1, 3] rfl
  have hDc := hD.sub (ws' := [(h_1, .inr (3, [.int 0, .int 0, .ref y_1_2, .ref y_1_3, .ref h_3, .int 0, .int 0, .int 0, .int 0])), (h_3, .inl (kk_3, 9, .inl (fun _ => 0)))]) [1, 3] (by decide) rfl
  have hKc := hK.sub (tys' := [(kk_3, .int)]) [1] rfl
  have hFc := va_free (wc := [(h_1, .inr (3, [.int 0, .int 0, .ref y_1_2, .ref y_1_3, .ref h_3, .int 0, .int 0, .int 0, .int 0])), (h_3, .inl (kk_3, 9, .inl (fun _ => 0)))]) hD hS hA [1, 3] rfl
  refine va_callv (va_runV (As := []) (rest := []) ⟨hx, hb, hml, hown, htb⟩ (c_Or_clear_c10 l dC dI h_1 y_1_2 y_1_3 h_3 kk_3 _) (cwV 0 htb (gd_V tw_204 tw_205 tw_206 tw_96 tw_203) rfl rfl rfl (by decide +kernel) ⟨Nat.le_of_ble_eq_true rfl, Nat.le_of_ble_eq_true rfl⟩) ⟨pc_blind, va_recv hKc hPc (ci := 3) (q0 := 0) rfl rfl, pc_pre hPc hKc hDc hN⟩ rfl rfl hl.1 rfl (lv_room (Nat.le_of_ble_eq_true rfl)) d_Tp_readInto_1 ⟨Nat.le_of_ble_eq_true rfl, Nat.le_of_ble_eq_true rfl⟩) hS (fun q _ h => hFc q h) hFc (fun u t H1 locs ht hvm hw hB hz1 hk1 hS => ?_)
  obtain ⟨z_1, hP1, hK1, hD1⟩ := hB
  rw [ht] at hP1
  have hK1 := va_K.moved hvm.symm hK1
  obtain ⟨hP, hD⟩ := va_join (wr := [(h_0, .inr (4, [.ref h_2, .int 0, .int 0, .int 0, .int 0, .int 0])), (h_2, .inl (kk_2, 400, .inl (fun _ => 0)))]) (w1 := [(h_1, .inr (3, [.int 0, .int 0, .ref y_1_2, .ref y_1_3, .ref h_3, .int 0, .int 0, .int 0, .int 0])), (h_3, .inl (kk_3, 9, .inl z_1))]) hP hD [1, 3] [0, 2] rfl rfl (by decide) (by decide) hk1 hFc hP1 hD1
  have hK := (hK.sub (tys' := [(kk_2, .byte)]) [0] rfl).app hK1
  generalize H1 = H at hP hS ⊢
  have hP : va_P (dC, dI) vwCl [(h_0, .inr (4, [.ref h_2, .int 0, .int 0, .int 0, .int 0, .int 0])), (h_2, .inl (kk_2, 400, .inl (fun _ => 0))), (h_1, .inr (3, [.int 0, .int 0, .ref y_1_2, .ref y_1_3, .ref h_3, .int 0, .int 0, .int 0, .int 0])), (h_3, .inl (kk_3, 9, .inl z_1))] H := hP
  have hD : va_D A [(h_0, .inr (4, [.ref h_2, .int 0, .int 0, .int 0, .int 0, .int 0])), (h_2, .inl (kk_2, 400, .inl (fun _ => 0))), (h_1, .inr (3, [.int 0, .int 0, .ref y_1_2, .ref y_1_3, .ref h_3, .int 0, .int 0, .int 0, .int 0])), (h_3, .inl (kk_3, 9, .inl z_1))] := hD
  have hK : va_K (dC, dI) vwCl [(kk_2, .byte), (kk_3, .int)] s := hK
  refine lv_aload_n hx hb d_Tp_readInto_4 rfl (lv_at hl 0 rfl) ?_
  refine lv_iconst (v := 0) hx hb d_Tp_readInto_5 (by decide +kernel) ?_
  refine va_put (D := (dC, dI)) (ci := 4) (v := .int 0) (ty := .int) (C := R_Tp) (T := F_Tp) (N := 6) hx hb htb i_Tp t_Tp t_Tp_ok n_Tp hown hK hP hD hS 0 rfl rfl 4 (by decide) (htb (.fieldLink R_Tp 24 "WaterMen$Tape" "behind" "I") tw_207) (fun _ h9 => h9) rfl (by decide +kernel) rfl rfl (Nat.le_of_ble_eq_true rfl) d_Tp_readInto_6 (fun H locs hP hD hS => ?_)
  have hP : va_P (dC, dI) vwCl [(h_0, .inr (4, [.ref h_2, .int 0, .int 0, .int 0, .int 0, .int 0])), (h_2, .inl (kk_2, 400, .inl (fun _ => 0))), (h_1, .inr (3, [.int 0, .int 0, .ref y_1_2, .ref y_1_3, .ref h_3, .int 0, .int 0, .int 0, .int 0])), (h_3, .inl (kk_3, 9, .inl z_1))] H := hP
  have hD : va_D A [(h_0, .inr (4, [.ref h_2, .int 0, .int 0, .int 0, .int 0, .int 0])), (h_2, .inl (kk_2, 400, .inl (fun _ => 0))), (h_1, .inr (3, [.int 0, .int 0, .ref y_1_2, .ref y_1_3, .ref h_3, .int 0, .int 0, .int 0, .int 0])), (h_3, .inl (kk_3, 9, .inl z_1))] := hD
  refine lv_aload_n hx hb d_Tp_readInto_9 rfl (lv_at hl 0 rfl) ?_
  have hPc := hP.sub (ws' := [(h_0, .inr (4, [.ref h_2, .int 0, .int 0, .int 0, .int 0, .int 0])), (h_2, .inl (kk_2, 400, .inl (fun _ => 0)))]) [0, 1] rfl
  have hDc := hD.sub (ws' := [(h_0, .inr (4, [.ref h_2, .int 0, .int 0, .int 0, .int 0, .int 0])), (h_2, .inl (kk_2, 400, .inl (fun _ => 0)))]) [0, 1] (by decide) rfl
  have hKc := hK.sub (tys' := [(kk_2, .byte)]) [0] rfl
  have hFc := va_free (wc := [(h_0, .inr (4, [.ref h_2, .int 0, .int 0, .int 0, .int 0, .int 0])), (h_2, .inl (kk_2, 400, .inl (fun _ => 0)))]) hD hS hA [0, 1] rfl
  refine va_callv (va_runV (As := []) (rest := []) ⟨hx, hb, hml, hown, htb⟩ (c_Tp_step_c11 l dC dI h_0 h_2 kk_2 _) (cwV 0 htb (gd_V tw_212 tw_213 tw_214 tw_79 tw_211) rfl rfl rfl (by decide +kernel) ⟨Nat.le_of_ble_eq_true rfl, Nat.le_of_ble_eq_true rfl⟩) ⟨pc_blind, va_recv hKc hPc (ci := 4) (q0 := 0) rfl rfl, pc_pre hPc hKc hDc hN⟩ rfl rfl hl.1 rfl (lv_room (Nat.le_of_ble_eq_true rfl)) d_Tp_readInto_10 ⟨Nat.le_of_ble_eq_true rfl, Nat.le_of_ble_eq_true rfl⟩) hS (fun q _ h => hFc q h) hFc (fun u t H1 locs ht hvm hw hB hz1 hk1 hS => ?_)
  obtain ⟨hP1, hK1, hD1⟩ := hB
  rw [ht] at hP1
  have hK1 := va_K.moved hvm.symm hK1
  obtain ⟨hP, hD⟩ := va_join (wr := [(h_1, .inr (3, [.int 0, .int 0, .ref y_1_2, .ref y_1_3, .ref h_3, .int 0, .int 0, .int 0, .int 0])), (h_3, .inl (kk_3, 9, .inl z_1))]) (w1 := [(h_0, .inr (4, [.ref h_2, .int 0, .int 0, .int 0, .int 0, .int 0])), (h_2, .inl (kk_2, 400, .inl (fun _ => 0)))]) hP hD [0, 1] [2, 3] rfl rfl (by decide) (by decide) hk1 hFc hP1 hD1
  have hK := (hK.sub (tys' := [(kk_3, .int)]) [1] rfl).app hK1
  generalize H1 = H at hP hS ⊢
  have hP : va_P (dC, dI) vwCl [(h_1, .inr (3, [.int 0, .int 0, .ref y_1_2, .ref y_1_3, .ref h_3, .int 0, .int 0, .int 0, .int 0])), (h_3, .inl (kk_3, 9, .inl z_1)), (h_0, .inr (4, [.ref h_2, .int 0, .int 0, .int 0, .int 0, .int 0])), (h_2, .inl (kk_2, 400, .inl (fun _ => 0)))] H := hP
  have hD : va_D A [(h_1, .inr (3, [.int 0, .int 0, .ref y_1_2, .ref y_1_3, .ref h_3, .int 0, .int 0, .int 0, .int 0])), (h_3, .inl (kk_3, 9, .inl z_1)), (h_0, .inr (4, [.ref h_2, .int 0, .int 0, .int 0, .int 0, .int 0])), (h_2, .inl (kk_2, 400, .inl (fun _ => 0)))] := hD
  have hK : va_K (dC, dI) vwCl [(kk_3, .int), (kk_2, .byte)] s := hK
  refine lv_iconst (v := 0) hx hb d_Tp_readInto_13 (by decide +kernel) ?_
  refine lv_istore_n (lv' := [(2, .int 0), (0, .ref h_0), (1, .ref h_1)]) hx hb d_Tp_readInto_14 rfl hl (by decide) rfl (fun ls hl => ?_)
  refine lv_iload_n hx hb d_Tp_readInto_15 rfl (lv_at hl 0 rfl) ?_
  refine lv_sipush (v := 400) hx hb d_Tp_readInto_16 (by decide +kernel) ?_
  refine lv_icmp_gt (tgt := 50) hx hb d_Tp_readInto_19 (by decide) (fun h => absurd h (by decide +kernel)) (fun _ => ?_)
  refine lv_aload_n hx hb d_Tp_readInto_22 rfl (lv_at hl 1 rfl) ?_
  refine lv_aload_n hx hb d_Tp_readInto_23 rfl (lv_at hl 2 rfl) ?_
  have hPc := hP.sub (ws' := [(h_0, .inr (4, [.ref h_2, .int 0, .int 0, .int 0, .int 0, .int 0])), (h_1, .inr (3, [.int 0, .int 0, .ref y_1_2, .ref y_1_3, .ref h_3, .int 0, .int 0, .int 0, .int 0])), (h_2, .inl (kk_2, 400, .inl (fun _ => 0))), (h_3, .inl (kk_3, 9, .inl z_1))]) [2, 0, 3, 1] rfl
  have hDc := hD.sub (ws' := [(h_0, .inr (4, [.ref h_2, .int 0, .int 0, .int 0, .int 0, .int 0])), (h_1, .inr (3, [.int 0, .int 0, .ref y_1_2, .ref y_1_3, .ref h_3, .int 0, .int 0, .int 0, .int 0])), (h_2, .inl (kk_2, 400, .inl (fun _ => 0))), (h_3, .inl (kk_3, 9, .inl z_1))]) [2, 0, 3, 1] (by decide) rfl
  have hKc := hK.sub (tys' := [(kk_2, .byte), (kk_3, .int)]) [1, 0] rfl
  have hFc := va_free (wc := [(h_0, .inr (4, [.ref h_2, .int 0, .int 0, .int 0, .int 0, .int 0])), (h_1, .inr (3, [.int 0, .int 0, .ref y_1_2, .ref y_1_3, .ref h_3, .int 0, .int 0, .int 0, .int 0])), (h_2, .inl (kk_2, 400, .inl (fun _ => 0))), (h_3, .inl (kk_3, 9, .inl z_1))]) hD hS hA [2, 0, 3, 1] rfl
  refine va_calli (va_runV (As := [.ref h_1]) (rest := []) ⟨hx, hb, hml, hown, htb⟩ (c_Tp_readLine_c12 l dC dI h_0 h_1 y_1_2 y_1_3 h_2 h_3 kk_2 kk_3 z_1 _) (cwV 1 htb (gd_V tw_216 tw_217 tw_218 tw_79 tw_215) rfl rfl rfl (by decide +kernel) ⟨Nat.le_of_ble_eq_true rfl, Nat.le_of_ble_eq_true rfl⟩) ⟨pc_blind, va_recv hKc hPc (ci := 4) (q0 := 0) rfl rfl, pc_pre hPc hKc hDc hN⟩ rfl rfl hl.1 rfl (lv_room (Nat.le_of_ble_eq_true rfl)) d_Tp_readInto_24 ⟨Nat.le_of_ble_eq_true rfl, Nat.le_of_ble_eq_true rfl⟩) hS (fun q _ h => hFc q h) hFc (fun r u t H1 locs ht hvm er hB hz1 hk1 hS => ?_)
  subst er
  obtain ⟨hP1, hK1, hD1⟩ := hB
  rw [ht] at hP1
  have hK1 := va_K.moved hvm.symm hK1
  obtain ⟨hP, hD⟩ := va_join (wr := []) (w1 := [(h_0, .inr (4, [.ref h_2, .int 0, .int 0, .int 0, .int 0, .int 0])), (h_1, .inr (3, [.int 0, .int 0, .ref y_1_2, .ref y_1_3, .ref h_3, .int 0, .int 0, .int 0, .int 0])), (h_2, .inl (kk_2, 400, .inl (fun _ => 0))), (h_3, .inl (kk_3, 9, .inl z_1))]) hP hD [2, 0, 3, 1] [] rfl rfl (by decide) (by decide) hk1 hFc hP1 hD1
  have hK := (hK.sub (tys' := []) [] rfl).app hK1
  generalize H1 = H at hP hS ⊢
  have hP : va_P (dC, dI) vwCl [(h_0, .inr (4, [.ref h_2, .int 0, .int 0, .int 0, .int 0, .int 0])), (h_1, .inr (3, [.int 0, .int 0, .ref y_1_2, .ref y_1_3, .ref h_3, .int 0, .int 0, .int 0, .int 0])), (h_2, .inl (kk_2, 400, .inl (fun _ => 0))), (h_3, .inl (kk_3, 9, .inl z_1))] H := hP
  have hD : va_D A [(h_0, .inr (4, [.ref h_2, .int 0, .int 0, .int 0, .int 0, .int 0])), (h_1, .inr (3, [.int 0, .int 0, .ref y_1_2, .ref y_1_3, .ref h_3, .int 0, .int 0, .int 0, .int 0])), (h_2, .inl (kk_2, 400, .inl (fun _ => 0))), (h_3, .inl (kk_3, 9, .inl z_1))] := hD
  have hK : va_K (dC, dI) vwCl [(kk_2, .byte), (kk_3, .int)] s := hK
  refine hb_ti 0 rfl ?_
  refine lv_if_ne (tgt := 35) hx hb d_Tp_readInto_27 (by decide) (fun h => absurd (by decide +kernel) h) (fun _ => ?_)
  refine lv_aload_n hx hb d_Tp_readInto_30 rfl (lv_at hl 1 rfl) ?_
  refine va_get (D := (dC, dI)) (ci := 4) (v := .int 0) (C := R_Tp) (T := F_Tp) (N := 6) hx hb htb i_Tp hown hK hP 0 rfl rfl 3 (by decide) (htb (.fieldLink R_Tp 34 "WaterMen$Tape" "start" "I") tw_208) (fun _ h9 => h9) rfl d_Tp_readInto_31 ?_
  refine W.widen (k := 0) (n := 0) (Nat.le_of_ble_eq_true rfl) (Nat.le_of_ble_eq_true rfl) ?_
  exact W.iret (v := 0) hx hb hr (fun t ht hW => ⟨⟨0, (), rfl, rfl, z_1, by rw [ht]; exact hP, va_K.moved hW.alike hK, by rw [hAe]; exact hD⟩, by rw [hAe]; exact hS.F ht⟩) (by rw [hAe]; exact hS.2.2) d_Tp_readInto_34
def f_WM_order (p_0 : Int32) : Int32 := if p_0 < 0 then ((-1)) else (if 500 ≤ p_0 then ((-1)) else ((-100)))
set_option maxHeartbeats 4000000 in
set_option maxRecDepth 100000 in
theorem c_WM_order (l : Launch) (dC : Nat → ClassId) (dI : Nat → Nat → Nat) (a : Nat → Nat) (k : Nat → ClassId) (L : List Nat) (hL : L.length = 40) (sz : Nat) (p_0 : Int32)  : Met l y_WM_order (.code y_WM_order b_WM_order 3 (some .int) :: TB) ({ frames := 2, cells := 0, slots := 0, locals := 49 }) (va_Pc [.ref (a 0), .int p_0] (PC dC dI (XW a k L) (XT k) sz)) (va_Qi (fun r (_ : Unit) => r = f_WM_order p_0) (fun (_ : Unit) (_ : State) => True) (va_A (XW a k L) sz)) 0 0 (va_A (XW a k L) sz) := by
  refine Met.ofW (cc := b_WM_order) (maxL := 3) (ret := (some .int)) (by decide) rfl ?_
  intro p e s m args below meth c s₁ B hml hv
  obtain ⟨rfl, hsz, hP, hK, hD0, hN⟩ := hv
  have hx := B.exec
  have hb := B.bytes
  have hr := B.returns
  have hts := atoms_spec (ws := (.code y_WM_order b_WM_order 3 (some .int) :: TB)) B.pre
  have htb := fun w (h : w ∈ TB) => hts w (List.mem_cons_of_mem _ h)
  have hown : s.vm.findClass R_WM = some m.cls := findClass_of_methodNamed B.named
  have hlocks := B.notSynchronized
  have hl := lv_entry ([.ref (a 0), .int p_0]) (n := 3) (Nat.le_of_ble_eq_true rfl)
  rw [lg_entry_eq]
  generalize (lg_sl ([.ref (a 0), .int p_0]) ++ List.replicate (3 - (lg_sl ([.ref (a 0), .int p_0])).length) Slot.unset).toArray = ls at hl ⊢
  have hl : lv_has ls 3 [(0, .ref (a 0)), (1, .int p_0)] := hl
  subst hsz
  have hD := hD0.self (sz := s.heap.size)
  obtain ⟨A, hAe⟩ : ∃ A, va_A (XW a k L) s.heap.size = A := ⟨_, rfl⟩
  rw [hAe] at hD
  have hA : ∀ q : Nat, s.heap.size ≤ q → A q := fun q h => by rw [← hAe]; exact Or.inr h
  have hS : va_S A s.heap s.heap [] := va_S.rf
  have hP := hP
  refine lv_iload_n hx hb d_WM_order_0 rfl (lv_at hl 1 rfl) ?_
  refine vp_callSi (va_Run.run (va_runS (As := [.int p_0]) (rest := []) ⟨hx, hb, hml, hown, htb⟩ (c_WM_isDay l p_0) (cwS 1 htb (gd_S tw_125 tw_126 tw_124 tw_123) rfl rfl rfl (by decide +kernel) ⟨Nat.le_of_ble_eq_true rfl, Nat.le_of_ble_eq_true rfl⟩) ⟨fun _ _ _ _ h => h, fun U _ _ => ⟨rfl, trivial⟩⟩ rfl rfl hl.1 rfl (lv_room (Nat.le_of_ble_eq_true rfl)) d_WM_order_1 ⟨Nat.le_of_ble_eq_true rfl, Nat.le_of_ble_eq_true rfl⟩)) (fun r er => ?_)
  subst er
  by_cases c_1 : p_0 < 0
  · refine hb_ti 0 (by unfold f_WM_isDay; rw [if_pos c_1]) ?_
    refine lv_if_ne (tgt := 9) hx hb d_WM_order_4 (by decide) (fun h => absurd (by decide +kernel) h) (fun _ => ?_)
    refine lv_iconst (v := (-1)) hx hb d_WM_order_7 (by decide +kernel) ?_
    refine W.widen (k := 0) (n := 0) (Nat.le_of_ble_eq_true rfl) (Nat.le_of_ble_eq_true rfl) ?_
    exact W.iret (v := (-1)) hx hb hr (fun t ht hW => ⟨⟨(-1), (), rfl, (by unfold f_WM_order; rw [if_pos c_1]), trivial⟩, by rw [hAe]; exact hS.F ht⟩) (by rw [hAe]; exact hS.2.2) d_WM_order_8
  · by_cases c_2 : 500 ≤ p_0
    · refine hb_ti 0 (by unfold f_WM_isDay; rw [if_neg c_1, if_pos c_2]) ?_
      refine lv_if_ne (tgt := 9) hx hb d_WM_order_4 (by decide) (fun h => absurd (by decide +kernel) h) (fun _ => ?_)
      refine lv_iconst (v := (-1)) hx hb d_WM_order_7 (by decide +kernel) ?_
      refine W.widen (k := 0) (n := 0) (Nat.le_of_ble_eq_true rfl) (Nat.le_of_ble_eq_true rfl) ?_
      exact W.iret (v := (-1)) hx hb hr (fun t ht hW => ⟨⟨(-1), (), rfl, (by unfold f_WM_order; rw [if_neg c_1, if_pos c_2]), trivial⟩, by rw [hAe]; exact hS.F ht⟩) (by rw [hAe]; exact hS.2.2) d_WM_order_8
    · refine hb_ti 1 (by unfold f_WM_isDay; rw [if_neg c_1, if_neg c_2]) ?_
      refine lv_if_ne (tgt := 9) hx hb d_WM_order_4 (by decide) (fun _ => ?_) (fun h => absurd h (by decide +kernel))
      refine lv_aload_n hx hb d_WM_order_9 rfl (lv_at hl 0 rfl) ?_
      refine va_get (D := (dC, dI)) (ci := 0) (v := .int 0) (C := R_WM) (T := F_WM) (N := 13) hx hb htb i_WM hown hK hP 0 rfl rfl 8 (by decide) (htb (.fieldLink R_WM 210 "WaterMen" "orderCount" "I") tw_200) (fun _ h9 => h9) rfl d_WM_order_10 ?_
      refine lv_bipush (v := 20) hx hb d_WM_order_13 (by decide +kernel) ?_
      refine lv_icmp_lt (tgt := 21) hx hb d_WM_order_15 (by decide) (fun _ => ?_) (fun h => absurd (by decide +kernel) h)
      have hP := hP.sub (ws' := [((a 0), .inr (0, [.ref (a 1), .ref (a 6), .ref (a 7), .ref (a 8), .ref (a 9), .ref (a 10), .ref (a 12), .int 0, .int 0, .int 0, .int 0, .int 0, .ref (a 15)])), ((a 10), .inr (4, [.ref (a 11), .int 0, .int 0, .int 0, .int 0, .int 0])), ((a 11), .inl ((k 11), 400, .inl (fun _ => 0))), ((a 15), .inr (3, [.int 0, .int 0, .ref (a 16), .ref (a 17), .ref (a 18), .int 0, .int 0, .int 0, .int 0])), ((a 18), .inl ((k 18), 9, .inl (fun _ => 0)))]) [0, 10, 11, 15, 18] rfl
      have hD := hD.sub (ws' := [((a 0), .inr (0, [.ref (a 1), .ref (a 6), .ref (a 7), .ref (a 8), .ref (a 9), .ref (a 10), .ref (a 12), .int 0, .int 0, .int 0, .int 0, .int 0, .ref (a 15)])), ((a 10), .inr (4, [.ref (a 11), .int 0, .int 0, .int 0, .int 0, .int 0])), ((a 11), .inl ((k 11), 400, .inl (fun _ => 0))), ((a 15), .inr (3, [.int 0, .int 0, .ref (a 16), .ref (a 17), .ref (a 18), .int 0, .int 0, .int 0, .int 0])), ((a 18), .inl ((k 18), 9, .inl (fun _ => 0)))]) [0, 10, 11, 15, 18] (by decide) rfl
      have hK := hK.sub (tys' := [((k 11), .byte), ((k 18), .int)]) [8, 13] rfl
      refine lv_aload_n hx hb d_WM_order_21 rfl (lv_at hl 0 rfl) ?_
      refine va_get (D := (dC, dI)) (ci := 0) (v := .ref (a 10)) (C := R_WM) (T := F_WM) (N := 13) hx hb htb i_WM hown hK hP 0 rfl rfl 5 (by decide) (htb (.fieldLink R_WM 43 "WaterMen" "tape" "LWaterMen$Tape;") tw_84) (fun _ h9 => h9) rfl d_WM_order_22 ?_
      refine lv_aload_n hx hb d_WM_order_25 rfl (lv_at hl 0 rfl) ?_
      refine va_get (D := (dC, dI)) (ci := 0) (v := .ref (a 15)) (C := R_WM) (T := F_WM) (N := 13) hx hb htb i_WM hown hK hP 0 rfl rfl 12 (by decide) (htb (.fieldLink R_WM 55 "WaterMen" "draft" "LWaterMen$Order;") tw_103) (fun _ h9 => h9) rfl d_WM_order_26 ?_
      have hPc := hP.sub (ws' := [((a 10), .inr (4, [.ref (a 11), .int 0, .int 0, .int 0, .int 0, .int 0])), ((a 15), .inr (3, [.int 0, .int 0, .ref (a 16), .ref (a 17), .ref (a 18), .int 0, .int 0, .int 0, .int 0])), ((a 11), .inl ((k 11), 400, .inl (fun _ => 0))), ((a 18), .inl ((k 18), 9, .inl (fun _ => 0)))]) [1, 3, 2, 4] rfl
      have hDc := hD.sub (ws' := [((a 10), .inr (4, [.ref (a 11), .int 0, .int 0, .int 0, .int 0, .int 0])), ((a 15), .inr (3, [.int 0, .int 0, .ref (a 16), .ref (a 17), .ref (a 18), .int 0, .int 0, .int 0, .int 0])), ((a 11), .inl ((k 11), 400, .inl (fun _ => 0))), ((a 18), .inl ((k 18), 9, .inl (fun _ => 0)))]) [1, 3, 2, 4] (by decide) rfl
      have hKc := hK.sub (tys' := [((k 11), .byte), ((k 18), .int)]) [0, 1] rfl
      have hFc := va_free (wc := [((a 10), .inr (4, [.ref (a 11), .int 0, .int 0, .int 0, .int 0, .int 0])), ((a 15), .inr (3, [.int 0, .int 0, .ref (a 16), .ref (a 17), .ref (a 18), .int 0, .int 0, .int 0, .int 0])), ((a 11), .inl ((k 11), 400, .inl (fun _ => 0))), ((a 18), .inl ((k 18), 9, .inl (fun _ => 0)))]) hD hS hA [1, 3, 2, 4] rfl
      refine va_calli (va_runV (As := [.ref (a 15)]) (rest := []) ⟨hx, hb, hml, hown, htb⟩ (c_Tp_readInto_c10 l dC dI (a 10) (a 15) (a 16) (a 17) (a 11) (a 18) (k 11) (k 18) _) (cwV 1 htb (gd_V tw_220 tw_221 tw_222 tw_79 tw_219) rfl rfl rfl (by decide +kernel) ⟨Nat.le_of_ble_eq_true rfl, Nat.le_of_ble_eq_true rfl⟩) ⟨pc_blind, va_recv hKc hPc (ci := 4) (q0 := 0) rfl rfl, pc_pre hPc hKc hDc hN⟩ rfl rfl hl.1 rfl (lv_room (Nat.le_of_ble_eq_true rfl)) d_WM_order_29 ⟨Nat.le_of_ble_eq_true rfl, Nat.le_of_ble_eq_true rfl⟩) hS (fun q _ h => hFc q h) hFc (fun r u t H1 locs ht hvm er hB hz1 hk1 hS => ?_)
      subst er
      obtain ⟨z_3, hP1, hK1, hD1⟩ := hB
      rw [ht] at hP1
      have hK1 := va_K.moved hvm.symm hK1
      obtain ⟨hP, hD⟩ := va_join (wr := [((a 0), .inr (0, [.ref (a 1), .ref (a 6), .ref (a 7), .ref (a 8), .ref (a 9), .ref (a 10), .ref (a 12), .int 0, .int 0, .int 0, .int 0, .int 0, .ref (a 15)]))]) (w1 := [((a 10), .inr (4, [.ref (a 11), .int 0, .int 0, .int 0, .int 0, .int 0])), ((a 15), .inr (3, [.int 0, .int 0, .ref (a 16), .ref (a 17), .ref (a 18), .int 0, .int 0, .int 0, .int 0])), ((a 11), .inl ((k 11), 400, .inl (fun _ => 0))), ((a 18), .inl ((k 18), 9, .inl z_3))]) hP hD [1, 3, 2, 4] [0] rfl rfl (by decide) (by decide) hk1 hFc hP1 hD1
      have hK := (hK.sub (tys' := []) [] rfl).app hK1
      generalize H1 = H at hP hS ⊢
      have hP : va_P (dC, dI) vwCl [((a 0), .inr (0, [.ref (a 1), .ref (a 6), .ref (a 7), .ref (a 8), .ref (a 9), .ref (a 10), .ref (a 12), .int 0, .int 0, .int 0, .int 0, .int 0, .ref (a 15)])), ((a 10), .inr (4, [.ref (a 11), .int 0, .int 0, .int 0, .int 0, .int 0])), ((a 15), .inr (3, [.int 0, .int 0, .ref (a 16), .ref (a 17), .ref (a 18), .int 0, .int 0, .int 0, .int 0])), ((a 11), .inl ((k 11), 400, .inl (fun _ => 0))), ((a 18), .inl ((k 18), 9, .inl z_3))] H := hP
      have hD : va_D A [((a 0), .inr (0, [.ref (a 1), .ref (a 6), .ref (a 7), .ref (a 8), .ref (a 9), .ref (a 10), .ref (a 12), .int 0, .int 0, .int 0, .int 0, .int 0, .ref (a 15)])), ((a 10), .inr (4, [.ref (a 11), .int 0, .int 0, .int 0, .int 0, .int 0])), ((a 15), .inr (3, [.int 0, .int 0, .ref (a 16), .ref (a 17), .ref (a 18), .int 0, .int 0, .int 0, .int 0])), ((a 11), .inl ((k 11), 400, .inl (fun _ => 0))), ((a 18), .inl ((k 18), 9, .inl z_3))] := hD
      have hK : va_K (dC, dI) vwCl [((k 11), .byte), ((k 18), .int)] s := hK
      refine hb_ti 0 rfl ?_
      refine lv_istore_n (lv' := [(2, .int 0), (0, .ref (a 0)), (1, .int p_0)]) hx hb d_WM_order_32 rfl hl (by decide) rfl (fun ls hl => ?_)
      refine lv_aload_n hx hb d_WM_order_33 rfl (lv_at hl 1 rfl) ?_
      refine va_get (D := (dC, dI)) (ci := 0) (v := .ref (a 10)) (C := R_WM) (T := F_WM) (N := 13) hx hb htb i_WM hown hK hP 0 rfl rfl 5 (by decide) (htb (.fieldLink R_WM 43 "WaterMen" "tape" "LWaterMen$Tape;") tw_84) (fun _ h9 => h9) rfl d_WM_order_34 ?_
      refine lv_iconst (v := 0) hx hb d_WM_order_37 (by decide +kernel) ?_
      refine va_put (D := (dC, dI)) (ci := 4) (v := .int 0) (ty := .int) (C := R_Tp) (T := F_Tp) (N := 6) hx hb htb i_Tp t_Tp t_Tp_ok n_Tp hown hK hP hD hS 1 rfl rfl 1 (by decide) (htb (.fieldLink R_WM 207 "WaterMen$Tape" "length" "I") tw_199) (fun _ h9 => h9) rfl (by decide +kernel) rfl rfl (Nat.le_of_ble_eq_true rfl) d_WM_order_38 (fun H locs hP hD hS => ?_)
      have hP : va_P (dC, dI) vwCl [((a 0), .inr (0, [.ref (a 1), .ref (a 6), .ref (a 7), .ref (a 8), .ref (a 9), .ref (a 10), .ref (a 12), .int 0, .int 0, .int 0, .int 0, .int 0, .ref (a 15)])), ((a 10), .inr (4, [.ref (a 11), .int 0, .int 0, .int 0, .int 0, .int 0])), ((a 15), .inr (3, [.int 0, .int 0, .ref (a 16), .ref (a 17), .ref (a 18), .int 0, .int 0, .int 0, .int 0])), ((a 11), .inl ((k 11), 400, .inl (fun _ => 0))), ((a 18), .inl ((k 18), 9, .inl z_3))] H := hP
      have hD : va_D A [((a 0), .inr (0, [.ref (a 1), .ref (a 6), .ref (a 7), .ref (a 8), .ref (a 9), .ref (a 10), .ref (a 12), .int 0, .int 0, .int 0, .int 0, .int 0, .ref (a 15)])), ((a 10), .inr (4, [.ref (a 11), .int 0, .int 0, .int 0, .int 0, .int 0])), ((a 15), .inr (3, [.int 0, .int 0, .ref (a 16), .ref (a 17), .ref (a 18), .int 0, .int 0, .int 0, .int 0])), ((a 11), .inl ((k 11), 400, .inl (fun _ => 0))), ((a 18), .inl ((k 18), 9, .inl z_3))] := hD
      refine lv_iload_n hx hb d_WM_order_41 rfl (lv_at hl 0 rfl) ?_
      refine lv_iconst (v := (-1)) hx hb d_WM_order_42 (by decide +kernel) ?_
      refine lv_icmp_eq (tgt := 51) hx hb d_WM_order_43 (by decide) (fun h => absurd h (by decide +kernel)) (fun _ => ?_)
      refine lv_bipush (v := (-100)) hx hb d_WM_order_46 (by decide +kernel) ?_
      refine lv_iload_n hx hb d_WM_order_48 rfl (lv_at hl 0 rfl) ?_
      refine lv_isub hx hb d_WM_order_49 ?_
      refine hb_ti (-100) (by decide +kernel) ?_
      refine W.widen (k := 0) (n := 0) (Nat.le_of_ble_eq_true rfl) (Nat.le_of_ble_eq_true rfl) ?_
      exact W.iret (v := (-100)) hx hb hr (fun t ht hW => ⟨⟨(-100), (), rfl, (by unfold f_WM_order; rw [if_neg c_1, if_neg c_2]), trivial⟩, by rw [hAe]; exact hS.F ht⟩) (by rw [hAe]; exact hS.2.2) d_WM_order_50
def f_WM_numberInForce (p_0 : Int32) (p_1 : Int32) : Int32 := (-2)
set_option maxHeartbeats 4000000 in
set_option maxRecDepth 100000 in
theorem c_WM_numberInForce (l : Launch) (dC : Nat → ClassId) (dI : Nat → Nat → Nat) (a : Nat → Nat) (k : Nat → ClassId) (L : List Nat) (hL : L.length = 40)  (p_0 : Int32) (p_1 : Int32)  : Met l y_WM_numberInForce (.code y_WM_numberInForce b_WM_numberInForce 5 (some .int) :: TB) ({ frames := 0, cells := 0, slots := 0, locals := 0 }) (va_Pc [.ref (a 0), .int p_0, .int p_1] (PR dC dI (XW a k L) (XT k))) (vp_Si (fun r => r = f_WM_numberInForce p_0 p_1)) 0 0 (fun _ => False) := by
  refine Met.ofW (cc := b_WM_numberInForce) (maxL := 5) (ret := (some .int)) (by decide) rfl ?_
  intro p e s m args below meth c s₁ B hml hv
  obtain ⟨rfl, hP, hK, hN⟩ := hv
  have hx := B.exec
  have hb := B.bytes
  have hr := B.returns
  have hts := atoms_spec (ws := (.code y_WM_numberInForce b_WM_numberInForce 5 (some .int) :: TB)) B.pre
  have htb := fun w (h : w ∈ TB) => hts w (List.mem_cons_of_mem _ h)
  have hown : s.vm.findClass R_WM = some m.cls := findClass_of_methodNamed B.named
  have hlocks := B.notSynchronized
  have hl := lv_entry ([.ref (a 0), .int p_0, .int p_1]) (n := 5) (Nat.le_of_ble_eq_true rfl)
  rw [lg_entry_eq]
  generalize (lg_sl ([.ref (a 0), .int p_0, .int p_1]) ++ List.replicate (5 - (lg_sl ([.ref (a 0), .int p_0, .int p_1])).length) Slot.unset).toArray = ls at hl ⊢
  have hl : lv_has ls 5 [(0, .ref (a 0)), (1, .int p_0), (2, .int p_1)] := hl
  refine lv_aload_n hx hb d_WM_numberInForce_0 rfl (lv_at hl 0 rfl) ?_
  refine va_get (D := (dC, dI)) (ci := 0) (v := .int 0) (C := R_WM) (T := F_WM) (N := 13) hx hb htb i_WM hown hK hP 0 rfl rfl 8 (by decide) (htb (.fieldLink R_WM 210 "WaterMen" "orderCount" "I") tw_200) (fun _ h9 => h9) rfl d_WM_numberInForce_1 ?_
  refine lv_iconst (v := 1) hx hb d_WM_numberInForce_4 (by decide +kernel) ?_
  refine lv_isub hx hb d_WM_numberInForce_5 ?_
  refine hb_ti (-1) (by decide +kernel) ?_
  refine lv_istore_n (lv' := [(3, .int (-1)), (0, .ref (a 0)), (1, .int p_0), (2, .int p_1)]) hx hb d_WM_numberInForce_6 rfl hl (by decide) rfl (fun ls hl => ?_)
  refine lv_iload_n hx hb d_WM_numberInForce_7 rfl (lv_at hl 0 rfl) ?_
  refine lv_if_lt (tgt := 49) hx hb d_WM_numberInForce_8 (by decide) (fun _ => ?_) (fun h => absurd (by decide +kernel) h)
  refine lv_bipush (v := (-2)) hx hb d_WM_numberInForce_49 (by decide +kernel) ?_
  exact W.iret (v := (-2)) hx hb hr (fun t ht hW => ⟨(-2), rfl, rfl, ht⟩) t_nil d_WM_numberInForce_51
def f_WM_inForce (p_0 : Int32) (p_1 : Int32) : Int32 := if p_0 < 0 then ((-1)) else (if 500 ≤ p_0 then ((-1)) else (if p_1 < 0 then ((-1)) else (if 500 ≤ p_1 then ((-1)) else ((-2)))))
set_option maxHeartbeats 4000000 in
set_option maxRecDepth 100000 in
theorem c_WM_inForce (l : Launch) (dC : Nat → ClassId) (dI : Nat → Nat → Nat) (a : Nat → Nat) (k : Nat → ClassId) (L : List Nat) (hL : L.length = 40)  (p_0 : Int32) (p_1 : Int32)  : Met l y_WM_inForce (.code y_WM_inForce b_WM_inForce 3 (some .int) :: TB) ({ frames := 1, cells := 0, slots := 0, locals := 24 }) (va_Pc [.ref (a 0), .int p_0, .int p_1] (PR dC dI (XW a k L) (XT k))) (vp_Si (fun r => r = f_WM_inForce p_0 p_1)) 0 0 (fun _ => False) := by
  refine Met.ofW (cc := b_WM_inForce) (maxL := 3) (ret := (some .int)) (by decide) rfl ?_
  intro p e s m args below meth c s₁ B hml hv
  obtain ⟨rfl, hP, hK, hN⟩ := hv
  have hx := B.exec
  have hb := B.bytes
  have hr := B.returns
  have hts := atoms_spec (ws := (.code y_WM_inForce b_WM_inForce 3 (some .int) :: TB)) B.pre
  have htb := fun w (h : w ∈ TB) => hts w (List.mem_cons_of_mem _ h)
  have hown : s.vm.findClass R_WM = some m.cls := findClass_of_methodNamed B.named
  have hlocks := B.notSynchronized
  have hl := lv_entry ([.ref (a 0), .int p_0, .int p_1]) (n := 3) (Nat.le_of_ble_eq_true rfl)
  rw [lg_entry_eq]
  generalize (lg_sl ([.ref (a 0), .int p_0, .int p_1]) ++ List.replicate (3 - (lg_sl ([.ref (a 0), .int p_0, .int p_1])).length) Slot.unset).toArray = ls at hl ⊢
  have hl : lv_has ls 3 [(0, .ref (a 0)), (1, .int p_0), (2, .int p_1)] := hl
  refine lv_iload_n hx hb d_WM_inForce_0 rfl (lv_at hl 1 rfl) ?_
  refine vp_callSi (va_Run.run (va_runS (As := [.int p_0]) (rest := []) ⟨hx, hb, hml, hown, htb⟩ (c_WM_isDay l p_0) (cwS 1 htb (gd_S tw_125 tw_126 tw_124 tw_123) rfl rfl rfl (by decide +kernel) ⟨Nat.le_of_ble_eq_true rfl, Nat.le_of_ble_eq_true rfl⟩) ⟨fun _ _ _ _ h => h, fun U _ _ => ⟨rfl, trivial⟩⟩ rfl rfl hl.1 rfl (lv_room (Nat.le_of_ble_eq_true rfl)) d_WM_inForce_1 ⟨Nat.le_of_ble_eq_true rfl, Nat.le_of_ble_eq_true rfl⟩)) (fun r er => ?_)
  subst er
  by_cases c_1 : p_0 < 0
  · refine hb_ti 0 (by unfold f_WM_isDay; rw [if_pos c_1]) ?_
    refine lv_if_eq (tgt := 23) hx hb d_WM_inForce_4 (by decide) (fun _ => ?_) (fun h => absurd (by decide +kernel) h)
    refine lv_iconst (v := (-1)) hx hb d_WM_inForce_23 (by decide +kernel) ?_
    exact W.iret (v := (-1)) hx hb hr (fun t ht hW => ⟨(-1), rfl, (by unfold f_WM_inForce; rw [if_pos c_1]), ht⟩) t_nil d_WM_inForce_24
  · by_cases c_2 : 500 ≤ p_0
    · refine hb_ti 0 (by unfold f_WM_isDay; rw [if_neg c_1, if_pos c_2]) ?_
      refine lv_if_eq (tgt := 23) hx hb d_WM_inForce_4 (by decide) (fun _ => ?_) (fun h => absurd (by decide +kernel) h)
      refine lv_iconst (v := (-1)) hx hb d_WM_inForce_23 (by decide +kernel) ?_
      exact W.iret (v := (-1)) hx hb hr (fun t ht hW => ⟨(-1), rfl, (by unfold f_WM_inForce; rw [if_neg c_1, if_pos c_2]), ht⟩) t_nil d_WM_inForce_24
    · refine hb_ti 1 (by unfold f_WM_isDay; rw [if_neg c_1, if_neg c_2]) ?_
      refine lv_if_eq (tgt := 23) hx hb d_WM_inForce_4 (by decide) (fun h => absurd h (by decide +kernel)) (fun _ => ?_)
      refine lv_iload_n hx hb d_WM_inForce_7 rfl (lv_at hl 2 rfl) ?_
      refine vp_callSi (va_Run.run (va_runS (As := [.int p_1]) (rest := []) ⟨hx, hb, hml, hown, htb⟩ (c_WM_isDay l p_1) (cwS 1 htb (gd_S tw_125 tw_126 tw_124 tw_123) rfl rfl rfl (by decide +kernel) ⟨Nat.le_of_ble_eq_true rfl, Nat.le_of_ble_eq_true rfl⟩) ⟨fun _ _ _ _ h => h, fun U _ _ => ⟨rfl, trivial⟩⟩ rfl rfl hl.1 rfl (lv_room (Nat.le_of_ble_eq_true rfl)) d_WM_inForce_8 ⟨Nat.le_of_ble_eq_true rfl, Nat.le_of_ble_eq_true rfl⟩)) (fun r er => ?_)
      subst er
      by_cases c_3 : p_1 < 0
      · refine hb_ti 0 (by unfold f_WM_isDay; rw [if_pos c_3]) ?_
        refine lv_if_eq (tgt := 23) hx hb d_WM_inForce_11 (by decide) (fun _ => ?_) (fun h => absurd (by decide +kernel) h)
        refine lv_iconst (v := (-1)) hx hb d_WM_inForce_23 (by decide +kernel) ?_
        exact W.iret (v := (-1)) hx hb hr (fun t ht hW => ⟨(-1), rfl, (by unfold f_WM_inForce; rw [if_neg c_1, if_neg c_2, if_pos c_3]), ht⟩) t_nil d_WM_inForce_24
      · by_cases c_4 : 500 ≤ p_1
        · refine hb_ti 0 (by unfold f_WM_isDay; rw [if_neg c_3, if_pos c_4]) ?_
          refine lv_if_eq (tgt := 23) hx hb d_WM_inForce_11 (by decide) (fun _ => ?_) (fun h => absurd (by decide +kernel) h)
          refine lv_iconst (v := (-1)) hx hb d_WM_inForce_23 (by decide +kernel) ?_
          exact W.iret (v := (-1)) hx hb hr (fun t ht hW => ⟨(-1), rfl, (by unfold f_WM_inForce; rw [if_neg c_1, if_neg c_2, if_neg c_3, if_pos c_4]), ht⟩) t_nil d_WM_inForce_24
        · refine hb_ti 1 (by unfold f_WM_isDay; rw [if_neg c_3, if_neg c_4]) ?_
          refine lv_if_eq (tgt := 23) hx hb d_WM_inForce_11 (by decide) (fun h => absurd h (by decide +kernel)) (fun _ => ?_)
          refine lv_aload_n hx hb d_WM_inForce_14 rfl (lv_at hl 0 rfl) ?_
          refine lv_iload_n hx hb d_WM_inForce_15 rfl (lv_at hl 1 rfl) ?_
          refine lv_iload_n hx hb d_WM_inForce_16 rfl (lv_at hl 2 rfl) ?_
          refine vp_callSi (va_Run.run (va_runV (As := [.int p_0, .int p_1]) (rest := []) ⟨hx, hb, hml, hown, htb⟩ (c_WM_numberInForce l dC dI a k L hL p_0 p_1) (cwV 2 htb (gd_V tw_224 tw_225 tw_226 tw_124 tw_223) rfl rfl rfl (by decide +kernel) ⟨Nat.le_of_ble_eq_true rfl, Nat.le_of_ble_eq_true rfl⟩) ⟨pr_blind, va_recv hK hP (ci := 0) (q0 := 0) rfl rfl, pr_pre hP hK hN⟩ rfl rfl hl.1 rfl (lv_room (Nat.le_of_ble_eq_true rfl)) d_WM_inForce_17 ⟨Nat.le_of_ble_eq_true rfl, Nat.le_of_ble_eq_true rfl⟩)) (fun r er => ?_)
          subst er
          refine hb_ti (-2) rfl ?_
          refine lv_goto (tgt := 24) hx hb d_WM_inForce_20 (by decide) ?_
          exact W.iret (v := (-2)) hx hb hr (fun t ht hW => ⟨(-2), rfl, (by unfold f_WM_inForce; rw [if_neg c_1, if_neg c_2, if_neg c_3, if_neg c_4]), ht⟩) t_nil d_WM_inForce_24
def f_WM_orderAt (a : Nat → Nat) (k : Nat → ClassId) (L : List Nat) (p_0 : Int32) (r : Option Nat) : Prop := if p_0 < 0 then (r = none) else (r = none)
set_option maxHeartbeats 4000000 in
set_option maxRecDepth 100000 in
theorem c_WM_orderAt (l : Launch) (dC : Nat → ClassId) (dI : Nat → Nat → Nat) (a : Nat → Nat) (k : Nat → ClassId) (L : List Nat) (hL : L.length = 40) (p_0 : Int32) : Met l y_WM_orderAt (.code y_WM_orderAt b_WM_orderAt 2 (some (.object "WaterMen$Order")) :: TB) ({ frames := 0, cells := 0, slots := 0, locals := 0 }) (va_Pc [.ref (a 0), .int p_0] (PR dC dI (XW a k L) (XT k))) (va_Sq (fun r => f_WM_orderAt a k L p_0 r)) 0 0 (fun _ => False) := by
  refine Met.ofW (cc := b_WM_orderAt) (maxL := 2) (ret := (some (.object "WaterMen$Order"))) (by decide) rfl ?_
  intro p e s m args below meth c s₁ B hml hv
  obtain ⟨rfl, hP, hK, hN⟩ := hv
  have hx := B.exec
  have hb := B.bytes
  have hr := B.returns
  have hts := atoms_spec (ws := (.code y_WM_orderAt b_WM_orderAt 2 (some (.object "WaterMen$Order")) :: TB)) B.pre
  have htb := fun w (h : w ∈ TB) => hts w (List.mem_cons_of_mem _ h)
  have hown : s.vm.findClass R_WM = some m.cls := findClass_of_methodNamed B.named
  have hlocks := B.notSynchronized
  have hl := lv_entry ([.ref (a 0), .int p_0]) (n := 2) (Nat.le_of_ble_eq_true rfl)
  rw [lg_entry_eq]
  generalize (lg_sl ([.ref (a 0), .int p_0]) ++ List.replicate (2 - (lg_sl ([.ref (a 0), .int p_0])).length) Slot.unset).toArray = ls at hl ⊢
  have hl : lv_has ls 2 [(0, .ref (a 0)), (1, .int p_0)] := hl
  refine lv_iload_n hx hb d_WM_orderAt_0 rfl (lv_at hl 1 rfl) ?_
  refine lv_if_lt (tgt := 21) hx hb d_WM_orderAt_1 (by decide) (fun c_1 => ?_) (fun c_1 => ?_)
  · refine lv_null hx hb d_WM_orderAt_21 ?_
    exact W.aret (v := .null) (rt := .object "WaterMen$Order") hx hb hr (Or.inl ⟨_, rfl⟩) (Or.inl rfl) (fun t ht hW => ⟨none, rfl, (by show f_WM_orderAt a k L p_0 none; unfold f_WM_orderAt; rw [if_pos c_1]), ht⟩) t_nil d_WM_orderAt_22
  · refine lv_iload_n hx hb d_WM_orderAt_4 rfl (lv_at hl 1 rfl) ?_
    refine lv_aload_n hx hb d_WM_orderAt_5 rfl (lv_at hl 0 rfl) ?_
    refine va_get (D := (dC, dI)) (ci := 0) (v := .int 0) (C := R_WM) (T := F_WM) (N := 13) hx hb htb i_WM hown hK hP 0 rfl rfl 8 (by decide) (htb (.fieldLink R_WM 210 "WaterMen" "orderCount" "I") tw_200) (fun _ h9 => h9) rfl d_WM_orderAt_6 ?_
    refine lv_icmp_ge (tgt := 21) hx hb d_WM_orderAt_9 (by decide) (fun _ => ?_) (fun h => absurd (show 0 ≤ p_0 from by have e0 := c_1; rw [Int32.lt_iff_toInt_lt] at e0; have z0 : (0 : Int32).toInt = 0 := (by decide +kernel); rw [Int32.le_iff_toInt_le]; omega) h)
    refine lv_null hx hb d_WM_orderAt_21 ?_
    exact W.aret (v := .null) (rt := .object "WaterMen$Order") hx hb hr (Or.inl ⟨_, rfl⟩) (Or.inl rfl) (fun t ht hW => ⟨none, rfl, (by show f_WM_orderAt a k L p_0 none; unfold f_WM_orderAt; rw [if_neg c_1]), ht⟩) t_nil d_WM_orderAt_22
def f_WM_fare (p_0 : Int32) (p_1 : Int32) (p_2 : Int32) (p_3 : Int32) (p_4 : Int32) : Int32 := if p_0 < 0 then ((-1)) else ((-1))
set_option maxHeartbeats 4000000 in
set_option maxRecDepth 100000 in
theorem c_WM_fare (l : Launch) (dC : Nat → ClassId) (dI : Nat → Nat → Nat) (a : Nat → Nat) (k : Nat → ClassId) (L : List Nat) (hL : L.length = 40)  (p_0 : Int32) (p_1 : Int32) (p_2 : Int32) (p_3 : Int32) (p_4 : Int32)  : Met l y_WM_fare (.code y_WM_fare b_WM_fare 8 (some .int) :: TB) ({ frames := 1, cells := 0, slots := 0, locals := 21 }) (va_Pc [.ref (a 0), .int p_0, .int p_1, .int p_2, .int p_3, .int p_4] (PR dC dI (XW a k L) (XT k))) (vp_Si (fun r => r = f_WM_fare p_0 p_1 p_2 p_3 p_4)) 0 0 (fun _ => False) := by
  refine Met.ofW (cc := b_WM_fare) (maxL := 8) (ret := (some .int)) (by decide) rfl ?_
  intro p e s m args below meth c s₁ B hml hv
  obtain ⟨rfl, hP, hK, hN⟩ := hv
  have hx := B.exec
  have hb := B.bytes
  have hr := B.returns
  have hts := atoms_spec (ws := (.code y_WM_fare b_WM_fare 8 (some .int) :: TB)) B.pre
  have htb := fun w (h : w ∈ TB) => hts w (List.mem_cons_of_mem _ h)
  have hown : s.vm.findClass R_WM = some m.cls := findClass_of_methodNamed B.named
  have hlocks := B.notSynchronized
  have hl := lv_entry ([.ref (a 0), .int p_0, .int p_1, .int p_2, .int p_3, .int p_4]) (n := 8) (Nat.le_of_ble_eq_true rfl)
  rw [lg_entry_eq]
  generalize (lg_sl ([.ref (a 0), .int p_0, .int p_1, .int p_2, .int p_3, .int p_4]) ++ List.replicate (8 - (lg_sl ([.ref (a 0), .int p_0, .int p_1, .int p_2, .int p_3, .int p_4])).length) Slot.unset).toArray = ls at hl ⊢
  have hl : lv_has ls 8 [(0, .ref (a 0)), (1, .int p_0), (2, .int p_1), (3, .int p_2), (4, .int p_3), (5, .int p_4)] := hl
  refine lv_aload_n hx hb d_WM_fare_0 rfl (lv_at hl 0 rfl) ?_
  refine lv_iload_n hx hb d_WM_fare_1 rfl (lv_at hl 1 rfl) ?_
  refine va_csq (va_Run.run (va_runV (As := [.int p_0]) (rest := []) ⟨hx, hb, hml, hown, htb⟩ (c_WM_orderAt l dC dI a k L hL p_0) (cwV 1 htb (gd_V tw_228 tw_229 tw_230 tw_124 tw_227) rfl rfl rfl (by decide +kernel) ⟨Nat.le_of_ble_eq_true rfl, Nat.le_of_ble_eq_true rfl⟩) ⟨pr_blind, va_recv hK hP (ci := 0) (q0 := 0) rfl rfl, pr_pre hP hK hN⟩ rfl rfl hl.1 rfl (lv_room (Nat.le_of_ble_eq_true rfl)) d_WM_fare_2 ⟨Nat.le_of_ble_eq_true rfl, Nat.le_of_ble_eq_true rfl⟩)) (fun rr_2 hq_1 => ?_)
  unfold f_WM_orderAt at hq_1
  by_cases c_3 : p_0 < 0
  · rw [if_pos c_3] at hq_1
    subst hq_1
    refine hb_tv .null rfl ?_
    refine lv_astoreN (lv' := [(6, .null), (0, .ref (a 0)), (1, .int p_0), (2, .int p_1), (3, .int p_2), (4, .int p_3), (5, .int p_4)]) hx hb d_WM_fare_5 hl (by decide) rfl (fun ls hl => ?_)
    refine lv_aloadN hx hb d_WM_fare_7 (lv_at hl 0 rfl) ?_
    refine lv_ifnullN (tgt := 39) hx hb d_WM_fare_9 (by decide) ?_
    refine lv_iconst (v := (-1)) hx hb d_WM_fare_39 (by decide +kernel) ?_
    exact W.iret (v := (-1)) hx hb hr (fun t ht hW => ⟨(-1), rfl, (by unfold f_WM_fare; rw [if_pos c_3]), ht⟩) t_nil d_WM_fare_40
  · rw [if_neg c_3] at hq_1
    subst hq_1
    refine hb_tv .null rfl ?_
    refine lv_astoreN (lv' := [(6, .null), (0, .ref (a 0)), (1, .int p_0), (2, .int p_1), (3, .int p_2), (4, .int p_3), (5, .int p_4)]) hx hb d_WM_fare_5 hl (by decide) rfl (fun ls hl => ?_)
    refine lv_aloadN hx hb d_WM_fare_7 (lv_at hl 0 rfl) ?_
    refine lv_ifnullN (tgt := 39) hx hb d_WM_fare_9 (by decide) ?_
    refine lv_iconst (v := (-1)) hx hb d_WM_fare_39 (by decide +kernel) ?_
    exact W.iret (v := (-1)) hx hb hr (fun t ht hW => ⟨(-1), rfl, (by unfold f_WM_fare; rw [if_neg c_3]), ht⟩) t_nil d_WM_fare_40
def f_WM_why (p_0 : Int32) (p_1 : Int32) (p_2 : Int32) : Int32 := if p_0 < 0 then (if p_1 < 0 then ((-1)) else (if 40 ≤ p_1 then ((-1)) else ((-1)))) else (if p_1 < 0 then ((-1)) else (if 40 ≤ p_1 then ((-1)) else ((-1))))
set_option maxHeartbeats 4000000 in
set_option maxRecDepth 100000 in
theorem c_WM_why (l : Launch) (dC : Nat → ClassId) (dI : Nat → Nat → Nat) (a : Nat → Nat) (k : Nat → ClassId) (L : List Nat) (hL : L.length = 40)  (p_0 : Int32) (p_1 : Int32) (p_2 : Int32)  : Met l y_WM_why (.code y_WM_why b_WM_why 6 (some .int) :: TB) ({ frames := 1, cells := 0, slots := 0, locals := 21 }) (va_Pc [.ref (a 0), .int p_0, .int p_1, .int p_2] (PR dC dI (XW a k L) (XT k))) (vp_Si (fun r => r = f_WM_why p_0 p_1 p_2)) 0 0 (fun _ => False) := by
  refine Met.ofW (cc := b_WM_why) (maxL := 6) (ret := (some .int)) (by decide) rfl ?_
  intro p e s m args below meth c s₁ B hml hv
  obtain ⟨rfl, hP, hK, hN⟩ := hv
  have hx := B.exec
  have hb := B.bytes
  have hr := B.returns
  have hts := atoms_spec (ws := (.code y_WM_why b_WM_why 6 (some .int) :: TB)) B.pre
  have htb := fun w (h : w ∈ TB) => hts w (List.mem_cons_of_mem _ h)
  have hown : s.vm.findClass R_WM = some m.cls := findClass_of_methodNamed B.named
  have hlocks := B.notSynchronized
  have hl := lv_entry ([.ref (a 0), .int p_0, .int p_1, .int p_2]) (n := 6) (Nat.le_of_ble_eq_true rfl)
  rw [lg_entry_eq]
  generalize (lg_sl ([.ref (a 0), .int p_0, .int p_1, .int p_2]) ++ List.replicate (6 - (lg_sl ([.ref (a 0), .int p_0, .int p_1, .int p_2])).length) Slot.unset).toArray = ls at hl ⊢
  have hl : lv_has ls 6 [(0, .ref (a 0)), (1, .int p_0), (2, .int p_1), (3, .int p_2)] := hl
  refine lv_aload_n hx hb d_WM_why_0 rfl (lv_at hl 0 rfl) ?_
  refine lv_iload_n hx hb d_WM_why_1 rfl (lv_at hl 1 rfl) ?_
  refine va_csq (va_Run.run (va_runV (As := [.int p_0]) (rest := []) ⟨hx, hb, hml, hown, htb⟩ (c_WM_boatAt l dC dI a k L hL p_0) (cwV 1 htb (gd_V tw_187 tw_188 tw_189 tw_124 tw_186) rfl rfl rfl (by decide +kernel) ⟨Nat.le_of_ble_eq_true rfl, Nat.le_of_ble_eq_true rfl⟩) ⟨pr_blind, va_recv hK hP (ci := 0) (q0 := 0) rfl rfl, pr_pre hP hK hN⟩ rfl rfl hl.1 rfl (lv_room (Nat.le_of_ble_eq_true rfl)) d_WM_why_2 ⟨Nat.le_of_ble_eq_true rfl, Nat.le_of_ble_eq_true rfl⟩)) (fun rr_2 hq_1 => ?_)
  unfold f_WM_boatAt at hq_1
  by_cases c_3 : p_0 < 0
  · rw [if_pos c_3] at hq_1
    subst hq_1
    refine hb_tv .null rfl ?_
    refine lv_astoreN (lv' := [(4, .null), (0, .ref (a 0)), (1, .int p_0), (2, .int p_1), (3, .int p_2)]) hx hb d_WM_why_5 hl (by decide) rfl (fun ls hl => ?_)
    refine lv_aload_n hx hb d_WM_why_7 rfl (lv_at hl 1 rfl) ?_
    refine lv_iload_n hx hb d_WM_why_8 rfl (lv_at hl 3 rfl) ?_
    refine va_csq (va_Run.run (va_runV (As := [.int p_1]) (rest := []) ⟨hx, hb, hml, hown, htb⟩ (c_WM_manAt l dC dI a k L hL p_1) (cwV 1 htb (gd_V tw_157 tw_158 tw_159 tw_124 tw_156) rfl rfl rfl (by decide +kernel) ⟨Nat.le_of_ble_eq_true rfl, Nat.le_of_ble_eq_true rfl⟩) ⟨pr_blind, va_recv hK hP (ci := 0) (q0 := 0) rfl rfl, pr_pre hP hK hN⟩ rfl rfl hl.1 rfl (lv_room (Nat.le_of_ble_eq_true rfl)) d_WM_why_9 ⟨Nat.le_of_ble_eq_true rfl, Nat.le_of_ble_eq_true rfl⟩)) (fun rr_5 hq_4 => ?_)
    unfold f_WM_manAt at hq_4
    by_cases c_6 : p_1 < 0
    · rw [if_pos c_6] at hq_4
      subst hq_4
      refine hb_tv .null rfl ?_
      refine lv_astoreN (lv' := [(5, .null), (4, .null), (0, .ref (a 0)), (1, .int p_0), (2, .int p_1), (3, .int p_2)]) hx hb d_WM_why_12 hl (by decide) rfl (fun ls hl => ?_)
      refine lv_aloadN hx hb d_WM_why_14 (lv_at hl 1 rfl) ?_
      refine lv_ifnullN (tgt := 34) hx hb d_WM_why_16 (by decide) ?_
      refine lv_iconst (v := (-1)) hx hb d_WM_why_34 (by decide +kernel) ?_
      exact W.iret (v := (-1)) hx hb hr (fun t ht hW => ⟨(-1), rfl, (by unfold f_WM_why; rw [if_pos c_3, if_pos c_6]), ht⟩) t_nil d_WM_why_35
    · by_cases c_7 : 40 ≤ p_1
      · rw [if_neg c_6, if_pos c_7] at hq_4
        subst hq_4
        refine hb_tv .null rfl ?_
        refine lv_astoreN (lv' := [(5, .null), (4, .null), (0, .ref (a 0)), (1, .int p_0), (2, .int p_1), (3, .int p_2)]) hx hb d_WM_why_12 hl (by decide) rfl (fun ls hl => ?_)
        refine lv_aloadN hx hb d_WM_why_14 (lv_at hl 1 rfl) ?_
        refine lv_ifnullN (tgt := 34) hx hb d_WM_why_16 (by decide) ?_
        refine lv_iconst (v := (-1)) hx hb d_WM_why_34 (by decide +kernel) ?_
        exact W.iret (v := (-1)) hx hb hr (fun t ht hW => ⟨(-1), rfl, (by unfold f_WM_why; rw [if_pos c_3, if_neg c_6, if_pos c_7]), ht⟩) t_nil d_WM_why_35
      · rw [if_neg c_6, if_neg c_7] at hq_4
        obtain ⟨q_8, x_9, rfl, hk_10⟩ := hq_4
        refine hb_tv (.ref q_8) rfl ?_
        refine lv_astore (lv' := [(5, .ref q_8), (4, .null), (0, .ref (a 0)), (1, .int p_0), (2, .int p_1), (3, .int p_2)]) hx hb d_WM_why_12 hl (by decide) rfl (fun ls hl => ?_)
        refine lv_aloadN hx hb d_WM_why_14 (lv_at hl 1 rfl) ?_
        refine lv_ifnullN (tgt := 34) hx hb d_WM_why_16 (by decide) ?_
        refine lv_iconst (v := (-1)) hx hb d_WM_why_34 (by decide +kernel) ?_
        exact W.iret (v := (-1)) hx hb hr (fun t ht hW => ⟨(-1), rfl, (by unfold f_WM_why; rw [if_pos c_3, if_neg c_6, if_neg c_7]), ht⟩) t_nil d_WM_why_35
  · rw [if_neg c_3] at hq_1
    subst hq_1
    refine hb_tv .null rfl ?_
    refine lv_astoreN (lv' := [(4, .null), (0, .ref (a 0)), (1, .int p_0), (2, .int p_1), (3, .int p_2)]) hx hb d_WM_why_5 hl (by decide) rfl (fun ls hl => ?_)
    refine lv_aload_n hx hb d_WM_why_7 rfl (lv_at hl 1 rfl) ?_
    refine lv_iload_n hx hb d_WM_why_8 rfl (lv_at hl 3 rfl) ?_
    refine va_csq (va_Run.run (va_runV (As := [.int p_1]) (rest := []) ⟨hx, hb, hml, hown, htb⟩ (c_WM_manAt l dC dI a k L hL p_1) (cwV 1 htb (gd_V tw_157 tw_158 tw_159 tw_124 tw_156) rfl rfl rfl (by decide +kernel) ⟨Nat.le_of_ble_eq_true rfl, Nat.le_of_ble_eq_true rfl⟩) ⟨pr_blind, va_recv hK hP (ci := 0) (q0 := 0) rfl rfl, pr_pre hP hK hN⟩ rfl rfl hl.1 rfl (lv_room (Nat.le_of_ble_eq_true rfl)) d_WM_why_9 ⟨Nat.le_of_ble_eq_true rfl, Nat.le_of_ble_eq_true rfl⟩)) (fun rr_12 hq_11 => ?_)
    unfold f_WM_manAt at hq_11
    by_cases c_13 : p_1 < 0
    · rw [if_pos c_13] at hq_11
      subst hq_11
      refine hb_tv .null rfl ?_
      refine lv_astoreN (lv' := [(5, .null), (4, .null), (0, .ref (a 0)), (1, .int p_0), (2, .int p_1), (3, .int p_2)]) hx hb d_WM_why_12 hl (by decide) rfl (fun ls hl => ?_)
      refine lv_aloadN hx hb d_WM_why_14 (lv_at hl 1 rfl) ?_
      refine lv_ifnullN (tgt := 34) hx hb d_WM_why_16 (by decide) ?_
      refine lv_iconst (v := (-1)) hx hb d_WM_why_34 (by decide +kernel) ?_
      exact W.iret (v := (-1)) hx hb hr (fun t ht hW => ⟨(-1), rfl, (by unfold f_WM_why; rw [if_neg c_3, if_pos c_13]), ht⟩) t_nil d_WM_why_35
    · by_cases c_14 : 40 ≤ p_1
      · rw [if_neg c_13, if_pos c_14] at hq_11
        subst hq_11
        refine hb_tv .null rfl ?_
        refine lv_astoreN (lv' := [(5, .null), (4, .null), (0, .ref (a 0)), (1, .int p_0), (2, .int p_1), (3, .int p_2)]) hx hb d_WM_why_12 hl (by decide) rfl (fun ls hl => ?_)
        refine lv_aloadN hx hb d_WM_why_14 (lv_at hl 1 rfl) ?_
        refine lv_ifnullN (tgt := 34) hx hb d_WM_why_16 (by decide) ?_
        refine lv_iconst (v := (-1)) hx hb d_WM_why_34 (by decide +kernel) ?_
        exact W.iret (v := (-1)) hx hb hr (fun t ht hW => ⟨(-1), rfl, (by unfold f_WM_why; rw [if_neg c_3, if_neg c_13, if_pos c_14]), ht⟩) t_nil d_WM_why_35
      · rw [if_neg c_13, if_neg c_14] at hq_11
        obtain ⟨q_15, x_16, rfl, hk_17⟩ := hq_11
        refine hb_tv (.ref q_15) rfl ?_
        refine lv_astore (lv' := [(5, .ref q_15), (4, .null), (0, .ref (a 0)), (1, .int p_0), (2, .int p_1), (3, .int p_2)]) hx hb d_WM_why_12 hl (by decide) rfl (fun ls hl => ?_)
        refine lv_aloadN hx hb d_WM_why_14 (lv_at hl 1 rfl) ?_
        refine lv_ifnullN (tgt := 34) hx hb d_WM_why_16 (by decide) ?_
        refine lv_iconst (v := (-1)) hx hb d_WM_why_34 (by decide +kernel) ?_
        exact W.iret (v := (-1)) hx hb hr (fun t ht hW => ⟨(-1), rfl, (by unfold f_WM_why; rw [if_neg c_3, if_neg c_13, if_neg c_14]), ht⟩) t_nil d_WM_why_35
def f_WM_row (p_0 : Int32) (p_1 : Int32) (p_2 : Int32) (p_3 : Int32) : Int32 := if p_0 < 0 then (if p_1 < 0 then ((-1)) else (if 40 ≤ p_1 then ((-1)) else ((-1)))) else (if p_1 < 0 then ((-1)) else (if 40 ≤ p_1 then ((-1)) else ((-1))))
set_option maxHeartbeats 4000000 in
set_option maxRecDepth 100000 in
theorem c_WM_row (l : Launch) (dC : Nat → ClassId) (dI : Nat → Nat → Nat) (a : Nat → Nat) (k : Nat → ClassId) (L : List Nat) (hL : L.length = 40)  (p_0 : Int32) (p_1 : Int32) (p_2 : Int32) (p_3 : Int32)  : Met l y_WM_row (.code y_WM_row b_WM_row 9 (some .int) :: TB) ({ frames := 1, cells := 0, slots := 0, locals := 21 }) (va_Pc [.ref (a 0), .int p_0, .int p_1, .int p_2, .int p_3] (PR dC dI (XW a k L) (XT k))) (vp_Si (fun r => r = f_WM_row p_0 p_1 p_2 p_3)) 0 0 (fun _ => False) := by
  refine Met.ofW (cc := b_WM_row) (maxL := 9) (ret := (some .int)) (by decide) rfl ?_
  intro p e s m args below meth c s₁ B hml hv
  obtain ⟨rfl, hP, hK, hN⟩ := hv
  have hx := B.exec
  have hb := B.bytes
  have hr := B.returns
  have hts := atoms_spec (ws := (.code y_WM_row b_WM_row 9 (some .int) :: TB)) B.pre
  have htb := fun w (h : w ∈ TB) => hts w (List.mem_cons_of_mem _ h)
  have hown : s.vm.findClass R_WM = some m.cls := findClass_of_methodNamed B.named
  have hlocks := B.notSynchronized
  have hl := lv_entry ([.ref (a 0), .int p_0, .int p_1, .int p_2, .int p_3]) (n := 9) (Nat.le_of_ble_eq_true rfl)
  rw [lg_entry_eq]
  generalize (lg_sl ([.ref (a 0), .int p_0, .int p_1, .int p_2, .int p_3]) ++ List.replicate (9 - (lg_sl ([.ref (a 0), .int p_0, .int p_1, .int p_2, .int p_3])).length) Slot.unset).toArray = ls at hl ⊢
  have hl : lv_has ls 9 [(0, .ref (a 0)), (1, .int p_0), (2, .int p_1), (3, .int p_2), (4, .int p_3)] := hl
  refine lv_aload_n hx hb d_WM_row_0 rfl (lv_at hl 0 rfl) ?_
  refine lv_iload_n hx hb d_WM_row_1 rfl (lv_at hl 1 rfl) ?_
  refine va_csq (va_Run.run (va_runV (As := [.int p_0]) (rest := []) ⟨hx, hb, hml, hown, htb⟩ (c_WM_boatAt l dC dI a k L hL p_0) (cwV 1 htb (gd_V tw_187 tw_188 tw_189 tw_124 tw_186) rfl rfl rfl (by decide +kernel) ⟨Nat.le_of_ble_eq_true rfl, Nat.le_of_ble_eq_true rfl⟩) ⟨pr_blind, va_recv hK hP (ci := 0) (q0 := 0) rfl rfl, pr_pre hP hK hN⟩ rfl rfl hl.1 rfl (lv_room (Nat.le_of_ble_eq_true rfl)) d_WM_row_2 ⟨Nat.le_of_ble_eq_true rfl, Nat.le_of_ble_eq_true rfl⟩)) (fun rr_2 hq_1 => ?_)
  unfold f_WM_boatAt at hq_1
  by_cases c_3 : p_0 < 0
  · rw [if_pos c_3] at hq_1
    subst hq_1
    refine hb_tv .null rfl ?_
    refine lv_astoreN (lv' := [(5, .null), (0, .ref (a 0)), (1, .int p_0), (2, .int p_1), (3, .int p_2), (4, .int p_3)]) hx hb d_WM_row_5 hl (by decide) rfl (fun ls hl => ?_)
    refine lv_aload_n hx hb d_WM_row_7 rfl (lv_at hl 1 rfl) ?_
    refine lv_iload_n hx hb d_WM_row_8 rfl (lv_at hl 3 rfl) ?_
    refine va_csq (va_Run.run (va_runV (As := [.int p_1]) (rest := []) ⟨hx, hb, hml, hown, htb⟩ (c_WM_manAt l dC dI a k L hL p_1) (cwV 1 htb (gd_V tw_157 tw_158 tw_159 tw_124 tw_156) rfl rfl rfl (by decide +kernel) ⟨Nat.le_of_ble_eq_true rfl, Nat.le_of_ble_eq_true rfl⟩) ⟨pr_blind, va_recv hK hP (ci := 0) (q0 := 0) rfl rfl, pr_pre hP hK hN⟩ rfl rfl hl.1 rfl (lv_room (Nat.le_of_ble_eq_true rfl)) d_WM_row_9 ⟨Nat.le_of_ble_eq_true rfl, Nat.le_of_ble_eq_true rfl⟩)) (fun rr_5 hq_4 => ?_)
    unfold f_WM_manAt at hq_4
    by_cases c_6 : p_1 < 0
    · rw [if_pos c_6] at hq_4
      subst hq_4
      refine hb_tv .null rfl ?_
      refine lv_astoreN (lv' := [(6, .null), (5, .null), (0, .ref (a 0)), (1, .int p_0), (2, .int p_1), (3, .int p_2), (4, .int p_3)]) hx hb d_WM_row_12 hl (by decide) rfl (fun ls hl => ?_)
      refine lv_aloadN hx hb d_WM_row_14 (lv_at hl 1 rfl) ?_
      refine lv_ifnullN (tgt := 46) hx hb d_WM_row_16 (by decide) ?_
      refine lv_iconst (v := (-1)) hx hb d_WM_row_46 (by decide +kernel) ?_
      exact W.iret (v := (-1)) hx hb hr (fun t ht hW => ⟨(-1), rfl, (by unfold f_WM_row; rw [if_pos c_3, if_pos c_6]), ht⟩) t_nil d_WM_row_47
    · by_cases c_7 : 40 ≤ p_1
      · rw [if_neg c_6, if_pos c_7] at hq_4
        subst hq_4
        refine hb_tv .null rfl ?_
        refine lv_astoreN (lv' := [(6, .null), (5, .null), (0, .ref (a 0)), (1, .int p_0), (2, .int p_1), (3, .int p_2), (4, .int p_3)]) hx hb d_WM_row_12 hl (by decide) rfl (fun ls hl => ?_)
        refine lv_aloadN hx hb d_WM_row_14 (lv_at hl 1 rfl) ?_
        refine lv_ifnullN (tgt := 46) hx hb d_WM_row_16 (by decide) ?_
        refine lv_iconst (v := (-1)) hx hb d_WM_row_46 (by decide +kernel) ?_
        exact W.iret (v := (-1)) hx hb hr (fun t ht hW => ⟨(-1), rfl, (by unfold f_WM_row; rw [if_pos c_3, if_neg c_6, if_pos c_7]), ht⟩) t_nil d_WM_row_47
      · rw [if_neg c_6, if_neg c_7] at hq_4
        obtain ⟨q_8, x_9, rfl, hk_10⟩ := hq_4
        refine hb_tv (.ref q_8) rfl ?_
        refine lv_astore (lv' := [(6, .ref q_8), (5, .null), (0, .ref (a 0)), (1, .int p_0), (2, .int p_1), (3, .int p_2), (4, .int p_3)]) hx hb d_WM_row_12 hl (by decide) rfl (fun ls hl => ?_)
        refine lv_aloadN hx hb d_WM_row_14 (lv_at hl 1 rfl) ?_
        refine lv_ifnullN (tgt := 46) hx hb d_WM_row_16 (by decide) ?_
        refine lv_iconst (v := (-1)) hx hb d_WM_row_46 (by decide +kernel) ?_
        exact W.iret (v := (-1)) hx hb hr (fun t ht hW => ⟨(-1), rfl, (by unfold f_WM_row; rw [if_pos c_3, if_neg c_6, if_neg c_7]), ht⟩) t_nil d_WM_row_47
  · rw [if_neg c_3] at hq_1
    subst hq_1
    refine hb_tv .null rfl ?_
    refine lv_astoreN (lv' := [(5, .null), (0, .ref (a 0)), (1, .int p_0), (2, .int p_1), (3, .int p_2), (4, .int p_3)]) hx hb d_WM_row_5 hl (by decide) rfl (fun ls hl => ?_)
    refine lv_aload_n hx hb d_WM_row_7 rfl (lv_at hl 1 rfl) ?_
    refine lv_iload_n hx hb d_WM_row_8 rfl (lv_at hl 3 rfl) ?_
    refine va_csq (va_Run.run (va_runV (As := [.int p_1]) (rest := []) ⟨hx, hb, hml, hown, htb⟩ (c_WM_manAt l dC dI a k L hL p_1) (cwV 1 htb (gd_V tw_157 tw_158 tw_159 tw_124 tw_156) rfl rfl rfl (by decide +kernel) ⟨Nat.le_of_ble_eq_true rfl, Nat.le_of_ble_eq_true rfl⟩) ⟨pr_blind, va_recv hK hP (ci := 0) (q0 := 0) rfl rfl, pr_pre hP hK hN⟩ rfl rfl hl.1 rfl (lv_room (Nat.le_of_ble_eq_true rfl)) d_WM_row_9 ⟨Nat.le_of_ble_eq_true rfl, Nat.le_of_ble_eq_true rfl⟩)) (fun rr_12 hq_11 => ?_)
    unfold f_WM_manAt at hq_11
    by_cases c_13 : p_1 < 0
    · rw [if_pos c_13] at hq_11
      subst hq_11
      refine hb_tv .null rfl ?_
      refine lv_astoreN (lv' := [(6, .null), (5, .null), (0, .ref (a 0)), (1, .int p_0), (2, .int p_1), (3, .int p_2), (4, .int p_3)]) hx hb d_WM_row_12 hl (by decide) rfl (fun ls hl => ?_)
      refine lv_aloadN hx hb d_WM_row_14 (lv_at hl 1 rfl) ?_
      refine lv_ifnullN (tgt := 46) hx hb d_WM_row_16 (by decide) ?_
      refine lv_iconst (v := (-1)) hx hb d_WM_row_46 (by decide +kernel) ?_
      exact W.iret (v := (-1)) hx hb hr (fun t ht hW => ⟨(-1), rfl, (by unfold f_WM_row; rw [if_neg c_3, if_pos c_13]), ht⟩) t_nil d_WM_row_47
    · by_cases c_14 : 40 ≤ p_1
      · rw [if_neg c_13, if_pos c_14] at hq_11
        subst hq_11
        refine hb_tv .null rfl ?_
        refine lv_astoreN (lv' := [(6, .null), (5, .null), (0, .ref (a 0)), (1, .int p_0), (2, .int p_1), (3, .int p_2), (4, .int p_3)]) hx hb d_WM_row_12 hl (by decide) rfl (fun ls hl => ?_)
        refine lv_aloadN hx hb d_WM_row_14 (lv_at hl 1 rfl) ?_
        refine lv_ifnullN (tgt := 46) hx hb d_WM_row_16 (by decide) ?_
        refine lv_iconst (v := (-1)) hx hb d_WM_row_46 (by decide +kernel) ?_
        exact W.iret (v := (-1)) hx hb hr (fun t ht hW => ⟨(-1), rfl, (by unfold f_WM_row; rw [if_neg c_3, if_neg c_13, if_pos c_14]), ht⟩) t_nil d_WM_row_47
      · rw [if_neg c_13, if_neg c_14] at hq_11
        obtain ⟨q_15, x_16, rfl, hk_17⟩ := hq_11
        refine hb_tv (.ref q_15) rfl ?_
        refine lv_astore (lv' := [(6, .ref q_15), (5, .null), (0, .ref (a 0)), (1, .int p_0), (2, .int p_1), (3, .int p_2), (4, .int p_3)]) hx hb d_WM_row_12 hl (by decide) rfl (fun ls hl => ?_)
        refine lv_aloadN hx hb d_WM_row_14 (lv_at hl 1 rfl) ?_
        refine lv_ifnullN (tgt := 46) hx hb d_WM_row_16 (by decide) ?_
        refine lv_iconst (v := (-1)) hx hb d_WM_row_46 (by decide +kernel) ?_
        exact W.iret (v := (-1)) hx hb hr (fun t ht hW => ⟨(-1), rfl, (by unfold f_WM_row; rw [if_neg c_3, if_neg c_13, if_neg c_14]), ht⟩) t_nil d_WM_row_47
