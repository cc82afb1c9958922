def f_WM_isSunday (p_0 : Int32) : Int32 := if (p_0 - p_0 / 7 * 7) = 0 then (1) else (0)
set_option maxHeartbeats 4000000 in
set_option maxRecDepth 100000 in
theorem c_WM_isSunday (l : Launch)  (p_0 : Int32)  : Met l y_WM_isSunday (.code y_WM_isSunday b_WM_isSunday 1 (some .boolean) :: TB) ({ frames := 0, cells := 0, slots := 0, locals := 0 }) (va_Pc [.int p_0] (fun _ => True)) (vp_Si (fun r => r = f_WM_isSunday p_0)) 0 0 (fun _ => False) := by
  refine Met.ofW (cc := b_WM_isSunday) (maxL := 1) (ret := (some .boolean)) (by decide) rfl ?_
  intro p e s m args below meth c s₁ B hml hv
  obtain ⟨rfl, -⟩ := hv
  have hx := B.exec
  have hb := B.bytes
  have hr := B.returns
  have hts := atoms_spec (ws := (.code y_WM_isSunday b_WM_isSunday 1 (some .boolean) :: TB)) B.pre
  have htb := fun w (h : w ∈ TB) => hts w (List.mem_cons_of_mem _ h)
  have hown : s.vm.findClass R_WM = some m.cls := findClass_of_methodNamed B.named
  have hlocks := B.notSynchronized
  have hl := lv_entry ([.int p_0]) (n := 1) (Nat.le_of_ble_eq_true rfl)
  rw [lg_entry_eq]
  generalize (lg_sl ([.int p_0]) ++ List.replicate (1 - (lg_sl ([.int p_0])).length) Slot.unset).toArray = ls at hl ⊢
  have hl : lv_has ls 1 [(0, .int p_0)] := hl
  refine lv_iload_n hx hb d_WM_isSunday_0 rfl (lv_at hl 0 rfl) ?_
  refine lv_bipush (v := 7) hx hb d_WM_isSunday_1 (by decide +kernel) ?_
  refine lv_irem hx hb d_WM_isSunday_3 (by decide) ?_
  refine lv_if_ne (tgt := 11) hx hb d_WM_isSunday_4 (by decide) (fun c_1 => ?_) (fun c_1 => ?_)
  · refine lv_iconst (v := 0) hx hb d_WM_isSunday_11 (by decide +kernel) ?_
    exact W.zret (v := 0) hx hb hr (by decide +kernel) (fun t ht hW => ⟨0, rfl, (by unfold f_WM_isSunday; rw [if_neg c_1]), ht⟩) t_nil d_WM_isSunday_12
  · refine lv_iconst (v := 1) hx hb d_WM_isSunday_7 (by decide +kernel) ?_
    refine lv_goto (tgt := 12) hx hb d_WM_isSunday_8 (by decide) ?_
    exact W.zret (v := 1) hx hb hr (by decide +kernel) (fun t ht hW => ⟨1, rfl, (by unfold f_WM_isSunday; rw [if_pos c_1]), ht⟩) t_nil d_WM_isSunday_12
set_option maxHeartbeats 4000000 in
set_option maxRecDepth 100000 in
theorem c_WM_partPot_0 (l : Launch) (dC : Nat → ClassId) (dI : Nat → Nat → Nat) (a : Nat → Nat) (k : Nat → ClassId) (L : List Nat) (hL : L.length = 40)    : Met l y_WM_partPot (.code y_WM_partPot b_WM_partPot 6 none :: TB) ({ frames := 1, cells := 0, slots := 0, locals := 20 }) (va_Pc [.ref (a 0), .int 0] (PR dC dI (XW a k L) (XT k))) (va_Sv (fun _ => True)) 0 0 (fun _ => False) := by
  refine Met.ofW (cc := b_WM_partPot) (maxL := 6) (ret := none) (by decide) rfl ?_
  intro p e s m args below meth c s₁ B hml hv
  obtain ⟨rfl, hP, hK, hN⟩ := hv
  have hx := B.exec
  have hb := B.bytes
  have hr := B.returns
  have hts := atoms_spec (ws := (.code y_WM_partPot b_WM_partPot 6 none :: TB)) B.pre
  have htb := fun w (h : w ∈ TB) => hts w (List.mem_cons_of_mem _ h)
  have hown : s.vm.findClass R_WM = some m.cls := findClass_of_methodNamed B.named
  have hlocks := B.notSynchronized
  have hl := lv_entry ([.ref (a 0), .int 0]) (n := 6) (Nat.le_of_ble_eq_true rfl)
  rw [lg_entry_eq]
  generalize (lg_sl ([.ref (a 0), .int 0]) ++ List.replicate (6 - (lg_sl ([.ref (a 0), .int 0])).length) Slot.unset).toArray = ls at hl ⊢
  have hl : lv_has ls 6 [(0, .ref (a 0)), (1, .int 0)] := hl
  refine lv_iload_n hx hb d_WM_partPot_0 rfl (lv_at hl 1 rfl) ?_
  refine vp_callSi (va_Run.run (va_runS (As := [.int 0]) (rest := []) ⟨hx, hb, hml, hown, htb⟩ (c_WM_isSunday l 0) (cwS 1 htb (gd_S tw_233 tw_234 tw_124 tw_232) rfl rfl rfl (by decide +kernel) ⟨Nat.le_of_ble_eq_true rfl, Nat.le_of_ble_eq_true rfl⟩) ⟨fun _ _ _ _ h => h, fun U _ _ => ⟨rfl, trivial⟩⟩ rfl rfl hl.1 rfl (lv_room (Nat.le_of_ble_eq_true rfl)) d_WM_partPot_1 ⟨Nat.le_of_ble_eq_true rfl, Nat.le_of_ble_eq_true rfl⟩)) (fun r er => ?_)
  subst er
  refine hb_ti 1 (by unfold f_WM_isSunday; rw [if_pos (by decide +kernel : ((0 : Int32) - 0 / 7 * 7) = 0)]) ?_
  refine lv_if_ne (tgt := 8) hx hb d_WM_partPot_4 (by decide) (fun _ => ?_) (fun h => absurd h (by decide +kernel))
  refine lv_iconst (v := 0) hx hb d_WM_partPot_8 (by decide +kernel) ?_
  refine lv_istore_n (lv' := [(2, .int 0), (0, .ref (a 0)), (1, .int 0)]) hx hb d_WM_partPot_9 rfl hl (by decide) rfl (fun ls hl => ?_)
  refine lv_iconst (v := 0) hx hb d_WM_partPot_10 (by decide +kernel) ?_
  refine lv_istore_n (lv' := [(3, .int 0), (2, .int 0), (0, .ref (a 0)), (1, .int 0)]) hx hb d_WM_partPot_11 rfl hl (by decide) rfl (fun ls hl => ?_)
  refine lv_iload_n hx hb d_WM_partPot_12 rfl (lv_at hl 0 rfl) ?_
  refine lv_bipush (v := 40) hx hb d_WM_partPot_13 (by decide +kernel) ?_
  refine lv_icmp_ge (tgt := 49) hx hb d_WM_partPot_15 (by decide) (fun h => absurd h (by decide +kernel)) (fun _ => ?_)
  refine lv_aload_n hx hb d_WM_partPot_18 rfl (lv_at hl 2 rfl) ?_
  refine va_get (D := (dC, dI)) (ci := 0) (v := .ref (a 6)) (C := R_WM) (T := F_WM) (N := 13) hx hb htb i_WM hown hK hP 0 rfl rfl 1 (by decide) (htb (.fieldLink R_WM 18 "WaterMen" "men" "[LWaterMen$Man;") tw_70) (fun _ h9 => h9) rfl d_WM_partPot_19 ?_
  refine lv_iload_n hx hb d_WM_partPot_22 rfl (lv_at hl 0 rfl) ?_
  refine va_aldq hx hb hK hP 6 4 rfl rfl (by unfold vp_in; decide +kernel) d_WM_partPot_23 ?_
  obtain ⟨q_1, x_2, hq_3, hk_4⟩ := xw_man (a := a) (k := k) (i := 0) hL (by unfold vp_in; decide +kernel)
  refine hb_tv (.ref q_1) (by show va_rf (L[_]?) = _; rw [hq_3]; rfl) ?_
  refine lv_astore (lv' := [(4, .ref q_1), (3, .int 0), (2, .int 0), (0, .ref (a 0)), (1, .int 0)]) hx hb d_WM_partPot_24 hl (by decide) rfl (fun ls hl => ?_)
  refine lv_aload hx hb d_WM_partPot_26 (lv_at hl 0 rfl) ?_
  refine lv_ifnull hx hb d_WM_partPot_28 ?_
  refine lv_aload hx hb d_WM_partPot_31 (lv_at hl 0 rfl) ?_
  refine va_get (D := (dC, dI)) (ci := 2) (v := .int (-1)) (C := R_Mn) (T := F_Mn) (N := 8) hx hb htb i_Mn hown hK hP x_2 hk_4 rfl 7 (by decide) (htb (.fieldLink R_WM 394 "WaterMen$Man" "lastSunday" "I") tw_235) (fun _ h9 => h9) rfl d_WM_partPot_33 ?_
  refine lv_iload_n hx hb d_WM_partPot_36 rfl (lv_at hl 4 rfl) ?_
  refine lv_icmp_ne (tgt := 43) hx hb d_WM_partPot_37 (by decide) (fun _ => ?_) (fun h => absurd h (by decide +kernel))
  refine lv_iinc (v := 1) (lv' := [(3, .int 1), (4, .ref q_1), (2, .int 0), (0, .ref (a 0)), (1, .int 0)]) hx hb d_WM_partPot_43 hl (k := 1) rfl (by decide +kernel) (by decide) rfl (fun ls hl => ?_)
  refine lv_goto (tgt := 12) hx hb d_WM_partPot_46 (by decide) ?_
  refine lv_iload_n hx hb d_WM_partPot_12 rfl (lv_at hl 0 rfl) ?_
  refine lv_bipush (v := 40) hx hb d_WM_partPot_13 (by decide +kernel) ?_
  refine lv_icmp_ge (tgt := 49) hx hb d_WM_partPot_15 (by decide) (fun h => absurd h (by decide +kernel)) (fun _ => ?_)
  refine lv_aload_n hx hb d_WM_partPot_18 rfl (lv_at hl 3 rfl) ?_
  refine va_get (D := (dC, dI)) (ci := 0) (v := .ref (a 6)) (C := R_WM) (T := F_WM) (N := 13) hx hb htb i_WM hown hK hP 0 rfl rfl 1 (by decide) (htb (.fieldLink R_WM 18 "WaterMen" "men" "[LWaterMen$Man;") tw_70) (fun _ h9 => h9) rfl d_WM_partPot_19 ?_
  refine lv_iload_n hx hb d_WM_partPot_22 rfl (lv_at hl 0 rfl) ?_
  refine va_aldq hx hb hK hP 6 4 rfl rfl (by unfold vp_in; decide +kernel) d_WM_partPot_23 ?_
  obtain ⟨q_5, x_6, hq_7, hk_8⟩ := xw_man (a := a) (k := k) (i := 1) hL (by unfold vp_in; decide +kernel)
  refine hb_tv (.ref q_5) (by show va_rf (L[_]?) = _; rw [hq_7]; rfl) ?_
  refine lv_astore (lv' := [(4, .ref q_5), (3, .int 1), (2, .int 0), (0, .ref (a 0)), (1, .int 0)]) hx hb d_WM_partPot_24 hl (by decide) rfl (fun ls hl => ?_)
  refine lv_aload hx hb d_WM_partPot_26 (lv_at hl 0 rfl) ?_
  refine lv_ifnull hx hb d_WM_partPot_28 ?_
  refine lv_aload hx hb d_WM_partPot_31 (lv_at hl 0 rfl) ?_
  refine va_get (D := (dC, dI)) (ci := 2) (v := .int (-1)) (C := R_Mn) (T := F_Mn) (N := 8) hx hb htb i_Mn hown hK hP x_6 hk_8 rfl 7 (by decide) (htb (.fieldLink R_WM 394 "WaterMen$Man" "lastSunday" "I") tw_235) (fun _ h9 => h9) rfl d_WM_partPot_33 ?_
  refine lv_iload_n hx hb d_WM_partPot_36 rfl (lv_at hl 4 rfl) ?_
  refine lv_icmp_ne (tgt := 43) hx hb d_WM_partPot_37 (by decide) (fun _ => ?_) (fun h => absurd h (by decide +kernel))
  refine lv_iinc (v := 2) (lv' := [(3, .int 2), (4, .ref q_5), (2, .int 0), (0, .ref (a 0)), (1, .int 0)]) hx hb d_WM_partPot_43 hl (k := 1) rfl (by decide +kernel) (by decide) rfl (fun ls hl => ?_)
  refine lv_goto (tgt := 12) hx hb d_WM_partPot_46 (by decide) ?_
  refine lv_iload_n hx hb d_WM_partPot_12 rfl (lv_at hl 0 rfl) ?_
  refine lv_bipush (v := 40) hx hb d_WM_partPot_13 (by decide +kernel) ?_
  refine lv_icmp_ge (tgt := 49) hx hb d_WM_partPot_15 (by decide) (fun h => absurd h (by decide +kernel)) (fun _ => ?_)
  refine lv_aload_n hx hb d_WM_partPot_18 rfl (lv_at hl 3 rfl) ?_
  refine va_get (D := (dC, dI)) (ci := 0) (v := .ref (a 6)) (C := R_WM) (T := F_WM) (N := 13) hx hb htb i_WM hown hK hP 0 rfl rfl 1 (by decide) (htb (.fieldLink R_WM 18 "WaterMen" "men" "[LWaterMen$Man;") tw_70) (fun _ h9 => h9) rfl d_WM_partPot_19 ?_
  refine lv_iload_n hx hb d_WM_partPot_22 rfl (lv_at hl 0 rfl) ?_
  refine va_aldq hx hb hK hP 6 4 rfl rfl (by unfold vp_in; decide +kernel) d_WM_partPot_23 ?_
  obtain ⟨q_9, x_10, hq_11, hk_12⟩ := xw_man (a := a) (k := k) (i := 2) hL (by unfold vp_in; decide +kernel)
  refine hb_tv (.ref q_9) (by show va_rf (L[_]?) = _; rw [hq_11]; rfl) ?_
  refine lv_astore (lv' := [(4, .ref q_9), (3, .int 2), (2, .int 0), (0, .ref (a 0)), (1, .int 0)]) hx hb d_WM_partPot_24 hl (by decide) rfl (fun ls hl => ?_)
  refine lv_aload hx hb d_WM_partPot_26 (lv_at hl 0 rfl) ?_
  refine lv_ifnull hx hb d_WM_partPot_28 ?_
  refine lv_aload hx hb d_WM_partPot_31 (lv_at hl 0 rfl) ?_
  refine va_get (D := (dC, dI)) (ci := 2) (v := .int (-1)) (C := R_Mn) (T := F_Mn) (N := 8) hx hb htb i_Mn hown hK hP x_10 hk_12 rfl 7 (by decide) (htb (.fieldLink R_WM 394 "WaterMen$Man" "lastSunday" "I") tw_235) (fun _ h9 => h9) rfl d_WM_partPot_33 ?_
  refine lv_iload_n hx hb d_WM_partPot_36 rfl (lv_at hl 4 rfl) ?_
  refine lv_icmp_ne (tgt := 43) hx hb d_WM_partPot_37 (by decide) (fun _ => ?_) (fun h => absurd h (by decide +kernel))
  refine lv_iinc (v := 3) (lv' := [(3, .int 3), (4, .ref q_9), (2, .int 0), (0, .ref (a 0)), (1, .int 0)]) hx hb d_WM_partPot_43 hl (k := 1) rfl (by decide +kernel) (by decide) rfl (fun ls hl => ?_)
  refine lv_goto (tgt := 12) hx hb d_WM_partPot_46 (by decide) ?_
  refine lv_iload_n hx hb d_WM_partPot_12 rfl (lv_at hl 0 rfl) ?_
  refine lv_bipush (v := 40) hx hb d_WM_partPot_13 (by decide +kernel) ?_
  refine lv_icmp_ge (tgt := 49) hx hb d_WM_partPot_15 (by decide) (fun h => absurd h (by decide +kernel)) (fun _ => ?_)
  refine lv_aload_n hx hb d_WM_partPot_18 rfl (lv_at hl 3 rfl) ?_
  refine va_get (D := (dC, dI)) (ci := 0) (v := .ref (a 6)) (C := R_WM) (T := F_WM) (N := 13) hx hb htb i_WM hown hK hP 0 rfl rfl 1 (by decide) (htb (.fieldLink R_WM 18 "WaterMen" "men" "[LWaterMen$Man;") tw_70) (fun _ h9 => h9) rfl d_WM_partPot_19 ?_
  refine lv_iload_n hx hb d_WM_partPot_22 rfl (lv_at hl 0 rfl) ?_
  refine va_aldq hx hb hK hP 6 4 rfl rfl (by unfold vp_in; decide +kernel) d_WM_partPot_23 ?_
  obtain ⟨q_13, x_14, hq_15, hk_16⟩ := xw_man (a := a) (k := k) (i := 3) hL (by unfold vp_in; decide +kernel)
  refine hb_tv (.ref q_13) (by show va_rf (L[_]?) = _; rw [hq_15]; rfl) ?_
  refine lv_astore (lv' := [(4, .ref q_13), (3, .int 3), (2, .int 0), (0, .ref (a 0)), (1, .int 0)]) hx hb d_WM_partPot_24 hl (by decide) rfl (fun ls hl => ?_)
  refine lv_aload hx hb d_WM_partPot_26 (lv_at hl 0 rfl) ?_
  refine lv_ifnull hx hb d_WM_partPot_28 ?_
  refine lv_aload hx hb d_WM_partPot_31 (lv_at hl 0 rfl) ?_
  refine va_get (D := (dC, dI)) (ci := 2) (v := .int (-1)) (C := R_Mn) (T := F_Mn) (N := 8) hx hb htb i_Mn hown hK hP x_14 hk_16 rfl 7 (by decide) (htb (.fieldLink R_WM 394 "WaterMen$Man" "lastSunday" "I") tw_235) (fun _ h9 => h9) rfl d_WM_partPot_33 ?_
  refine lv_iload_n hx hb d_WM_partPot_36 rfl (lv_at hl 4 rfl) ?_
  refine lv_icmp_ne (tgt := 43) hx hb d_WM_partPot_37 (by decide) (fun _ => ?_) (fun h => absurd h (by decide +kernel))
  refine lv_iinc (v := 4) (lv' := [(3, .int 4), (4, .ref q_13), (2, .int 0), (0, .ref (a 0)), (1, .int 0)]) hx hb d_WM_partPot_43 hl (k := 1) rfl (by decide +kernel) (by decide) rfl (fun ls hl => ?_)
  refine lv_goto (tgt := 12) hx hb d_WM_partPot_46 (by decide) ?_
  refine lv_iload_n hx hb d_WM_partPot_12 rfl (lv_at hl 0 rfl) ?_
  refine lv_bipush (v := 40) hx hb d_WM_partPot_13 (by decide +kernel) ?_
  refine lv_icmp_ge (tgt := 49) hx hb d_WM_partPot_15 (by decide) (fun h => absurd h (by decide +kernel)) (fun _ => ?_)
  refine lv_aload_n hx hb d_WM_partPot_18 rfl (lv_at hl 3 rfl) ?_
  refine va_get (D := (dC, dI)) (ci := 0) (v := .ref (a 6)) (C := R_WM) (T := F_WM) (N := 13) hx hb htb i_WM hown hK hP 0 rfl rfl 1 (by decide) (htb (.fieldLink R_WM 18 "WaterMen" "men" "[LWaterMen$Man;") tw_70) (fun _ h9 => h9) rfl d_WM_partPot_19 ?_
  refine lv_iload_n hx hb d_WM_partPot_22 rfl (lv_at hl 0 rfl) ?_
  refine va_aldq hx hb hK hP 6 4 rfl rfl (by unfold vp_in; decide +kernel) d_WM_partPot_23 ?_
  obtain ⟨q_17, x_18, hq_19, hk_20⟩ := xw_man (a := a) (k := k) (i := 4) hL (by unfold vp_in; decide +kernel)
  refine hb_tv (.ref q_17) (by show va_rf (L[_]?) = _; rw [hq_19]; rfl) ?_
  refine lv_astore (lv' := [(4, .ref q_17), (3, .int 4), (2, .int 0), (0, .ref (a 0)), (1, .int 0)]) hx hb d_WM_partPot_24 hl (by decide) rfl (fun ls hl => ?_)
  refine lv_aload hx hb d_WM_partPot_26 (lv_at hl 0 rfl) ?_
  refine lv_ifnull hx hb d_WM_partPot_28 ?_
  refine lv_aload hx hb d_WM_partPot_31 (lv_at hl 0 rfl) ?_
  refine va_get (D := (dC, dI)) (ci := 2) (v := .int (-1)) (C := R_Mn) (T := F_Mn) (N := 8) hx hb htb i_Mn hown hK hP x_18 hk_20 rfl 7 (by decide) (htb (.fieldLink R_WM 394 "WaterMen$Man" "lastSunday" "I") tw_235) (fun _ h9 => h9) rfl d_WM_partPot_33 ?_
  refine lv_iload_n hx hb d_WM_partPot_36 rfl (lv_at hl 4 rfl) ?_
  refine lv_icmp_ne (tgt := 43) hx hb d_WM_partPot_37 (by decide) (fun _ => ?_) (fun h => absurd h (by decide +kernel))
  refine lv_iinc (v := 5) (lv' := [(3, .int 5), (4, .ref q_17), (2, .int 0), (0, .ref (a 0)), (1, .int 0)]) hx hb d_WM_partPot_43 hl (k := 1) rfl (by decide +kernel) (by decide) rfl (fun ls hl => ?_)
  refine lv_goto (tgt := 12) hx hb d_WM_partPot_46 (by decide) ?_
  refine lv_iload_n hx hb d_WM_partPot_12 rfl (lv_at hl 0 rfl) ?_
  refine lv_bipush (v := 40) hx hb d_WM_partPot_13 (by decide +kernel) ?_
  refine lv_icmp_ge (tgt := 49) hx hb d_WM_partPot_15 (by decide) (fun h => absurd h (by decide +kernel)) (fun _ => ?_)
  refine lv_aload_n hx hb d_WM_partPot_18 rfl (lv_at hl 3 rfl) ?_
  refine va_get (D := (dC, dI)) (ci := 0) (v := .ref (a 6)) (C := R_WM) (T := F_WM) (N := 13) hx hb htb i_WM hown hK hP 0 rfl rfl 1 (by decide) (htb (.fieldLink R_WM 18 "WaterMen" "men" "[LWaterMen$Man;") tw_70) (fun _ h9 => h9) rfl d_WM_partPot_19 ?_
  refine lv_iload_n hx hb d_WM_partPot_22 rfl (lv_at hl 0 rfl) ?_
  refine va_aldq hx hb hK hP 6 4 rfl rfl (by unfold vp_in; decide +kernel) d_WM_partPot_23 ?_
  obtain ⟨q_21, x_22, hq_23, hk_24⟩ := xw_man (a := a) (k := k) (i := 5) hL (by unfold vp_in; decide +kernel)
  refine hb_tv (.ref q_21) (by show va_rf (L[_]?) = _; rw [hq_23]; rfl) ?_
  refine lv_astore (lv' := [(4, .ref q_21), (3, .int 5), (2, .int 0), (0, .ref (a 0)), (1, .int 0)]) hx hb d_WM_partPot_24 hl (by decide) rfl (fun ls hl => ?_)
  refine lv_aload hx hb d_WM_partPot_26 (lv_at hl 0 rfl) ?_
  refine lv_ifnull hx hb d_WM_partPot_28 ?_
  refine lv_aload hx hb d_WM_partPot_31 (lv_at hl 0 rfl) ?_
  refine va_get (D := (dC, dI)) (ci := 2) (v := .int (-1)) (C := R_Mn) (T := F_Mn) (N := 8) hx hb htb i_Mn hown hK hP x_22 hk_24 rfl 7 (by decide) (htb (.fieldLink R_WM 394 "WaterMen$Man" "lastSunday" "I") tw_235) (fun _ h9 => h9) rfl d_WM_partPot_33 ?_
  refine lv_iload_n hx hb d_WM_partPot_36 rfl (lv_at hl 4 rfl) ?_
  refine lv_icmp_ne (tgt := 43) hx hb d_WM_partPot_37 (by decide) (fun _ => ?_) (fun h => absurd h (by decide +kernel))
  refine lv_iinc (v := 6) (lv' := [(3, .int 6), (4, .ref q_21), (2, .int 0), (0, .ref (a 0)), (1, .int 0)]) hx hb d_WM_partPot_43 hl (k := 1) rfl (by decide +kernel) (by decide) rfl (fun ls hl => ?_)
  refine lv_goto (tgt := 12) hx hb d_WM_partPot_46 (by decide) ?_
  refine lv_iload_n hx hb d_WM_partPot_12 rfl (lv_at hl 0 rfl) ?_
  refine lv_bipush (v := 40) hx hb d_WM_partPot_13 (by decide +kernel) ?_
  refine lv_icmp_ge (tgt := 49) hx hb d_WM_partPot_15 (by decide) (fun h => absurd h (by decide +kernel)) (fun _ => ?_)
  refine lv_aload_n hx hb d_WM_partPot_18 rfl (lv_at hl 3 rfl) ?_
  refine va_get (D := (dC, dI)) (ci := 0) (v := .ref (a 6)) (C := R_WM) (T := F_WM) (N := 13) hx hb htb i_WM hown hK hP 0 rfl rfl 1 (by decide) (htb (.fieldLink R_WM 18 "WaterMen" "men" "[LWaterMen$Man;") tw_70) (fun _ h9 => h9) rfl d_WM_partPot_19 ?_
  refine lv_iload_n hx hb d_WM_partPot_22 rfl (lv_at hl 0 rfl) ?_
  refine va_aldq hx hb hK hP 6 4 rfl rfl (by unfold vp_in; decide +kernel) d_WM_partPot_23 ?_
  obtain ⟨q_25, x_26, hq_27, hk_28⟩ := xw_man (a := a) (k := k) (i := 6) hL (by unfold vp_in; decide +kernel)
  refine hb_tv (.ref q_25) (by show va_rf (L[_]?) = _; rw [hq_27]; rfl) ?_
  refine lv_astore (lv' := [(4, .ref q_25), (3, .int 6), (2, .int 0), (0, .ref (a 0)), (1, .int 0)]) hx hb d_WM_partPot_24 hl (by decide) rfl (fun ls hl => ?_)
  refine lv_aload hx hb d_WM_partPot_26 (lv_at hl 0 rfl) ?_
  refine lv_ifnull hx hb d_WM_partPot_28 ?_
  refine lv_aload hx hb d_WM_partPot_31 (lv_at hl 0 rfl) ?_
  refine va_get (D := (dC, dI)) (ci := 2) (v := .int (-1)) (C := R_Mn) (T := F_Mn) (N := 8) hx hb htb i_Mn hown hK hP x_26 hk_28 rfl 7 (by decide) (htb (.fieldLink R_WM 394 "WaterMen$Man" "lastSunday" "I") tw_235) (fun _ h9 => h9) rfl d_WM_partPot_33 ?_
  refine lv_iload_n hx hb d_WM_partPot_36 rfl (lv_at hl 4 rfl) ?_
  refine lv_icmp_ne (tgt := 43) hx hb d_WM_partPot_37 (by decide) (fun _ => ?_) (fun h => absurd h (by decide +kernel))
  refine lv_iinc (v := 7) (lv' := [(3, .int 7), (4, .ref q_25), (2, .int 0), (0, .ref (a 0)), (1, .int 0)]) hx hb d_WM_partPot_43 hl (k := 1) rfl (by decide +kernel) (by decide) rfl (fun ls hl => ?_)
  refine lv_goto (tgt := 12) hx hb d_WM_partPot_46 (by decide) ?_
  refine lv_iload_n hx hb d_WM_partPot_12 rfl (lv_at hl 0 rfl) ?_
  refine lv_bipush (v := 40) hx hb d_WM_partPot_13 (by decide +kernel) ?_
  refine lv_icmp_ge (tgt := 49) hx hb d_WM_partPot_15 (by decide) (fun h => absurd h (by decide +kernel)) (fun _ => ?_)
  refine lv_aload_n hx hb d_WM_partPot_18 rfl (lv_at hl 3 rfl) ?_
  refine va_get (D := (dC, dI)) (ci := 0) (v := .ref (a 6)) (C := R_WM) (T := F_WM) (N := 13) hx hb htb i_WM hown hK hP 0 rfl rfl 1 (by decide) (htb (.fieldLink R_WM 18 "WaterMen" "men" "[LWaterMen$Man;") tw_70) (fun _ h9 => h9) rfl d_WM_partPot_19 ?_
  refine lv_iload_n hx hb d_WM_partPot_22 rfl (lv_at hl 0 rfl) ?_
  refine va_aldq hx hb hK hP 6 4 rfl rfl (by unfold vp_in; decide +kernel) d_WM_partPot_23 ?_
  obtain ⟨q_29, x_30, hq_31, hk_32⟩ := xw_man (a := a) (k := k) (i := 7) hL (by unfold vp_in; decide +kernel)
  refine hb_tv (.ref q_29) (by show va_rf (L[_]?) = _; rw [hq_31]; rfl) ?_
  refine lv_astore (lv' := [(4, .ref q_29), (3, .int 7), (2, .int 0), (0, .ref (a 0)), (1, .int 0)]) hx hb d_WM_partPot_24 hl (by decide) rfl (fun ls hl => ?_)
  refine lv_aload hx hb d_WM_partPot_26 (lv_at hl 0 rfl) ?_
  refine lv_ifnull hx hb d_WM_partPot_28 ?_
  refine lv_aload hx hb d_WM_partPot_31 (lv_at hl 0 rfl) ?_
  refine va_get (D := (dC, dI)) (ci := 2) (v := .int (-1)) (C := R_Mn) (T := F_Mn) (N := 8) hx hb htb i_Mn hown hK hP x_30 hk_32 rfl 7 (by decide) (htb (.fieldLink R_WM 394 "WaterMen$Man" "lastSunday" "I") tw_235) (fun _ h9 => h9) rfl d_WM_partPot_33 ?_
  refine lv_iload_n hx hb d_WM_partPot_36 rfl (lv_at hl 4 rfl) ?_
  refine lv_icmp_ne (tgt := 43) hx hb d_WM_partPot_37 (by decide) (fun _ => ?_) (fun h => absurd h (by decide +kernel))
  refine lv_iinc (v := 8) (lv' := [(3, .int 8), (4, .ref q_29), (2, .int 0), (0, .ref (a 0)), (1, .int 0)]) hx hb d_WM_partPot_43 hl (k := 1) rfl (by decide +kernel) (by decide) rfl (fun ls hl => ?_)
  refine lv_goto (tgt := 12) hx hb d_WM_partPot_46 (by decide) ?_
  refine lv_iload_n hx hb d_WM_partPot_12 rfl (lv_at hl 0 rfl) ?_
  refine lv_bipush (v := 40) hx hb d_WM_partPot_13 (by decide +kernel) ?_
  refine lv_icmp_ge (tgt := 49) hx hb d_WM_partPot_15 (by decide) (fun h => absurd h (by decide +kernel)) (fun _ => ?_)
  refine lv_aload_n hx hb d_WM_partPot_18 rfl (lv_at hl 3 rfl) ?_
  refine va_get (D := (dC, dI)) (ci := 0) (v := .ref (a 6)) (C := R_WM) (T := F_WM) (N := 13) hx hb htb i_WM hown hK hP 0 rfl rfl 1 (by decide) (htb (.fieldLink R_WM 18 "WaterMen" "men" "[LWaterMen$Man;") tw_70) (fun _ h9 => h9) rfl d_WM_partPot_19 ?_
  refine lv_iload_n hx hb d_WM_partPot_22 rfl (lv_at hl 0 rfl) ?_
  refine va_aldq hx hb hK hP 6 4 rfl rfl (by unfold vp_in; decide +kernel) d_WM_partPot_23 ?_
  obtain ⟨q_33, x_34, hq_35, hk_36⟩ := xw_man (a := a) (k := k) (i := 8) hL (by unfold vp_in; decide +kernel)
  refine hb_tv (.ref q_33) (by show va_rf (L[_]?) = _; rw [hq_35]; rfl) ?_
  refine lv_astore (lv' := [(4, .ref q_33), (3, .int 8), (2, .int 0), (0, .ref (a 0)), (1, .int 0)]) hx hb d_WM_partPot_24 hl (by decide) rfl (fun ls hl => ?_)
  refine lv_aload hx hb d_WM_partPot_26 (lv_at hl 0 rfl) ?_
  refine lv_ifnull hx hb d_WM_partPot_28 ?_
  refine lv_aload hx hb d_WM_partPot_31 (lv_at hl 0 rfl) ?_
  refine va_get (D := (dC, dI)) (ci := 2) (v := .int (-1)) (C := R_Mn) (T := F_Mn) (N := 8) hx hb htb i_Mn hown hK hP x_34 hk_36 rfl 7 (by decide) (htb (.fieldLink R_WM 394 "WaterMen$Man" "lastSunday" "I") tw_235) (fun _ h9 => h9) rfl d_WM_partPot_33 ?_
  refine lv_iload_n hx hb d_WM_partPot_36 rfl (lv_at hl 4 rfl) ?_
  refine lv_icmp_ne (tgt := 43) hx hb d_WM_partPot_37 (by decide) (fun _ => ?_) (fun h => absurd h (by decide +kernel))
  refine lv_iinc (v := 9) (lv' := [(3, .int 9), (4, .ref q_33), (2, .int 0), (0, .ref (a 0)), (1, .int 0)]) hx hb d_WM_partPot_43 hl (k := 1) rfl (by decide +kernel) (by decide) rfl (fun ls hl => ?_)
  refine lv_goto (tgt := 12) hx hb d_WM_partPot_46 (by decide) ?_
  refine lv_iload_n hx hb d_WM_partPot_12 rfl (lv_at hl 0 rfl) ?_
  refine lv_bipush (v := 40) hx hb d_WM_partPot_13 (by decide +kernel) ?_
  refine lv_icmp_ge (tgt := 49) hx hb d_WM_partPot_15 (by decide) (fun h => absurd h (by decide +kernel)) (fun _ => ?_)
  refine lv_aload_n hx hb d_WM_partPot_18 rfl (lv_at hl 3 rfl) ?_
  refine va_get (D := (dC, dI)) (ci := 0) (v := .ref (a 6)) (C := R_WM) (T := F_WM) (N := 13) hx hb htb i_WM hown hK hP 0 rfl rfl 1 (by decide) (htb (.fieldLink R_WM 18 "WaterMen" "men" "[LWaterMen$Man;") tw_70) (fun _ h9 => h9) rfl d_WM_partPot_19 ?_
  refine lv_iload_n hx hb d_WM_partPot_22 rfl (lv_at hl 0 rfl) ?_
  refine va_aldq hx hb hK hP 6 4 rfl rfl (by unfold vp_in; decide +kernel) d_WM_partPot_23 ?_
  obtain ⟨q_37, x_38, hq_39, hk_40⟩ := xw_man (a := a) (k := k) (i := 9) hL (by unfold vp_in; decide +kernel)
  refine hb_tv (.ref q_37) (by show va_rf (L[_]?) = _; rw [hq_39]; rfl) ?_
  refine lv_astore (lv' := [(4, .ref q_37), (3, .int 9), (2, .int 0), (0, .ref (a 0)), (1, .int 0)]) hx hb d_WM_partPot_24 hl (by decide) rfl (fun ls hl => ?_)
  refine lv_aload hx hb d_WM_partPot_26 (lv_at hl 0 rfl) ?_
  refine lv_ifnull hx hb d_WM_partPot_28 ?_
  refine lv_aload hx hb d_WM_partPot_31 (lv_at hl 0 rfl) ?_
  refine va_get (D := (dC, dI)) (ci := 2) (v := .int (-1)) (C := R_Mn) (T := F_Mn) (N := 8) hx hb htb i_Mn hown hK hP x_38 hk_40 rfl 7 (by decide) (htb (.fieldLink R_WM 394 "WaterMen$Man" "lastSunday" "I") tw_235) (fun _ h9 => h9) rfl d_WM_partPot_33 ?_
  refine lv_iload_n hx hb d_WM_partPot_36 rfl (lv_at hl 4 rfl) ?_
  refine lv_icmp_ne (tgt := 43) hx hb d_WM_partPot_37 (by decide) (fun _ => ?_) (fun h => absurd h (by decide +kernel))
  refine lv_iinc (v := 10) (lv' := [(3, .int 10), (4, .ref q_37), (2, .int 0), (0, .ref (a 0)), (1, .int 0)]) hx hb d_WM_partPot_43 hl (k := 1) rfl (by decide +kernel) (by decide) rfl (fun ls hl => ?_)
  refine lv_goto (tgt := 12) hx hb d_WM_partPot_46 (by decide) ?_
  refine lv_iload_n hx hb d_WM_partPot_12 rfl (lv_at hl 0 rfl) ?_
  refine lv_bipush (v := 40) hx hb d_WM_partPot_13 (by decide +kernel) ?_
  refine lv_icmp_ge (tgt := 49) hx hb d_WM_partPot_15 (by decide) (fun h => absurd h (by decide +kernel)) (fun _ => ?_)
  refine lv_aload_n hx hb d_WM_partPot_18 rfl (lv_at hl 3 rfl) ?_
  refine va_get (D := (dC, dI)) (ci := 0) (v := .ref (a 6)) (C := R_WM) (T := F_WM) (N := 13) hx hb htb i_WM hown hK hP 0 rfl rfl 1 (by decide) (htb (.fieldLink R_WM 18 "WaterMen" "men" "[LWaterMen$Man;") tw_70) (fun _ h9 => h9) rfl d_WM_partPot_19 ?_
  refine lv_iload_n hx hb d_WM_partPot_22 rfl (lv_at hl 0 rfl) ?_
  refine va_aldq hx hb hK hP 6 4 rfl rfl (by unfold vp_in; decide +kernel) d_WM_partPot_23 ?_
  obtain ⟨q_41, x_42, hq_43, hk_44⟩ := xw_man (a := a) (k := k) (i := 10) hL (by unfold vp_in; decide +kernel)
  refine hb_tv (.ref q_41) (by show va_rf (L[_]?) = _; rw [hq_43]; rfl) ?_
  refine lv_astore (lv' := [(4, .ref q_41), (3, .int 10), (2, .int 0), (0, .ref (a 0)), (1, .int 0)]) hx hb d_WM_partPot_24 hl (by decide) rfl (fun ls hl => ?_)
  refine lv_aload hx hb d_WM_partPot_26 (lv_at hl 0 rfl) ?_
  refine lv_ifnull hx hb d_WM_partPot_28 ?_
  refine lv_aload hx hb d_WM_partPot_31 (lv_at hl 0 rfl) ?_
  refine va_get (D := (dC, dI)) (ci := 2) (v := .int (-1)) (C := R_Mn) (T := F_Mn) (N := 8) hx hb htb i_Mn hown hK hP x_42 hk_44 rfl 7 (by decide) (htb (.fieldLink R_WM 394 "WaterMen$Man" "lastSunday" "I") tw_235) (fun _ h9 => h9) rfl d_WM_partPot_33 ?_
  refine lv_iload_n hx hb d_WM_partPot_36 rfl (lv_at hl 4 rfl) ?_
  refine lv_icmp_ne (tgt := 43) hx hb d_WM_partPot_37 (by decide) (fun _ => ?_) (fun h => absurd h (by decide +kernel))
  refine lv_iinc (v := 11) (lv' := [(3, .int 11), (4, .ref q_41), (2, .int 0), (0, .ref (a 0)), (1, .int 0)]) hx hb d_WM_partPot_43 hl (k := 1) rfl (by decide +kernel) (by decide) rfl (fun ls hl => ?_)
  refine lv_goto (tgt := 12) hx hb d_WM_partPot_46 (by decide) ?_
  refine lv_iload_n hx hb d_WM_partPot_12 rfl (lv_at hl 0 rfl) ?_
  refine lv_bipush (v := 40) hx hb d_WM_partPot_13 (by decide +kernel) ?_
  refine lv_icmp_ge (tgt := 49) hx hb d_WM_partPot_15 (by decide) (fun h => absurd h (by decide +kernel)) (fun _ => ?_)
  refine lv_aload_n hx hb d_WM_partPot_18 rfl (lv_at hl 3 rfl) ?_
  refine va_get (D := (dC, dI)) (ci := 0) (v := .ref (a 6)) (C := R_WM) (T := F_WM) (N := 13) hx hb htb i_WM hown hK hP 0 rfl rfl 1 (by decide) (htb (.fieldLink R_WM 18 "WaterMen" "men" "[LWaterMen$Man;") tw_70) (fun _ h9 => h9) rfl d_WM_partPot_19 ?_
  refine lv_iload_n hx hb d_WM_partPot_22 rfl (lv_at hl 0 rfl) ?_
  refine va_aldq hx hb hK hP 6 4 rfl rfl (by unfold vp_in; decide +kernel) d_WM_partPot_23 ?_
  obtain ⟨q_45, x_46, hq_47, hk_48⟩ := xw_man (a := a) (k := k) (i := 11) hL (by unfold vp_in; decide +kernel)
  refine hb_tv (.ref q_45) (by show va_rf (L[_]?) = _; rw [hq_47]; rfl) ?_
  refine lv_astore (lv' := [(4, .ref q_45), (3, .int 11), (2, .int 0), (0, .ref (a 0)), (1, .int 0)]) hx hb d_WM_partPot_24 hl (by decide) rfl (fun ls hl => ?_)
  refine lv_aload hx hb d_WM_partPot_26 (lv_at hl 0 rfl) ?_
  refine lv_ifnull hx hb d_WM_partPot_28 ?_
  refine lv_aload hx hb d_WM_partPot_31 (lv_at hl 0 rfl) ?_
  refine va_get (D := (dC, dI)) (ci := 2) (v := .int (-1)) (C := R_Mn) (T := F_Mn) (N := 8) hx hb htb i_Mn hown hK hP x_46 hk_48 rfl 7 (by decide) (htb (.fieldLink R_WM 394 "WaterMen$Man" "lastSunday" "I") tw_235) (fun _ h9 => h9) rfl d_WM_partPot_33 ?_
  refine lv_iload_n hx hb d_WM_partPot_36 rfl (lv_at hl 4 rfl) ?_
  refine lv_icmp_ne (tgt := 43) hx hb d_WM_partPot_37 (by decide) (fun _ => ?_) (fun h => absurd h (by decide +kernel))
  refine lv_iinc (v := 12) (lv' := [(3, .int 12), (4, .ref q_45), (2, .int 0), (0, .ref (a 0)), (1, .int 0)]) hx hb d_WM_partPot_43 hl (k := 1) rfl (by decide +kernel) (by decide) rfl (fun ls hl => ?_)
  refine lv_goto (tgt := 12) hx hb d_WM_partPot_46 (by decide) ?_
  refine lv_iload_n hx hb d_WM_partPot_12 rfl (lv_at hl 0 rfl) ?_
  refine lv_bipush (v := 40) hx hb d_WM_partPot_13 (by decide +kernel) ?_
  refine lv_icmp_ge (tgt := 49) hx hb d_WM_partPot_15 (by decide) (fun h => absurd h (by decide +kernel)) (fun _ => ?_)
  refine lv_aload_n hx hb d_WM_partPot_18 rfl (lv_at hl 3 rfl) ?_
  refine va_get (D := (dC, dI)) (ci := 0) (v := .ref (a 6)) (C := R_WM) (T := F_WM) (N := 13) hx hb htb i_WM hown hK hP 0 rfl rfl 1 (by decide) (htb (.fieldLink R_WM 18 "WaterMen" "men" "[LWaterMen$Man;") tw_70) (fun _ h9 => h9) rfl d_WM_partPot_19 ?_
  refine lv_iload_n hx hb d_WM_partPot_22 rfl (lv_at hl 0 rfl) ?_
  refine va_aldq hx hb hK hP 6 4 rfl rfl (by unfold vp_in; decide +kernel) d_WM_partPot_23 ?_
  obtain ⟨q_49, x_50, hq_51, hk_52⟩ := xw_man (a := a) (k := k) (i := 12) hL (by unfold vp_in; decide +kernel)
  refine hb_tv (.ref q_49) (by show va_rf (L[_]?) = _; rw [hq_51]; rfl) ?_
  refine lv_astore (lv' := [(4, .ref q_49), (3, .int 12), (2, .int 0), (0, .ref (a 0)), (1, .int 0)]) hx hb d_WM_partPot_24 hl (by decide) rfl (fun ls hl => ?_)
  refine lv_aload hx hb d_WM_partPot_26 (lv_at hl 0 rfl) ?_
  refine lv_ifnull hx hb d_WM_partPot_28 ?_
  refine lv_aload hx hb d_WM_partPot_31 (lv_at hl 0 rfl) ?_
  refine va_get (D := (dC, dI)) (ci := 2) (v := .int (-1)) (C := R_Mn) (T := F_Mn) (N := 8) hx hb htb i_Mn hown hK hP x_50 hk_52 rfl 7 (by decide) (htb (.fieldLink R_WM 394 "WaterMen$Man" "lastSunday" "I") tw_235) (fun _ h9 => h9) rfl d_WM_partPot_33 ?_
  refine lv_iload_n hx hb d_WM_partPot_36 rfl (lv_at hl 4 rfl) ?_
  refine lv_icmp_ne (tgt := 43) hx hb d_WM_partPot_37 (by decide) (fun _ => ?_) (fun h => absurd h (by decide +kernel))
  refine lv_iinc (v := 13) (lv' := [(3, .int 13), (4, .ref q_49), (2, .int 0), (0, .ref (a 0)), (1, .int 0)]) hx hb d_WM_partPot_43 hl (k := 1) rfl (by decide +kernel) (by decide) rfl (fun ls hl => ?_)
  refine lv_goto (tgt := 12) hx hb d_WM_partPot_46 (by decide) ?_
  refine lv_iload_n hx hb d_WM_partPot_12 rfl (lv_at hl 0 rfl) ?_
  refine lv_bipush (v := 40) hx hb d_WM_partPot_13 (by decide +kernel) ?_
  refine lv_icmp_ge (tgt := 49) hx hb d_WM_partPot_15 (by decide) (fun h => absurd h (by decide +kernel)) (fun _ => ?_)
  refine lv_aload_n hx hb d_WM_partPot_18 rfl (lv_at hl 3 rfl) ?_
  refine va_get (D := (dC, dI)) (ci := 0) (v := .ref (a 6)) (C := R_WM) (T := F_WM) (N := 13) hx hb htb i_WM hown hK hP 0 rfl rfl 1 (by decide) (htb (.fieldLink R_WM 18 "WaterMen" "men" "[LWaterMen$Man;") tw_70) (fun _ h9 => h9) rfl d_WM_partPot_19 ?_
  refine lv_iload_n hx hb d_WM_partPot_22 rfl (lv_at hl 0 rfl) ?_
  refine va_aldq hx hb hK hP 6 4 rfl rfl (by unfold vp_in; decide +kernel) d_WM_partPot_23 ?_
  obtain ⟨q_53, x_54, hq_55, hk_56⟩ := xw_man (a := a) (k := k) (i := 13) hL (by unfold vp_in; decide +kernel)
  refine hb_tv (.ref q_53) (by show va_rf (L[_]?) = _; rw [hq_55]; rfl) ?_
  refine lv_astore (lv' := [(4, .ref q_53), (3, .int 13), (2, .int 0), (0, .ref (a 0)), (1, .int 0)]) hx hb d_WM_partPot_24 hl (by decide) rfl (fun ls hl => ?_)
  refine lv_aload hx hb d_WM_partPot_26 (lv_at hl 0 rfl) ?_
  refine lv_ifnull hx hb d_WM_partPot_28 ?_
  refine lv_aload hx hb d_WM_partPot_31 (lv_at hl 0 rfl) ?_
  refine va_get (D := (dC, dI)) (ci := 2) (v := .int (-1)) (C := R_Mn) (T := F_Mn) (N := 8) hx hb htb i_Mn hown hK hP x_54 hk_56 rfl 7 (by decide) (htb (.fieldLink R_WM 394 "WaterMen$Man" "lastSunday" "I") tw_235) (fun _ h9 => h9) rfl d_WM_partPot_33 ?_
  refine lv_iload_n hx hb d_WM_partPot_36 rfl (lv_at hl 4 rfl) ?_
  refine lv_icmp_ne (tgt := 43) hx hb d_WM_partPot_37 (by decide) (fun _ => ?_) (fun h => absurd h (by decide +kernel))
  refine lv_iinc (v := 14) (lv' := [(3, .int 14), (4, .ref q_53), (2, .int 0), (0, .ref (a 0)), (1, .int 0)]) hx hb d_WM_partPot_43 hl (k := 1) rfl (by decide +kernel) (by decide) rfl (fun ls hl => ?_)
  refine lv_goto (tgt := 12) hx hb d_WM_partPot_46 (by decide) ?_
  refine lv_iload_n hx hb d_WM_partPot_12 rfl (lv_at hl 0 rfl) ?_
  refine lv_bipush (v := 40) hx hb d_WM_partPot_13 (by decide +kernel) ?_
  refine lv_icmp_ge (tgt := 49) hx hb d_WM_partPot_15 (by decide) (fun h => absurd h (by decide +kernel)) (fun _ => ?_)
  refine lv_aload_n hx hb d_WM_partPot_18 rfl (lv_at hl 3 rfl) ?_
  refine va_get (D := (dC, dI)) (ci := 0) (v := .ref (a 6)) (C := R_WM) (T := F_WM) (N := 13) hx hb htb i_WM hown hK hP 0 rfl rfl 1 (by decide) (htb (.fieldLink R_WM 18 "WaterMen" "men" "[LWaterMen$Man;") tw_70) (fun _ h9 => h9) rfl d_WM_partPot_19 ?_
  refine lv_iload_n hx hb d_WM_partPot_22 rfl (lv_at hl 0 rfl) ?_
  refine va_aldq hx hb hK hP 6 4 rfl rfl (by unfold vp_in; decide +kernel) d_WM_partPot_23 ?_
  obtain ⟨q_57, x_58, hq_59, hk_60⟩ := xw_man (a := a) (k := k) (i := 14) hL (by unfold vp_in; decide +kernel)
  refine hb_tv (.ref q_57) (by show va_rf (L[_]?) = _; rw [hq_59]; rfl) ?_
  refine lv_astore (lv' := [(4, .ref q_57), (3, .int 14), (2, .int 0), (0, .ref (a 0)), (1, .int 0)]) hx hb d_WM_partPot_24 hl (by decide) rfl (fun ls hl => ?_)
  refine lv_aload hx hb d_WM_partPot_26 (lv_at hl 0 rfl) ?_
  refine lv_ifnull hx hb d_WM_partPot_28 ?_
  refine lv_aload hx hb d_WM_partPot_31 (lv_at hl 0 rfl) ?_
  refine va_get (D := (dC, dI)) (ci := 2) (v := .int (-1)) (C := R_Mn) (T := F_Mn) (N := 8) hx hb htb i_Mn hown hK hP x_58 hk_60 rfl 7 (by decide) (htb (.fieldLink R_WM 394 "WaterMen$Man" "lastSunday" "I") tw_235) (fun _ h9 => h9) rfl d_WM_partPot_33 ?_
  refine lv_iload_n hx hb d_WM_partPot_36 rfl (lv_at hl 4 rfl) ?_
  refine lv_icmp_ne (tgt := 43) hx hb d_WM_partPot_37 (by decide) (fun _ => ?_) (fun h => absurd h (by decide +kernel))
  refine lv_iinc (v := 15) (lv' := [(3, .int 15), (4, .ref q_57), (2, .int 0), (0, .ref (a 0)), (1, .int 0)]) hx hb d_WM_partPot_43 hl (k := 1) rfl (by decide +kernel) (by decide) rfl (fun ls hl => ?_)
  refine lv_goto (tgt := 12) hx hb d_WM_partPot_46 (by decide) ?_
  refine lv_iload_n hx hb d_WM_partPot_12 rfl (lv_at hl 0 rfl) ?_
  refine lv_bipush (v := 40) hx hb d_WM_partPot_13 (by decide +kernel) ?_
  refine lv_icmp_ge (tgt := 49) hx hb d_WM_partPot_15 (by decide) (fun h => absurd h (by decide +kernel)) (fun _ => ?_)
  refine lv_aload_n hx hb d_WM_partPot_18 rfl (lv_at hl 3 rfl) ?_
  refine va_get (D := (dC, dI)) (ci := 0) (v := .ref (a 6)) (C := R_WM) (T := F_WM) (N := 13) hx hb htb i_WM hown hK hP 0 rfl rfl 1 (by decide) (htb (.fieldLink R_WM 18 "WaterMen" "men" "[LWaterMen$Man;") tw_70) (fun _ h9 => h9) rfl d_WM_partPot_19 ?_
  refine lv_iload_n hx hb d_WM_partPot_22 rfl (lv_at hl 0 rfl) ?_
  refine va_aldq hx hb hK hP 6 4 rfl rfl (by unfold vp_in; decide +kernel) d_WM_partPot_23 ?_
  obtain ⟨q_61, x_62, hq_63, hk_64⟩ := xw_man (a := a) (k := k) (i := 15) hL (by unfold vp_in; decide +kernel)
  refine hb_tv (.ref q_61) (by show va_rf (L[_]?) = _; rw [hq_63]; rfl) ?_
  refine lv_astore (lv' := [(4, .ref q_61), (3, .int 15), (2, .int 0), (0, .ref (a 0)), (1, .int 0)]) hx hb d_WM_partPot_24 hl (by decide) rfl (fun ls hl => ?_)
  refine lv_aload hx hb d_WM_partPot_26 (lv_at hl 0 rfl) ?_
  refine lv_ifnull hx hb d_WM_partPot_28 ?_
  refine lv_aload hx hb d_WM_partPot_31 (lv_at hl 0 rfl) ?_
  refine va_get (D := (dC, dI)) (ci := 2) (v := .int (-1)) (C := R_Mn) (T := F_Mn) (N := 8) hx hb htb i_Mn hown hK hP x_62 hk_64 rfl 7 (by decide) (htb (.fieldLink R_WM 394 "WaterMen$Man" "lastSunday" "I") tw_235) (fun _ h9 => h9) rfl d_WM_partPot_33 ?_
  refine lv_iload_n hx hb d_WM_partPot_36 rfl (lv_at hl 4 rfl) ?_
  refine lv_icmp_ne (tgt := 43) hx hb d_WM_partPot_37 (by decide) (fun _ => ?_) (fun h => absurd h (by decide +kernel))
  refine lv_iinc (v := 16) (lv' := [(3, .int 16), (4, .ref q_61), (2, .int 0), (0, .ref (a 0)), (1, .int 0)]) hx hb d_WM_partPot_43 hl (k := 1) rfl (by decide +kernel) (by decide) rfl (fun ls hl => ?_)
  refine lv_goto (tgt := 12) hx hb d_WM_partPot_46 (by decide) ?_
  refine lv_iload_n hx hb d_WM_partPot_12 rfl (lv_at hl 0 rfl) ?_
  refine lv_bipush (v := 40) hx hb d_WM_partPot_13 (by decide +kernel) ?_
  refine lv_icmp_ge (tgt := 49) hx hb d_WM_partPot_15 (by decide) (fun h => absurd h (by decide +kernel)) (fun _ => ?_)
  refine lv_aload_n hx hb d_WM_partPot_18 rfl (lv_at hl 3 rfl) ?_
  refine va_get (D := (dC, dI)) (ci := 0) (v := .ref (a 6)) (C := R_WM) (T := F_WM) (N := 13) hx hb htb i_WM hown hK hP 0 rfl rfl 1 (by decide) (htb (.fieldLink R_WM 18 "WaterMen" "men" "[LWaterMen$Man;") tw_70) (fun _ h9 => h9) rfl d_WM_partPot_19 ?_
  refine lv_iload_n hx hb d_WM_partPot_22 rfl (lv_at hl 0 rfl) ?_
  refine va_aldq hx hb hK hP 6 4 rfl rfl (by unfold vp_in; decide +kernel) d_WM_partPot_23 ?_
  obtain ⟨q_65, x_66, hq_67, hk_68⟩ := xw_man (a := a) (k := k) (i := 16) hL (by unfold vp_in; decide +kernel)
  refine hb_tv (.ref q_65) (by show va_rf (L[_]?) = _; rw [hq_67]; rfl) ?_
  refine lv_astore (lv' := [(4, .ref q_65), (3, .int 16), (2, .int 0), (0, .ref (a 0)), (1, .int 0)]) hx hb d_WM_partPot_24 hl (by decide) rfl (fun ls hl => ?_)
  refine lv_aload hx hb d_WM_partPot_26 (lv_at hl 0 rfl) ?_
  refine lv_ifnull hx hb d_WM_partPot_28 ?_
  refine lv_aload hx hb d_WM_partPot_31 (lv_at hl 0 rfl) ?_
  refine va_get (D := (dC, dI)) (ci := 2) (v := .int (-1)) (C := R_Mn) (T := F_Mn) (N := 8) hx hb htb i_Mn hown hK hP x_66 hk_68 rfl 7 (by decide) (htb (.fieldLink R_WM 394 "WaterMen$Man" "lastSunday" "I") tw_235) (fun _ h9 => h9) rfl d_WM_partPot_33 ?_
  refine lv_iload_n hx hb d_WM_partPot_36 rfl (lv_at hl 4 rfl) ?_
  refine lv_icmp_ne (tgt := 43) hx hb d_WM_partPot_37 (by decide) (fun _ => ?_) (fun h => absurd h (by decide +kernel))
  refine lv_iinc (v := 17) (lv' := [(3, .int 17), (4, .ref q_65), (2, .int 0), (0, .ref (a 0)), (1, .int 0)]) hx hb d_WM_partPot_43 hl (k := 1) rfl (by decide +kernel) (by decide) rfl (fun ls hl => ?_)
  refine lv_goto (tgt := 12) hx hb d_WM_partPot_46 (by decide) ?_
  refine lv_iload_n hx hb d_WM_partPot_12 rfl (lv_at hl 0 rfl) ?_
  refine lv_bipush (v := 40) hx hb d_WM_partPot_13 (by decide +kernel) ?_
  refine lv_icmp_ge (tgt := 49) hx hb d_WM_partPot_15 (by decide) (fun h => absurd h (by decide +kernel)) (fun _ => ?_)
  refine lv_aload_n hx hb d_WM_partPot_18 rfl (lv_at hl 3 rfl) ?_
  refine va_get (D := (dC, dI)) (ci := 0) (v := .ref (a 6)) (C := R_WM) (T := F_WM) (N := 13) hx hb htb i_WM hown hK hP 0 rfl rfl 1 (by decide) (htb (.fieldLink R_WM 18 "WaterMen" "men" "[LWaterMen$Man;") tw_70) (fun _ h9 => h9) rfl d_WM_partPot_19 ?_
  refine lv_iload_n hx hb d_WM_partPot_22 rfl (lv_at hl 0 rfl) ?_
  refine va_aldq hx hb hK hP 6 4 rfl rfl (by unfold vp_in; decide +kernel) d_WM_partPot_23 ?_
  obtain ⟨q_69, x_70, hq_71, hk_72⟩ := xw_man (a := a) (k := k) (i := 17) hL (by unfold vp_in; decide +kernel)
  refine hb_tv (.ref q_69) (by show va_rf (L[_]?) = _; rw [hq_71]; rfl) ?_
  refine lv_astore (lv' := [(4, .ref q_69), (3, .int 17), (2, .int 0), (0, .ref (a 0)), (1, .int 0)]) hx hb d_WM_partPot_24 hl (by decide) rfl (fun ls hl => ?_)
  refine lv_aload hx hb d_WM_partPot_26 (lv_at hl 0 rfl) ?_
  refine lv_ifnull hx hb d_WM_partPot_28 ?_
  refine lv_aload hx hb d_WM_partPot_31 (lv_at hl 0 rfl) ?_
  refine va_get (D := (dC, dI)) (ci := 2) (v := .int (-1)) (C := R_Mn) (T := F_Mn) (N := 8) hx hb htb i_Mn hown hK hP x_70 hk_72 rfl 7 (by decide) (htb (.fieldLink R_WM 394 "WaterMen$Man" "lastSunday" "I") tw_235) (fun _ h9 => h9) rfl d_WM_partPot_33 ?_
  refine lv_iload_n hx hb d_WM_partPot_36 rfl (lv_at hl 4 rfl) ?_
  refine lv_icmp_ne (tgt := 43) hx hb d_WM_partPot_37 (by decide) (fun _ => ?_) (fun h => absurd h (by decide +kernel))
  refine lv_iinc (v := 18) (lv' := [(3, .int 18), (4, .ref q_69), (2, .int 0), (0, .ref (a 0)), (1, .int 0)]) hx hb d_WM_partPot_43 hl (k := 1) rfl (by decide +kernel) (by decide) rfl (fun ls hl => ?_)
  refine lv_goto (tgt := 12) hx hb d_WM_partPot_46 (by decide) ?_
  refine lv_iload_n hx hb d_WM_partPot_12 rfl (lv_at hl 0 rfl) ?_
  refine lv_bipush (v := 40) hx hb d_WM_partPot_13 (by decide +kernel) ?_
  refine lv_icmp_ge (tgt := 49) hx hb d_WM_partPot_15 (by decide) (fun h => absurd h (by decide +kernel)) (fun _ => ?_)
  refine lv_aload_n hx hb d_WM_partPot_18 rfl (lv_at hl 3 rfl) ?_
  refine va_get (D := (dC, dI)) (ci := 0) (v := .ref (a 6)) (C := R_WM) (T := F_WM) (N := 13) hx hb htb i_WM hown hK hP 0 rfl rfl 1 (by decide) (htb (.fieldLink R_WM 18 "WaterMen" "men" "[LWaterMen$Man;") tw_70) (fun _ h9 => h9) rfl d_WM_partPot_19 ?_
  refine lv_iload_n hx hb d_WM_partPot_22 rfl (lv_at hl 0 rfl) ?_
  refine va_aldq hx hb hK hP 6 4 rfl rfl (by unfold vp_in; decide +kernel) d_WM_partPot_23 ?_
  obtain ⟨q_73, x_74, hq_75, hk_76⟩ := xw_man (a := a) (k := k) (i := 18) hL (by unfold vp_in; decide +kernel)
  refine hb_tv (.ref q_73) (by show va_rf (L[_]?) = _; rw [hq_75]; rfl) ?_
  refine lv_astore (lv' := [(4, .ref q_73), (3, .int 18), (2, .int 0), (0, .ref (a 0)), (1, .int 0)]) hx hb d_WM_partPot_24 hl (by decide) rfl (fun ls hl => ?_)
  refine lv_aload hx hb d_WM_partPot_26 (lv_at hl 0 rfl) ?_
  refine lv_ifnull hx hb d_WM_partPot_28 ?_
  refine lv_aload hx hb d_WM_partPot_31 (lv_at hl 0 rfl) ?_
  refine va_get (D := (dC, dI)) (ci := 2) (v := .int (-1)) (C := R_Mn) (T := F_Mn) (N := 8) hx hb htb i_Mn hown hK hP x_74 hk_76 rfl 7 (by decide) (htb (.fieldLink R_WM 394 "WaterMen$Man" "lastSunday" "I") tw_235) (fun _ h9 => h9) rfl d_WM_partPot_33 ?_
  refine lv_iload_n hx hb d_WM_partPot_36 rfl (lv_at hl 4 rfl) ?_
  refine lv_icmp_ne (tgt := 43) hx hb d_WM_partPot_37 (by decide) (fun _ => ?_) (fun h => absurd h (by decide +kernel))
  refine lv_iinc (v := 19) (lv' := [(3, .int 19), (4, .ref q_73), (2, .int 0), (0, .ref (a 0)), (1, .int 0)]) hx hb d_WM_partPot_43 hl (k := 1) rfl (by decide +kernel) (by decide) rfl (fun ls hl => ?_)
  refine lv_goto (tgt := 12) hx hb d_WM_partPot_46 (by decide) ?_
  refine lv_iload_n hx hb d_WM_partPot_12 rfl (lv_at hl 0 rfl) ?_
  refine lv_bipush (v := 40) hx hb d_WM_partPot_13 (by decide +kernel) ?_
  refine lv_icmp_ge (tgt := 49) hx hb d_WM_partPot_15 (by decide) (fun h => absurd h (by decide +kernel)) (fun _ => ?_)
  refine lv_aload_n hx hb d_WM_partPot_18 rfl (lv_at hl 3 rfl) ?_
  refine va_get (D := (dC, dI)) (ci := 0) (v := .ref (a 6)) (C := R_WM) (T := F_WM) (N := 13) hx hb htb i_WM hown hK hP 0 rfl rfl 1 (by decide) (htb (.fieldLink R_WM 18 "WaterMen" "men" "[LWaterMen$Man;") tw_70) (fun _ h9 => h9) rfl d_WM_partPot_19 ?_
  refine lv_iload_n hx hb d_WM_partPot_22 rfl (lv_at hl 0 rfl) ?_
  refine va_aldq hx hb hK hP 6 4 rfl rfl (by unfold vp_in; decide +kernel) d_WM_partPot_23 ?_
  obtain ⟨q_77, x_78, hq_79, hk_80⟩ := xw_man (a := a) (k := k) (i := 19) hL (by unfold vp_in; decide +kernel)
  refine hb_tv (.ref q_77) (by show va_rf (L[_]?) = _; rw [hq_79]; rfl) ?_
  refine lv_astore (lv' := [(4, .ref q_77), (3, .int 19), (2, .int 0), (0, .ref (a 0)), (1, .int 0)]) hx hb d_WM_partPot_24 hl (by decide) rfl (fun ls hl => ?_)
  refine lv_aload hx hb d_WM_partPot_26 (lv_at hl 0 rfl) ?_
  refine lv_ifnull hx hb d_WM_partPot_28 ?_
  refine lv_aload hx hb d_WM_partPot_31 (lv_at hl 0 rfl) ?_
  refine va_get (D := (dC, dI)) (ci := 2) (v := .int (-1)) (C := R_Mn) (T := F_Mn) (N := 8) hx hb htb i_Mn hown hK hP x_78 hk_80 rfl 7 (by decide) (htb (.fieldLink R_WM 394 "WaterMen$Man" "lastSunday" "I") tw_235) (fun _ h9 => h9) rfl d_WM_partPot_33 ?_
  refine lv_iload_n hx hb d_WM_partPot_36 rfl (lv_at hl 4 rfl) ?_
  refine lv_icmp_ne (tgt := 43) hx hb d_WM_partPot_37 (by decide) (fun _ => ?_) (fun h => absurd h (by decide +kernel))
  refine lv_iinc (v := 20) (lv' := [(3, .int 20), (4, .ref q_77), (2, .int 0), (0, .ref (a 0)), (1, .int 0)]) hx hb d_WM_partPot_43 hl (k := 1) rfl (by decide +kernel) (by decide) rfl (fun ls hl => ?_)
  refine lv_goto (tgt := 12) hx hb d_WM_partPot_46 (by decide) ?_
  refine lv_iload_n hx hb d_WM_partPot_12 rfl (lv_at hl 0 rfl) ?_
  refine lv_bipush (v := 40) hx hb d_WM_partPot_13 (by decide +kernel) ?_
  refine lv_icmp_ge (tgt := 49) hx hb d_WM_partPot_15 (by decide) (fun h => absurd h (by decide +kernel)) (fun _ => ?_)
  refine lv_aload_n hx hb d_WM_partPot_18 rfl (lv_at hl 3 rfl) ?_
  refine va_get (D := (dC, dI)) (ci := 0) (v := .ref (a 6)) (C := R_WM) (T := F_WM) (N := 13) hx hb htb i_WM hown hK hP 0 rfl rfl 1 (by decide) (htb (.fieldLink R_WM 18 "WaterMen" "men" "[LWaterMen$Man;") tw_70) (fun _ h9 => h9) rfl d_WM_partPot_19 ?_
  refine lv_iload_n hx hb d_WM_partPot_22 rfl (lv_at hl 0 rfl) ?_
  refine va_aldq hx hb hK hP 6 4 rfl rfl (by unfold vp_in; decide +kernel) d_WM_partPot_23 ?_
  obtain ⟨q_81, x_82, hq_83, hk_84⟩ := xw_man (a := a) (k := k) (i := 20) hL (by unfold vp_in; decide +kernel)
  refine hb_tv (.ref q_81) (by show va_rf (L[_]?) = _; rw [hq_83]; rfl) ?_
  refine lv_astore (lv' := [(4, .ref q_81), (3, .int 20), (2, .int 0), (0, .ref (a 0)), (1, .int 0)]) hx hb d_WM_partPot_24 hl (by decide) rfl (fun ls hl => ?_)
  refine lv_aload hx hb d_WM_partPot_26 (lv_at hl 0 rfl) ?_
  refine lv_ifnull hx hb d_WM_partPot_28 ?_
  refine lv_aload hx hb d_WM_partPot_31 (lv_at hl 0 rfl) ?_
  refine va_get (D := (dC, dI)) (ci := 2) (v := .int (-1)) (C := R_Mn) (T := F_Mn) (N := 8) hx hb htb i_Mn hown hK hP x_82 hk_84 rfl 7 (by decide) (htb (.fieldLink R_WM 394 "WaterMen$Man" "lastSunday" "I") tw_235) (fun _ h9 => h9) rfl d_WM_partPot_33 ?_
  refine lv_iload_n hx hb d_WM_partPot_36 rfl (lv_at hl 4 rfl) ?_
  refine lv_icmp_ne (tgt := 43) hx hb d_WM_partPot_37 (by decide) (fun _ => ?_) (fun h => absurd h (by decide +kernel))
  refine lv_iinc (v := 21) (lv' := [(3, .int 21), (4, .ref q_81), (2, .int 0), (0, .ref (a 0)), (1, .int 0)]) hx hb d_WM_partPot_43 hl (k := 1) rfl (by decide +kernel) (by decide) rfl (fun ls hl => ?_)
  refine lv_goto (tgt := 12) hx hb d_WM_partPot_46 (by decide) ?_
  refine lv_iload_n hx hb d_WM_partPot_12 rfl (lv_at hl 0 rfl) ?_
  refine lv_bipush (v := 40) hx hb d_WM_partPot_13 (by decide +kernel) ?_
  refine lv_icmp_ge (tgt := 49) hx hb d_WM_partPot_15 (by decide) (fun h => absurd h (by decide +kernel)) (fun _ => ?_)
  refine lv_aload_n hx hb d_WM_partPot_18 rfl (lv_at hl 3 rfl) ?_
  refine va_get (D := (dC, dI)) (ci := 0) (v := .ref (a 6)) (C := R_WM) (T := F_WM) (N := 13) hx hb htb i_WM hown hK hP 0 rfl rfl 1 (by decide) (htb (.fieldLink R_WM 18 "WaterMen" "men" "[LWaterMen$Man;") tw_70) (fun _ h9 => h9) rfl d_WM_partPot_19 ?_
  refine lv_iload_n hx hb d_WM_partPot_22 rfl (lv_at hl 0 rfl) ?_
  refine va_aldq hx hb hK hP 6 4 rfl rfl (by unfold vp_in; decide +kernel) d_WM_partPot_23 ?_
  obtain ⟨q_85, x_86, hq_87, hk_88⟩ := xw_man (a := a) (k := k) (i := 21) hL (by unfold vp_in; decide +kernel)
  refine hb_tv (.ref q_85) (by show va_rf (L[_]?) = _; rw [hq_87]; rfl) ?_
  refine lv_astore (lv' := [(4, .ref q_85), (3, .int 21), (2, .int 0), (0, .ref (a 0)), (1, .int 0)]) hx hb d_WM_partPot_24 hl (by decide) rfl (fun ls hl => ?_)
  refine lv_aload hx hb d_WM_partPot_26 (lv_at hl 0 rfl) ?_
  refine lv_ifnull hx hb d_WM_partPot_28 ?_
  refine lv_aload hx hb d_WM_partPot_31 (lv_at hl 0 rfl) ?_
  refine va_get (D := (dC, dI)) (ci := 2) (v := .int (-1)) (C := R_Mn) (T := F_Mn) (N := 8) hx hb htb i_Mn hown hK hP x_86 hk_88 rfl 7 (by decide) (htb (.fieldLink R_WM 394 "WaterMen$Man" "lastSunday" "I") tw_235) (fun _ h9 => h9) rfl d_WM_partPot_33 ?_
  refine lv_iload_n hx hb d_WM_partPot_36 rfl (lv_at hl 4 rfl) ?_
  refine lv_icmp_ne (tgt := 43) hx hb d_WM_partPot_37 (by decide) (fun _ => ?_) (fun h => absurd h (by decide +kernel))
  refine lv_iinc (v := 22) (lv' := [(3, .int 22), (4, .ref q_85), (2, .int 0), (0, .ref (a 0)), (1, .int 0)]) hx hb d_WM_partPot_43 hl (k := 1) rfl (by decide +kernel) (by decide) rfl (fun ls hl => ?_)
  refine lv_goto (tgt := 12) hx hb d_WM_partPot_46 (by decide) ?_
  refine lv_iload_n hx hb d_WM_partPot_12 rfl (lv_at hl 0 rfl) ?_
  refine lv_bipush (v := 40) hx hb d_WM_partPot_13 (by decide +kernel) ?_
  refine lv_icmp_ge (tgt := 49) hx hb d_WM_partPot_15 (by decide) (fun h => absurd h (by decide +kernel)) (fun _ => ?_)
  refine lv_aload_n hx hb d_WM_partPot_18 rfl (lv_at hl 3 rfl) ?_
  refine va_get (D := (dC, dI)) (ci := 0) (v := .ref (a 6)) (C := R_WM) (T := F_WM) (N := 13) hx hb htb i_WM hown hK hP 0 rfl rfl 1 (by decide) (htb (.fieldLink R_WM 18 "WaterMen" "men" "[LWaterMen$Man;") tw_70) (fun _ h9 => h9) rfl d_WM_partPot_19 ?_
  refine lv_iload_n hx hb d_WM_partPot_22 rfl (lv_at hl 0 rfl) ?_
  refine va_aldq hx hb hK hP 6 4 rfl rfl (by unfold vp_in; decide +kernel) d_WM_partPot_23 ?_
  obtain ⟨q_89, x_90, hq_91, hk_92⟩ := xw_man (a := a) (k := k) (i := 22) hL (by unfold vp_in; decide +kernel)
  refine hb_tv (.ref q_89) (by show va_rf (L[_]?) = _; rw [hq_91]; rfl) ?_
  refine lv_astore (lv' := [(4, .ref q_89), (3, .int 22), (2, .int 0), (0, .ref (a 0)), (1, .int 0)]) hx hb d_WM_partPot_24 hl (by decide) rfl (fun ls hl => ?_)
  refine lv_aload hx hb d_WM_partPot_26 (lv_at hl 0 rfl) ?_
  refine lv_ifnull hx hb d_WM_partPot_28 ?_
  refine lv_aload hx hb d_WM_partPot_31 (lv_at hl 0 rfl) ?_
  refine va_get (D := (dC, dI)) (ci := 2) (v := .int (-1)) (C := R_Mn) (T := F_Mn) (N := 8) hx hb htb i_Mn hown hK hP x_90 hk_92 rfl 7 (by decide) (htb (.fieldLink R_WM 394 "WaterMen$Man" "lastSunday" "I") tw_235) (fun _ h9 => h9) rfl d_WM_partPot_33 ?_
  refine lv_iload_n hx hb d_WM_partPot_36 rfl (lv_at hl 4 rfl) ?_
  refine lv_icmp_ne (tgt := 43) hx hb d_WM_partPot_37 (by decide) (fun _ => ?_) (fun h => absurd h (by decide +kernel))
  refine lv_iinc (v := 23) (lv' := [(3, .int 23), (4, .ref q_89), (2, .int 0), (0, .ref (a 0)), (1, .int 0)]) hx hb d_WM_partPot_43 hl (k := 1) rfl (by decide +kernel) (by decide) rfl (fun ls hl => ?_)
  refine lv_goto (tgt := 12) hx hb d_WM_partPot_46 (by decide) ?_
  refine lv_iload_n hx hb d_WM_partPot_12 rfl (lv_at hl 0 rfl) ?_
  refine lv_bipush (v := 40) hx hb d_WM_partPot_13 (by decide +kernel) ?_
  refine lv_icmp_ge (tgt := 49) hx hb d_WM_partPot_15 (by decide) (fun h => absurd h (by decide +kernel)) (fun _ => ?_)
  refine lv_aload_n hx hb d_WM_partPot_18 rfl (lv_at hl 3 rfl) ?_
  refine va_get (D := (dC, dI)) (ci := 0) (v := .ref (a 6)) (C := R_WM) (T := F_WM) (N := 13) hx hb htb i_WM hown hK hP 0 rfl rfl 1 (by decide) (htb (.fieldLink R_WM 18 "WaterMen" "men" "[LWaterMen$Man;") tw_70) (fun _ h9 => h9) rfl d_WM_partPot_19 ?_
  refine lv_iload_n hx hb d_WM_partPot_22 rfl (lv_at hl 0 rfl) ?_
  refine va_aldq hx hb hK hP 6 4 rfl rfl (by unfold vp_in; decide +kernel) d_WM_partPot_23 ?_
  obtain ⟨q_93, x_94, hq_95, hk_96⟩ := xw_man (a := a) (k := k) (i := 23) hL (by unfold vp_in; decide +kernel)
  refine hb_tv (.ref q_93) (by show va_rf (L[_]?) = _; rw [hq_95]; rfl) ?_
  refine lv_astore (lv' := [(4, .ref q_93), (3, .int 23), (2, .int 0), (0, .ref (a 0)), (1, .int 0)]) hx hb d_WM_partPot_24 hl (by decide) rfl (fun ls hl => ?_)
  refine lv_aload hx hb d_WM_partPot_26 (lv_at hl 0 rfl) ?_
  refine lv_ifnull hx hb d_WM_partPot_28 ?_
  refine lv_aload hx hb d_WM_partPot_31 (lv_at hl 0 rfl) ?_
  refine va_get (D := (dC, dI)) (ci := 2) (v := .int (-1)) (C := R_Mn) (T := F_Mn) (N := 8) hx hb htb i_Mn hown hK hP x_94 hk_96 rfl 7 (by decide) (htb (.fieldLink R_WM 394 "WaterMen$Man" "lastSunday" "I") tw_235) (fun _ h9 => h9) rfl d_WM_partPot_33 ?_
  refine lv_iload_n hx hb d_WM_partPot_36 rfl (lv_at hl 4 rfl) ?_
  refine lv_icmp_ne (tgt := 43) hx hb d_WM_partPot_37 (by decide) (fun _ => ?_) (fun h => absurd h (by decide +kernel))
  refine lv_iinc (v := 24) (lv' := [(3, .int 24), (4, .ref q_93), (2, .int 0), (0, .ref (a 0)), (1, .int 0)]) hx hb d_WM_partPot_43 hl (k := 1) rfl (by decide +kernel) (by decide) rfl (fun ls hl => ?_)
  refine lv_goto (tgt := 12) hx hb d_WM_partPot_46 (by decide) ?_
  refine lv_iload_n hx hb d_WM_partPot_12 rfl (lv_at hl 0 rfl) ?_
  refine lv_bipush (v := 40) hx hb d_WM_partPot_13 (by decide +kernel) ?_
  refine lv_icmp_ge (tgt := 49) hx hb d_WM_partPot_15 (by decide) (fun h => absurd h (by decide +kernel)) (fun _ => ?_)
  refine lv_aload_n hx hb d_WM_partPot_18 rfl (lv_at hl 3 rfl) ?_
  refine va_get (D := (dC, dI)) (ci := 0) (v := .ref (a 6)) (C := R_WM) (T := F_WM) (N := 13) hx hb htb i_WM hown hK hP 0 rfl rfl 1 (by decide) (htb (.fieldLink R_WM 18 "WaterMen" "men" "[LWaterMen$Man;") tw_70) (fun _ h9 => h9) rfl d_WM_partPot_19 ?_
  refine lv_iload_n hx hb d_WM_partPot_22 rfl (lv_at hl 0 rfl) ?_
  refine va_aldq hx hb hK hP 6 4 rfl rfl (by unfold vp_in; decide +kernel) d_WM_partPot_23 ?_
  obtain ⟨q_97, x_98, hq_99, hk_100⟩ := xw_man (a := a) (k := k) (i := 24) hL (by unfold vp_in; decide +kernel)
  refine hb_tv (.ref q_97) (by show va_rf (L[_]?) = _; rw [hq_99]; rfl) ?_
  refine lv_astore (lv' := [(4, .ref q_97), (3, .int 24), (2, .int 0), (0, .ref (a 0)), (1, .int 0)]) hx hb d_WM_partPot_24 hl (by decide) rfl (fun ls hl => ?_)
  refine lv_aload hx hb d_WM_partPot_26 (lv_at hl 0 rfl) ?_
  refine lv_ifnull hx hb d_WM_partPot_28 ?_
  refine lv_aload hx hb d_WM_partPot_31 (lv_at hl 0 rfl) ?_
  refine va_get (D := (dC, dI)) (ci := 2) (v := .int (-1)) (C := R_Mn) (T := F_Mn) (N := 8) hx hb htb i_Mn hown hK hP x_98 hk_100 rfl 7 (by decide) (htb (.fieldLink R_WM 394 "WaterMen$Man" "lastSunday" "I") tw_235) (fun _ h9 => h9) rfl d_WM_partPot_33 ?_
  refine lv_iload_n hx hb d_WM_partPot_36 rfl (lv_at hl 4 rfl) ?_
  refine lv_icmp_ne (tgt := 43) hx hb d_WM_partPot_37 (by decide) (fun _ => ?_) (fun h => absurd h (by decide +kernel))
  refine lv_iinc (v := 25) (lv' := [(3, .int 25), (4, .ref q_97), (2, .int 0), (0, .ref (a 0)), (1, .int 0)]) hx hb d_WM_partPot_43 hl (k := 1) rfl (by decide +kernel) (by decide) rfl (fun ls hl => ?_)
  refine lv_goto (tgt := 12) hx hb d_WM_partPot_46 (by decide) ?_
  refine lv_iload_n hx hb d_WM_partPot_12 rfl (lv_at hl 0 rfl) ?_
  refine lv_bipush (v := 40) hx hb d_WM_partPot_13 (by decide +kernel) ?_
  refine lv_icmp_ge (tgt := 49) hx hb d_WM_partPot_15 (by decide) (fun h => absurd h (by decide +kernel)) (fun _ => ?_)
  refine lv_aload_n hx hb d_WM_partPot_18 rfl (lv_at hl 3 rfl) ?_
  refine va_get (D := (dC, dI)) (ci := 0) (v := .ref (a 6)) (C := R_WM) (T := F_WM) (N := 13) hx hb htb i_WM hown hK hP 0 rfl rfl 1 (by decide) (htb (.fieldLink R_WM 18 "WaterMen" "men" "[LWaterMen$Man;") tw_70) (fun _ h9 => h9) rfl d_WM_partPot_19 ?_
  refine lv_iload_n hx hb d_WM_partPot_22 rfl (lv_at hl 0 rfl) ?_
  refine va_aldq hx hb hK hP 6 4 rfl rfl (by unfold vp_in; decide +kernel) d_WM_partPot_23 ?_
  obtain ⟨q_101, x_102, hq_103, hk_104⟩ := xw_man (a := a) (k := k) (i := 25) hL (by unfold vp_in; decide +kernel)
  refine hb_tv (.ref q_101) (by show va_rf (L[_]?) = _; rw [hq_103]; rfl) ?_
  refine lv_astore (lv' := [(4, .ref q_101), (3, .int 25), (2, .int 0), (0, .ref (a 0)), (1, .int 0)]) hx hb d_WM_partPot_24 hl (by decide) rfl (fun ls hl => ?_)
  refine lv_aload hx hb d_WM_partPot_26 (lv_at hl 0 rfl) ?_
  refine lv_ifnull hx hb d_WM_partPot_28 ?_
  refine lv_aload hx hb d_WM_partPot_31 (lv_at hl 0 rfl) ?_
  refine va_get (D := (dC, dI)) (ci := 2) (v := .int (-1)) (C := R_Mn) (T := F_Mn) (N := 8) hx hb htb i_Mn hown hK hP x_102 hk_104 rfl 7 (by decide) (htb (.fieldLink R_WM 394 "WaterMen$Man" "lastSunday" "I") tw_235) (fun _ h9 => h9) rfl d_WM_partPot_33 ?_
  refine lv_iload_n hx hb d_WM_partPot_36 rfl (lv_at hl 4 rfl) ?_
  refine lv_icmp_ne (tgt := 43) hx hb d_WM_partPot_37 (by decide) (fun _ => ?_) (fun h => absurd h (by decide +kernel))
  refine lv_iinc (v := 26) (lv' := [(3, .int 26), (4, .ref q_101), (2, .int 0), (0, .ref (a 0)), (1, .int 0)]) hx hb d_WM_partPot_43 hl (k := 1) rfl (by decide +kernel) (by decide) rfl (fun ls hl => ?_)
  refine lv_goto (tgt := 12) hx hb d_WM_partPot_46 (by decide) ?_
  refine lv_iload_n hx hb d_WM_partPot_12 rfl (lv_at hl 0 rfl) ?_
  refine lv_bipush (v := 40) hx hb d_WM_partPot_13 (by decide +kernel) ?_
  refine lv_icmp_ge (tgt := 49) hx hb d_WM_partPot_15 (by decide) (fun h => absurd h (by decide +kernel)) (fun _ => ?_)
  refine lv_aload_n hx hb d_WM_partPot_18 rfl (lv_at hl 3 rfl) ?_
  refine va_get (D := (dC, dI)) (ci := 0) (v := .ref (a 6)) (C := R_WM) (T := F_WM) (N := 13) hx hb htb i_WM hown hK hP 0 rfl rfl 1 (by decide) (htb (.fieldLink R_WM 18 "WaterMen" "men" "[LWaterMen$Man;") tw_70) (fun _ h9 => h9) rfl d_WM_partPot_19 ?_
  refine lv_iload_n hx hb d_WM_partPot_22 rfl (lv_at hl 0 rfl) ?_
  refine va_aldq hx hb hK hP 6 4 rfl rfl (by unfold vp_in; decide +kernel) d_WM_partPot_23 ?_
  obtain ⟨q_105, x_106, hq_107, hk_108⟩ := xw_man (a := a) (k := k) (i := 26) hL (by unfold vp_in; decide +kernel)
  refine hb_tv (.ref q_105) (by show va_rf (L[_]?) = _; rw [hq_107]; rfl) ?_
  refine lv_astore (lv' := [(4, .ref q_105), (3, .int 26), (2, .int 0), (0, .ref (a 0)), (1, .int 0)]) hx hb d_WM_partPot_24 hl (by decide) rfl (fun ls hl => ?_)
  refine lv_aload hx hb d_WM_partPot_26 (lv_at hl 0 rfl) ?_
  refine lv_ifnull hx hb d_WM_partPot_28 ?_
  refine lv_aload hx hb d_WM_partPot_31 (lv_at hl 0 rfl) ?_
  refine va_get (D := (dC, dI)) (ci := 2) (v := .int (-1)) (C := R_Mn) (T := F_Mn) (N := 8) hx hb htb i_Mn hown hK hP x_106 hk_108 rfl 7 (by decide) (htb (.fieldLink R_WM 394 "WaterMen$Man" "lastSunday" "I") tw_235) (fun _ h9 => h9) rfl d_WM_partPot_33 ?_
  refine lv_iload_n hx hb d_WM_partPot_36 rfl (lv_at hl 4 rfl) ?_
  refine lv_icmp_ne (tgt := 43) hx hb d_WM_partPot_37 (by decide) (fun _ => ?_) (fun h => absurd h (by decide +kernel))
  refine lv_iinc (v := 27) (lv' := [(3, .int 27), (4, .ref q_105), (2, .int 0), (0, .ref (a 0)), (1, .int 0)]) hx hb d_WM_partPot_43 hl (k := 1) rfl (by decide +kernel) (by decide) rfl (fun ls hl => ?_)
  refine lv_goto (tgt := 12) hx hb d_WM_partPot_46 (by decide) ?_
  refine lv_iload_n hx hb d_WM_partPot_12 rfl (lv_at hl 0 rfl) ?_
  refine lv_bipush (v := 40) hx hb d_WM_partPot_13 (by decide +kernel) ?_
  refine lv_icmp_ge (tgt := 49) hx hb d_WM_partPot_15 (by decide) (fun h => absurd h (by decide +kernel)) (fun _ => ?_)
  refine lv_aload_n hx hb d_WM_partPot_18 rfl (lv_at hl 3 rfl) ?_
  refine va_get (D := (dC, dI)) (ci := 0) (v := .ref (a 6)) (C := R_WM) (T := F_WM) (N := 13) hx hb htb i_WM hown hK hP 0 rfl rfl 1 (by decide) (htb (.fieldLink R_WM 18 "WaterMen" "men" "[LWaterMen$Man;") tw_70) (fun _ h9 => h9) rfl d_WM_partPot_19 ?_
  refine lv_iload_n hx hb d_WM_partPot_22 rfl (lv_at hl 0 rfl) ?_
  refine va_aldq hx hb hK hP 6 4 rfl rfl (by unfold vp_in; decide +kernel) d_WM_partPot_23 ?_
  obtain ⟨q_109, x_110, hq_111, hk_112⟩ := xw_man (a := a) (k := k) (i := 27) hL (by unfold vp_in; decide +kernel)
  refine hb_tv (.ref q_109) (by show va_rf (L[_]?) = _; rw [hq_111]; rfl) ?_
  refine lv_astore (lv' := [(4, .ref q_109), (3, .int 27), (2, .int 0), (0, .ref (a 0)), (1, .int 0)]) hx hb d_WM_partPot_24 hl (by decide) rfl (fun ls hl => ?_)
  refine lv_aload hx hb d_WM_partPot_26 (lv_at hl 0 rfl) ?_
  refine lv_ifnull hx hb d_WM_partPot_28 ?_
  refine lv_aload hx hb d_WM_partPot_31 (lv_at hl 0 rfl) ?_
  refine va_get (D := (dC, dI)) (ci := 2) (v := .int (-1)) (C := R_Mn) (T := F_Mn) (N := 8) hx hb htb i_Mn hown hK hP x_110 hk_112 rfl 7 (by decide) (htb (.fieldLink R_WM 394 "WaterMen$Man" "lastSunday" "I") tw_235) (fun _ h9 => h9) rfl d_WM_partPot_33 ?_
  refine lv_iload_n hx hb d_WM_partPot_36 rfl (lv_at hl 4 rfl) ?_
  refine lv_icmp_ne (tgt := 43) hx hb d_WM_partPot_37 (by decide) (fun _ => ?_) (fun h => absurd h (by decide +kernel))
  refine lv_iinc (v := 28) (lv' := [(3, .int 28), (4, .ref q_109), (2, .int 0), (0, .ref (a 0)), (1, .int 0)]) hx hb d_WM_partPot_43 hl (k := 1) rfl (by decide +kernel) (by decide) rfl (fun ls hl => ?_)
  refine lv_goto (tgt := 12) hx hb d_WM_partPot_46 (by decide) ?_
  refine lv_iload_n hx hb d_WM_partPot_12 rfl (lv_at hl 0 rfl) ?_
  refine lv_bipush (v := 40) hx hb d_WM_partPot_13 (by decide +kernel) ?_
  refine lv_icmp_ge (tgt := 49) hx hb d_WM_partPot_15 (by decide) (fun h => absurd h (by decide +kernel)) (fun _ => ?_)
  refine lv_aload_n hx hb d_WM_partPot_18 rfl (lv_at hl 3 rfl) ?_
  refine va_get (D := (dC, dI)) (ci := 0) (v := .ref (a 6)) (C := R_WM) (T := F_WM) (N := 13) hx hb htb i_WM hown hK hP 0 rfl rfl 1 (by decide) (htb (.fieldLink R_WM 18 "WaterMen" "men" "[LWaterMen$Man;") tw_70) (fun _ h9 => h9) rfl d_WM_partPot_19 ?_
  refine lv_iload_n hx hb d_WM_partPot_22 rfl (lv_at hl 0 rfl) ?_
  refine va_aldq hx hb hK hP 6 4 rfl rfl (by unfold vp_in; decide +kernel) d_WM_partPot_23 ?_
  obtain ⟨q_113, x_114, hq_115, hk_116⟩ := xw_man (a := a) (k := k) (i := 28) hL (by unfold vp_in; decide +kernel)
  refine hb_tv (.ref q_113) (by show va_rf (L[_]?) = _; rw [hq_115]; rfl) ?_
  refine lv_astore (lv' := [(4, .ref q_113), (3, .int 28), (2, .int 0), (0, .ref (a 0)), (1, .int 0)]) hx hb d_WM_partPot_24 hl (by decide) rfl (fun ls hl => ?_)
  refine lv_aload hx hb d_WM_partPot_26 (lv_at hl 0 rfl) ?_
  refine lv_ifnull hx hb d_WM_partPot_28 ?_
  refine lv_aload hx hb d_WM_partPot_31 (lv_at hl 0 rfl) ?_
  refine va_get (D := (dC, dI)) (ci := 2) (v := .int (-1)) (C := R_Mn) (T := F_Mn) (N := 8) hx hb htb i_Mn hown hK hP x_114 hk_116 rfl 7 (by decide) (htb (.fieldLink R_WM 394 "WaterMen$Man" "lastSunday" "I") tw_235) (fun _ h9 => h9) rfl d_WM_partPot_33 ?_
  refine lv_iload_n hx hb d_WM_partPot_36 rfl (lv_at hl 4 rfl) ?_
  refine lv_icmp_ne (tgt := 43) hx hb d_WM_partPot_37 (by decide) (fun _ => ?_) (fun h => absurd h (by decide +kernel))
  refine lv_iinc (v := 29) (lv' := [(3, .int 29), (4, .ref q_113), (2, .int 0), (0, .ref (a 0)), (1, .int 0)]) hx hb d_WM_partPot_43 hl (k := 1) rfl (by decide +kernel) (by decide) rfl (fun ls hl => ?_)
  refine lv_goto (tgt := 12) hx hb d_WM_partPot_46 (by decide) ?_
  refine lv_iload_n hx hb d_WM_partPot_12 rfl (lv_at hl 0 rfl) ?_
  refine lv_bipush (v := 40) hx hb d_WM_partPot_13 (by decide +kernel) ?_
  refine lv_icmp_ge (tgt := 49) hx hb d_WM_partPot_15 (by decide) (fun h => absurd h (by decide +kernel)) (fun _ => ?_)
  refine lv_aload_n hx hb d_WM_partPot_18 rfl (lv_at hl 3 rfl) ?_
  refine va_get (D := (dC, dI)) (ci := 0) (v := .ref (a 6)) (C := R_WM) (T := F_WM) (N := 13) hx hb htb i_WM hown hK hP 0 rfl rfl 1 (by decide) (htb (.fieldLink R_WM 18 "WaterMen" "men" "[LWaterMen$Man;") tw_70) (fun _ h9 => h9) rfl d_WM_partPot_19 ?_
  refine lv_iload_n hx hb d_WM_partPot_22 rfl (lv_at hl 0 rfl) ?_
  refine va_aldq hx hb hK hP 6 4 rfl rfl (by unfold vp_in; decide +kernel) d_WM_partPot_23 ?_
  obtain ⟨q_117, x_118, hq_119, hk_120⟩ := xw_man (a := a) (k := k) (i := 29) hL (by unfold vp_in; decide +kernel)
  refine hb_tv (.ref q_117) (by show va_rf (L[_]?) = _; rw [hq_119]; rfl) ?_
  refine lv_astore (lv' := [(4, .ref q_117), (3, .int 29), (2, .int 0), (0, .ref (a 0)), (1, .int 0)]) hx hb d_WM_partPot_24 hl (by decide) rfl (fun ls hl => ?_)
  refine lv_aload hx hb d_WM_partPot_26 (lv_at hl 0 rfl) ?_
  refine lv_ifnull hx hb d_WM_partPot_28 ?_
  refine lv_aload hx hb d_WM_partPot_31 (lv_at hl 0 rfl) ?_
  refine va_get (D := (dC, dI)) (ci := 2) (v := .int (-1)) (C := R_Mn) (T := F_Mn) (N := 8) hx hb htb i_Mn hown hK hP x_118 hk_120 rfl 7 (by decide) (htb (.fieldLink R_WM 394 "WaterMen$Man" "lastSunday" "I") tw_235) (fun _ h9 => h9) rfl d_WM_partPot_33 ?_
  refine lv_iload_n hx hb d_WM_partPot_36 rfl (lv_at hl 4 rfl) ?_
  refine lv_icmp_ne (tgt := 43) hx hb d_WM_partPot_37 (by decide) (fun _ => ?_) (fun h => absurd h (by decide +kernel))
  refine lv_iinc (v := 30) (lv' := [(3, .int 30), (4, .ref q_117), (2, .int 0), (0, .ref (a 0)), (1, .int 0)]) hx hb d_WM_partPot_43 hl (k := 1) rfl (by decide +kernel) (by decide) rfl (fun ls hl => ?_)
  refine lv_goto (tgt := 12) hx hb d_WM_partPot_46 (by decide) ?_
  refine lv_iload_n hx hb d_WM_partPot_12 rfl (lv_at hl 0 rfl) ?_
  refine lv_bipush (v := 40) hx hb d_WM_partPot_13 (by decide +kernel) ?_
  refine lv_icmp_ge (tgt := 49) hx hb d_WM_partPot_15 (by decide) (fun h => absurd h (by decide +kernel)) (fun _ => ?_)
  refine lv_aload_n hx hb d_WM_partPot_18 rfl (lv_at hl 3 rfl) ?_
  refine va_get (D := (dC, dI)) (ci := 0) (v := .ref (a 6)) (C := R_WM) (T := F_WM) (N := 13) hx hb htb i_WM hown hK hP 0 rfl rfl 1 (by decide) (htb (.fieldLink R_WM 18 "WaterMen" "men" "[LWaterMen$Man;") tw_70) (fun _ h9 => h9) rfl d_WM_partPot_19 ?_
  refine lv_iload_n hx hb d_WM_partPot_22 rfl (lv_at hl 0 rfl) ?_
  refine va_aldq hx hb hK hP 6 4 rfl rfl (by unfold vp_in; decide +kernel) d_WM_partPot_23 ?_
  obtain ⟨q_121, x_122, hq_123, hk_124⟩ := xw_man (a := a) (k := k) (i := 30) hL (by unfold vp_in; decide +kernel)
  refine hb_tv (.ref q_121) (by show va_rf (L[_]?) = _; rw [hq_123]; rfl) ?_
  refine lv_astore (lv' := [(4, .ref q_121), (3, .int 30), (2, .int 0), (0, .ref (a 0)), (1, .int 0)]) hx hb d_WM_partPot_24 hl (by decide) rfl (fun ls hl => ?_)
  refine lv_aload hx hb d_WM_partPot_26 (lv_at hl 0 rfl) ?_
  refine lv_ifnull hx hb d_WM_partPot_28 ?_
  refine lv_aload hx hb d_WM_partPot_31 (lv_at hl 0 rfl) ?_
  refine va_get (D := (dC, dI)) (ci := 2) (v := .int (-1)) (C := R_Mn) (T := F_Mn) (N := 8) hx hb htb i_Mn hown hK hP x_122 hk_124 rfl 7 (by decide) (htb (.fieldLink R_WM 394 "WaterMen$Man" "lastSunday" "I") tw_235) (fun _ h9 => h9) rfl d_WM_partPot_33 ?_
  refine lv_iload_n hx hb d_WM_partPot_36 rfl (lv_at hl 4 rfl) ?_
  refine lv_icmp_ne (tgt := 43) hx hb d_WM_partPot_37 (by decide) (fun _ => ?_) (fun h => absurd h (by decide +kernel))
  refine lv_iinc (v := 31) (lv' := [(3, .int 31), (4, .ref q_121), (2, .int 0), (0, .ref (a 0)), (1, .int 0)]) hx hb d_WM_partPot_43 hl (k := 1) rfl (by decide +kernel) (by decide) rfl (fun ls hl => ?_)
  refine lv_goto (tgt := 12) hx hb d_WM_partPot_46 (by decide) ?_
  refine lv_iload_n hx hb d_WM_partPot_12 rfl (lv_at hl 0 rfl) ?_
  refine lv_bipush (v := 40) hx hb d_WM_partPot_13 (by decide +kernel) ?_
  refine lv_icmp_ge (tgt := 49) hx hb d_WM_partPot_15 (by decide) (fun h => absurd h (by decide +kernel)) (fun _ => ?_)
  refine lv_aload_n hx hb d_WM_partPot_18 rfl (lv_at hl 3 rfl) ?_
  refine va_get (D := (dC, dI)) (ci := 0) (v := .ref (a 6)) (C := R_WM) (T := F_WM) (N := 13) hx hb htb i_WM hown hK hP 0 rfl rfl 1 (by decide) (htb (.fieldLink R_WM 18 "WaterMen" "men" "[LWaterMen$Man;") tw_70) (fun _ h9 => h9) rfl d_WM_partPot_19 ?_
  refine lv_iload_n hx hb d_WM_partPot_22 rfl (lv_at hl 0 rfl) ?_
  refine va_aldq hx hb hK hP 6 4 rfl rfl (by unfold vp_in; decide +kernel) d_WM_partPot_23 ?_
  obtain ⟨q_125, x_126, hq_127, hk_128⟩ := xw_man (a := a) (k := k) (i := 31) hL (by unfold vp_in; decide +kernel)
  refine hb_tv (.ref q_125) (by show va_rf (L[_]?) = _; rw [hq_127]; rfl) ?_
  refine lv_astore (lv' := [(4, .ref q_125), (3, .int 31), (2, .int 0), (0, .ref (a 0)), (1, .int 0)]) hx hb d_WM_partPot_24 hl (by decide) rfl (fun ls hl => ?_)
  refine lv_aload hx hb d_WM_partPot_26 (lv_at hl 0 rfl) ?_
  refine lv_ifnull hx hb d_WM_partPot_28 ?_
  refine lv_aload hx hb d_WM_partPot_31 (lv_at hl 0 rfl) ?_
  refine va_get (D := (dC, dI)) (ci := 2) (v := .int (-1)) (C := R_Mn) (T := F_Mn) (N := 8) hx hb htb i_Mn hown hK hP x_126 hk_128 rfl 7 (by decide) (htb (.fieldLink R_WM 394 "WaterMen$Man" "lastSunday" "I") tw_235) (fun _ h9 => h9) rfl d_WM_partPot_33 ?_
  refine lv_iload_n hx hb d_WM_partPot_36 rfl (lv_at hl 4 rfl) ?_
  refine lv_icmp_ne (tgt := 43) hx hb d_WM_partPot_37 (by decide) (fun _ => ?_) (fun h => absurd h (by decide +kernel))
  refine lv_iinc (v := 32) (lv' := [(3, .int 32), (4, .ref q_125), (2, .int 0), (0, .ref (a 0)), (1, .int 0)]) hx hb d_WM_partPot_43 hl (k := 1) rfl (by decide +kernel) (by decide) rfl (fun ls hl => ?_)
  refine lv_goto (tgt := 12) hx hb d_WM_partPot_46 (by decide) ?_
  refine lv_iload_n hx hb d_WM_partPot_12 rfl (lv_at hl 0 rfl) ?_
  refine lv_bipush (v := 40) hx hb d_WM_partPot_13 (by decide +kernel) ?_
  refine lv_icmp_ge (tgt := 49) hx hb d_WM_partPot_15 (by decide) (fun h => absurd h (by decide +kernel)) (fun _ => ?_)
  refine lv_aload_n hx hb d_WM_partPot_18 rfl (lv_at hl 3 rfl) ?_
  refine va_get (D := (dC, dI)) (ci := 0) (v := .ref (a 6)) (C := R_WM) (T := F_WM) (N := 13) hx hb htb i_WM hown hK hP 0 rfl rfl 1 (by decide) (htb (.fieldLink R_WM 18 "WaterMen" "men" "[LWaterMen$Man;") tw_70) (fun _ h9 => h9) rfl d_WM_partPot_19 ?_
  refine lv_iload_n hx hb d_WM_partPot_22 rfl (lv_at hl 0 rfl) ?_
  refine va_aldq hx hb hK hP 6 4 rfl rfl (by unfold vp_in; decide +kernel) d_WM_partPot_23 ?_
  obtain ⟨q_129, x_130, hq_131, hk_132⟩ := xw_man (a := a) (k := k) (i := 32) hL (by unfold vp_in; decide +kernel)
  refine hb_tv (.ref q_129) (by show va_rf (L[_]?) = _; rw [hq_131]; rfl) ?_
  refine lv_astore (lv' := [(4, .ref q_129), (3, .int 32), (2, .int 0), (0, .ref (a 0)), (1, .int 0)]) hx hb d_WM_partPot_24 hl (by decide) rfl (fun ls hl => ?_)
  refine lv_aload hx hb d_WM_partPot_26 (lv_at hl 0 rfl) ?_
  refine lv_ifnull hx hb d_WM_partPot_28 ?_
  refine lv_aload hx hb d_WM_partPot_31 (lv_at hl 0 rfl) ?_
  refine va_get (D := (dC, dI)) (ci := 2) (v := .int (-1)) (C := R_Mn) (T := F_Mn) (N := 8) hx hb htb i_Mn hown hK hP x_130 hk_132 rfl 7 (by decide) (htb (.fieldLink R_WM 394 "WaterMen$Man" "lastSunday" "I") tw_235) (fun _ h9 => h9) rfl d_WM_partPot_33 ?_
  refine lv_iload_n hx hb d_WM_partPot_36 rfl (lv_at hl 4 rfl) ?_
  refine lv_icmp_ne (tgt := 43) hx hb d_WM_partPot_37 (by decide) (fun _ => ?_) (fun h => absurd h (by decide +kernel))
  refine lv_iinc (v := 33) (lv' := [(3, .int 33), (4, .ref q_129), (2, .int 0), (0, .ref (a 0)), (1, .int 0)]) hx hb d_WM_partPot_43 hl (k := 1) rfl (by decide +kernel) (by decide) rfl (fun ls hl => ?_)
  refine lv_goto (tgt := 12) hx hb d_WM_partPot_46 (by decide) ?_
  refine lv_iload_n hx hb d_WM_partPot_12 rfl (lv_at hl 0 rfl) ?_
  refine lv_bipush (v := 40) hx hb d_WM_partPot_13 (by decide +kernel) ?_
  refine lv_icmp_ge (tgt := 49) hx hb d_WM_partPot_15 (by decide) (fun h => absurd h (by decide +kernel)) (fun _ => ?_)
  refine lv_aload_n hx hb d_WM_partPot_18 rfl (lv_at hl 3 rfl) ?_
  refine va_get (D := (dC, dI)) (ci := 0) (v := .ref (a 6)) (C := R_WM) (T := F_WM) (N := 13) hx hb htb i_WM hown hK hP 0 rfl rfl 1 (by decide) (htb (.fieldLink R_WM 18 "WaterMen" "men" "[LWaterMen$Man;") tw_70) (fun _ h9 => h9) rfl d_WM_partPot_19 ?_
  refine lv_iload_n hx hb d_WM_partPot_22 rfl (lv_at hl 0 rfl) ?_
  refine va_aldq hx hb hK hP 6 4 rfl rfl (by unfold vp_in; decide +kernel) d_WM_partPot_23 ?_
  obtain ⟨q_133, x_134, hq_135, hk_136⟩ := xw_man (a := a) (k := k) (i := 33) hL (by unfold vp_in; decide +kernel)
  refine hb_tv (.ref q_133) (by show va_rf (L[_]?) = _; rw [hq_135]; rfl) ?_
  refine lv_astore (lv' := [(4, .ref q_133), (3, .int 33), (2, .int 0), (0, .ref (a 0)), (1, .int 0)]) hx hb d_WM_partPot_24 hl (by decide) rfl (fun ls hl => ?_)
  refine lv_aload hx hb d_WM_partPot_26 (lv_at hl 0 rfl) ?_
  refine lv_ifnull hx hb d_WM_partPot_28 ?_
  refine lv_aload hx hb d_WM_partPot_31 (lv_at hl 0 rfl) ?_
  refine va_get (D := (dC, dI)) (ci := 2) (v := .int (-1)) (C := R_Mn) (T := F_Mn) (N := 8) hx hb htb i_Mn hown hK hP x_134 hk_136 rfl 7 (by decide) (htb (.fieldLink R_WM 394 "WaterMen$Man" "lastSunday" "I") tw_235) (fun _ h9 => h9) rfl d_WM_partPot_33 ?_
  refine lv_iload_n hx hb d_WM_partPot_36 rfl (lv_at hl 4 rfl) ?_
  refine lv_icmp_ne (tgt := 43) hx hb d_WM_partPot_37 (by decide) (fun _ => ?_) (fun h => absurd h (by decide +kernel))
  refine lv_iinc (v := 34) (lv' := [(3, .int 34), (4, .ref q_133), (2, .int 0), (0, .ref (a 0)), (1, .int 0)]) hx hb d_WM_partPot_43 hl (k := 1) rfl (by decide +kernel) (by decide) rfl (fun ls hl => ?_)
  refine lv_goto (tgt := 12) hx hb d_WM_partPot_46 (by decide) ?_
  refine lv_iload_n hx hb d_WM_partPot_12 rfl (lv_at hl 0 rfl) ?_
  refine lv_bipush (v := 40) hx hb d_WM_partPot_13 (by decide +kernel) ?_
  refine lv_icmp_ge (tgt := 49) hx hb d_WM_partPot_15 (by decide) (fun h => absurd h (by decide +kernel)) (fun _ => ?_)
  refine lv_aload_n hx hb d_WM_partPot_18 rfl (lv_at hl 3 rfl) ?_
  refine va_get (D := (dC, dI)) (ci := 0) (v := .ref (a 6)) (C := R_WM) (T := F_WM) (N := 13) hx hb htb i_WM hown hK hP 0 rfl rfl 1 (by decide) (htb (.fieldLink R_WM 18 "WaterMen" "men" "[LWaterMen$Man;") tw_70) (fun _ h9 => h9) rfl d_WM_partPot_19 ?_
  refine lv_iload_n hx hb d_WM_partPot_22 rfl (lv_at hl 0 rfl) ?_
  refine va_aldq hx hb hK hP 6 4 rfl rfl (by unfold vp_in; decide +kernel) d_WM_partPot_23 ?_
  obtain ⟨q_137, x_138, hq_139, hk_140⟩ := xw_man (a := a) (k := k) (i := 34) hL (by unfold vp_in; decide +kernel)
  refine hb_tv (.ref q_137) (by show va_rf (L[_]?) = _; rw [hq_139]; rfl) ?_
  refine lv_astore (lv' := [(4, .ref q_137), (3, .int 34), (2, .int 0), (0, .ref (a 0)), (1, .int 0)]) hx hb d_WM_partPot_24 hl (by decide) rfl (fun ls hl => ?_)
  refine lv_aload hx hb d_WM_partPot_26 (lv_at hl 0 rfl) ?_
  refine lv_ifnull hx hb d_WM_partPot_28 ?_
  refine lv_aload hx hb d_WM_partPot_31 (lv_at hl 0 rfl) ?_
  refine va_get (D := (dC, dI)) (ci := 2) (v := .int (-1)) (C := R_Mn) (T := F_Mn) (N := 8) hx hb htb i_Mn hown hK hP x_138 hk_140 rfl 7 (by decide) (htb (.fieldLink R_WM 394 "WaterMen$Man" "lastSunday" "I") tw_235) (fun _ h9 => h9) rfl d_WM_partPot_33 ?_
  refine lv_iload_n hx hb d_WM_partPot_36 rfl (lv_at hl 4 rfl) ?_
  refine lv_icmp_ne (tgt := 43) hx hb d_WM_partPot_37 (by decide) (fun _ => ?_) (fun h => absurd h (by decide +kernel))
  refine lv_iinc (v := 35) (lv' := [(3, .int 35), (4, .ref q_137), (2, .int 0), (0, .ref (a 0)), (1, .int 0)]) hx hb d_WM_partPot_43 hl (k := 1) rfl (by decide +kernel) (by decide) rfl (fun ls hl => ?_)
  refine lv_goto (tgt := 12) hx hb d_WM_partPot_46 (by decide) ?_
  refine lv_iload_n hx hb d_WM_partPot_12 rfl (lv_at hl 0 rfl) ?_
  refine lv_bipush (v := 40) hx hb d_WM_partPot_13 (by decide +kernel) ?_
  refine lv_icmp_ge (tgt := 49) hx hb d_WM_partPot_15 (by decide) (fun h => absurd h (by decide +kernel)) (fun _ => ?_)
  refine lv_aload_n hx hb d_WM_partPot_18 rfl (lv_at hl 3 rfl) ?_
  refine va_get (D := (dC, dI)) (ci := 0) (v := .ref (a 6)) (C := R_WM) (T := F_WM) (N := 13) hx hb htb i_WM hown hK hP 0 rfl rfl 1 (by decide) (htb (.fieldLink R_WM 18 "WaterMen" "men" "[LWaterMen$Man;") tw_70) (fun _ h9 => h9) rfl d_WM_partPot_19 ?_
  refine lv_iload_n hx hb d_WM_partPot_22 rfl (lv_at hl 0 rfl) ?_
  refine va_aldq hx hb hK hP 6 4 rfl rfl (by unfold vp_in; decide +kernel) d_WM_partPot_23 ?_
  obtain ⟨q_141, x_142, hq_143, hk_144⟩ := xw_man (a := a) (k := k) (i := 35) hL (by unfold vp_in; decide +kernel)
  refine hb_tv (.ref q_141) (by show va_rf (L[_]?) = _; rw [hq_143]; rfl) ?_
  refine lv_astore (lv' := [(4, .ref q_141), (3, .int 35), (2, .int 0), (0, .ref (a 0)), (1, .int 0)]) hx hb d_WM_partPot_24 hl (by decide) rfl (fun ls hl => ?_)
  refine lv_aload hx hb d_WM_partPot_26 (lv_at hl 0 rfl) ?_
  refine lv_ifnull hx hb d_WM_partPot_28 ?_
  refine lv_aload hx hb d_WM_partPot_31 (lv_at hl 0 rfl) ?_
  refine va_get (D := (dC, dI)) (ci := 2) (v := .int (-1)) (C := R_Mn) (T := F_Mn) (N := 8) hx hb htb i_Mn hown hK hP x_142 hk_144 rfl 7 (by decide) (htb (.fieldLink R_WM 394 "WaterMen$Man" "lastSunday" "I") tw_235) (fun _ h9 => h9) rfl d_WM_partPot_33 ?_
  refine lv_iload_n hx hb d_WM_partPot_36 rfl (lv_at hl 4 rfl) ?_
  refine lv_icmp_ne (tgt := 43) hx hb d_WM_partPot_37 (by decide) (fun _ => ?_) (fun h => absurd h (by decide +kernel))
  refine lv_iinc (v := 36) (lv' := [(3, .int 36), (4, .ref q_141), (2, .int 0), (0, .ref (a 0)), (1, .int 0)]) hx hb d_WM_partPot_43 hl (k := 1) rfl (by decide +kernel) (by decide) rfl (fun ls hl => ?_)
  refine lv_goto (tgt := 12) hx hb d_WM_partPot_46 (by decide) ?_
  refine lv_iload_n hx hb d_WM_partPot_12 rfl (lv_at hl 0 rfl) ?_
  refine lv_bipush (v := 40) hx hb d_WM_partPot_13 (by decide +kernel) ?_
  refine lv_icmp_ge (tgt := 49) hx hb d_WM_partPot_15 (by decide) (fun h => absurd h (by decide +kernel)) (fun _ => ?_)
  refine lv_aload_n hx hb d_WM_partPot_18 rfl (lv_at hl 3 rfl) ?_
  refine va_get (D := (dC, dI)) (ci := 0) (v := .ref (a 6)) (C := R_WM) (T := F_WM) (N := 13) hx hb htb i_WM hown hK hP 0 rfl rfl 1 (by decide) (htb (.fieldLink R_WM 18 "WaterMen" "men" "[LWaterMen$Man;") tw_70) (fun _ h9 => h9) rfl d_WM_partPot_19 ?_
  refine lv_iload_n hx hb d_WM_partPot_22 rfl (lv_at hl 0 rfl) ?_
  refine va_aldq hx hb hK hP 6 4 rfl rfl (by unfold vp_in; decide +kernel) d_WM_partPot_23 ?_
  obtain ⟨q_145, x_146, hq_147, hk_148⟩ := xw_man (a := a) (k := k) (i := 36) hL (by unfold vp_in; decide +kernel)
  refine hb_tv (.ref q_145) (by show va_rf (L[_]?) = _; rw [hq_147]; rfl) ?_
  refine lv_astore (lv' := [(4, .ref q_145), (3, .int 36), (2, .int 0), (0, .ref (a 0)), (1, .int 0)]) hx hb d_WM_partPot_24 hl (by decide) rfl (fun ls hl => ?_)
  refine lv_aload hx hb d_WM_partPot_26 (lv_at hl 0 rfl) ?_
  refine lv_ifnull hx hb d_WM_partPot_28 ?_
  refine lv_aload hx hb d_WM_partPot_31 (lv_at hl 0 rfl) ?_
  refine va_get (D := (dC, dI)) (ci := 2) (v := .int (-1)) (C := R_Mn) (T := F_Mn) (N := 8) hx hb htb i_Mn hown hK hP x_146 hk_148 rfl 7 (by decide) (htb (.fieldLink R_WM 394 "WaterMen$Man" "lastSunday" "I") tw_235) (fun _ h9 => h9) rfl d_WM_partPot_33 ?_
  refine lv_iload_n hx hb d_WM_partPot_36 rfl (lv_at hl 4 rfl) ?_
  refine lv_icmp_ne (tgt := 43) hx hb d_WM_partPot_37 (by decide) (fun _ => ?_) (fun h => absurd h (by decide +kernel))
  refine lv_iinc (v := 37) (lv' := [(3, .int 37), (4, .ref q_145), (2, .int 0), (0, .ref (a 0)), (1, .int 0)]) hx hb d_WM_partPot_43 hl (k := 1) rfl (by decide +kernel) (by decide) rfl (fun ls hl => ?_)
  refine lv_goto (tgt := 12) hx hb d_WM_partPot_46 (by decide) ?_
  refine lv_iload_n hx hb d_WM_partPot_12 rfl (lv_at hl 0 rfl) ?_
  refine lv_bipush (v := 40) hx hb d_WM_partPot_13 (by decide +kernel) ?_
  refine lv_icmp_ge (tgt := 49) hx hb d_WM_partPot_15 (by decide) (fun h => absurd h (by decide +kernel)) (fun _ => ?_)
  refine lv_aload_n hx hb d_WM_partPot_18 rfl (lv_at hl 3 rfl) ?_
  refine va_get (D := (dC, dI)) (ci := 0) (v := .ref (a 6)) (C := R_WM) (T := F_WM) (N := 13) hx hb htb i_WM hown hK hP 0 rfl rfl 1 (by decide) (htb (.fieldLink R_WM 18 "WaterMen" "men" "[LWaterMen$Man;") tw_70) (fun _ h9 => h9) rfl d_WM_partPot_19 ?_
  refine lv_iload_n hx hb d_WM_partPot_22 rfl (lv_at hl 0 rfl) ?_
  refine va_aldq hx hb hK hP 6 4 rfl rfl (by unfold vp_in; decide +kernel) d_WM_partPot_23 ?_
  obtain ⟨q_149, x_150, hq_151, hk_152⟩ := xw_man (a := a) (k := k) (i := 37) hL (by unfold vp_in; decide +kernel)
  refine hb_tv (.ref q_149) (by show va_rf (L[_]?) = _; rw [hq_151]; rfl) ?_
  refine lv_astore (lv' := [(4, .ref q_149), (3, .int 37), (2, .int 0), (0, .ref (a 0)), (1, .int 0)]) hx hb d_WM_partPot_24 hl (by decide) rfl (fun ls hl => ?_)
  refine lv_aload hx hb d_WM_partPot_26 (lv_at hl 0 rfl) ?_
  refine lv_ifnull hx hb d_WM_partPot_28 ?_
  refine lv_aload hx hb d_WM_partPot_31 (lv_at hl 0 rfl) ?_
  refine va_get (D := (dC, dI)) (ci := 2) (v := .int (-1)) (C := R_Mn) (T := F_Mn) (N := 8) hx hb htb i_Mn hown hK hP x_150 hk_152 rfl 7 (by decide) (htb (.fieldLink R_WM 394 "WaterMen$Man" "lastSunday" "I") tw_235) (fun _ h9 => h9) rfl d_WM_partPot_33 ?_
  refine lv_iload_n hx hb d_WM_partPot_36 rfl (lv_at hl 4 rfl) ?_
  refine lv_icmp_ne (tgt := 43) hx hb d_WM_partPot_37 (by decide) (fun _ => ?_) (fun h => absurd h (by decide +kernel))
  refine lv_iinc (v := 38) (lv' := [(3, .int 38), (4, .ref q_149), (2, .int 0), (0, .ref (a 0)), (1, .int 0)]) hx hb d_WM_partPot_43 hl (k := 1) rfl (by decide +kernel) (by decide) rfl (fun ls hl => ?_)
  refine lv_goto (tgt := 12) hx hb d_WM_partPot_46 (by decide) ?_
  refine lv_iload_n hx hb d_WM_partPot_12 rfl (lv_at hl 0 rfl) ?_
  refine lv_bipush (v := 40) hx hb d_WM_partPot_13 (by decide +kernel) ?_
  refine lv_icmp_ge (tgt := 49) hx hb d_WM_partPot_15 (by decide) (fun h => absurd h (by decide +kernel)) (fun _ => ?_)
  refine lv_aload_n hx hb d_WM_partPot_18 rfl (lv_at hl 3 rfl) ?_
  refine va_get (D := (dC, dI)) (ci := 0) (v := .ref (a 6)) (C := R_WM) (T := F_WM) (N := 13) hx hb htb i_WM hown hK hP 0 rfl rfl 1 (by decide) (htb (.fieldLink R_WM 18 "WaterMen" "men" "[LWaterMen$Man;") tw_70) (fun _ h9 => h9) rfl d_WM_partPot_19 ?_
  refine lv_iload_n hx hb d_WM_partPot_22 rfl (lv_at hl 0 rfl) ?_
  refine va_aldq hx hb hK hP 6 4 rfl rfl (by unfold vp_in; decide +kernel) d_WM_partPot_23 ?_
  obtain ⟨q_153, x_154, hq_155, hk_156⟩ := xw_man (a := a) (k := k) (i := 38) hL (by unfold vp_in; decide +kernel)
  refine hb_tv (.ref q_153) (by show va_rf (L[_]?) = _; rw [hq_155]; rfl) ?_
  refine lv_astore (lv' := [(4, .ref q_153), (3, .int 38), (2, .int 0), (0, .ref (a 0)), (1, .int 0)]) hx hb d_WM_partPot_24 hl (by decide) rfl (fun ls hl => ?_)
  refine lv_aload hx hb d_WM_partPot_26 (lv_at hl 0 rfl) ?_
  refine lv_ifnull hx hb d_WM_partPot_28 ?_
  refine lv_aload hx hb d_WM_partPot_31 (lv_at hl 0 rfl) ?_
  refine va_get (D := (dC, dI)) (ci := 2) (v := .int (-1)) (C := R_Mn) (T := F_Mn) (N := 8) hx hb htb i_Mn hown hK hP x_154 hk_156 rfl 7 (by decide) (htb (.fieldLink R_WM 394 "WaterMen$Man" "lastSunday" "I") tw_235) (fun _ h9 => h9) rfl d_WM_partPot_33 ?_
  refine lv_iload_n hx hb d_WM_partPot_36 rfl (lv_at hl 4 rfl) ?_
  refine lv_icmp_ne (tgt := 43) hx hb d_WM_partPot_37 (by decide) (fun _ => ?_) (fun h => absurd h (by decide +kernel))
  refine lv_iinc (v := 39) (lv' := [(3, .int 39), (4, .ref q_153), (2, .int 0), (0, .ref (a 0)), (1, .int 0)]) hx hb d_WM_partPot_43 hl (k := 1) rfl (by decide +kernel) (by decide) rfl (fun ls hl => ?_)
  refine lv_goto (tgt := 12) hx hb d_WM_partPot_46 (by decide) ?_
  refine lv_iload_n hx hb d_WM_partPot_12 rfl (lv_at hl 0 rfl) ?_
  refine lv_bipush (v := 40) hx hb d_WM_partPot_13 (by decide +kernel) ?_
  refine lv_icmp_ge (tgt := 49) hx hb d_WM_partPot_15 (by decide) (fun h => absurd h (by decide +kernel)) (fun _ => ?_)
  refine lv_aload_n hx hb d_WM_partPot_18 rfl (lv_at hl 3 rfl) ?_
  refine va_get (D := (dC, dI)) (ci := 0) (v := .ref (a 6)) (C := R_WM) (T := F_WM) (N := 13) hx hb htb i_WM hown hK hP 0 rfl rfl 1 (by decide) (htb (.fieldLink R_WM 18 "WaterMen" "men" "[LWaterMen$Man;") tw_70) (fun _ h9 => h9) rfl d_WM_partPot_19 ?_
  refine lv_iload_n hx hb d_WM_partPot_22 rfl (lv_at hl 0 rfl) ?_
  refine va_aldq hx hb hK hP 6 4 rfl rfl (by unfold vp_in; decide +kernel) d_WM_partPot_23 ?_
  obtain ⟨q_157, x_158, hq_159, hk_160⟩ := xw_man (a := a) (k := k) (i := 39) hL (by unfold vp_in; decide +kernel)
  refine hb_tv (.ref q_157) (by show va_rf (L[_]?) = _; rw [hq_159]; rfl) ?_
  refine lv_astore (lv' := [(4, .ref q_157), (3, .int 39), (2, .int 0), (0, .ref (a 0)), (1, .int 0)]) hx hb d_WM_partPot_24 hl (by decide) rfl (fun ls hl => ?_)
  refine lv_aload hx hb d_WM_partPot_26 (lv_at hl 0 rfl) ?_
  refine lv_ifnull hx hb d_WM_partPot_28 ?_
  refine lv_aload hx hb d_WM_partPot_31 (lv_at hl 0 rfl) ?_
  refine va_get (D := (dC, dI)) (ci := 2) (v := .int (-1)) (C := R_Mn) (T := F_Mn) (N := 8) hx hb htb i_Mn hown hK hP x_158 hk_160 rfl 7 (by decide) (htb (.fieldLink R_WM 394 "WaterMen$Man" "lastSunday" "I") tw_235) (fun _ h9 => h9) rfl d_WM_partPot_33 ?_
  refine lv_iload_n hx hb d_WM_partPot_36 rfl (lv_at hl 4 rfl) ?_
  refine lv_icmp_ne (tgt := 43) hx hb d_WM_partPot_37 (by decide) (fun _ => ?_) (fun h => absurd h (by decide +kernel))
  refine lv_iinc (v := 40) (lv' := [(3, .int 40), (4, .ref q_157), (2, .int 0), (0, .ref (a 0)), (1, .int 0)]) hx hb d_WM_partPot_43 hl (k := 1) rfl (by decide +kernel) (by decide) rfl (fun ls hl => ?_)
  refine lv_goto (tgt := 12) hx hb d_WM_partPot_46 (by decide) ?_
  refine lv_iload_n hx hb d_WM_partPot_12 rfl (lv_at hl 0 rfl) ?_
  refine lv_bipush (v := 40) hx hb d_WM_partPot_13 (by decide +kernel) ?_
  refine lv_icmp_ge (tgt := 49) hx hb d_WM_partPot_15 (by decide) (fun _ => ?_) (fun h => absurd (by decide +kernel) h)
  refine lv_iload_n hx hb d_WM_partPot_49 rfl (lv_at hl 2 rfl) ?_
  refine lv_if_ne (tgt := 54) hx hb d_WM_partPot_50 (by decide) (fun h => absurd (by decide +kernel) h) (fun _ => ?_)
  exact W.vret hx hb hr (fun t ht hW => ⟨rfl, trivial, ht⟩) t_nil d_WM_partPot_53
set_option maxHeartbeats 4000000 in
set_option maxRecDepth 100000 in
theorem c_Bx_payPensions_1 (l : Launch) (dC : Nat → ClassId) (dI : Nat → Nat → Nat) (a : Nat → Nat) (k : Nat → ClassId) (L : List Nat) (hL : L.length = 40)    : Met l y_Bx_payPensions (.code y_Bx_payPensions b_Bx_payPensions 4 none :: TB) ({ frames := 0, cells := 0, slots := 0, locals := 0 }) (va_Pc [.ref (a 12), .int 1] (PR dC dI (XW a k L) (XT k))) (va_Sv (fun _ => True)) 0 0 (fun _ => False) := by
  refine Met.ofW (cc := b_Bx_payPensions) (maxL := 4) (ret := none) (by decide) rfl ?_
  intro p e s m args below meth c s₁ B hml hv
  obtain ⟨rfl, hP, hK, hN⟩ := hv
  have hx := B.exec
  have hb := B.bytes
  have hr := B.returns
  have hts := atoms_spec (ws := (.code y_Bx_payPensions b_Bx_payPensions 4 none :: TB)) B.pre
  have htb := fun w (h : w ∈ TB) => hts w (List.mem_cons_of_mem _ h)
  have hown : s.vm.findClass R_Bx = some m.cls := findClass_of_methodNamed B.named
  have hlocks := B.notSynchronized
  have hl := lv_entry ([.ref (a 12), .int 1]) (n := 4) (Nat.le_of_ble_eq_true rfl)
  rw [lg_entry_eq]
  generalize (lg_sl ([.ref (a 12), .int 1]) ++ List.replicate (4 - (lg_sl ([.ref (a 12), .int 1])).length) Slot.unset).toArray = ls at hl ⊢
  have hl : lv_has ls 4 [(0, .ref (a 12)), (1, .int 1)] := hl
  refine lv_iload_n hx hb d_Bx_payPensions_0 rfl (lv_at hl 1 rfl) ?_
  refine lv_bipush (v := 100) hx hb d_Bx_payPensions_1 (by decide +kernel) ?_
  refine lv_irem hx hb d_Bx_payPensions_3 (by decide) ?_
  refine hb_ti 1 (by decide +kernel) ?_
  refine lv_if_eq (tgt := 8) hx hb d_Bx_payPensions_4 (by decide) (fun h => absurd h (by decide +kernel)) (fun _ => ?_)
  exact W.vret hx hb hr (fun t ht hW => ⟨rfl, trivial, ht⟩) t_nil d_Bx_payPensions_7
set_option maxHeartbeats 4000000 in
set_option maxRecDepth 100000 in
theorem c_WM_partPot_1 (l : Launch) (dC : Nat → ClassId) (dI : Nat → Nat → Nat) (a : Nat → Nat) (k : Nat → ClassId) (L : List Nat) (hL : L.length = 40)    : Met l y_WM_partPot (.code y_WM_partPot b_WM_partPot 6 none :: TB) ({ frames := 1, cells := 0, slots := 0, locals := 20 }) (va_Pc [.ref (a 0), .int 1] (PR dC dI (XW a k L) (XT k))) (va_Sv (fun _ => True)) 0 0 (fun _ => False) := by
  refine Met.ofW (cc := b_WM_partPot) (maxL := 6) (ret := none) (by decide) rfl ?_
  intro p e s m args below meth c s₁ B hml hv
  obtain ⟨rfl, hP, hK, hN⟩ := hv
  have hx := B.exec
  have hb := B.bytes
  have hr := B.returns
  have hts := atoms_spec (ws := (.code y_WM_partPot b_WM_partPot 6 none :: TB)) B.pre
  have htb := fun w (h : w ∈ TB) => hts w (List.mem_cons_of_mem _ h)
  have hown : s.vm.findClass R_WM = some m.cls := findClass_of_methodNamed B.named
  have hlocks := B.notSynchronized
  have hl := lv_entry ([.ref (a 0), .int 1]) (n := 6) (Nat.le_of_ble_eq_true rfl)
  rw [lg_entry_eq]
  generalize (lg_sl ([.ref (a 0), .int 1]) ++ List.replicate (6 - (lg_sl ([.ref (a 0), .int 1])).length) Slot.unset).toArray = ls at hl ⊢
  have hl : lv_has ls 6 [(0, .ref (a 0)), (1, .int 1)] := hl
  refine lv_iload_n hx hb d_WM_partPot_0 rfl (lv_at hl 1 rfl) ?_
  refine vp_callSi (va_Run.run (va_runS (As := [.int 1]) (rest := []) ⟨hx, hb, hml, hown, htb⟩ (c_WM_isSunday l 1) (cwS 1 htb (gd_S tw_233 tw_234 tw_124 tw_232) rfl rfl rfl (by decide +kernel) ⟨Nat.le_of_ble_eq_true rfl, Nat.le_of_ble_eq_true rfl⟩) ⟨fun _ _ _ _ h => h, fun U _ _ => ⟨rfl, trivial⟩⟩ rfl rfl hl.1 rfl (lv_room (Nat.le_of_ble_eq_true rfl)) d_WM_partPot_1 ⟨Nat.le_of_ble_eq_true rfl, Nat.le_of_ble_eq_true rfl⟩)) (fun r er => ?_)
  subst er
  refine hb_ti 0 (by unfold f_WM_isSunday; rw [if_neg (by decide +kernel : ¬ (((1 : Int32) - 1 / 7 * 7) = 0))]) ?_
  refine lv_if_ne (tgt := 8) hx hb d_WM_partPot_4 (by decide) (fun h => absurd (by decide +kernel) h) (fun _ => ?_)
  exact W.vret hx hb hr (fun t ht hW => ⟨rfl, trivial, ht⟩) t_nil d_WM_partPot_7
set_option maxHeartbeats 4000000 in
set_option maxRecDepth 100000 in
theorem c_Bx_payPensions_2 (l : Launch) (dC : Nat → ClassId) (dI : Nat → Nat → Nat) (a : Nat → Nat) (k : Nat → ClassId) (L : List Nat) (hL : L.length = 40)    : Met l y_Bx_payPensions (.code y_Bx_payPensions b_Bx_payPensions 4 none :: TB) ({ frames := 0, cells := 0, slots := 0, locals := 0 }) (va_Pc [.ref (a 12), .int 2] (PR dC dI (XW a k L) (XT k))) (va_Sv (fun _ => True)) 0 0 (fun _ => False) := by
  refine Met.ofW (cc := b_Bx_payPensions) (maxL := 4) (ret := none) (by decide) rfl ?_
  intro p e s m args below meth c s₁ B hml hv
  obtain ⟨rfl, hP, hK, hN⟩ := hv
  have hx := B.exec
  have hb := B.bytes
  have hr := B.returns
  have hts := atoms_spec (ws := (.code y_Bx_payPensions b_Bx_payPensions 4 none :: TB)) B.pre
  have htb := fun w (h : w ∈ TB) => hts w (List.mem_cons_of_mem _ h)
  have hown : s.vm.findClass R_Bx = some m.cls := findClass_of_methodNamed B.named
  have hlocks := B.notSynchronized
  have hl := lv_entry ([.ref (a 12), .int 2]) (n := 4) (Nat.le_of_ble_eq_true rfl)
  rw [lg_entry_eq]
  generalize (lg_sl ([.ref (a 12), .int 2]) ++ List.replicate (4 - (lg_sl ([.ref (a 12), .int 2])).length) Slot.unset).toArray = ls at hl ⊢
  have hl : lv_has ls 4 [(0, .ref (a 12)), (1, .int 2)] := hl
  refine lv_iload_n hx hb d_Bx_payPensions_0 rfl (lv_at hl 1 rfl) ?_
  refine lv_bipush (v := 100) hx hb d_Bx_payPensions_1 (by decide +kernel) ?_
  refine lv_irem hx hb d_Bx_payPensions_3 (by decide) ?_
  refine hb_ti 2 (by decide +kernel) ?_
  refine lv_if_eq (tgt := 8) hx hb d_Bx_payPensions_4 (by decide) (fun h => absurd h (by decide +kernel)) (fun _ => ?_)
  exact W.vret hx hb hr (fun t ht hW => ⟨rfl, trivial, ht⟩) t_nil d_Bx_payPensions_7
def f_WM_minutes (p_0 : Int32) : Int32 := if p_0 < 1 then ((-1)) else (if 1440 < p_0 then ((-1)) else (if ((0 + p_0) / 720) < 1 then ((0 + p_0)) else (if ((0 + p_0) / 720) < 2 then ((0 + p_0)) else ((0 + p_0)))))
set_option maxHeartbeats 4000000 in
set_option maxRecDepth 100000 in
theorem c_WM_minutes (l : Launch) (dC : Nat → ClassId) (dI : Nat → Nat → Nat) (a : Nat → Nat) (k : Nat → ClassId) (L : List Nat) (hL : L.length = 40) (sz : Nat) (p_0 : Int32)  : Met l y_WM_minutes (.code y_WM_minutes b_WM_minutes 4 (some .int) :: TB) ({ frames := 2, cells := 0, slots := 0, locals := 45 }) (va_Pc [.ref (a 0), .int p_0] (PC dC dI (XW a k L) (XT k) sz)) (va_Qi (fun r (_ : Unit) => r = f_WM_minutes p_0) (fun (_ : Unit) (_ : State) => True) (va_A (XW a k L) sz)) 0 0 (va_A (XW a k L) sz) := by
  refine Met.ofW (cc := b_WM_minutes) (maxL := 4) (ret := (some .int)) (by decide) rfl ?_
  intro p e s m args below meth c s₁ B hml hv
  obtain ⟨rfl, hsz, hP, hK, hD0, hN⟩ := hv
  have hx := B.exec
  have hb := B.bytes
  have hr := B.returns
  have hts := atoms_spec (ws := (.code y_WM_minutes b_WM_minutes 4 (some .int) :: TB)) B.pre
  have htb := fun w (h : w ∈ TB) => hts w (List.mem_cons_of_mem _ h)
  have hown : s.vm.findClass R_WM = some m.cls := findClass_of_methodNamed B.named
  have hlocks := B.notSynchronized
  have hl := lv_entry ([.ref (a 0), .int p_0]) (n := 4) (Nat.le_of_ble_eq_true rfl)
  rw [lg_entry_eq]
  generalize (lg_sl ([.ref (a 0), .int p_0]) ++ List.replicate (4 - (lg_sl ([.ref (a 0), .int p_0])).length) Slot.unset).toArray = ls at hl ⊢
  have hl : lv_has ls 4 [(0, .ref (a 0)), (1, .int p_0)] := hl
  subst hsz
  have hD := hD0.self (sz := s.heap.size)
  obtain ⟨A, hAe⟩ : ∃ A, va_A (XW a k L) s.heap.size = A := ⟨_, rfl⟩
  rw [hAe] at hD
  have hA : ∀ q : Nat, s.heap.size ≤ q → A q := fun q h => by rw [← hAe]; exact Or.inr h
  have hS : va_S A s.heap s.heap [] := va_S.rf
  have hP := hP
  refine lv_iload_n hx hb d_WM_minutes_0 rfl (lv_at hl 1 rfl) ?_
  refine lv_iconst (v := 1) hx hb d_WM_minutes_1 (by decide +kernel) ?_
  refine lv_icmp_lt (tgt := 24) hx hb d_WM_minutes_2 (by decide) (fun c_1 => ?_) (fun c_1 => ?_)
  · refine lv_iconst (v := (-1)) hx hb d_WM_minutes_24 (by decide +kernel) ?_
    refine W.widen (k := 0) (n := 0) (Nat.le_of_ble_eq_true rfl) (Nat.le_of_ble_eq_true rfl) ?_
    exact W.iret (v := (-1)) hx hb hr (fun t ht hW => ⟨⟨(-1), (), rfl, (by unfold f_WM_minutes; rw [if_pos c_1]), trivial⟩, by rw [hAe]; exact hS.F ht⟩) (by rw [hAe]; exact hS.2.2) d_WM_minutes_25
  · refine lv_iload_n hx hb d_WM_minutes_5 rfl (lv_at hl 1 rfl) ?_
    refine lv_sipush (v := 1440) hx hb d_WM_minutes_6 (by decide +kernel) ?_
    refine lv_icmp_gt (tgt := 24) hx hb d_WM_minutes_9 (by decide) (fun c_2 => ?_) (fun c_2 => ?_)
    · refine lv_iconst (v := (-1)) hx hb d_WM_minutes_24 (by decide +kernel) ?_
      refine W.widen (k := 0) (n := 0) (Nat.le_of_ble_eq_true rfl) (Nat.le_of_ble_eq_true rfl) ?_
      exact W.iret (v := (-1)) hx hb hr (fun t ht hW => ⟨⟨(-1), (), rfl, (by unfold f_WM_minutes; rw [if_neg c_1, if_pos c_2]), trivial⟩, by rw [hAe]; exact hS.F ht⟩) (by rw [hAe]; exact hS.2.2) d_WM_minutes_25
    · refine lv_iload_n hx hb d_WM_minutes_12 rfl (lv_at hl 1 rfl) ?_
      refine lv_ldcw (v := 359999) hx hb hown (htb (.constant R_WM 270 359999) tw_231) d_WM_minutes_13 ?_
      refine lv_aload_n hx hb d_WM_minutes_16 rfl (lv_at hl 0 rfl) ?_
      refine va_get (D := (dC, dI)) (ci := 0) (v := .int 0) (C := R_WM) (T := F_WM) (N := 13) hx hb htb i_WM hown hK hP 0 rfl rfl 10 (by decide) (htb (.fieldLink R_WM 155 "WaterMen" "now" "I") tw_146) (fun _ h9 => h9) rfl d_WM_minutes_17 ?_
      refine lv_isub hx hb d_WM_minutes_20 ?_
      refine hb_ti 359999 (by decide +kernel) ?_
      refine lv_icmp_le (tgt := 26) hx hb d_WM_minutes_21 (by decide) (fun _ => ?_) (fun h => absurd (show p_0 ≤ 359999 from by have e0 := c_1; rw [Int32.lt_iff_toInt_lt] at e0; have e1 := c_2; rw [Int32.lt_iff_toInt_lt] at e1; have z0 : (1 : Int32).toInt = 1 := (by decide +kernel); have z1 : (1440 : Int32).toInt = 1440 := (by decide +kernel); have z2 : (359999 : Int32).toInt = 359999 := (by decide +kernel); rw [Int32.le_iff_toInt_le]; omega) h)
      refine lv_aload_n hx hb d_WM_minutes_26 rfl (lv_at hl 0 rfl) ?_
      refine va_get (D := (dC, dI)) (ci := 0) (v := .int 0) (C := R_WM) (T := F_WM) (N := 13) hx hb htb i_WM hown hK hP 0 rfl rfl 10 (by decide) (htb (.fieldLink R_WM 155 "WaterMen" "now" "I") tw_146) (fun _ h9 => h9) rfl d_WM_minutes_27 ?_
      refine lv_iload_n hx hb d_WM_minutes_30 rfl (lv_at hl 1 rfl) ?_
      refine lv_iadd hx hb d_WM_minutes_31 ?_
      refine lv_sipush (v := 720) hx hb d_WM_minutes_32 (by decide +kernel) ?_
      refine lv_idiv hx hb d_WM_minutes_35 (by decide) ?_
      refine lv_istore_n (lv' := [(2, .int ((0 + p_0) / 720)), (0, .ref (a 0)), (1, .int p_0)]) hx hb d_WM_minutes_36 rfl hl (by decide) rfl (fun ls hl => ?_)
      refine lv_aload_n hx hb d_WM_minutes_37 rfl (lv_at hl 1 rfl) ?_
      refine vp_callSi (va_Run.run (va_runV (As := []) (rest := []) ⟨hx, hb, hml, hown, htb⟩ (c_WM_today l dC dI a k L hL) (cwV 0 htb (gd_V tw_148 tw_149 tw_150 tw_124 tw_147) rfl rfl rfl (by decide +kernel) ⟨Nat.le_of_ble_eq_true rfl, Nat.le_of_ble_eq_true rfl⟩) ⟨pr_blind, va_recv hK hP (ci := 0) (q0 := 0) rfl rfl, pr_pre hP hK hN⟩ rfl rfl hl.1 rfl (lv_room (Nat.le_of_ble_eq_true rfl)) d_WM_minutes_38 ⟨Nat.le_of_ble_eq_true rfl, Nat.le_of_ble_eq_true rfl⟩)) (fun r er => ?_)
      subst er
      refine hb_ti 0 rfl ?_
      refine lv_iconst (v := 1) hx hb d_WM_minutes_41 (by decide +kernel) ?_
      refine lv_iadd hx hb d_WM_minutes_42 ?_
      refine hb_ti 1 (by decide +kernel) ?_
      refine lv_istore_n (lv' := [(3, .int 1), (2, .int ((0 + p_0) / 720)), (0, .ref (a 0)), (1, .int p_0)]) hx hb d_WM_minutes_43 rfl hl (by decide) rfl (fun ls hl => ?_)
      refine lv_iload_n hx hb d_WM_minutes_44 rfl (lv_at hl 0 rfl) ?_
      refine lv_iload_n hx hb d_WM_minutes_45 rfl (lv_at hl 1 rfl) ?_
      refine lv_icmp_gt (tgt := 70) hx hb d_WM_minutes_46 (by decide) (fun c_3 => ?_) (fun c_3 => ?_)
      · refine lv_aload_n hx hb d_WM_minutes_70 rfl (lv_at hl 2 rfl) ?_
        refine lv_dup hx hb d_WM_minutes_71 rfl ?_
        refine va_get (D := (dC, dI)) (ci := 0) (v := .int 0) (C := R_WM) (T := F_WM) (N := 13) hx hb htb i_WM hown hK hP 0 rfl rfl 10 (by decide) (htb (.fieldLink R_WM 155 "WaterMen" "now" "I") tw_146) (fun _ h9 => h9) rfl d_WM_minutes_72 ?_
        refine lv_iload_n hx hb d_WM_minutes_75 rfl (lv_at hl 3 rfl) ?_
        refine lv_iadd hx hb d_WM_minutes_76 ?_
        refine va_put (D := (dC, dI)) (ci := 0) (v := .int (0 + p_0)) (ty := .int) (C := R_WM) (T := F_WM) (N := 13) hx hb htb i_WM t_WM t_WM_ok n_WM hown hK hP hD hS 0 rfl rfl 10 (by decide) (htb (.fieldLink R_WM 155 "WaterMen" "now" "I") tw_146) (fun _ h9 => h9) rfl (by decide +kernel) rfl rfl (Nat.le_of_ble_eq_true rfl) d_WM_minutes_77 (fun H locs hP hD hS => ?_)
        refine lv_aload_n hx hb d_WM_minutes_80 rfl (lv_at hl 2 rfl) ?_
        refine va_get (D := (dC, dI)) (ci := 0) (v := .int (0 + p_0)) (C := R_WM) (T := F_WM) (N := 13) hx hb htb i_WM hown hK hP 0 rfl rfl 10 (by decide) (htb (.fieldLink R_WM 155 "WaterMen" "now" "I") tw_146) (fun _ h9 => h9) rfl d_WM_minutes_81 ?_
        refine W.widen (k := 0) (n := 0) (Nat.le_of_ble_eq_true rfl) (Nat.le_of_ble_eq_true rfl) ?_
        exact W.iret (v := (0 + p_0)) hx hb hr (fun t ht hW => ⟨⟨(0 + p_0), (), rfl, (by unfold f_WM_minutes; rw [if_neg c_1, if_neg c_2, if_pos c_3]), trivial⟩, by rw [hAe]; exact hS.F ht⟩) (by rw [hAe]; exact hS.2.2) d_WM_minutes_84
      · refine lv_aload_n hx hb d_WM_minutes_49 rfl (lv_at hl 2 rfl) ?_
        refine lv_iload_n hx hb d_WM_minutes_50 rfl (lv_at hl 0 rfl) ?_
        refine lv_iconst (v := 1) hx hb d_WM_minutes_51 (by decide +kernel) ?_
        refine lv_isub hx hb d_WM_minutes_52 ?_
        refine hb_ti 0 (by decide +kernel) ?_
        refine va_csv (va_Run.run (va_runV (As := [.int 0]) (rest := []) ⟨hx, hb, hml, hown, htb⟩ (c_WM_partPot_0 l dC dI a k L hL) (cwV 1 htb (gd_V tw_237 tw_238 tw_239 tw_124 tw_236) rfl rfl rfl (by decide +kernel) ⟨Nat.le_of_ble_eq_true rfl, Nat.le_of_ble_eq_true rfl⟩) ⟨pr_blind, va_recv hK hP (ci := 0) (q0 := 0) rfl rfl, pr_pre hP hK hN⟩ rfl rfl hl.1 rfl (lv_room (Nat.le_of_ble_eq_true rfl)) d_WM_minutes_53 ⟨Nat.le_of_ble_eq_true rfl, Nat.le_of_ble_eq_true rfl⟩)) (fun _ => ?_)
        refine lv_aload_n hx hb d_WM_minutes_56 rfl (lv_at hl 2 rfl) ?_
        refine va_get (D := (dC, dI)) (ci := 0) (v := .ref (a 12)) (C := R_WM) (T := F_WM) (N := 13) hx hb htb i_WM hown hK hP 0 rfl rfl 6 (by decide) (htb (.fieldLink R_WM 50 "WaterMen" "box" "LWaterMen$Box;") tw_94) (fun _ h9 => h9) rfl d_WM_minutes_57 ?_
        refine lv_iload_n hx hb d_WM_minutes_60 rfl (lv_at hl 0 rfl) ?_
        refine va_csv (va_Run.run (va_runV (As := [.int 1]) (rest := []) ⟨hx, hb, hml, hown, htb⟩ (c_Bx_payPensions_1 l dC dI a k L hL) (cwV 1 htb (gd_V tw_241 tw_242 tw_243 tw_87 tw_240) rfl rfl rfl (by decide +kernel) ⟨Nat.le_of_ble_eq_true rfl, Nat.le_of_ble_eq_true rfl⟩) ⟨pr_blind, va_recv hK hP (ci := 5) (q0 := 12) rfl rfl, pr_pre hP hK hN⟩ rfl rfl hl.1 rfl (lv_room (Nat.le_of_ble_eq_true rfl)) d_WM_minutes_61 ⟨Nat.le_of_ble_eq_true rfl, Nat.le_of_ble_eq_true rfl⟩)) (fun _ => ?_)
        refine lv_iinc (v := 2) (lv' := [(3, .int 2), (2, .int ((0 + p_0) / 720)), (0, .ref (a 0)), (1, .int p_0)]) hx hb d_WM_minutes_64 hl (k := 0) rfl (by decide +kernel) (by decide) rfl (fun ls hl => ?_)
        refine lv_goto (tgt := 44) hx hb d_WM_minutes_67 (by decide) ?_
        refine lv_iload_n hx hb d_WM_minutes_44 rfl (lv_at hl 0 rfl) ?_
        refine lv_iload_n hx hb d_WM_minutes_45 rfl (lv_at hl 1 rfl) ?_
        refine lv_icmp_gt (tgt := 70) hx hb d_WM_minutes_46 (by decide) (fun c_4 => ?_) (fun c_4 => ?_)
        · refine lv_aload_n hx hb d_WM_minutes_70 rfl (lv_at hl 2 rfl) ?_
          refine lv_dup hx hb d_WM_minutes_71 rfl ?_
          refine va_get (D := (dC, dI)) (ci := 0) (v := .int 0) (C := R_WM) (T := F_WM) (N := 13) hx hb htb i_WM hown hK hP 0 rfl rfl 10 (by decide) (htb (.fieldLink R_WM 155 "WaterMen" "now" "I") tw_146) (fun _ h9 => h9) rfl d_WM_minutes_72 ?_
          refine lv_iload_n hx hb d_WM_minutes_75 rfl (lv_at hl 3 rfl) ?_
          refine lv_iadd hx hb d_WM_minutes_76 ?_
          refine va_put (D := (dC, dI)) (ci := 0) (v := .int (0 + p_0)) (ty := .int) (C := R_WM) (T := F_WM) (N := 13) hx hb htb i_WM t_WM t_WM_ok n_WM hown hK hP hD hS 0 rfl rfl 10 (by decide) (htb (.fieldLink R_WM 155 "WaterMen" "now" "I") tw_146) (fun _ h9 => h9) rfl (by decide +kernel) rfl rfl (Nat.le_of_ble_eq_true rfl) d_WM_minutes_77 (fun H locs hP hD hS => ?_)
          refine lv_aload_n hx hb d_WM_minutes_80 rfl (lv_at hl 2 rfl) ?_
          refine va_get (D := (dC, dI)) (ci := 0) (v := .int (0 + p_0)) (C := R_WM) (T := F_WM) (N := 13) hx hb htb i_WM hown hK hP 0 rfl rfl 10 (by decide) (htb (.fieldLink R_WM 155 "WaterMen" "now" "I") tw_146) (fun _ h9 => h9) rfl d_WM_minutes_81 ?_
          refine W.widen (k := 0) (n := 0) (Nat.le_of_ble_eq_true rfl) (Nat.le_of_ble_eq_true rfl) ?_
          exact W.iret (v := (0 + p_0)) hx hb hr (fun t ht hW => ⟨⟨(0 + p_0), (), rfl, (by unfold f_WM_minutes; rw [if_neg c_1, if_neg c_2, if_neg c_3, if_pos c_4]), trivial⟩, by rw [hAe]; exact hS.F ht⟩) (by rw [hAe]; exact hS.2.2) d_WM_minutes_84
        · refine lv_aload_n hx hb d_WM_minutes_49 rfl (lv_at hl 2 rfl) ?_
          refine lv_iload_n hx hb d_WM_minutes_50 rfl (lv_at hl 0 rfl) ?_
          refine lv_iconst (v := 1) hx hb d_WM_minutes_51 (by decide +kernel) ?_
          refine lv_isub hx hb d_WM_minutes_52 ?_
          refine hb_ti 1 (by decide +kernel) ?_
          refine va_csv (va_Run.run (va_runV (As := [.int 1]) (rest := []) ⟨hx, hb, hml, hown, htb⟩ (c_WM_partPot_1 l dC dI a k L hL) (cwV 1 htb (gd_V tw_237 tw_238 tw_239 tw_124 tw_236) rfl rfl rfl (by decide +kernel) ⟨Nat.le_of_ble_eq_true rfl, Nat.le_of_ble_eq_true rfl⟩) ⟨pr_blind, va_recv hK hP (ci := 0) (q0 := 0) rfl rfl, pr_pre hP hK hN⟩ rfl rfl hl.1 rfl (lv_room (Nat.le_of_ble_eq_true rfl)) d_WM_minutes_53 ⟨Nat.le_of_ble_eq_true rfl, Nat.le_of_ble_eq_true rfl⟩)) (fun _ => ?_)
          refine lv_aload_n hx hb d_WM_minutes_56 rfl (lv_at hl 2 rfl) ?_
          refine va_get (D := (dC, dI)) (ci := 0) (v := .ref (a 12)) (C := R_WM) (T := F_WM) (N := 13) hx hb htb i_WM hown hK hP 0 rfl rfl 6 (by decide) (htb (.fieldLink R_WM 50 "WaterMen" "box" "LWaterMen$Box;") tw_94) (fun _ h9 => h9) rfl d_WM_minutes_57 ?_
          refine lv_iload_n hx hb d_WM_minutes_60 rfl (lv_at hl 0 rfl) ?_
          refine va_csv (va_Run.run (va_runV (As := [.int 2]) (rest := []) ⟨hx, hb, hml, hown, htb⟩ (c_Bx_payPensions_2 l dC dI a k L hL) (cwV 1 htb (gd_V tw_241 tw_242 tw_243 tw_87 tw_240) rfl rfl rfl (by decide +kernel) ⟨Nat.le_of_ble_eq_true rfl, Nat.le_of_ble_eq_true rfl⟩) ⟨pr_blind, va_recv hK hP (ci := 5) (q0 := 12) rfl rfl, pr_pre hP hK hN⟩ rfl rfl hl.1 rfl (lv_room (Nat.le_of_ble_eq_true rfl)) d_WM_minutes_61 ⟨Nat.le_of_ble_eq_true rfl, Nat.le_of_ble_eq_true rfl⟩)) (fun _ => ?_)
          refine lv_iinc (v := 3) (lv' := [(3, .int 3), (2, .int ((0 + p_0) / 720)), (0, .ref (a 0)), (1, .int p_0)]) hx hb d_WM_minutes_64 hl (k := 0) rfl (by decide +kernel) (by decide) rfl (fun ls hl => ?_)
          refine lv_goto (tgt := 44) hx hb d_WM_minutes_67 (by decide) ?_
          refine lv_iload_n hx hb d_WM_minutes_44 rfl (lv_at hl 0 rfl) ?_
          refine lv_iload_n hx hb d_WM_minutes_45 rfl (lv_at hl 1 rfl) ?_
          refine lv_icmp_gt (tgt := 70) hx hb d_WM_minutes_46 (by decide) (fun _ => ?_) (fun h => absurd (hb_day3 c_1 c_2) h)
          refine lv_aload_n hx hb d_WM_minutes_70 rfl (lv_at hl 2 rfl) ?_
          refine lv_dup hx hb d_WM_minutes_71 rfl ?_
          refine va_get (D := (dC, dI)) (ci := 0) (v := .int 0) (C := R_WM) (T := F_WM) (N := 13) hx hb htb i_WM hown hK hP 0 rfl rfl 10 (by decide) (htb (.fieldLink R_WM 155 "WaterMen" "now" "I") tw_146) (fun _ h9 => h9) rfl d_WM_minutes_72 ?_
          refine lv_iload_n hx hb d_WM_minutes_75 rfl (lv_at hl 3 rfl) ?_
          refine lv_iadd hx hb d_WM_minutes_76 ?_
          refine va_put (D := (dC, dI)) (ci := 0) (v := .int (0 + p_0)) (ty := .int) (C := R_WM) (T := F_WM) (N := 13) hx hb htb i_WM t_WM t_WM_ok n_WM hown hK hP hD hS 0 rfl rfl 10 (by decide) (htb (.fieldLink R_WM 155 "WaterMen" "now" "I") tw_146) (fun _ h9 => h9) rfl (by decide +kernel) rfl rfl (Nat.le_of_ble_eq_true rfl) d_WM_minutes_77 (fun H locs hP hD hS => ?_)
          refine lv_aload_n hx hb d_WM_minutes_80 rfl (lv_at hl 2 rfl) ?_
          refine va_get (D := (dC, dI)) (ci := 0) (v := .int (0 + p_0)) (C := R_WM) (T := F_WM) (N := 13) hx hb htb i_WM hown hK hP 0 rfl rfl 10 (by decide) (htb (.fieldLink R_WM 155 "WaterMen" "now" "I") tw_146) (fun _ h9 => h9) rfl d_WM_minutes_81 ?_
          refine W.widen (k := 0) (n := 0) (Nat.le_of_ble_eq_true rfl) (Nat.le_of_ble_eq_true rfl) ?_
          exact W.iret (v := (0 + p_0)) hx hb hr (fun t ht hW => ⟨⟨(0 + p_0), (), rfl, (by unfold f_WM_minutes; rw [if_neg c_1, if_neg c_2, if_neg c_3, if_neg c_4]), trivial⟩, by rw [hAe]; exact hS.F ht⟩) (by rw [hAe]; exact hS.2.2) d_WM_minutes_84
