def f_WM_isHour  (p_0 : Int32) : Int32 := if p_0 < 0 then (0) else (if 12 ≤ p_0 then (0) else (1))
set_option maxHeartbeats 4000000 in
set_option maxRecDepth 100000 in
theorem c_WM_isHour (l : Launch)  (p_0 : Int32)  : Met l y_WM_isHour (.code y_WM_isHour b_WM_isHour 1 (some .boolean) :: TB) ({ frames := 0, cells := 0, slots := 0, locals := 0 }) (va_Pc [.int p_0] (fun _ => True)) (vp_Si (fun r => r = f_WM_isHour p_0)) 0 0 (fun _ => False) := by
  refine Met.ofW (cc := b_WM_isHour) (maxL := 1) (ret := (some .boolean)) (by decide) rfl ?_
  intro p e s m args below meth c s₁ B hml hv
  obtain ⟨rfl, -⟩ := hv
  have hx := B.exec
  have hb := B.bytes
  have hr := B.returns
  have hts := atoms_spec (ws := (.code y_WM_isHour b_WM_isHour 1 (some .boolean) :: TB)) B.pre
  have htb := fun w (h : w ∈ TB) => hts w (List.mem_cons_of_mem _ h)
  have hown : s.vm.findClass R_WM = some m.cls := findClass_of_methodNamed B.named
  have hlocks := B.notSynchronized
  have hl := lv_entry ([.int p_0]) (n := 1) (Nat.le_of_ble_eq_true rfl)
  rw [lg_entry_eq]
  generalize (lg_sl ([.int p_0]) ++ List.replicate (1 - (lg_sl ([.int p_0])).length) Slot.unset).toArray = ls at hl ⊢
  have hl : lv_has ls 1 [(0, .int p_0)] := hl
  refine lv_iload_n hx hb d_WM_isHour_0 rfl (lv_at hl 0 rfl) ?_
  refine lv_if_lt (tgt := 14) hx hb d_WM_isHour_1 (by decide) (fun c_1 => ?_) (fun c_1 => ?_)
  · refine lv_iconst (v := 0) hx hb d_WM_isHour_14 (by decide +kernel) ?_
    exact W.zret (v := 0) hx hb hr (by decide +kernel) (fun t ht hW => ⟨0, rfl, (by unfold f_WM_isHour; rw [if_pos c_1]), ht⟩) t_nil d_WM_isHour_15
  · refine lv_iload_n hx hb d_WM_isHour_4 rfl (lv_at hl 0 rfl) ?_
    refine lv_bipush (v := 12) hx hb d_WM_isHour_5 (by decide +kernel) ?_
    refine lv_icmp_ge (tgt := 14) hx hb d_WM_isHour_7 (by decide) (fun c_2 => ?_) (fun c_2 => ?_)
    · refine lv_iconst (v := 0) hx hb d_WM_isHour_14 (by decide +kernel) ?_
      exact W.zret (v := 0) hx hb hr (by decide +kernel) (fun t ht hW => ⟨0, rfl, (by unfold f_WM_isHour; rw [if_neg c_1, if_pos c_2]), ht⟩) t_nil d_WM_isHour_15
    · refine lv_iconst (v := 1) hx hb d_WM_isHour_10 (by decide +kernel) ?_
      refine lv_goto (tgt := 15) hx hb d_WM_isHour_11 (by decide) ?_
      exact W.zret (v := 1) hx hb hr (by decide +kernel) (fun t ht hW => ⟨1, rfl, (by unfold f_WM_isHour; rw [if_neg c_1, if_neg c_2]), ht⟩) t_nil d_WM_isHour_15
def f_WM_isLevel  (p_0 : Int32) : Int32 := if p_0 < (-90) then (0) else (if 90 < p_0 then (0) else (1))
set_option maxHeartbeats 4000000 in
set_option maxRecDepth 100000 in
theorem c_WM_isLevel (l : Launch)  (p_0 : Int32)  : Met l y_WM_isLevel (.code y_WM_isLevel b_WM_isLevel 1 (some .boolean) :: TB) ({ frames := 0, cells := 0, slots := 0, locals := 0 }) (va_Pc [.int p_0] (fun _ => True)) (vp_Si (fun r => r = f_WM_isLevel p_0)) 0 0 (fun _ => False) := by
  refine Met.ofW (cc := b_WM_isLevel) (maxL := 1) (ret := (some .boolean)) (by decide) rfl ?_
  intro p e s m args below meth c s₁ B hml hv
  obtain ⟨rfl, -⟩ := hv
  have hx := B.exec
  have hb := B.bytes
  have hr := B.returns
  have hts := atoms_spec (ws := (.code y_WM_isLevel b_WM_isLevel 1 (some .boolean) :: TB)) B.pre
  have htb := fun w (h : w ∈ TB) => hts w (List.mem_cons_of_mem _ h)
  have hown : s.vm.findClass R_WM = some m.cls := findClass_of_methodNamed B.named
  have hlocks := B.notSynchronized
  have hl := lv_entry ([.int p_0]) (n := 1) (Nat.le_of_ble_eq_true rfl)
  rw [lg_entry_eq]
  generalize (lg_sl ([.int p_0]) ++ List.replicate (1 - (lg_sl ([.int p_0])).length) Slot.unset).toArray = ls at hl ⊢
  have hl : lv_has ls 1 [(0, .int p_0)] := hl
  refine lv_iload_n hx hb d_WM_isLevel_0 rfl (lv_at hl 0 rfl) ?_
  refine lv_bipush (v := (-90)) hx hb d_WM_isLevel_1 (by decide +kernel) ?_
  refine lv_icmp_lt (tgt := 16) hx hb d_WM_isLevel_3 (by decide) (fun c_1 => ?_) (fun c_1 => ?_)
  · refine lv_iconst (v := 0) hx hb d_WM_isLevel_16 (by decide +kernel) ?_
    exact W.zret (v := 0) hx hb hr (by decide +kernel) (fun t ht hW => ⟨0, rfl, (by unfold f_WM_isLevel; rw [if_pos c_1]), ht⟩) t_nil d_WM_isLevel_17
  · refine lv_iload_n hx hb d_WM_isLevel_6 rfl (lv_at hl 0 rfl) ?_
    refine lv_bipush (v := 90) hx hb d_WM_isLevel_7 (by decide +kernel) ?_
    refine lv_icmp_gt (tgt := 16) hx hb d_WM_isLevel_9 (by decide) (fun c_2 => ?_) (fun c_2 => ?_)
    · refine lv_iconst (v := 0) hx hb d_WM_isLevel_16 (by decide +kernel) ?_
      exact W.zret (v := 0) hx hb hr (by decide +kernel) (fun t ht hW => ⟨0, rfl, (by unfold f_WM_isLevel; rw [if_neg c_1, if_pos c_2]), ht⟩) t_nil d_WM_isLevel_17
    · refine lv_iconst (v := 1) hx hb d_WM_isLevel_12 (by decide +kernel) ?_
      refine lv_goto (tgt := 17) hx hb d_WM_isLevel_13 (by decide) ?_
      exact W.zret (v := 1) hx hb hr (by decide +kernel) (fun t ht hW => ⟨1, rfl, (by unfold f_WM_isLevel; rw [if_neg c_1, if_neg c_2]), ht⟩) t_nil d_WM_isLevel_17
def W_WM_table_t : List (Nat × Nat) := [(3, 1000)]
set_option maxHeartbeats 4000000 in
set_option maxRecDepth 100000 in
theorem c_WM_table_t (l : Launch) (dC : Nat → ClassId) (dI : Nat → Nat → Nat) (ct : Nat → ClassId) (L : List Nat) (f : TF) (hO_0 : Ok L f) (q0 : Nat) (m0 : q0 ∈ L ∧ tk f q0 = 0) (sz : Nat) (p_0 : Int32) (p_1 : Int32)  : Met l y_WM_table (.code y_WM_table b_WM_table 4 (some .int) :: TB) ({ frames := 1, cells := 0, slots := 0, locals := 20 }) (va_Pc [.ref q0, .int p_0, .int p_1] (PC dC dI (TW ct L f) (TT ct) sz)) (va_Qi (fun r (u : TSt) => Ok u.1 u.2 ∧ Ext W_WM_table_t L f u.1 u.2 ∧ (True)) (fun (u : TSt) t => va_P (dC, dI) vwCl (TW ct u.1 u.2) t.heap ∧ va_K (dC, dI) vwCl (TT ct) t ∧ va_D (va_A (TW ct L f) sz) (TW ct u.1 u.2)) (va_A (TW ct L f) sz)) 0 0 (va_A (TW ct L f) sz) := by
  refine Met.ofW (cc := b_WM_table) (maxL := 4) (ret := (some .int)) (by decide) rfl ?_
  intro p e s m args below meth c s₁ B hml hv
  obtain ⟨rfl, hsz, hP, hK, hD0, hN⟩ := hv
  have hx := B.exec
  have hb := B.bytes
  have hr := B.returns
  have hts := atoms_spec (ws := (.code y_WM_table b_WM_table 4 (some .int) :: TB)) B.pre
  have htb := fun w (h : w ∈ TB) => hts w (List.mem_cons_of_mem _ h)
  have hown : s.vm.findClass R_WM = some m.cls := findClass_of_methodNamed B.named
  have hlocks := B.notSynchronized
  have hl := lv_entry ([.ref q0, .int p_0, .int p_1]) (n := 4) (Nat.le_of_ble_eq_true rfl)
  rw [lg_entry_eq]
  generalize (lg_sl ([.ref q0, .int p_0, .int p_1]) ++ List.replicate (4 - (lg_sl ([.ref q0, .int p_0, .int p_1])).length) Slot.unset).toArray = ls at hl ⊢
  have hl : lv_has ls 4 [(0, .ref q0), (1, .int p_0), (2, .int p_1)] := hl
  subst hsz
  have hD := hD0.self (sz := s.heap.size)
  obtain ⟨A, hAe⟩ : ∃ A, va_A (TW ct L f) s.heap.size = A := ⟨_, rfl⟩
  rw [hAe] at hD
  have hA : ∀ q : Nat, s.heap.size ≤ q → A q := fun q h => by rw [← hAe]; exact Or.inr h
  have hS : va_S A s.heap s.heap [] := va_S.rf
  have hA_0 : Ext [] L f L f := Ext.rf
  suffices hGo : ∀ (H : Heap) (locs : List Loc), va_P (dC, dI) vwCl (TW ct L f) H → va_S A s.heap H locs → W p l e (headSpec (.code y_WM_table b_WM_table 4 (some .int) :: TB) ({ frames := 1, cells := 0, slots := 0, locals := 20 })).room s m [.ref q0, .int p_0, .int p_1].toArray below meth c H locs 0 0 (MQ below (va_Qi (fun r (u : TSt) => Ok u.1 u.2 ∧ Ext W_WM_table_t L f u.1 u.2 ∧ (True)) (fun (u : TSt) t => va_P (dC, dI) vwCl (TW ct u.1 u.2) t.heap ∧ va_K (dC, dI) vwCl (TT ct) t ∧ va_D (va_A (TW ct L f) s.heap.size) (TW ct u.1 u.2)) (va_A (TW ct L f) s.heap.size)) [.ref q0, .int p_0, .int p_1].toArray s 0 0 (va_A (TW ct L f) s.heap.size)) (F0 m 0 ls []) from hGo _ _ hP hS
  clear hP hS
  intro H locs hP hS
  refine lv_iload_n hx hb d_WM_table_0 rfl (lv_at hl 1 rfl) ?_
  refine vp_callSi (va_Run.run (va_runS (As := [.int p_0]) (rest := []) ⟨hx, hb, hml, hown, htb⟩ (c_WM_isHour l p_0) (cwS 1 htb (gd_S tw_31 tw_32 tw_1 tw_30) rfl rfl rfl (by decide +kernel) ⟨Nat.le_of_ble_eq_true rfl, Nat.le_of_ble_eq_true rfl⟩) ⟨fun _ _ _ _ h => h, fun U _ _ => ⟨rfl, trivial⟩⟩ rfl rfl hl.1 rfl (lv_room (Nat.le_of_ble_eq_true rfl)) d_WM_table_1 ⟨Nat.le_of_ble_eq_true rfl, Nat.le_of_ble_eq_true rfl⟩)) (fun r er => ?_)
  subst er
  by_cases c_2 : p_0 < 0
  · refine hb_ti 0 (by unfold f_WM_isHour; rw [if_pos c_2]; first | done | rfl) ?_
    refine lv_if_eq (tgt := 14) hx hb d_WM_table_4 (by decide) (fun _ => ?_) (fun h => absurd (by decide +kernel) h)
    refine lv_sipush (v := (-1000)) hx hb d_WM_table_14 (by decide +kernel) ?_
    refine W.widen (k := 0) (n := 0) (Nat.le_of_ble_eq_true rfl) (Nat.le_of_ble_eq_true rfl) ?_
    exact W.iret (v := (-1000)) hx hb hr (fun t ht hW => ⟨⟨(-1000), (L, f), rfl, ⟨hO_0, hA_0.mono (by decide +kernel), trivial⟩, by rw [ht]; exact hP, va_K.moved hW.alike hK, by rw [hAe]; exact hD⟩, by rw [hAe]; exact hS.F ht⟩) (by rw [hAe]; exact hS.2.2) d_WM_table_17
  · by_cases c_3 : 12 ≤ p_0
    · refine hb_ti 0 (by unfold f_WM_isHour; rw [if_neg c_2, if_pos c_3]; first | done | rfl) ?_
      refine lv_if_eq (tgt := 14) hx hb d_WM_table_4 (by decide) (fun _ => ?_) (fun h => absurd (by decide +kernel) h)
      refine lv_sipush (v := (-1000)) hx hb d_WM_table_14 (by decide +kernel) ?_
      refine W.widen (k := 0) (n := 0) (Nat.le_of_ble_eq_true rfl) (Nat.le_of_ble_eq_true rfl) ?_
      exact W.iret (v := (-1000)) hx hb hr (fun t ht hW => ⟨⟨(-1000), (L, f), rfl, ⟨hO_0, hA_0.mono (by decide +kernel), trivial⟩, by rw [ht]; exact hP, va_K.moved hW.alike hK, by rw [hAe]; exact hD⟩, by rw [hAe]; exact hS.F ht⟩) (by rw [hAe]; exact hS.2.2) d_WM_table_17
    · refine hb_ti 1 (by unfold f_WM_isHour; rw [if_neg c_2, if_neg c_3]; first | done | rfl) ?_
      refine lv_if_eq (tgt := 14) hx hb d_WM_table_4 (by decide) (fun h => absurd h (by decide +kernel)) (fun _ => ?_)
      refine lv_iload_n hx hb d_WM_table_7 rfl (lv_at hl 2 rfl) ?_
      refine vp_callSi (va_Run.run (va_runS (As := [.int p_1]) (rest := []) ⟨hx, hb, hml, hown, htb⟩ (c_WM_isLevel l p_1) (cwS 1 htb (gd_S tw_34 tw_35 tw_1 tw_33) rfl rfl rfl (by decide +kernel) ⟨Nat.le_of_ble_eq_true rfl, Nat.le_of_ble_eq_true rfl⟩) ⟨fun _ _ _ _ h => h, fun U _ _ => ⟨rfl, trivial⟩⟩ rfl rfl hl.1 rfl (lv_room (Nat.le_of_ble_eq_true rfl)) d_WM_table_8 ⟨Nat.le_of_ble_eq_true rfl, Nat.le_of_ble_eq_true rfl⟩)) (fun r er => ?_)
      subst er
      by_cases c_5 : p_1 < (-90)
      · refine hb_ti 0 (by unfold f_WM_isLevel; rw [if_pos c_5]; first | done | rfl) ?_
        refine lv_if_ne (tgt := 18) hx hb d_WM_table_11 (by decide) (fun h => absurd (by decide +kernel) h) (fun _ => ?_)
        refine lv_sipush (v := (-1000)) hx hb d_WM_table_14 (by decide +kernel) ?_
        refine W.widen (k := 0) (n := 0) (Nat.le_of_ble_eq_true rfl) (Nat.le_of_ble_eq_true rfl) ?_
        exact W.iret (v := (-1000)) hx hb hr (fun t ht hW => ⟨⟨(-1000), (L, f), rfl, ⟨hO_0, hA_0.mono (by decide +kernel), trivial⟩, by rw [ht]; exact hP, va_K.moved hW.alike hK, by rw [hAe]; exact hD⟩, by rw [hAe]; exact hS.F ht⟩) (by rw [hAe]; exact hS.2.2) d_WM_table_17
      · by_cases c_6 : 90 < p_1
        · refine hb_ti 0 (by unfold f_WM_isLevel; rw [if_neg c_5, if_pos c_6]; first | done | rfl) ?_
          refine lv_if_ne (tgt := 18) hx hb d_WM_table_11 (by decide) (fun h => absurd (by decide +kernel) h) (fun _ => ?_)
          refine lv_sipush (v := (-1000)) hx hb d_WM_table_14 (by decide +kernel) ?_
          refine W.widen (k := 0) (n := 0) (Nat.le_of_ble_eq_true rfl) (Nat.le_of_ble_eq_true rfl) ?_
          exact W.iret (v := (-1000)) hx hb hr (fun t ht hW => ⟨⟨(-1000), (L, f), rfl, ⟨hO_0, hA_0.mono (by decide +kernel), trivial⟩, by rw [ht]; exact hP, va_K.moved hW.alike hK, by rw [hAe]; exact hD⟩, by rw [hAe]; exact hS.F ht⟩) (by rw [hAe]; exact hS.2.2) d_WM_table_17
        · refine hb_ti 1 (by unfold f_WM_isLevel; rw [if_neg c_5, if_neg c_6]; first | done | rfl) ?_
          refine lv_if_ne (tgt := 18) hx hb d_WM_table_11 (by decide) (fun _ => ?_) (fun h => absurd h (by decide +kernel))
          refine lv_aload_n hx hb d_WM_table_18 rfl (lv_at hl 0 rfl) ?_
          refine tw_getr (D := (dC, dI)) (C := R_WM) (T := F_WM) (N := 13) (ci := 0) (kd := 0) (ct := ct) hx hb htb i_WM hown hK hP hO_0 m0 rfl rfl 0 (by decide) (htb (.fieldLink R_WM 12 "WaterMen" "river" "LWaterMen$River;") tw_19) (fun _ h9 => h9) rfl d_WM_table_19 (fun q_7 e_7 m_7 => ?_)
          refine tw_getr (D := (dC, dI)) (C := R_Rv) (T := F_Rv) (N := 6) (ci := 1) (kd := 1) (ct := ct) hx hb htb i_Rv hown hK hP hO_0 m_7 rfl rfl 1 (by decide) (htb (.fieldLink R_WM 89 "WaterMen$River" "table" "[I") tw_36) (fun _ h9 => h9) rfl d_WM_table_22 (fun q_8 e_8 m_8 => ?_)
          refine lv_iload_n hx hb d_WM_table_25 rfl (lv_at hl 1 rfl) ?_
          refine tw_aldI (ct := ct) hx hb hK hP hO_0 m_8 rfl (hb_in c_2 c_3 (by decide +kernel)) d_WM_table_26 (fun x_9 e_9 b_9 => ?_)
          refine lv_istore_n (lv' := [(3, .int x_9), (0, .ref q0), (1, .int p_0), (2, .int p_1)]) hx hb d_WM_table_27 rfl hl (by decide) rfl (fun ls hl => ?_)
          refine lv_aload_n hx hb d_WM_table_28 rfl (lv_at hl 1 rfl) ?_
          refine tw_getR (D := (dC, dI)) (C := R_WM) (T := F_WM) (N := 13) (ci := 0) (kd := 0) (ct := ct) hx hb htb i_WM hown hK hP m0 rfl rfl 0 e_7 (by decide) (htb (.fieldLink R_WM 12 "WaterMen" "river" "LWaterMen$River;") tw_19) (fun _ h9 => h9) rfl d_WM_table_29 ?_
          refine hb_tv (.ref q_7) rfl ?_
          refine tw_getR (D := (dC, dI)) (C := R_Rv) (T := F_Rv) (N := 6) (ci := 1) (kd := 1) (ct := ct) hx hb htb i_Rv hown hK hP m_7 rfl rfl 1 e_8 (by decide) (htb (.fieldLink R_WM 89 "WaterMen$River" "table" "[I") tw_36) (fun _ h9 => h9) rfl d_WM_table_32 ?_
          refine hb_tv (.ref q_8) rfl ?_
          refine lv_iload_n hx hb d_WM_table_35 rfl (lv_at hl 2 rfl) ?_
          refine lv_iload_n hx hb d_WM_table_36 rfl (lv_at hl 3 rfl) ?_
          refine tw_astI (ct := ct) (x := p_1) hx hb hK hP hD hS hO_0 m_8 rfl (hb_in c_2 c_3 (by decide +kernel)) (i32_full _) d_WM_table_37 (fun f_1 H locs hP hD hS hO_1 hE_1 w_10 ow_10 => ?_)
          have hA_1 := hA_0.trans hE_1
          refine lv_iload_n hx hb d_WM_table_38 rfl (lv_at hl 0 rfl) ?_
          refine W.widen (k := 0) (n := 0) (Nat.le_of_ble_eq_true rfl) (Nat.le_of_ble_eq_true rfl) ?_
          exact W.iret (v := x_9) hx hb hr (fun t ht hW => ⟨⟨x_9, (L, f_1), rfl, ⟨hO_1, hA_1.mono (by decide +kernel), trivial⟩, by rw [ht]; exact hP, va_K.moved hW.alike hK, by rw [hAe]; exact hD⟩, by rw [hAe]; exact hS.F ht⟩) (by rw [hAe]; exact hS.2.2) d_WM_table_39
set_option maxHeartbeats 4000000 in
set_option maxRecDepth 100000 in
theorem c_WM_flow_t (l : Launch) (dC : Nat → ClassId) (dI : Nat → Nat → Nat) (ct : Nat → ClassId) (L : List Nat) (f : TF) (hO_0 : Ok L f) (q0 : Nat) (m0 : q0 ∈ L ∧ tk f q0 = 0) (p_0 : Int32) (p_1 : Int32)  : Met l y_WM_flow (.code y_WM_flow b_WM_flow 3 (some .int) :: TB) ({ frames := 2, cells := 0, slots := 0, locals := 46 }) (va_Pc [.ref q0, .int p_0, .int p_1] (PR dC dI (TW ct L f) (TT ct))) (vp_Si (fun r => True)) 0 0 (fun _ => False) := by
  refine Met.ofW (cc := b_WM_flow) (maxL := 3) (ret := (some .int)) (by decide) rfl ?_
  intro p e s m args below meth c s₁ B hml hv
  obtain ⟨rfl, hP, hK, hN⟩ := hv
  have hx := B.exec
  have hb := B.bytes
  have hr := B.returns
  have hts := atoms_spec (ws := (.code y_WM_flow b_WM_flow 3 (some .int) :: TB)) B.pre
  have htb := fun w (h : w ∈ TB) => hts w (List.mem_cons_of_mem _ h)
  have hown : s.vm.findClass R_WM = some m.cls := findClass_of_methodNamed B.named
  have hlocks := B.notSynchronized
  have hl := lv_entry ([.ref q0, .int p_0, .int p_1]) (n := 3) (Nat.le_of_ble_eq_true rfl)
  rw [lg_entry_eq]
  generalize (lg_sl ([.ref q0, .int p_0, .int p_1]) ++ List.replicate (3 - (lg_sl ([.ref q0, .int p_0, .int p_1])).length) Slot.unset).toArray = ls at hl ⊢
  have hl : lv_has ls 3 [(0, .ref q0), (1, .int p_0), (2, .int p_1)] := hl
  refine lv_iload_n hx hb d_WM_flow_0 rfl (lv_at hl 1 rfl) ?_
  refine vp_callSi (va_Run.run (va_runS (As := [.int p_0]) (rest := []) ⟨hx, hb, hml, hown, htb⟩ (c_WM_isDay l p_0) (cwS 1 htb (gd_S tw_37 tw_2 tw_1 tw_0) rfl rfl rfl (by decide +kernel) ⟨Nat.le_of_ble_eq_true rfl, Nat.le_of_ble_eq_true rfl⟩) ⟨fun _ _ _ _ h => h, fun U _ _ => ⟨rfl, trivial⟩⟩ rfl rfl hl.1 rfl (lv_room (Nat.le_of_ble_eq_true rfl)) d_WM_flow_1 ⟨Nat.le_of_ble_eq_true rfl, Nat.le_of_ble_eq_true rfl⟩)) (fun r er => ?_)
  subst er
  by_cases c_2 : p_0 < 0
  · refine hb_ti 0 (by unfold f_WM_isDay; rw [if_pos c_2]; first | done | rfl) ?_
    refine lv_if_eq (tgt := 26) hx hb d_WM_flow_4 (by decide) (fun _ => ?_) (fun h => absurd (by decide +kernel) h)
    refine lv_sipush (v := (-1000)) hx hb d_WM_flow_26 (by decide +kernel) ?_
    exact W.iret (v := (-1000)) hx hb hr (fun t ht hW => ⟨(-1000), rfl, trivial, ht⟩) t_nil d_WM_flow_29
  · by_cases c_3 : 500 ≤ p_0
    · refine hb_ti 0 (by unfold f_WM_isDay; rw [if_neg c_2, if_pos c_3]; first | done | rfl) ?_
      refine lv_if_eq (tgt := 26) hx hb d_WM_flow_4 (by decide) (fun _ => ?_) (fun h => absurd (by decide +kernel) h)
      refine lv_sipush (v := (-1000)) hx hb d_WM_flow_26 (by decide +kernel) ?_
      exact W.iret (v := (-1000)) hx hb hr (fun t ht hW => ⟨(-1000), rfl, trivial, ht⟩) t_nil d_WM_flow_29
    · refine hb_ti 1 (by unfold f_WM_isDay; rw [if_neg c_2, if_neg c_3]; first | done | rfl) ?_
      refine lv_if_eq (tgt := 26) hx hb d_WM_flow_4 (by decide) (fun h => absurd h (by decide +kernel)) (fun _ => ?_)
      refine lv_iload_n hx hb d_WM_flow_7 rfl (lv_at hl 2 rfl) ?_
      refine vp_callSi (va_Run.run (va_runS (As := [.int p_1]) (rest := []) ⟨hx, hb, hml, hown, htb⟩ (c_WM_isHour l p_1) (cwS 1 htb (gd_S tw_31 tw_32 tw_1 tw_30) rfl rfl rfl (by decide +kernel) ⟨Nat.le_of_ble_eq_true rfl, Nat.le_of_ble_eq_true rfl⟩) ⟨fun _ _ _ _ h => h, fun U _ _ => ⟨rfl, trivial⟩⟩ rfl rfl hl.1 rfl (lv_room (Nat.le_of_ble_eq_true rfl)) d_WM_flow_8 ⟨Nat.le_of_ble_eq_true rfl, Nat.le_of_ble_eq_true rfl⟩)) (fun r er => ?_)
      subst er
      by_cases c_5 : p_1 < 0
      · refine hb_ti 0 (by unfold f_WM_isHour; rw [if_pos c_5]; first | done | rfl) ?_
        refine lv_if_eq (tgt := 26) hx hb d_WM_flow_11 (by decide) (fun _ => ?_) (fun h => absurd (by decide +kernel) h)
        refine lv_sipush (v := (-1000)) hx hb d_WM_flow_26 (by decide +kernel) ?_
        exact W.iret (v := (-1000)) hx hb hr (fun t ht hW => ⟨(-1000), rfl, trivial, ht⟩) t_nil d_WM_flow_29
      · by_cases c_6 : 12 ≤ p_1
        · refine hb_ti 0 (by unfold f_WM_isHour; rw [if_neg c_5, if_pos c_6]; first | done | rfl) ?_
          refine lv_if_eq (tgt := 26) hx hb d_WM_flow_11 (by decide) (fun _ => ?_) (fun h => absurd (by decide +kernel) h)
          refine lv_sipush (v := (-1000)) hx hb d_WM_flow_26 (by decide +kernel) ?_
          exact W.iret (v := (-1000)) hx hb hr (fun t ht hW => ⟨(-1000), rfl, trivial, ht⟩) t_nil d_WM_flow_29
        · refine hb_ti 1 (by unfold f_WM_isHour; rw [if_neg c_5, if_neg c_6]; first | done | rfl) ?_
          refine lv_if_eq (tgt := 26) hx hb d_WM_flow_11 (by decide) (fun h => absurd h (by decide +kernel)) (fun _ => ?_)
          refine lv_aload_n hx hb d_WM_flow_14 rfl (lv_at hl 0 rfl) ?_
          refine tw_getr (D := (dC, dI)) (C := R_WM) (T := F_WM) (N := 13) (ci := 0) (kd := 0) (ct := ct) hx hb htb i_WM hown hK hP hO_0 m0 rfl rfl 0 (by decide) (htb (.fieldLink R_WM 12 "WaterMen" "river" "LWaterMen$River;") tw_19) (fun _ h9 => h9) rfl d_WM_flow_15 (fun q_7 e_7 m_7 => ?_)
          refine lv_iload_n hx hb d_WM_flow_18 rfl (lv_at hl 1 rfl) ?_
          refine lv_iload_n hx hb d_WM_flow_19 rfl (lv_at hl 2 rfl) ?_
          refine vp_callSi (va_Run.run (va_runV (As := [.int p_0, .int p_1]) (rest := []) ⟨hx, hb, hml, hown, htb⟩ (c_Rv_flowIn_t l dC dI ct L f hO_0 q_7 m_7 p_0 p_1 c_2 (show ¬ (499 < p_0) from by have e0 := c_2; rw [Int32.lt_iff_toInt_lt] at e0; have e1 := c_3; rw [Int32.le_iff_toInt_le] at e1; have z0 : (0 : Int32).toInt = 0 := (by decide +kernel); have z1 : (499 : Int32).toInt = 499 := (by decide +kernel); have z2 : (500 : Int32).toInt = 500 := (by decide +kernel); rw [Int32.lt_iff_toInt_lt]; omega) c_5 (show ¬ (11 < p_1) from by have e0 := c_5; rw [Int32.lt_iff_toInt_lt] at e0; have e1 := c_6; rw [Int32.le_iff_toInt_le] at e1; have z0 : (0 : Int32).toInt = 0 := (by decide +kernel); have z1 : (11 : Int32).toInt = 11 := (by decide +kernel); have z2 : (12 : Int32).toInt = 12 := (by decide +kernel); rw [Int32.lt_iff_toInt_lt]; omega)) (cwV 2 htb (gd_V tw_39 tw_40 tw_41 tw_9 tw_38) rfl rfl rfl (by decide +kernel) ⟨Nat.le_of_ble_eq_true rfl, Nat.le_of_ble_eq_true rfl⟩) ⟨pr_blind, tw_recv hK hP m_7 rfl rfl, pr_pre hP hK hN⟩ rfl rfl hl.1 rfl (lv_room (Nat.le_of_ble_eq_true rfl)) d_WM_flow_20 ⟨Nat.le_of_ble_eq_true rfl, Nat.le_of_ble_eq_true rfl⟩)) (fun r_8 er_8 => ?_)
          clear er_8
          refine lv_goto (tgt := 29) hx hb d_WM_flow_23 (by decide) ?_
          exact W.iret (v := r_8) hx hb hr (fun t ht hW => ⟨r_8, rfl, trivial, ht⟩) t_nil d_WM_flow_29
set_option maxHeartbeats 4000000 in
set_option maxRecDepth 100000 in
theorem c_WM_today_t (l : Launch) (dC : Nat → ClassId) (dI : Nat → Nat → Nat) (ct : Nat → ClassId) (L : List Nat) (f : TF) (hO_0 : Ok L f) (q0 : Nat) (m0 : q0 ∈ L ∧ tk f q0 = 0)   : Met l y_WM_today (.code y_WM_today b_WM_today 1 (some .int) :: TB) ({ frames := 0, cells := 0, slots := 0, locals := 0 }) (va_Pc [.ref q0] (PR dC dI (TW ct L f) (TT ct))) (vp_Si (fun r => (¬ (r < 0) ∧ ¬ (499 < r) ∧ True))) 0 0 (fun _ => False) := by
  refine Met.ofW (cc := b_WM_today) (maxL := 1) (ret := (some .int)) (by decide) rfl ?_
  intro p e s m args below meth c s₁ B hml hv
  obtain ⟨rfl, hP, hK, hN⟩ := hv
  have hx := B.exec
  have hb := B.bytes
  have hr := B.returns
  have hts := atoms_spec (ws := (.code y_WM_today b_WM_today 1 (some .int) :: TB)) B.pre
  have htb := fun w (h : w ∈ TB) => hts w (List.mem_cons_of_mem _ h)
  have hown : s.vm.findClass R_WM = some m.cls := findClass_of_methodNamed B.named
  have hlocks := B.notSynchronized
  have hl := lv_entry ([.ref q0]) (n := 1) (Nat.le_of_ble_eq_true rfl)
  rw [lg_entry_eq]
  generalize (lg_sl ([.ref q0]) ++ List.replicate (1 - (lg_sl ([.ref q0])).length) Slot.unset).toArray = ls at hl ⊢
  have hl : lv_has ls 1 [(0, .ref q0)] := hl
  refine lv_aload_n hx hb d_WM_today_0 rfl (lv_at hl 0 rfl) ?_
  refine tw_geti (D := (dC, dI)) (C := R_WM) (T := F_WM) (N := 13) (ci := 0) (kd := 0) (ct := ct) hx hb htb i_WM hown hK hP hO_0 m0 rfl rfl 10 (by decide) (htb (.fieldLink R_WM 155 "WaterMen" "now" "I") tw_42) (fun _ h9 => h9) rfl d_WM_today_1 (fun x_1 e_1 b_1 => ?_)
  refine lv_sipush (v := 720) hx hb d_WM_today_4 (by decide +kernel) ?_
  refine lv_idiv hx hb d_WM_today_7 (by decide) ?_
  exact W.iret (v := (x_1 / 720)) hx hb hr (fun t ht hW => ⟨(x_1 / 720), rfl, ⟨(show ¬ ((x_1 / 720) < 0) from by have z0 : (0 : Int32).toInt = 0 := (by decide +kernel); have z1 : (720 : Int32).toInt = 720 := (by decide +kernel); have z2 : (359999 : Int32).toInt = 359999 := (by decide +kernel); have r0 := fb_rng (x_1); have e0 := b_1.1; rw [Int32.lt_iff_toInt_lt] at e0; have e1 := b_1.2; rw [Int32.lt_iff_toInt_lt] at e1; have s0 := hb_divI (x := (x_1)) (y := (720 : Int32)) (by (try rw [show (720 : Int32).toInt = 720 from (by decide +kernel)]); omega) (by (try rw [show (720 : Int32).toInt = 720 from (by decide +kernel)]); omega); rw [show (720 : Int32).toInt = 720 from (by decide +kernel)] at s0; rw [Int32.lt_iff_toInt_lt]; omega), (show ¬ (499 < (x_1 / 720)) from by have z0 : (0 : Int32).toInt = 0 := (by decide +kernel); have z1 : (499 : Int32).toInt = 499 := (by decide +kernel); have z2 : (720 : Int32).toInt = 720 := (by decide +kernel); have z3 : (359999 : Int32).toInt = 359999 := (by decide +kernel); have r0 := fb_rng (x_1); have e0 := b_1.1; rw [Int32.lt_iff_toInt_lt] at e0; have e1 := b_1.2; rw [Int32.lt_iff_toInt_lt] at e1; have s0 := hb_divI (x := (x_1)) (y := (720 : Int32)) (by (try rw [show (720 : Int32).toInt = 720 from (by decide +kernel)]); omega) (by (try rw [show (720 : Int32).toInt = 720 from (by decide +kernel)]); omega); rw [show (720 : Int32).toInt = 720 from (by decide +kernel)] at s0; rw [Int32.lt_iff_toInt_lt]; omega), trivial⟩, ht⟩) t_nil d_WM_today_8
def W_WM_frost_t : List (Nat × Nat) := [(5, 1000)]
set_option maxHeartbeats 4000000 in
set_option maxRecDepth 100000 in
theorem c_WM_frost_t (l : Launch) (dC : Nat → ClassId) (dI : Nat → Nat → Nat) (ct : Nat → ClassId) (L : List Nat) (f : TF) (hO_0 : Ok L f) (q0 : Nat) (m0 : q0 ∈ L ∧ tk f q0 = 0) (sz : Nat) (p_0 : Int32) (p_1 : Int32)  : Met l y_WM_frost (.code y_WM_frost b_WM_frost 4 (some .int) :: TB) ({ frames := 2, cells := 0, slots := 0, locals := 41 }) (va_Pc [.ref q0, .int p_0, .int p_1] (PC dC dI (TW ct L f) (TT ct) sz)) (va_Qi (fun r (u : TSt) => Ok u.1 u.2 ∧ Ext W_WM_frost_t L f u.1 u.2 ∧ (True)) (fun (u : TSt) t => va_P (dC, dI) vwCl (TW ct u.1 u.2) t.heap ∧ va_K (dC, dI) vwCl (TT ct) t ∧ va_D (va_A (TW ct L f) sz) (TW ct u.1 u.2)) (va_A (TW ct L f) sz)) 0 0 (va_A (TW ct L f) sz) := by
  refine Met.ofW (cc := b_WM_frost) (maxL := 4) (ret := (some .int)) (by decide) rfl ?_
  intro p e s m args below meth c s₁ B hml hv
  obtain ⟨rfl, hsz, hP, hK, hD0, hN⟩ := hv
  have hx := B.exec
  have hb := B.bytes
  have hr := B.returns
  have hts := atoms_spec (ws := (.code y_WM_frost b_WM_frost 4 (some .int) :: TB)) B.pre
  have htb := fun w (h : w ∈ TB) => hts w (List.mem_cons_of_mem _ h)
  have hown : s.vm.findClass R_WM = some m.cls := findClass_of_methodNamed B.named
  have hlocks := B.notSynchronized
  have hl := lv_entry ([.ref q0, .int p_0, .int p_1]) (n := 4) (Nat.le_of_ble_eq_true rfl)
  rw [lg_entry_eq]
  generalize (lg_sl ([.ref q0, .int p_0, .int p_1]) ++ List.replicate (4 - (lg_sl ([.ref q0, .int p_0, .int p_1])).length) Slot.unset).toArray = ls at hl ⊢
  have hl : lv_has ls 4 [(0, .ref q0), (1, .int p_0), (2, .int p_1)] := hl
  subst hsz
  have hD := hD0.self (sz := s.heap.size)
  obtain ⟨A, hAe⟩ : ∃ A, va_A (TW ct L f) s.heap.size = A := ⟨_, rfl⟩
  rw [hAe] at hD
  have hA : ∀ q : Nat, s.heap.size ≤ q → A q := fun q h => by rw [← hAe]; exact Or.inr h
  have hS : va_S A s.heap s.heap [] := va_S.rf
  have hA_0 : Ext [] L f L f := Ext.rf
  suffices hGo : ∀ (H : Heap) (locs : List Loc), va_P (dC, dI) vwCl (TW ct L f) H → va_S A s.heap H locs → W p l e (headSpec (.code y_WM_frost b_WM_frost 4 (some .int) :: TB) ({ frames := 2, cells := 0, slots := 0, locals := 41 })).room s m [.ref q0, .int p_0, .int p_1].toArray below meth c H locs 0 0 (MQ below (va_Qi (fun r (u : TSt) => Ok u.1 u.2 ∧ Ext W_WM_frost_t L f u.1 u.2 ∧ (True)) (fun (u : TSt) t => va_P (dC, dI) vwCl (TW ct u.1 u.2) t.heap ∧ va_K (dC, dI) vwCl (TT ct) t ∧ va_D (va_A (TW ct L f) s.heap.size) (TW ct u.1 u.2)) (va_A (TW ct L f) s.heap.size)) [.ref q0, .int p_0, .int p_1].toArray s 0 0 (va_A (TW ct L f) s.heap.size)) (F0 m 0 ls []) from hGo _ _ hP hS
  clear hP hS
  intro H locs hP hS
  refine lv_iload_n hx hb d_WM_frost_0 rfl (lv_at hl 1 rfl) ?_
  refine vp_callSi (va_Run.run (va_runS (As := [.int p_0]) (rest := []) ⟨hx, hb, hml, hown, htb⟩ (c_WM_isDay l p_0) (cwS 1 htb (gd_S tw_37 tw_2 tw_1 tw_0) rfl rfl rfl (by decide +kernel) ⟨Nat.le_of_ble_eq_true rfl, Nat.le_of_ble_eq_true rfl⟩) ⟨fun _ _ _ _ h => h, fun U _ _ => ⟨rfl, trivial⟩⟩ rfl rfl hl.1 rfl (lv_room (Nat.le_of_ble_eq_true rfl)) d_WM_frost_1 ⟨Nat.le_of_ble_eq_true rfl, Nat.le_of_ble_eq_true rfl⟩)) (fun r er => ?_)
  subst er
  by_cases c_2 : p_0 < 0
  · refine hb_ti 0 (by unfold f_WM_isDay; rw [if_pos c_2]; first | done | rfl) ?_
    refine lv_if_eq (tgt := 24) hx hb d_WM_frost_4 (by decide) (fun _ => ?_) (fun h => absurd (by decide +kernel) h)
    refine lv_iconst (v := (-1)) hx hb d_WM_frost_24 (by decide +kernel) ?_
    refine W.widen (k := 0) (n := 0) (Nat.le_of_ble_eq_true rfl) (Nat.le_of_ble_eq_true rfl) ?_
    exact W.iret (v := (-1)) hx hb hr (fun t ht hW => ⟨⟨(-1), (L, f), rfl, ⟨hO_0, hA_0.mono (by decide +kernel), trivial⟩, by rw [ht]; exact hP, va_K.moved hW.alike hK, by rw [hAe]; exact hD⟩, by rw [hAe]; exact hS.F ht⟩) (by rw [hAe]; exact hS.2.2) d_WM_frost_25
  · by_cases c_3 : 500 ≤ p_0
    · refine hb_ti 0 (by unfold f_WM_isDay; rw [if_neg c_2, if_pos c_3]; first | done | rfl) ?_
      refine lv_if_eq (tgt := 24) hx hb d_WM_frost_4 (by decide) (fun _ => ?_) (fun h => absurd (by decide +kernel) h)
      refine lv_iconst (v := (-1)) hx hb d_WM_frost_24 (by decide +kernel) ?_
      refine W.widen (k := 0) (n := 0) (Nat.le_of_ble_eq_true rfl) (Nat.le_of_ble_eq_true rfl) ?_
      exact W.iret (v := (-1)) hx hb hr (fun t ht hW => ⟨⟨(-1), (L, f), rfl, ⟨hO_0, hA_0.mono (by decide +kernel), trivial⟩, by rw [ht]; exact hP, va_K.moved hW.alike hK, by rw [hAe]; exact hD⟩, by rw [hAe]; exact hS.F ht⟩) (by rw [hAe]; exact hS.2.2) d_WM_frost_25
    · refine hb_ti 1 (by unfold f_WM_isDay; rw [if_neg c_2, if_neg c_3]; first | done | rfl) ?_
      refine lv_if_eq (tgt := 24) hx hb d_WM_frost_4 (by decide) (fun h => absurd h (by decide +kernel)) (fun _ => ?_)
      refine lv_iload_n hx hb d_WM_frost_7 rfl (lv_at hl 1 rfl) ?_
      refine lv_aload_n hx hb d_WM_frost_8 rfl (lv_at hl 0 rfl) ?_
      refine vp_callSi (va_Run.run (va_runV (As := []) (rest := [.int p_0]) ⟨hx, hb, hml, hown, htb⟩ (c_WM_today_t l dC dI ct L f hO_0 q0 m0) (cwV 0 htb (gd_V tw_44 tw_45 tw_46 tw_1 tw_43) rfl rfl rfl (by decide +kernel) ⟨Nat.le_of_ble_eq_true rfl, Nat.le_of_ble_eq_true rfl⟩) ⟨pr_blind, tw_recv hK hP m0 rfl rfl, pr_pre hP hK hN⟩ rfl rfl hl.1 rfl (lv_room (Nat.le_of_ble_eq_true rfl)) d_WM_frost_9 ⟨Nat.le_of_ble_eq_true rfl, Nat.le_of_ble_eq_true rfl⟩)) (fun r_4 er_4 => ?_)
      obtain ⟨po_5, po_6, -⟩ := er_4
      refine lv_icmp_lt (tgt := 24) hx hb d_WM_frost_12 (by decide) (fun c_7 => ?_) (fun c_7 => ?_)
      · refine lv_iconst (v := (-1)) hx hb d_WM_frost_24 (by decide +kernel) ?_
        refine W.widen (k := 0) (n := 0) (Nat.le_of_ble_eq_true rfl) (Nat.le_of_ble_eq_true rfl) ?_
        exact W.iret (v := (-1)) hx hb hr (fun t ht hW => ⟨⟨(-1), (L, f), rfl, ⟨hO_0, hA_0.mono (by decide +kernel), trivial⟩, by rw [ht]; exact hP, va_K.moved hW.alike hK, by rw [hAe]; exact hD⟩, by rw [hAe]; exact hS.F ht⟩) (by rw [hAe]; exact hS.2.2) d_WM_frost_25
      · refine lv_iload_n hx hb d_WM_frost_15 rfl (lv_at hl 2 rfl) ?_
        refine lv_if_lt (tgt := 24) hx hb d_WM_frost_16 (by decide) (fun c_8 => ?_) (fun c_8 => ?_)
        · refine lv_iconst (v := (-1)) hx hb d_WM_frost_24 (by decide +kernel) ?_
          refine W.widen (k := 0) (n := 0) (Nat.le_of_ble_eq_true rfl) (Nat.le_of_ble_eq_true rfl) ?_
          exact W.iret (v := (-1)) hx hb hr (fun t ht hW => ⟨⟨(-1), (L, f), rfl, ⟨hO_0, hA_0.mono (by decide +kernel), trivial⟩, by rw [ht]; exact hP, va_K.moved hW.alike hK, by rw [hAe]; exact hD⟩, by rw [hAe]; exact hS.F ht⟩) (by rw [hAe]; exact hS.2.2) d_WM_frost_25
        · refine lv_iload_n hx hb d_WM_frost_19 rfl (lv_at hl 2 rfl) ?_
          refine lv_iconst (v := 1) hx hb d_WM_frost_20 (by decide +kernel) ?_
          refine lv_icmp_le (tgt := 26) hx hb d_WM_frost_21 (by decide) (fun c_9 => ?_) (fun c_9 => ?_)
          · refine lv_aload_n hx hb d_WM_frost_26 rfl (lv_at hl 0 rfl) ?_
            refine tw_getr (D := (dC, dI)) (C := R_WM) (T := F_WM) (N := 13) (ci := 0) (kd := 0) (ct := ct) hx hb htb i_WM hown hK hP hO_0 m0 rfl rfl 0 (by decide) (htb (.fieldLink R_WM 12 "WaterMen" "river" "LWaterMen$River;") tw_19) (fun _ h9 => h9) rfl d_WM_frost_27 (fun q_10 e_10 m_10 => ?_)
            refine lv_iload_n hx hb d_WM_frost_30 rfl (lv_at hl 1 rfl) ?_
            refine vp_callSi (va_Run.run (va_runV (As := [.int p_0]) (rest := []) ⟨hx, hb, hml, hown, htb⟩ (c_Rv_isFrozen_t l dC dI ct L f hO_0 q_10 m_10 p_0) (cwV 1 htb (gd_V tw_48 tw_49 tw_50 tw_9 tw_47) rfl rfl rfl (by decide +kernel) ⟨Nat.le_of_ble_eq_true rfl, Nat.le_of_ble_eq_true rfl⟩) ⟨pr_blind, tw_recv hK hP m_10 rfl rfl, pr_pre hP hK hN⟩ rfl rfl hl.1 rfl (lv_room (Nat.le_of_ble_eq_true rfl)) d_WM_frost_31 ⟨Nat.le_of_ble_eq_true rfl, Nat.le_of_ble_eq_true rfl⟩)) (fun r_11 er_11 => ?_)
            rcases er_11 with ⟨rfl, -⟩ | ⟨rfl, -⟩
            · refine lv_if_eq (tgt := 41) hx hb d_WM_frost_34 (by decide) (fun _ => ?_) (fun h => absurd (by decide +kernel) h)
              refine lv_iconst (v := 0) hx hb d_WM_frost_41 (by decide +kernel) ?_
              refine lv_istore_n (lv' := [(3, .int 0), (0, .ref q0), (1, .int p_0), (2, .int p_1)]) hx hb d_WM_frost_42 rfl hl (by decide) rfl (fun ls hl => ?_)
              refine lv_aload_n hx hb d_WM_frost_43 rfl (lv_at hl 1 rfl) ?_
              refine tw_getR (D := (dC, dI)) (C := R_WM) (T := F_WM) (N := 13) (ci := 0) (kd := 0) (ct := ct) hx hb htb i_WM hown hK hP m0 rfl rfl 0 e_10 (by decide) (htb (.fieldLink R_WM 12 "WaterMen" "river" "LWaterMen$River;") tw_19) (fun _ h9 => h9) rfl d_WM_frost_44 ?_
              refine hb_tv (.ref q_10) rfl ?_
              refine tw_getr (D := (dC, dI)) (C := R_Rv) (T := F_Rv) (N := 6) (ci := 1) (kd := 1) (ct := ct) hx hb htb i_Rv hown hK hP hO_0 m_10 rfl rfl 3 (by decide) (htb (.fieldLink R_WM 103 "WaterMen$River" "frozen" "[Z") tw_51) (fun _ h9 => h9) rfl d_WM_frost_47 (fun q_12 e_12 m_12 => ?_)
              refine lv_iload_n hx hb d_WM_frost_50 rfl (lv_at hl 2 rfl) ?_
              refine lv_iload_n hx hb d_WM_frost_51 rfl (lv_at hl 3 rfl) ?_
              refine lv_iconst (v := 1) hx hb d_WM_frost_52 (by decide +kernel) ?_
              refine lv_icmp_ne (tgt := 60) hx hb d_WM_frost_53 (by decide) (fun c_13 => ?_) (fun c_13 => ?_)
              · refine lv_iconst (v := 0) hx hb d_WM_frost_60 (by decide +kernel) ?_
                refine tw_astZ (ct := ct) (x := 0) hx hb hK hP hD hS hO_0 m_12 rfl (hb_in c_2 c_3 (by decide +kernel)) ⟨by decide +kernel, by decide +kernel⟩ d_WM_frost_61 (fun f_1 H locs hP hD hS hO_1 hE_1 w_14 ow_14 => ?_)
                have hA_1 := hA_0.trans hE_1
                refine lv_iload_n hx hb d_WM_frost_62 rfl (lv_at hl 0 rfl) ?_
                refine W.widen (k := 0) (n := 0) (Nat.le_of_ble_eq_true rfl) (Nat.le_of_ble_eq_true rfl) ?_
                exact W.iret (v := 0) hx hb hr (fun t ht hW => ⟨⟨0, (L, f_1), rfl, ⟨hO_1, hA_1.mono (by decide +kernel), trivial⟩, by rw [ht]; exact hP, va_K.moved hW.alike hK, by rw [hAe]; exact hD⟩, by rw [hAe]; exact hS.F ht⟩) (by rw [hAe]; exact hS.2.2) d_WM_frost_63
              · refine lv_iconst (v := 1) hx hb d_WM_frost_56 (by decide +kernel) ?_
                refine lv_goto (tgt := 61) hx hb d_WM_frost_57 (by decide) ?_
                refine tw_astZ (ct := ct) (x := 1) hx hb hK hP hD hS hO_0 m_12 rfl (hb_in c_2 c_3 (by decide +kernel)) ⟨by decide +kernel, by decide +kernel⟩ d_WM_frost_61 (fun f_1 H locs hP hD hS hO_1 hE_1 w_15 ow_15 => ?_)
                have hA_1 := hA_0.trans hE_1
                refine lv_iload_n hx hb d_WM_frost_62 rfl (lv_at hl 0 rfl) ?_
                refine W.widen (k := 0) (n := 0) (Nat.le_of_ble_eq_true rfl) (Nat.le_of_ble_eq_true rfl) ?_
                exact W.iret (v := 0) hx hb hr (fun t ht hW => ⟨⟨0, (L, f_1), rfl, ⟨hO_1, hA_1.mono (by decide +kernel), trivial⟩, by rw [ht]; exact hP, va_K.moved hW.alike hK, by rw [hAe]; exact hD⟩, by rw [hAe]; exact hS.F ht⟩) (by rw [hAe]; exact hS.2.2) d_WM_frost_63
            · refine lv_if_eq (tgt := 41) hx hb d_WM_frost_34 (by decide) (fun h => absurd h (by decide +kernel)) (fun _ => ?_)
              refine lv_iconst (v := 1) hx hb d_WM_frost_37 (by decide +kernel) ?_
              refine lv_goto (tgt := 42) hx hb d_WM_frost_38 (by decide) ?_
              refine lv_istore_n (lv' := [(3, .int 1), (0, .ref q0), (1, .int p_0), (2, .int p_1)]) hx hb d_WM_frost_42 rfl hl (by decide) rfl (fun ls hl => ?_)
              refine lv_aload_n hx hb d_WM_frost_43 rfl (lv_at hl 1 rfl) ?_
              refine tw_getR (D := (dC, dI)) (C := R_WM) (T := F_WM) (N := 13) (ci := 0) (kd := 0) (ct := ct) hx hb htb i_WM hown hK hP m0 rfl rfl 0 e_10 (by decide) (htb (.fieldLink R_WM 12 "WaterMen" "river" "LWaterMen$River;") tw_19) (fun _ h9 => h9) rfl d_WM_frost_44 ?_
              refine hb_tv (.ref q_10) rfl ?_
              refine tw_getr (D := (dC, dI)) (C := R_Rv) (T := F_Rv) (N := 6) (ci := 1) (kd := 1) (ct := ct) hx hb htb i_Rv hown hK hP hO_0 m_10 rfl rfl 3 (by decide) (htb (.fieldLink R_WM 103 "WaterMen$River" "frozen" "[Z") tw_51) (fun _ h9 => h9) rfl d_WM_frost_47 (fun q_16 e_16 m_16 => ?_)
              refine lv_iload_n hx hb d_WM_frost_50 rfl (lv_at hl 2 rfl) ?_
              refine lv_iload_n hx hb d_WM_frost_51 rfl (lv_at hl 3 rfl) ?_
              refine lv_iconst (v := 1) hx hb d_WM_frost_52 (by decide +kernel) ?_
              refine lv_icmp_ne (tgt := 60) hx hb d_WM_frost_53 (by decide) (fun c_17 => ?_) (fun c_17 => ?_)
              · refine lv_iconst (v := 0) hx hb d_WM_frost_60 (by decide +kernel) ?_
                refine tw_astZ (ct := ct) (x := 0) hx hb hK hP hD hS hO_0 m_16 rfl (hb_in c_2 c_3 (by decide +kernel)) ⟨by decide +kernel, by decide +kernel⟩ d_WM_frost_61 (fun f_1 H locs hP hD hS hO_1 hE_1 w_18 ow_18 => ?_)
                have hA_1 := hA_0.trans hE_1
                refine lv_iload_n hx hb d_WM_frost_62 rfl (lv_at hl 0 rfl) ?_
                refine W.widen (k := 0) (n := 0) (Nat.le_of_ble_eq_true rfl) (Nat.le_of_ble_eq_true rfl) ?_
                exact W.iret (v := 1) hx hb hr (fun t ht hW => ⟨⟨1, (L, f_1), rfl, ⟨hO_1, hA_1.mono (by decide +kernel), trivial⟩, by rw [ht]; exact hP, va_K.moved hW.alike hK, by rw [hAe]; exact hD⟩, by rw [hAe]; exact hS.F ht⟩) (by rw [hAe]; exact hS.2.2) d_WM_frost_63
              · refine lv_iconst (v := 1) hx hb d_WM_frost_56 (by decide +kernel) ?_
                refine lv_goto (tgt := 61) hx hb d_WM_frost_57 (by decide) ?_
                refine tw_astZ (ct := ct) (x := 1) hx hb hK hP hD hS hO_0 m_16 rfl (hb_in c_2 c_3 (by decide +kernel)) ⟨by decide +kernel, by decide +kernel⟩ d_WM_frost_61 (fun f_1 H locs hP hD hS hO_1 hE_1 w_19 ow_19 => ?_)
                have hA_1 := hA_0.trans hE_1
                refine lv_iload_n hx hb d_WM_frost_62 rfl (lv_at hl 0 rfl) ?_
                refine W.widen (k := 0) (n := 0) (Nat.le_of_ble_eq_true rfl) (Nat.le_of_ble_eq_true rfl) ?_
                exact W.iret (v := 1) hx hb hr (fun t ht hW => ⟨⟨1, (L, f_1), rfl, ⟨hO_1, hA_1.mono (by decide +kernel), trivial⟩, by rw [ht]; exact hP, va_K.moved hW.alike hK, by rw [hAe]; exact hD⟩, by rw [hAe]; exact hS.F ht⟩) (by rw [hAe]; exact hS.2.2) d_WM_frost_63
          · refine lv_iconst (v := (-1)) hx hb d_WM_frost_24 (by decide +kernel) ?_
            refine W.widen (k := 0) (n := 0) (Nat.le_of_ble_eq_true rfl) (Nat.le_of_ble_eq_true rfl) ?_
            exact W.iret (v := (-1)) hx hb hr (fun t ht hW => ⟨⟨(-1), (L, f), rfl, ⟨hO_0, hA_0.mono (by decide +kernel), trivial⟩, by rw [ht]; exact hP, va_K.moved hW.alike hK, by rw [hAe]; exact hD⟩, by rw [hAe]; exact hS.F ht⟩) (by rw [hAe]; exact hS.2.2) d_WM_frost_25
set_option maxHeartbeats 4000000 in
set_option maxRecDepth 100000 in
theorem c_WM_manAt_t (l : Launch) (dC : Nat → ClassId) (dI : Nat → Nat → Nat) (ct : Nat → ClassId) (L : List Nat) (f : TF) (hO_0 : Ok L f) (q0 : Nat) (m0 : q0 ∈ L ∧ tk f q0 = 0) (p_0 : Int32)  : Met l y_WM_manAt (.code y_WM_manAt b_WM_manAt 2 (some (.object "WaterMen$Man")) :: TB) ({ frames := 0, cells := 0, slots := 0, locals := 0 }) (va_Pc [.ref q0, .int p_0] (PR dC dI (TW ct L f) (TT ct))) (va_Sq (fun r => r = none ∨ ∃ b, r = some b ∧ b ∈ L ∧ tk f b = 20)) 0 0 (fun _ => False) := by
  refine Met.ofW (cc := b_WM_manAt) (maxL := 2) (ret := (some (.object "WaterMen$Man"))) (by decide) rfl ?_
  intro p e s m args below meth c s₁ B hml hv
  obtain ⟨rfl, hP, hK, hN⟩ := hv
  have hx := B.exec
  have hb := B.bytes
  have hr := B.returns
  have hts := atoms_spec (ws := (.code y_WM_manAt b_WM_manAt 2 (some (.object "WaterMen$Man")) :: TB)) B.pre
  have htb := fun w (h : w ∈ TB) => hts w (List.mem_cons_of_mem _ h)
  have hown : s.vm.findClass R_WM = some m.cls := findClass_of_methodNamed B.named
  have hlocks := B.notSynchronized
  have hl := lv_entry ([.ref q0, .int p_0]) (n := 2) (Nat.le_of_ble_eq_true rfl)
  rw [lg_entry_eq]
  generalize (lg_sl ([.ref q0, .int p_0]) ++ List.replicate (2 - (lg_sl ([.ref q0, .int p_0])).length) Slot.unset).toArray = ls at hl ⊢
  have hl : lv_has ls 2 [(0, .ref q0), (1, .int p_0)] := hl
  refine lv_iload_n hx hb d_WM_manAt_0 rfl (lv_at hl 1 rfl) ?_
  refine lv_if_lt (tgt := 19) hx hb d_WM_manAt_1 (by decide) (fun c_1 => ?_) (fun c_1 => ?_)
  · refine lv_null hx hb d_WM_manAt_19 ?_
    exact W.aret (v := .null) (rt := .object "WaterMen$Man") hx hb hr (Or.inl ⟨_, rfl⟩) (Or.inl rfl) (fun t ht hW => ⟨none, rfl, Or.inl rfl, ht⟩) t_nil d_WM_manAt_20
  · refine lv_iload_n hx hb d_WM_manAt_4 rfl (lv_at hl 1 rfl) ?_
    refine lv_bipush (v := 40) hx hb d_WM_manAt_5 (by decide +kernel) ?_
    refine lv_icmp_ge (tgt := 19) hx hb d_WM_manAt_7 (by decide) (fun c_2 => ?_) (fun c_2 => ?_)
    · refine lv_null hx hb d_WM_manAt_19 ?_
      exact W.aret (v := .null) (rt := .object "WaterMen$Man") hx hb hr (Or.inl ⟨_, rfl⟩) (Or.inl rfl) (fun t ht hW => ⟨none, rfl, Or.inl rfl, ht⟩) t_nil d_WM_manAt_20
    · refine lv_aload_n hx hb d_WM_manAt_10 rfl (lv_at hl 0 rfl) ?_
      refine tw_getr (D := (dC, dI)) (C := R_WM) (T := F_WM) (N := 13) (ci := 0) (kd := 0) (ct := ct) hx hb htb i_WM hown hK hP hO_0 m0 rfl rfl 1 (by decide) (htb (.fieldLink R_WM 18 "WaterMen" "men" "[LWaterMen$Man;") tw_52) (fun _ h9 => h9) rfl d_WM_manAt_11 (fun q_3 e_3 m_3 => ?_)
      refine lv_iload_n hx hb d_WM_manAt_14 rfl (lv_at hl 1 rfl) ?_
      refine tw_aldq (ct := ct) hx hb hK hP hO_0 m_3 rfl rfl (hb_in c_1 c_2 (by decide +kernel)) d_WM_manAt_15 (fun e_4 => ?_) (fun q_4 e_4 m_4 => ?_)
      · refine lv_goto (tgt := 20) hx hb d_WM_manAt_16 (by decide) ?_
        exact W.aret (v := .null) (rt := .object "WaterMen$Man") hx hb hr (Or.inl ⟨_, rfl⟩) (Or.inl rfl) (fun t ht hW => ⟨none, rfl, Or.inl rfl, ht⟩) t_nil d_WM_manAt_20
      · refine lv_goto (tgt := 20) hx hb d_WM_manAt_16 (by decide) ?_
        exact W.aret (v := .ref q_4) (rt := .object "WaterMen$Man") hx hb hr (Or.inl ⟨_, rfl⟩) (Or.inr ⟨_, rfl⟩) (fun t ht hW => ⟨some q_4, rfl, Or.inr ⟨q_4, rfl, m_4⟩, ht⟩) t_nil d_WM_manAt_20
def W_WM_free_t : List (Nat × Nat) := [(20, 0)]
set_option maxHeartbeats 4000000 in
set_option maxRecDepth 100000 in
theorem c_WM_free_t (l : Launch) (dC : Nat → ClassId) (dI : Nat → Nat → Nat) (ct : Nat → ClassId) (L : List Nat) (f : TF) (hO_0 : Ok L f) (q0 : Nat) (m0 : q0 ∈ L ∧ tk f q0 = 0) (sz : Nat) (p_0 : Int32)  : Met l y_WM_free (.code y_WM_free b_WM_free 3 (some .int) :: TB) ({ frames := 1, cells := 0, slots := 0, locals := 21 }) (va_Pc [.ref q0, .int p_0] (PC dC dI (TW ct L f) (TT ct) sz)) (va_Qi (fun r (u : TSt) => Ok u.1 u.2 ∧ Ext W_WM_free_t L f u.1 u.2 ∧ (True)) (fun (u : TSt) t => va_P (dC, dI) vwCl (TW ct u.1 u.2) t.heap ∧ va_K (dC, dI) vwCl (TT ct) t ∧ va_D (va_A (TW ct L f) sz) (TW ct u.1 u.2)) (va_A (TW ct L f) sz)) 0 0 (va_A (TW ct L f) sz) := by
  refine Met.ofW (cc := b_WM_free) (maxL := 3) (ret := (some .int)) (by decide) rfl ?_
  intro p e s m args below meth c s₁ B hml hv
  obtain ⟨rfl, hsz, hP, hK, hD0, hN⟩ := hv
  have hx := B.exec
  have hb := B.bytes
  have hr := B.returns
  have hts := atoms_spec (ws := (.code y_WM_free b_WM_free 3 (some .int) :: TB)) B.pre
  have htb := fun w (h : w ∈ TB) => hts w (List.mem_cons_of_mem _ h)
  have hown : s.vm.findClass R_WM = some m.cls := findClass_of_methodNamed B.named
  have hlocks := B.notSynchronized
  have hl := lv_entry ([.ref q0, .int p_0]) (n := 3) (Nat.le_of_ble_eq_true rfl)
  rw [lg_entry_eq]
  generalize (lg_sl ([.ref q0, .int p_0]) ++ List.replicate (3 - (lg_sl ([.ref q0, .int p_0])).length) Slot.unset).toArray = ls at hl ⊢
  have hl : lv_has ls 3 [(0, .ref q0), (1, .int p_0)] := hl
  subst hsz
  have hD := hD0.self (sz := s.heap.size)
  obtain ⟨A, hAe⟩ : ∃ A, va_A (TW ct L f) s.heap.size = A := ⟨_, rfl⟩
  rw [hAe] at hD
  have hA : ∀ q : Nat, s.heap.size ≤ q → A q := fun q h => by rw [← hAe]; exact Or.inr h
  have hS : va_S A s.heap s.heap [] := va_S.rf
  have hA_0 : Ext [] L f L f := Ext.rf
  suffices hGo : ∀ (H : Heap) (locs : List Loc), va_P (dC, dI) vwCl (TW ct L f) H → va_S A s.heap H locs → W p l e (headSpec (.code y_WM_free b_WM_free 3 (some .int) :: TB) ({ frames := 1, cells := 0, slots := 0, locals := 21 })).room s m [.ref q0, .int p_0].toArray below meth c H locs 0 0 (MQ below (va_Qi (fun r (u : TSt) => Ok u.1 u.2 ∧ Ext W_WM_free_t L f u.1 u.2 ∧ (True)) (fun (u : TSt) t => va_P (dC, dI) vwCl (TW ct u.1 u.2) t.heap ∧ va_K (dC, dI) vwCl (TT ct) t ∧ va_D (va_A (TW ct L f) s.heap.size) (TW ct u.1 u.2)) (va_A (TW ct L f) s.heap.size)) [.ref q0, .int p_0].toArray s 0 0 (va_A (TW ct L f) s.heap.size)) (F0 m 0 ls []) from hGo _ _ hP hS
  clear hP hS
  intro H locs hP hS
  refine lv_aload_n hx hb d_WM_free_0 rfl (lv_at hl 0 rfl) ?_
  refine lv_iload_n hx hb d_WM_free_1 rfl (lv_at hl 1 rfl) ?_
  refine va_csq (va_Run.run (va_runV (As := [.int p_0]) (rest := []) ⟨hx, hb, hml, hown, htb⟩ (c_WM_manAt_t l dC dI ct L f hO_0 q0 m0 p_0) (cwV 1 htb (gd_V tw_54 tw_55 tw_56 tw_1 tw_53) rfl rfl rfl (by decide +kernel) ⟨Nat.le_of_ble_eq_true rfl, Nat.le_of_ble_eq_true rfl⟩) ⟨pr_blind, tw_recv hK hP m0 rfl rfl, pr_pre hP hK hN⟩ rfl rfl hl.1 rfl (lv_room (Nat.le_of_ble_eq_true rfl)) d_WM_free_2 ⟨Nat.le_of_ble_eq_true rfl, Nat.le_of_ble_eq_true rfl⟩)) (fun r_1 er_1 => ?_)
  rcases er_1 with rfl | ⟨q_1, rfl, m_1⟩
  · refine hb_tv .null rfl ?_
    refine lv_astore_nN (lv' := [(2, .null), (0, .ref q0), (1, .int p_0)]) hx hb d_WM_free_5 rfl hl (by decide) rfl (fun ls hl => ?_)
    refine lv_aload_nN hx hb d_WM_free_6 rfl (lv_at hl 0 rfl) ?_
    refine lv_ifnonnullN hx hb d_WM_free_7 ?_
    refine lv_iconst (v := (-1)) hx hb d_WM_free_10 (by decide +kernel) ?_
    refine W.widen (k := 0) (n := 0) (Nat.le_of_ble_eq_true rfl) (Nat.le_of_ble_eq_true rfl) ?_
    exact W.iret (v := (-1)) hx hb hr (fun t ht hW => ⟨⟨(-1), (L, f), rfl, ⟨hO_0, hA_0.mono (by decide +kernel), trivial⟩, by rw [ht]; exact hP, va_K.moved hW.alike hK, by rw [hAe]; exact hD⟩, by rw [hAe]; exact hS.F ht⟩) (by rw [hAe]; exact hS.2.2) d_WM_free_11
  · refine hb_tv (.ref q_1) rfl ?_
    refine lv_astore_n (lv' := [(2, .ref q_1), (0, .ref q0), (1, .int p_0)]) hx hb d_WM_free_5 rfl hl (by decide) rfl (fun ls hl => ?_)
    refine lv_aload_n hx hb d_WM_free_6 rfl (lv_at hl 0 rfl) ?_
    refine lv_ifnonnull (tgt := 12) hx hb d_WM_free_7 (by decide) ?_
    refine lv_aload_n hx hb d_WM_free_12 rfl (lv_at hl 0 rfl) ?_
    refine tw_geti (D := (dC, dI)) (C := R_Mn) (T := F_Mn) (N := 8) (ci := 2) (kd := 20) (ct := ct) hx hb htb i_Mn hown hK hP hO_0 m_1 rfl rfl 0 (by decide) (htb (.fieldLink R_WM 111 "WaterMen$Man" "state" "I") tw_57) (fun _ h9 => h9) rfl d_WM_free_13 (fun x_2 e_2 b_2 => ?_)
    refine lv_if_eq (tgt := 22) hx hb d_WM_free_16 (by decide) (fun c_3 => ?_) (fun c_3 => ?_)
    · refine lv_aload_n hx hb d_WM_free_22 rfl (lv_at hl 0 rfl) ?_
      refine lv_iconst (v := 2) hx hb d_WM_free_23 (by decide +kernel) ?_
      refine tw_puti (v := 2) (D := (dC, dI)) (C := R_Mn) (T := F_Mn) (N := 8) (ci := 2) (kd := 20) (ct := ct) (ty := .int) hx hb htb i_Mn t_Mn t_Mn_ok n_Mn hown hK hP hD hS hO_0 m_1 rfl rfl 0 (by decide) (htb (.fieldLink R_WM 111 "WaterMen$Man" "state" "I") tw_57) (fun _ h9 => h9) rfl (by decide +kernel) rfl rfl rfl (i32_full _) d_WM_free_24 (fun f_1 H locs hP hD hS hO_1 hE_1 w_4 => ?_)
      have hA_1 := hA_0.trans hE_1
      refine lv_iconst (v := 1) hx hb d_WM_free_27 (by decide +kernel) ?_
      refine W.widen (k := 0) (n := 0) (Nat.le_of_ble_eq_true rfl) (Nat.le_of_ble_eq_true rfl) ?_
      exact W.iret (v := 1) hx hb hr (fun t ht hW => ⟨⟨1, (L, f_1), rfl, ⟨hO_1, hA_1.mono (by decide +kernel), trivial⟩, by rw [ht]; exact hP, va_K.moved hW.alike hK, by rw [hAe]; exact hD⟩, by rw [hAe]; exact hS.F ht⟩) (by rw [hAe]; exact hS.2.2) d_WM_free_28
    · refine lv_bipush (v := (-2)) hx hb d_WM_free_19 (by decide +kernel) ?_
      refine W.widen (k := 0) (n := 0) (Nat.le_of_ble_eq_true rfl) (Nat.le_of_ble_eq_true rfl) ?_
      exact W.iret (v := (-2)) hx hb hr (fun t ht hW => ⟨⟨(-2), (L, f), rfl, ⟨hO_0, hA_0.mono (by decide +kernel), trivial⟩, by rw [ht]; exact hP, va_K.moved hW.alike hK, by rw [hAe]; exact hD⟩, by rw [hAe]; exact hS.F ht⟩) (by rw [hAe]; exact hS.2.2) d_WM_free_21
set_option maxHeartbeats 4000000 in
set_option maxRecDepth 100000 in
theorem c_WM_boatAt_t (l : Launch) (dC : Nat → ClassId) (dI : Nat → Nat → Nat) (ct : Nat → ClassId) (L : List Nat) (f : TF) (hO_0 : Ok L f) (q0 : Nat) (m0 : q0 ∈ L ∧ tk f q0 = 0) (p_0 : Int32)  : Met l y_WM_boatAt (.code y_WM_boatAt b_WM_boatAt 2 (some (.object "WaterMen$Boat")) :: TB) ({ frames := 0, cells := 0, slots := 0, locals := 0 }) (va_Pc [.ref q0, .int p_0] (PR dC dI (TW ct L f) (TT ct))) (va_Sq (fun r => r = none ∨ ∃ b, r = some b ∧ b ∈ L ∧ tk f b = 24)) 0 0 (fun _ => False) := by
  refine Met.ofW (cc := b_WM_boatAt) (maxL := 2) (ret := (some (.object "WaterMen$Boat"))) (by decide) rfl ?_
  intro p e s m args below meth c s₁ B hml hv
  obtain ⟨rfl, hP, hK, hN⟩ := hv
  have hx := B.exec
  have hb := B.bytes
  have hr := B.returns
  have hts := atoms_spec (ws := (.code y_WM_boatAt b_WM_boatAt 2 (some (.object "WaterMen$Boat")) :: TB)) B.pre
  have htb := fun w (h : w ∈ TB) => hts w (List.mem_cons_of_mem _ h)
  have hown : s.vm.findClass R_WM = some m.cls := findClass_of_methodNamed B.named
  have hlocks := B.notSynchronized
  have hl := lv_entry ([.ref q0, .int p_0]) (n := 2) (Nat.le_of_ble_eq_true rfl)
  rw [lg_entry_eq]
  generalize (lg_sl ([.ref q0, .int p_0]) ++ List.replicate (2 - (lg_sl ([.ref q0, .int p_0])).length) Slot.unset).toArray = ls at hl ⊢
  have hl : lv_has ls 2 [(0, .ref q0), (1, .int p_0)] := hl
  refine lv_iload_n hx hb d_WM_boatAt_0 rfl (lv_at hl 1 rfl) ?_
  refine lv_if_lt (tgt := 21) hx hb d_WM_boatAt_1 (by decide) (fun c_1 => ?_) (fun c_1 => ?_)
  · refine lv_null hx hb d_WM_boatAt_21 ?_
    exact W.aret (v := .null) (rt := .object "WaterMen$Boat") hx hb hr (Or.inl ⟨_, rfl⟩) (Or.inl rfl) (fun t ht hW => ⟨none, rfl, Or.inl rfl, ht⟩) t_nil d_WM_boatAt_22
  · refine lv_iload_n hx hb d_WM_boatAt_4 rfl (lv_at hl 1 rfl) ?_
    refine lv_aload_n hx hb d_WM_boatAt_5 rfl (lv_at hl 0 rfl) ?_
    refine tw_geti (D := (dC, dI)) (C := R_WM) (T := F_WM) (N := 13) (ci := 0) (kd := 0) (ct := ct) hx hb htb i_WM hown hK hP hO_0 m0 rfl rfl 7 (by decide) (htb (.fieldLink R_WM 170 "WaterMen" "boatCount" "I") tw_58) (fun _ h9 => h9) rfl d_WM_boatAt_6 (fun x_2 e_2 b_2 => ?_)
    refine lv_icmp_ge (tgt := 21) hx hb d_WM_boatAt_9 (by decide) (fun c_3 => ?_) (fun c_3 => ?_)
    · refine lv_null hx hb d_WM_boatAt_21 ?_
      exact W.aret (v := .null) (rt := .object "WaterMen$Boat") hx hb hr (Or.inl ⟨_, rfl⟩) (Or.inl rfl) (fun t ht hW => ⟨none, rfl, Or.inl rfl, ht⟩) t_nil d_WM_boatAt_22
    · refine lv_aload_n hx hb d_WM_boatAt_12 rfl (lv_at hl 0 rfl) ?_
      refine tw_getr (D := (dC, dI)) (C := R_WM) (T := F_WM) (N := 13) (ci := 0) (kd := 0) (ct := ct) hx hb htb i_WM hown hK hP hO_0 m0 rfl rfl 2 (by decide) (htb (.fieldLink R_WM 24 "WaterMen" "boats" "[LWaterMen$Boat;") tw_59) (fun _ h9 => h9) rfl d_WM_boatAt_13 (fun q_4 e_4 m_4 => ?_)
      refine lv_iload_n hx hb d_WM_boatAt_16 rfl (lv_at hl 1 rfl) ?_
      refine tw_aldq (ct := ct) hx hb hK hP hO_0 m_4 rfl rfl (by have z0 : (0 : Int32).toInt = 0 := (by decide +kernel); have z1 : (20 : Int32).toInt = 20 := (by decide +kernel); have r0 := fb_rng (p_0); have r1 := fb_rng (x_2); have e0 := c_1; rw [Int32.lt_iff_toInt_lt] at e0; have e1 := c_3; rw [Int32.le_iff_toInt_le] at e1; have e2 := b_2.1; rw [Int32.lt_iff_toInt_lt] at e2; have e3 := b_2.2; rw [Int32.lt_iff_toInt_lt] at e3; rw [vp_in_iff]; omega) d_WM_boatAt_17 (fun e_5 => ?_) (fun q_5 e_5 m_5 => ?_)
      · refine lv_goto (tgt := 22) hx hb d_WM_boatAt_18 (by decide) ?_
        exact W.aret (v := .null) (rt := .object "WaterMen$Boat") hx hb hr (Or.inl ⟨_, rfl⟩) (Or.inl rfl) (fun t ht hW => ⟨none, rfl, Or.inl rfl, ht⟩) t_nil d_WM_boatAt_22
      · refine lv_goto (tgt := 22) hx hb d_WM_boatAt_18 (by decide) ?_
        exact W.aret (v := .ref q_5) (rt := .object "WaterMen$Boat") hx hb hr (Or.inl ⟨_, rfl⟩) (Or.inr ⟨_, rfl⟩) (fun t ht hW => ⟨some q_5, rfl, Or.inr ⟨q_5, rfl, m_5⟩, ht⟩) t_nil d_WM_boatAt_22
set_option maxHeartbeats 4000000 in
set_option maxRecDepth 100000 in
theorem c_WM_craft_t (l : Launch) (dC : Nat → ClassId) (dI : Nat → Nat → Nat) (ct : Nat → ClassId) (L : List Nat) (f : TF) (hO_0 : Ok L f) (q0 : Nat) (m0 : q0 ∈ L ∧ tk f q0 = 0) (p_0 : Int32) (p_1 : Int32)  : Met l y_WM_craft (.code y_WM_craft b_WM_craft 4 (some .int) :: TB) ({ frames := 1, cells := 0, slots := 0, locals := 21 }) (va_Pc [.ref q0, .int p_0, .int p_1] (PR dC dI (TW ct L f) (TT ct))) (vp_Si (fun r => True)) 0 0 (fun _ => False) := by
  refine Met.ofW (cc := b_WM_craft) (maxL := 4) (ret := (some .int)) (by decide) rfl ?_
  intro p e s m args below meth c s₁ B hml hv
  obtain ⟨rfl, hP, hK, hN⟩ := hv
  have hx := B.exec
  have hb := B.bytes
  have hr := B.returns
  have hts := atoms_spec (ws := (.code y_WM_craft b_WM_craft 4 (some .int) :: TB)) B.pre
  have htb := fun w (h : w ∈ TB) => hts w (List.mem_cons_of_mem _ h)
  have hown : s.vm.findClass R_WM = some m.cls := findClass_of_methodNamed B.named
  have hlocks := B.notSynchronized
  have hl := lv_entry ([.ref q0, .int p_0, .int p_1]) (n := 4) (Nat.le_of_ble_eq_true rfl)
  rw [lg_entry_eq]
  generalize (lg_sl ([.ref q0, .int p_0, .int p_1]) ++ List.replicate (4 - (lg_sl ([.ref q0, .int p_0, .int p_1])).length) Slot.unset).toArray = ls at hl ⊢
  have hl : lv_has ls 4 [(0, .ref q0), (1, .int p_0), (2, .int p_1)] := hl
  refine lv_aload_n hx hb d_WM_craft_0 rfl (lv_at hl 0 rfl) ?_
  refine lv_iload_n hx hb d_WM_craft_1 rfl (lv_at hl 1 rfl) ?_
  refine va_csq (va_Run.run (va_runV (As := [.int p_0]) (rest := []) ⟨hx, hb, hml, hown, htb⟩ (c_WM_boatAt_t l dC dI ct L f hO_0 q0 m0 p_0) (cwV 1 htb (gd_V tw_61 tw_62 tw_63 tw_1 tw_60) rfl rfl rfl (by decide +kernel) ⟨Nat.le_of_ble_eq_true rfl, Nat.le_of_ble_eq_true rfl⟩) ⟨pr_blind, tw_recv hK hP m0 rfl rfl, pr_pre hP hK hN⟩ rfl rfl hl.1 rfl (lv_room (Nat.le_of_ble_eq_true rfl)) d_WM_craft_2 ⟨Nat.le_of_ble_eq_true rfl, Nat.le_of_ble_eq_true rfl⟩)) (fun r_1 er_1 => ?_)
  rcases er_1 with rfl | ⟨q_1, rfl, m_1⟩
  · refine hb_tv .null rfl ?_
    refine lv_astore_nN (lv' := [(3, .null), (0, .ref q0), (1, .int p_0), (2, .int p_1)]) hx hb d_WM_craft_5 rfl hl (by decide) rfl (fun ls hl => ?_)
    refine lv_aload_nN hx hb d_WM_craft_6 rfl (lv_at hl 0 rfl) ?_
    refine lv_ifnonnullN hx hb d_WM_craft_7 ?_
    refine lv_iconst (v := (-1)) hx hb d_WM_craft_10 (by decide +kernel) ?_
    exact W.iret (v := (-1)) hx hb hr (fun t ht hW => ⟨(-1), rfl, trivial, ht⟩) t_nil d_WM_craft_11
  · refine hb_tv (.ref q_1) rfl ?_
    refine lv_astore_n (lv' := [(3, .ref q_1), (0, .ref q0), (1, .int p_0), (2, .int p_1)]) hx hb d_WM_craft_5 rfl hl (by decide) rfl (fun ls hl => ?_)
    refine lv_aload_n hx hb d_WM_craft_6 rfl (lv_at hl 0 rfl) ?_
    refine lv_ifnonnull (tgt := 12) hx hb d_WM_craft_7 (by decide) ?_
    refine lv_iload_n hx hb d_WM_craft_12 rfl (lv_at hl 3 rfl) ?_
    by_cases c_2 : p_1 = 0
    · refine lv_tableIn (off := 35) (tgt := 48) hx hb d_WM_craft_13 (by rw [c_2]; decide +kernel) (by rw [c_2]; decide +kernel) (by rw [c_2]; decide +kernel) (by decide) ?_
      refine lv_aload_n hx hb d_WM_craft_48 rfl (lv_at hl 0 rfl) ?_
      refine tw_geti (D := (dC, dI)) (C := R_Bt) (T := F_Bt) (N := 6) (ci := 9) (kd := 24) (ct := ct) hx hb htb i_Bt hown hK hP hO_0 m_1 rfl rfl 1 (by decide) (htb (.fieldLink R_WM 178 "WaterMen$Boat" "stairs" "I") tw_64) (fun _ h9 => h9) rfl d_WM_craft_49 (fun x_3 e_3 b_3 => ?_)
      exact W.iret (v := x_3) hx hb hr (fun t ht hW => ⟨x_3, rfl, trivial, ht⟩) t_nil d_WM_craft_52
    · by_cases c_4 : p_1 = 1
      · refine lv_tableIn (off := 40) (tgt := 53) hx hb d_WM_craft_13 (by rw [c_4]; decide +kernel) (by rw [c_4]; decide +kernel) (by rw [c_4]; decide +kernel) (by decide) ?_
        refine lv_aload_n hx hb d_WM_craft_53 rfl (lv_at hl 0 rfl) ?_
        refine tw_geti (D := (dC, dI)) (C := R_Bt) (T := F_Bt) (N := 6) (ci := 9) (kd := 24) (ct := ct) hx hb htb i_Bt hown hK hP hO_0 m_1 rfl rfl 0 (by decide) (htb (.fieldLink R_WM 181 "WaterMen$Boat" "oars" "I") tw_65) (fun _ h9 => h9) rfl d_WM_craft_54 (fun x_5 e_5 b_5 => ?_)
        exact W.iret (v := x_5) hx hb hr (fun t ht hW => ⟨x_5, rfl, trivial, ht⟩) t_nil d_WM_craft_57
      · by_cases c_6 : p_1 = 2
        · refine lv_tableIn (off := 45) (tgt := 58) hx hb d_WM_craft_13 (by rw [c_6]; decide +kernel) (by rw [c_6]; decide +kernel) (by rw [c_6]; decide +kernel) (by decide) ?_
          refine lv_aload_n hx hb d_WM_craft_58 rfl (lv_at hl 0 rfl) ?_
          refine tw_geti (D := (dC, dI)) (C := R_Bt) (T := F_Bt) (N := 6) (ci := 9) (kd := 24) (ct := ct) hx hb htb i_Bt hown hK hP hO_0 m_1 rfl rfl 2 (by decide) (htb (.fieldLink R_WM 184 "WaterMen$Boat" "thereFrom" "I") tw_66) (fun _ h9 => h9) rfl d_WM_craft_59 (fun x_7 e_7 b_7 => ?_)
          exact W.iret (v := x_7) hx hb hr (fun t ht hW => ⟨x_7, rfl, trivial, ht⟩) t_nil d_WM_craft_62
        · by_cases c_8 : p_1 = 3
          · refine lv_tableIn (off := 50) (tgt := 63) hx hb d_WM_craft_13 (by rw [c_8]; decide +kernel) (by rw [c_8]; decide +kernel) (by rw [c_8]; decide +kernel) (by decide) ?_
            refine lv_aload_n hx hb d_WM_craft_63 rfl (lv_at hl 0 rfl) ?_
            refine lv_aload_n hx hb d_WM_craft_64 rfl (lv_at hl 1 rfl) ?_
            refine tw_geti (D := (dC, dI)) (C := R_WM) (T := F_WM) (N := 13) (ci := 0) (kd := 0) (ct := ct) hx hb htb i_WM hown hK hP hO_0 m0 rfl rfl 10 (by decide) (htb (.fieldLink R_WM 155 "WaterMen" "now" "I") tw_42) (fun _ h9 => h9) rfl d_WM_craft_65 (fun x_9 e_9 b_9 => ?_)
            refine vp_callSi (va_Run.run (va_runV (As := [.int x_9]) (rest := []) ⟨hx, hb, hml, hown, htb⟩ (c_Bt_stateAt_t l dC dI ct L f hO_0 q_1 m_1 x_9) (cwV 1 htb (gd_V tw_69 tw_70 tw_71 tw_68 tw_67) rfl rfl rfl (by decide +kernel) ⟨Nat.le_of_ble_eq_true rfl, Nat.le_of_ble_eq_true rfl⟩) ⟨pr_blind, tw_recv hK hP m_1 rfl rfl, pr_pre hP hK hN⟩ rfl rfl hl.1 rfl (lv_room (Nat.le_of_ble_eq_true rfl)) d_WM_craft_68 ⟨Nat.le_of_ble_eq_true rfl, Nat.le_of_ble_eq_true rfl⟩)) (fun r_10 er_10 => ?_)
            clear er_10
            refine lv_iconst (v := 1) hx hb d_WM_craft_71 (by decide +kernel) ?_
            refine lv_icmp_ne (tgt := 82) hx hb d_WM_craft_72 (by decide) (fun c_11 => ?_) (fun c_11 => ?_)
            · refine lv_iconst (v := (-1)) hx hb d_WM_craft_82 (by decide +kernel) ?_
              exact W.iret (v := (-1)) hx hb hr (fun t ht hW => ⟨(-1), rfl, trivial, ht⟩) t_nil d_WM_craft_83
            · refine lv_aload_n hx hb d_WM_craft_75 rfl (lv_at hl 0 rfl) ?_
              refine tw_geti (D := (dC, dI)) (C := R_Bt) (T := F_Bt) (N := 6) (ci := 9) (kd := 24) (ct := ct) hx hb htb i_Bt hown hK hP hO_0 m_1 rfl rfl 3 (by decide) (htb (.fieldLink R_WM 190 "WaterMen$Boat" "rower" "I") tw_72) (fun _ h9 => h9) rfl d_WM_craft_76 (fun x_12 e_12 b_12 => ?_)
              refine lv_goto (tgt := 83) hx hb d_WM_craft_79 (by decide) ?_
              exact W.iret (v := x_12) hx hb hr (fun t ht hW => ⟨x_12, rfl, trivial, ht⟩) t_nil d_WM_craft_83
          · by_cases c_13 : p_1 = 4
            · refine lv_tableIn (off := 71) (tgt := 84) hx hb d_WM_craft_13 (by rw [c_13]; decide +kernel) (by rw [c_13]; decide +kernel) (by rw [c_13]; decide +kernel) (by decide) ?_
              refine lv_aload_n hx hb d_WM_craft_84 rfl (lv_at hl 0 rfl) ?_
              refine lv_aload_n hx hb d_WM_craft_85 rfl (lv_at hl 1 rfl) ?_
              refine tw_geti (D := (dC, dI)) (C := R_WM) (T := F_WM) (N := 13) (ci := 0) (kd := 0) (ct := ct) hx hb htb i_WM hown hK hP hO_0 m0 rfl rfl 10 (by decide) (htb (.fieldLink R_WM 155 "WaterMen" "now" "I") tw_42) (fun _ h9 => h9) rfl d_WM_craft_86 (fun x_14 e_14 b_14 => ?_)
              refine vp_callSi (va_Run.run (va_runV (As := [.int x_14]) (rest := []) ⟨hx, hb, hml, hown, htb⟩ (c_Bt_stateAt_t l dC dI ct L f hO_0 q_1 m_1 x_14) (cwV 1 htb (gd_V tw_69 tw_70 tw_71 tw_68 tw_67) rfl rfl rfl (by decide +kernel) ⟨Nat.le_of_ble_eq_true rfl, Nat.le_of_ble_eq_true rfl⟩) ⟨pr_blind, tw_recv hK hP m_1 rfl rfl, pr_pre hP hK hN⟩ rfl rfl hl.1 rfl (lv_room (Nat.le_of_ble_eq_true rfl)) d_WM_craft_89 ⟨Nat.le_of_ble_eq_true rfl, Nat.le_of_ble_eq_true rfl⟩)) (fun r_15 er_15 => ?_)
              clear er_15
              exact W.iret (v := r_15) hx hb hr (fun t ht hW => ⟨r_15, rfl, trivial, ht⟩) t_nil d_WM_craft_92
            · refine lv_tableOut (tgt := 93) hx hb d_WM_craft_13 (by have h0 := lv_neT c_2 (show (0 : Int32).toInt = 0 by decide +kernel); have h1 := lv_neT c_4 (show (1 : Int32).toInt = 1 by decide +kernel); have h2 := lv_neT c_6 (show (2 : Int32).toInt = 2 by decide +kernel); have h3 := lv_neT c_8 (show (3 : Int32).toInt = 3 by decide +kernel); have h4 := lv_neT c_13 (show (4 : Int32).toInt = 4 by decide +kernel); omega) (by decide) ?_
              refine lv_iconst (v := (-1)) hx hb d_WM_craft_93 (by decide +kernel) ?_
              exact W.iret (v := (-1)) hx hb hr (fun t ht hW => ⟨(-1), rfl, trivial, ht⟩) t_nil d_WM_craft_94
