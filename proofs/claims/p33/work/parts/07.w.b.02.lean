def wp_Md_flowOf_w (L : List Nat) (f : TF) (q0 : Nat) (p_0 : Int32) (p_1 : Int32) (Q : Int32 → Prop) : Prop := ((p_1 = 11 → wp_Md_levelOf_w L f q0 (p_0 + 1) (0 : Int32) (fun (r_4 : Int32) => wp_Md_levelOf_w L f q0 p_0 p_1 (fun (r_5 : Int32) => Q (r_4 - r_5)))) ∧ (¬ (p_1 = 11) → wp_Md_levelOf_w L f q0 p_0 (p_1 + 1) (fun (r_2 : Int32) => wp_Md_levelOf_w L f q0 p_0 p_1 (fun (r_3 : Int32) => Q (r_2 - r_3)))))
set_option maxHeartbeats 4000000 in
set_option maxRecDepth 100000 in
theorem c_Md_flowOf_w (l : Launch) (dC : Nat → ClassId) (dI : Nat → Nat → Nat) (ct : Nat → ClassId) (L : List Nat) (f : TF) (hO_0 : Ok L f) (q0 : Nat) (m0 : q0 ∈ L ∧ tk f q0 = 27) (p_0 : Int32) (p_1 : Int32)  (as_0 : ¬ (p_0 < 0)) (as_1 : ¬ (499 < p_0)) (as_2 : ¬ (p_1 < 0)) (as_3 : ¬ (11 < p_1)) (Q : Int32 → Prop) (hQ : wp_Md_flowOf_w L f q0 p_0 p_1 Q) : Met l y_Md_flowOf (.code y_Md_flowOf b_Md_flowOf 3 (some .int) :: TB) ({ frames := 1, cells := 0, slots := 0, locals := 22 }) (va_Pc [.ref q0, .int p_0, .int p_1] (PR dC dI (TW ct L f) (TT ct))) (vp_Si (fun r => (True) ∧ Q r)) 0 0 (fun _ => False) := by
  refine Met.ofW (cc := b_Md_flowOf) (maxL := 3) (ret := (some .int)) (by decide) rfl ?_
  intro p e s m args below meth c s₁ B hml hv
  obtain ⟨rfl, hP, hK, hN⟩ := hv
  have hx := B.exec
  have hb := B.bytes
  have hr := B.returns
  have hts := atoms_spec (ws := (.code y_Md_flowOf b_Md_flowOf 3 (some .int) :: TB)) B.pre
  have htb := fun w (h : w ∈ TB) => hts w (List.mem_cons_of_mem _ h)
  have hown : s.vm.findClass R_Md = some m.cls := findClass_of_methodNamed B.named
  have hlocks := B.notSynchronized
  have hl := lv_entry ([.ref q0, .int p_0, .int p_1]) (n := 3) (Nat.le_of_ble_eq_true rfl)
  rw [lg_entry_eq]
  generalize (lg_sl ([.ref q0, .int p_0, .int p_1]) ++ List.replicate (3 - (lg_sl ([.ref q0, .int p_0, .int p_1])).length) Slot.unset).toArray = ls at hl ⊢
  have hl : lv_has ls 3 [(0, .ref q0), (1, .int p_0), (2, .int p_1)] := hl
  unfold wp_Md_flowOf_w at hQ
  refine lv_iload_n hx hb d_Md_flowOf_0 rfl (lv_at hl 2 rfl) ?_
  refine lv_bipush (v := 11) hx hb d_Md_flowOf_1 (by decide +kernel) ?_
  refine lv_icmp_ne (tgt := 17) hx hb d_Md_flowOf_3 (by decide) (fun c_1 => ?_) (fun c_1 => ?_)
  · have hQ := hQ.2 c_1
    refine lv_aload_n hx hb d_Md_flowOf_17 rfl (lv_at hl 0 rfl) ?_
    refine lv_iload_n hx hb d_Md_flowOf_18 rfl (lv_at hl 1 rfl) ?_
    refine lv_iload_n hx hb d_Md_flowOf_19 rfl (lv_at hl 2 rfl) ?_
    refine lv_iconst (v := 1) hx hb d_Md_flowOf_20 (by decide +kernel) ?_
    refine lv_iadd hx hb d_Md_flowOf_21 ?_
    refine vp_callSi (va_Run.run (va_runV (As := [.int p_0, .int (p_1 + 1)]) (rest := []) ⟨hx, hb, hml, hown, htb⟩ (c_Md_levelOf_w l dC dI ct L f hO_0 q0 m0 p_0 (p_1 + 1) as_0 (show ¬ (500 < p_0) from by have e0 := as_0; rw [Int32.lt_iff_toInt_lt] at e0; have e1 := as_1; rw [Int32.lt_iff_toInt_lt] at e1; have z0 : (0 : Int32).toInt = 0 := (by decide +kernel); have z1 : (499 : Int32).toInt = 499 := (by decide +kernel); have z2 : (500 : Int32).toInt = 500 := (by decide +kernel); rw [Int32.lt_iff_toInt_lt]; omega) (show ¬ ((p_1 + 1) < 0) from by have e0 := as_2; rw [Int32.lt_iff_toInt_lt] at e0; have e1 := as_3; rw [Int32.lt_iff_toInt_lt] at e1; have e2 := c_1; rw [← Int32.toInt_inj] at e2; have z0 : (0 : Int32).toInt = 0 := (by decide +kernel); have z1 : (1 : Int32).toInt = 1 := (by decide +kernel); have z2 : (11 : Int32).toInt = 11 := (by decide +kernel); have ss := fb_addI (x := p_1) (y := 1) (by omega) (by omega); rw [Int32.lt_iff_toInt_lt]; omega) (show ¬ (11 < (p_1 + 1)) from by have e0 := as_2; rw [Int32.lt_iff_toInt_lt] at e0; have e1 := as_3; rw [Int32.lt_iff_toInt_lt] at e1; have e2 := c_1; rw [← Int32.toInt_inj] at e2; have z0 : (0 : Int32).toInt = 0 := (by decide +kernel); have z1 : (1 : Int32).toInt = 1 := (by decide +kernel); have z2 : (11 : Int32).toInt = 11 := (by decide +kernel); have ss := fb_addI (x := p_1) (y := 1) (by omega) (by omega); rw [Int32.lt_iff_toInt_lt]; omega) _ hQ) (cwV 2 htb (gd_V tw_160 tw_161 tw_162 tw_89 tw_159) rfl rfl rfl (by decide +kernel) ⟨Nat.le_of_ble_eq_true rfl, Nat.le_of_ble_eq_true rfl⟩) ⟨pr_blind, tw_recv hK hP m0 rfl rfl, pr_pre hP hK hN⟩ rfl rfl hl.1 rfl (lv_room (Nat.le_of_ble_eq_true rfl)) d_Md_flowOf_22 ⟨Nat.le_of_ble_eq_true rfl, Nat.le_of_ble_eq_true rfl⟩)) (fun r_2 er_2 => ?_)
    obtain ⟨er_2, hQ⟩ := er_2
    clear er_2
    refine lv_aload_n hx hb d_Md_flowOf_25 rfl (lv_at hl 0 rfl) ?_
    refine lv_iload_n hx hb d_Md_flowOf_26 rfl (lv_at hl 1 rfl) ?_
    refine lv_iload_n hx hb d_Md_flowOf_27 rfl (lv_at hl 2 rfl) ?_
    refine vp_callSi (va_Run.run (va_runV (As := [.int p_0, .int p_1]) (rest := [.int r_2]) ⟨hx, hb, hml, hown, htb⟩ (c_Md_levelOf_w l dC dI ct L f hO_0 q0 m0 p_0 p_1 as_0 (show ¬ (500 < p_0) from by have e0 := as_0; rw [Int32.lt_iff_toInt_lt] at e0; have e1 := as_1; rw [Int32.lt_iff_toInt_lt] at e1; have z0 : (0 : Int32).toInt = 0 := (by decide +kernel); have z1 : (499 : Int32).toInt = 499 := (by decide +kernel); have z2 : (500 : Int32).toInt = 500 := (by decide +kernel); rw [Int32.lt_iff_toInt_lt]; omega) as_2 as_3 _ hQ) (cwV 2 htb (gd_V tw_160 tw_161 tw_162 tw_89 tw_159) rfl rfl rfl (by decide +kernel) ⟨Nat.le_of_ble_eq_true rfl, Nat.le_of_ble_eq_true rfl⟩) ⟨pr_blind, tw_recv hK hP m0 rfl rfl, pr_pre hP hK hN⟩ rfl rfl hl.1 rfl (lv_room (Nat.le_of_ble_eq_true rfl)) d_Md_flowOf_28 ⟨Nat.le_of_ble_eq_true rfl, Nat.le_of_ble_eq_true rfl⟩)) (fun r_3 er_3 => ?_)
    obtain ⟨er_3, hQ⟩ := er_3
    clear er_3
    refine lv_isub hx hb d_Md_flowOf_31 ?_
    exact W.iret (v := (r_2 - r_3)) hx hb hr (fun t ht hW => ⟨(r_2 - r_3), rfl, ⟨trivial, hQ⟩, ht⟩) t_nil d_Md_flowOf_32
  · have hQ := hQ.1 c_1
    refine lv_aload_n hx hb d_Md_flowOf_6 rfl (lv_at hl 0 rfl) ?_
    refine lv_iload_n hx hb d_Md_flowOf_7 rfl (lv_at hl 1 rfl) ?_
    refine lv_iconst (v := 1) hx hb d_Md_flowOf_8 (by decide +kernel) ?_
    refine lv_iadd hx hb d_Md_flowOf_9 ?_
    refine lv_iconst (v := 0) hx hb d_Md_flowOf_10 (by decide +kernel) ?_
    refine vp_callSi (va_Run.run (va_runV (As := [.int (p_0 + 1), .int 0]) (rest := []) ⟨hx, hb, hml, hown, htb⟩ (c_Md_levelOf_w l dC dI ct L f hO_0 q0 m0 (p_0 + 1) (0 : Int32) (show ¬ ((p_0 + 1) < 0) from by have e0 := as_0; rw [Int32.lt_iff_toInt_lt] at e0; have e1 := as_1; rw [Int32.lt_iff_toInt_lt] at e1; have z0 : (0 : Int32).toInt = 0 := (by decide +kernel); have z1 : (1 : Int32).toInt = 1 := (by decide +kernel); have z2 : (499 : Int32).toInt = 499 := (by decide +kernel); have ss := fb_addI (x := p_0) (y := 1) (by omega) (by omega); rw [Int32.lt_iff_toInt_lt]; omega) (show ¬ (500 < (p_0 + 1)) from by have e0 := as_0; rw [Int32.lt_iff_toInt_lt] at e0; have e1 := as_1; rw [Int32.lt_iff_toInt_lt] at e1; have z0 : (0 : Int32).toInt = 0 := (by decide +kernel); have z1 : (1 : Int32).toInt = 1 := (by decide +kernel); have z2 : (499 : Int32).toInt = 499 := (by decide +kernel); have z3 : (500 : Int32).toInt = 500 := (by decide +kernel); have ss := fb_addI (x := p_0) (y := 1) (by omega) (by omega); rw [Int32.lt_iff_toInt_lt]; omega) (by decide +kernel) (by decide +kernel) _ hQ) (cwV 2 htb (gd_V tw_160 tw_161 tw_162 tw_89 tw_159) rfl rfl rfl (by decide +kernel) ⟨Nat.le_of_ble_eq_true rfl, Nat.le_of_ble_eq_true rfl⟩) ⟨pr_blind, tw_recv hK hP m0 rfl rfl, pr_pre hP hK hN⟩ rfl rfl hl.1 rfl (lv_room (Nat.le_of_ble_eq_true rfl)) d_Md_flowOf_11 ⟨Nat.le_of_ble_eq_true rfl, Nat.le_of_ble_eq_true rfl⟩)) (fun r_4 er_4 => ?_)
    obtain ⟨er_4, hQ⟩ := er_4
    clear er_4
    refine lv_goto (tgt := 25) hx hb d_Md_flowOf_14 (by decide) ?_
    refine lv_aload_n hx hb d_Md_flowOf_25 rfl (lv_at hl 0 rfl) ?_
    refine lv_iload_n hx hb d_Md_flowOf_26 rfl (lv_at hl 1 rfl) ?_
    refine lv_iload_n hx hb d_Md_flowOf_27 rfl (lv_at hl 2 rfl) ?_
    refine vp_callSi (va_Run.run (va_runV (As := [.int p_0, .int p_1]) (rest := [.int r_4]) ⟨hx, hb, hml, hown, htb⟩ (c_Md_levelOf_w l dC dI ct L f hO_0 q0 m0 p_0 p_1 as_0 (show ¬ (500 < p_0) from by have e0 := as_0; rw [Int32.lt_iff_toInt_lt] at e0; have e1 := as_1; rw [Int32.lt_iff_toInt_lt] at e1; have z0 : (0 : Int32).toInt = 0 := (by decide +kernel); have z1 : (499 : Int32).toInt = 499 := (by decide +kernel); have z2 : (500 : Int32).toInt = 500 := (by decide +kernel); rw [Int32.lt_iff_toInt_lt]; omega) as_2 as_3 _ hQ) (cwV 2 htb (gd_V tw_160 tw_161 tw_162 tw_89 tw_159) rfl rfl rfl (by decide +kernel) ⟨Nat.le_of_ble_eq_true rfl, Nat.le_of_ble_eq_true rfl⟩) ⟨pr_blind, tw_recv hK hP m0 rfl rfl, pr_pre hP hK hN⟩ rfl rfl hl.1 rfl (lv_room (Nat.le_of_ble_eq_true rfl)) d_Md_flowOf_28 ⟨Nat.le_of_ble_eq_true rfl, Nat.le_of_ble_eq_true rfl⟩)) (fun r_5 er_5 => ?_)
    obtain ⟨er_5, hQ⟩ := er_5
    clear er_5
    refine lv_isub hx hb d_Md_flowOf_31 ?_
    exact W.iret (v := (r_4 - r_5)) hx hb hr (fun t ht hW => ⟨(r_4 - r_5), rfl, ⟨trivial, hQ⟩, ht⟩) t_nil d_Md_flowOf_32
def wp_Md_flow_w (L : List Nat) (f : TF) (q0 : Nat) (p_0 : Int32) (p_1 : Int32) (Q : Int32 → Prop) : Prop := ((p_0 < 0 → Q (-1000)) ∧ (¬ (p_0 < 0) → ((499 < p_0 → Q (-1000)) ∧ (¬ (499 < p_0) → ((p_1 < 0 → Q (-1000)) ∧ (¬ (p_1 < 0) → ((11 < p_1 → Q (-1000)) ∧ (¬ (11 < p_1) → wp_Md_flowOf_w L f q0 p_0 p_1 (fun (r_7 : Int32) => Q r_7)))))))))
set_option maxHeartbeats 4000000 in
set_option maxRecDepth 100000 in
theorem c_Md_flow_w (l : Launch) (dC : Nat → ClassId) (dI : Nat → Nat → Nat) (ct : Nat → ClassId) (L : List Nat) (f : TF) (hO_0 : Ok L f) (q0 : Nat) (m0 : q0 ∈ L ∧ tk f q0 = 27) (p_0 : Int32) (p_1 : Int32)   (Q : Int32 → Prop) (hQ : wp_Md_flow_w L f q0 p_0 p_1 Q) : Met l y_Md_flow (.code y_Md_flow b_Md_flow 3 (some .int) :: TB) ({ frames := 2, cells := 0, slots := 0, locals := 44 }) (va_Pc [.ref q0, .int p_0, .int p_1] (PR dC dI (TW ct L f) (TT ct))) (vp_Si (fun r => (True) ∧ Q r)) 0 0 (fun _ => False) := by
  refine Met.ofW (cc := b_Md_flow) (maxL := 3) (ret := (some .int)) (by decide) rfl ?_
  intro p e s m args below meth c s₁ B hml hv
  obtain ⟨rfl, hP, hK, hN⟩ := hv
  have hx := B.exec
  have hb := B.bytes
  have hr := B.returns
  have hts := atoms_spec (ws := (.code y_Md_flow b_Md_flow 3 (some .int) :: TB)) B.pre
  have htb := fun w (h : w ∈ TB) => hts w (List.mem_cons_of_mem _ h)
  have hown : s.vm.findClass R_Md = some m.cls := findClass_of_methodNamed B.named
  have hlocks := B.notSynchronized
  have hl := lv_entry ([.ref q0, .int p_0, .int p_1]) (n := 3) (Nat.le_of_ble_eq_true rfl)
  rw [lg_entry_eq]
  generalize (lg_sl ([.ref q0, .int p_0, .int p_1]) ++ List.replicate (3 - (lg_sl ([.ref q0, .int p_0, .int p_1])).length) Slot.unset).toArray = ls at hl ⊢
  have hl : lv_has ls 3 [(0, .ref q0), (1, .int p_0), (2, .int p_1)] := hl
  unfold wp_Md_flow_w at hQ
  refine lv_iload_n hx hb d_Md_flow_0 rfl (lv_at hl 1 rfl) ?_
  refine vp_callSi (va_Run.run (va_runS (As := [.int p_0]) (rest := []) ⟨hx, hb, hml, hown, htb⟩ (c_Md_isDay l p_0) (cwS 1 htb (gd_S tw_145 tw_146 tw_89 tw_144) rfl rfl rfl (by decide +kernel) ⟨Nat.le_of_ble_eq_true rfl, Nat.le_of_ble_eq_true rfl⟩) ⟨fun _ _ _ _ h => h, fun U _ _ => ⟨rfl, trivial⟩⟩ rfl rfl hl.1 rfl (lv_room (Nat.le_of_ble_eq_true rfl)) d_Md_flow_1 ⟨Nat.le_of_ble_eq_true rfl, Nat.le_of_ble_eq_true rfl⟩)) (fun r er => ?_)
  subst er
  by_cases c_2 : p_0 < 0
  · have hQ := hQ.1 c_2
    refine hb_ti 0 (by unfold f_Md_isDay; rw [if_pos c_2]; first | done | rfl) ?_
    refine lv_if_eq (tgt := 26) hx hb d_Md_flow_4 (by decide) (fun _ => ?_) (fun h => absurd (by decide +kernel) h)
    refine lv_sipush (v := (-1000)) hx hb d_Md_flow_26 (by decide +kernel) ?_
    exact W.iret (v := (-1000)) hx hb hr (fun t ht hW => ⟨(-1000), rfl, ⟨trivial, hQ⟩, ht⟩) t_nil d_Md_flow_29
  · have hQ := hQ.2 c_2
    by_cases c_3 : 499 < p_0
    · have hQ := hQ.1 c_3
      refine hb_ti 0 (by unfold f_Md_isDay; rw [if_neg c_2, if_pos c_3]; first | done | rfl) ?_
      refine lv_if_eq (tgt := 26) hx hb d_Md_flow_4 (by decide) (fun _ => ?_) (fun h => absurd (by decide +kernel) h)
      refine lv_sipush (v := (-1000)) hx hb d_Md_flow_26 (by decide +kernel) ?_
      exact W.iret (v := (-1000)) hx hb hr (fun t ht hW => ⟨(-1000), rfl, ⟨trivial, hQ⟩, ht⟩) t_nil d_Md_flow_29
    · have hQ := hQ.2 c_3
      refine hb_ti 1 (by unfold f_Md_isDay; rw [if_neg c_2, if_neg c_3]; first | done | rfl) ?_
      refine lv_if_eq (tgt := 26) hx hb d_Md_flow_4 (by decide) (fun h => absurd h (by decide +kernel)) (fun _ => ?_)
      refine lv_iload_n hx hb d_Md_flow_7 rfl (lv_at hl 2 rfl) ?_
      refine lv_iconst (v := 0) hx hb d_Md_flow_8 (by decide +kernel) ?_
      refine lv_bipush (v := 11) hx hb d_Md_flow_9 (by decide +kernel) ?_
      refine vp_callSi (va_Run.run (va_runS (As := [.int p_1, .int 0, .int 11]) (rest := []) ⟨hx, hb, hml, hown, htb⟩ (c_Md_in l p_1 0 11) (cwS 3 htb (gd_S tw_90 tw_91 tw_89 tw_88) rfl rfl rfl (by decide +kernel) ⟨Nat.le_of_ble_eq_true rfl, Nat.le_of_ble_eq_true rfl⟩) ⟨fun _ _ _ _ h => h, fun U _ _ => ⟨rfl, trivial⟩⟩ rfl rfl hl.1 rfl (lv_room (Nat.le_of_ble_eq_true rfl)) d_Md_flow_11 ⟨Nat.le_of_ble_eq_true rfl, Nat.le_of_ble_eq_true rfl⟩)) (fun r er => ?_)
      subst er
      by_cases c_5 : p_1 < 0
      · have hQ := hQ.1 c_5
        refine hb_ti 0 (by unfold f_Md_in; rw [if_pos c_5]; first | done | rfl) ?_
        refine lv_if_eq (tgt := 26) hx hb d_Md_flow_14 (by decide) (fun _ => ?_) (fun h => absurd (by decide +kernel) h)
        refine lv_sipush (v := (-1000)) hx hb d_Md_flow_26 (by decide +kernel) ?_
        exact W.iret (v := (-1000)) hx hb hr (fun t ht hW => ⟨(-1000), rfl, ⟨trivial, hQ⟩, ht⟩) t_nil d_Md_flow_29
      · have hQ := hQ.2 c_5
        by_cases c_6 : 11 < p_1
        · have hQ := hQ.1 c_6
          refine hb_ti 0 (by unfold f_Md_in; rw [if_neg c_5, if_pos c_6]; first | done | rfl) ?_
          refine lv_if_eq (tgt := 26) hx hb d_Md_flow_14 (by decide) (fun _ => ?_) (fun h => absurd (by decide +kernel) h)
          refine lv_sipush (v := (-1000)) hx hb d_Md_flow_26 (by decide +kernel) ?_
          exact W.iret (v := (-1000)) hx hb hr (fun t ht hW => ⟨(-1000), rfl, ⟨trivial, hQ⟩, ht⟩) t_nil d_Md_flow_29
        · have hQ := hQ.2 c_6
          refine hb_ti 1 (by unfold f_Md_in; rw [if_neg c_5, if_neg c_6]; first | done | rfl) ?_
          refine lv_if_eq (tgt := 26) hx hb d_Md_flow_14 (by decide) (fun h => absurd h (by decide +kernel)) (fun _ => ?_)
          refine lv_aload_n hx hb d_Md_flow_17 rfl (lv_at hl 0 rfl) ?_
          refine lv_iload_n hx hb d_Md_flow_18 rfl (lv_at hl 1 rfl) ?_
          refine lv_iload_n hx hb d_Md_flow_19 rfl (lv_at hl 2 rfl) ?_
          refine vp_callSi (va_Run.run (va_runV (As := [.int p_0, .int p_1]) (rest := []) ⟨hx, hb, hml, hown, htb⟩ (c_Md_flowOf_w l dC dI ct L f hO_0 q0 m0 p_0 p_1 c_2 c_3 c_5 c_6 _ hQ) (cwV 2 htb (gd_V tw_164 tw_165 tw_166 tw_89 tw_163) rfl rfl rfl (by decide +kernel) ⟨Nat.le_of_ble_eq_true rfl, Nat.le_of_ble_eq_true rfl⟩) ⟨pr_blind, tw_recv hK hP m0 rfl rfl, pr_pre hP hK hN⟩ rfl rfl hl.1 rfl (lv_room (Nat.le_of_ble_eq_true rfl)) d_Md_flow_20 ⟨Nat.le_of_ble_eq_true rfl, Nat.le_of_ble_eq_true rfl⟩)) (fun r_7 er_7 => ?_)
          obtain ⟨er_7, hQ⟩ := er_7
          clear er_7
          refine lv_goto (tgt := 29) hx hb d_Md_flow_23 (by decide) ?_
          exact W.iret (v := r_7) hx hb hr (fun t ht hW => ⟨r_7, rfl, ⟨trivial, hQ⟩, ht⟩) t_nil d_Md_flow_29
def wp_WM_today_w (L : List Nat) (f : TF) (q0 : Nat) (Q : Int32 → Prop) : Prop := ∀ x_1 : Int32, ti f q0 10 = x_1 → ∀ y_2 : Int32, y_2 = x_1 / 720 → Q y_2
set_option maxHeartbeats 4000000 in
set_option maxRecDepth 100000 in
theorem c_WM_today_w (l : Launch) (dC : Nat → ClassId) (dI : Nat → Nat → Nat) (ct : Nat → ClassId) (L : List Nat) (f : TF) (hO_0 : Ok L f) (q0 : Nat) (m0 : q0 ∈ L ∧ tk f q0 = 0)    (Q : Int32 → Prop) (hQ : wp_WM_today_w L f q0 Q) : Met l y_WM_today (.code y_WM_today b_WM_today 1 (some .int) :: TB) ({ frames := 0, cells := 0, slots := 0, locals := 0 }) (va_Pc [.ref q0] (PR dC dI (TW ct L f) (TT ct))) (vp_Si (fun r => ((¬ (r < 0) ∧ ¬ (499 < r) ∧ True)) ∧ Q r)) 0 0 (fun _ => False) := by
  refine Met.ofW (cc := b_WM_today) (maxL := 1) (ret := (some .int)) (by decide) rfl ?_
  intro p e s m args below meth c s₁ B hml hv
  obtain ⟨rfl, hP, hK, hN⟩ := hv
  have hx := B.exec
  have hb := B.bytes
  have hr := B.returns
  have hts := atoms_spec (ws := (.code y_WM_today b_WM_today 1 (some .int) :: TB)) B.pre
  have htb := fun w (h : w ∈ TB) => hts w (List.mem_cons_of_mem _ h)
  have hown : s.vm.findClass R_WM = some m.cls := findClass_of_methodNamed B.named
  have hlocks := B.notSynchronized
  have hl := lv_entry ([.ref q0]) (n := 1) (Nat.le_of_ble_eq_true rfl)
  rw [lg_entry_eq]
  generalize (lg_sl ([.ref q0]) ++ List.replicate (1 - (lg_sl ([.ref q0])).length) Slot.unset).toArray = ls at hl ⊢
  have hl : lv_has ls 1 [(0, .ref q0)] := hl
  unfold wp_WM_today_w at hQ
  refine lv_aload_n hx hb d_WM_today_0 rfl (lv_at hl 0 rfl) ?_
  refine tw_geti (D := (dC, dI)) (C := R_WM) (T := F_WM) (N := 13) (ci := 0) (kd := 0) (ct := ct) hx hb htb i_WM hown hK hP hO_0 m0 rfl rfl 10 (by decide) (htb (.fieldLink R_WM 155 "WaterMen" "now" "I") tw_40) (fun _ h9 => h9) rfl d_WM_today_1 (fun x_1 e_1 b_1 => ?_)
  have hQ := hQ x_1 e_1
  refine lv_sipush (v := 720) hx hb d_WM_today_4 (by decide +kernel) ?_
  refine lv_idiv hx hb d_WM_today_7 (by decide) ?_
  refine hb_divn (U := 359999) (Qm := 499) (c := 720) (C1 := 719) (K := 2147482927) (by decide +kernel) (by decide +kernel) (by decide +kernel) b_1.1 (show ¬ (2147482927 < x_1) from by have e0 := b_1.1; rw [Int32.lt_iff_toInt_lt] at e0; have e1 := b_1.2; rw [Int32.lt_iff_toInt_lt] at e1; have z0 : (0 : Int32).toInt = 0 := (by decide +kernel); have z1 : (359999 : Int32).toInt = 359999 := (by decide +kernel); have z2 : (2147482927 : Int32).toInt = 2147482927 := (by decide +kernel); rw [Int32.lt_iff_toInt_lt]; omega) b_1.2 (by decide +kernel) (fun y_2 g1_2 g2_2 g3_2 g4_2 g5_2 g9_2 => ?_)
  have hQ := hQ y_2 g9_2
  exact W.iret (v := y_2) hx hb hr (fun t ht hW => ⟨y_2, rfl, ⟨⟨g1_2, g5_2, trivial⟩, hQ⟩, ht⟩) t_nil d_WM_today_8
def wp_Rv_isFrozen_w (L : List Nat) (f : TF) (q0 : Nat) (p_0 : Int32) (Q : Int32 → Prop) : Prop := ((p_0 < 0 → Q 0) ∧ (¬ (p_0 < 0) → ((500 ≤ p_0 → Q 0) ∧ (¬ (500 ≤ p_0) → ∀ q_4 : Nat, tr f q0 3 = some q_4 → ∀ x_5 : Int32, ti f q_4 (p_0 : Int32).toNatClampNeg = x_5 → ((x_5 = 0 → Q 0) ∧ (¬ (x_5 = 0) → Q 1))))))
set_option maxHeartbeats 4000000 in
set_option maxRecDepth 100000 in
theorem c_Rv_isFrozen_w (l : Launch) (dC : Nat → ClassId) (dI : Nat → Nat → Nat) (ct : Nat → ClassId) (L : List Nat) (f : TF) (hO_0 : Ok L f) (q0 : Nat) (m0 : q0 ∈ L ∧ tk f q0 = 1) (p_0 : Int32)   (Q : Int32 → Prop) (hQ : wp_Rv_isFrozen_w L f q0 p_0 Q) : Met l y_Rv_isFrozen (.code y_Rv_isFrozen b_Rv_isFrozen 2 (some .boolean) :: TB) ({ frames := 1, cells := 0, slots := 0, locals := 20 }) (va_Pc [.ref q0, .int p_0] (PR dC dI (TW ct L f) (TT ct))) (vp_Si (fun r => ((r = 0 ∧ True) ∨ (r = 1 ∧ True)) ∧ Q r)) 0 0 (fun _ => False) := by
  refine Met.ofW (cc := b_Rv_isFrozen) (maxL := 2) (ret := (some .boolean)) (by decide) rfl ?_
  intro p e s m args below meth c s₁ B hml hv
  obtain ⟨rfl, hP, hK, hN⟩ := hv
  have hx := B.exec
  have hb := B.bytes
  have hr := B.returns
  have hts := atoms_spec (ws := (.code y_Rv_isFrozen b_Rv_isFrozen 2 (some .boolean) :: TB)) B.pre
  have htb := fun w (h : w ∈ TB) => hts w (List.mem_cons_of_mem _ h)
  have hown : s.vm.findClass R_Rv = some m.cls := findClass_of_methodNamed B.named
  have hlocks := B.notSynchronized
  have hl := lv_entry ([.ref q0, .int p_0]) (n := 2) (Nat.le_of_ble_eq_true rfl)
  rw [lg_entry_eq]
  generalize (lg_sl ([.ref q0, .int p_0]) ++ List.replicate (2 - (lg_sl ([.ref q0, .int p_0])).length) Slot.unset).toArray = ls at hl ⊢
  have hl : lv_has ls 2 [(0, .ref q0), (1, .int p_0)] := hl
  unfold wp_Rv_isFrozen_w at hQ
  refine lv_iload_n hx hb d_Rv_isFrozen_0 rfl (lv_at hl 1 rfl) ?_
  refine vp_callSi (va_Run.run (va_runSN (As := [.int p_0]) (rest := []) ⟨hx, hb, hml, hown, htb⟩ (c_WM_isDay l p_0) ⟨va_cnB 1 htb (gd_I tw_126) rfl rfl rfl (hN.1 _ nw_5) (htb (.initialized R_WM) tw_26) (by decide +kernel) ⟨Nat.le_of_ble_eq_true rfl, Nat.le_of_ble_eq_true rfl⟩, (htb (.static y_WM_isDay) tw_128), trivial⟩ ⟨fun _ _ _ _ h => h, fun U _ _ => ⟨rfl, trivial⟩⟩ rfl rfl hl.1 rfl (lv_room (Nat.le_of_ble_eq_true rfl)) d_Rv_isFrozen_1 ⟨Nat.le_of_ble_eq_true rfl, Nat.le_of_ble_eq_true rfl⟩)) (fun r er => ?_)
  subst er
  by_cases c_2 : p_0 < 0
  · have hQ := hQ.1 c_2
    refine hb_ti 0 (by unfold f_WM_isDay; rw [if_pos c_2]; first | done | rfl) ?_
    refine lv_if_eq (tgt := 20) hx hb d_Rv_isFrozen_4 (by decide) (fun _ => ?_) (fun h => absurd (by decide +kernel) h)
    refine lv_iconst (v := 0) hx hb d_Rv_isFrozen_20 (by decide +kernel) ?_
    exact W.zret (v := 0) hx hb hr (by decide +kernel) (fun t ht hW => ⟨0, rfl, ⟨(Or.inl ⟨rfl, trivial⟩), hQ⟩, ht⟩) t_nil d_Rv_isFrozen_21
  · have hQ := hQ.2 c_2
    by_cases c_3 : 500 ≤ p_0
    · have hQ := hQ.1 c_3
      refine hb_ti 0 (by unfold f_WM_isDay; rw [if_neg c_2, if_pos c_3]; first | done | rfl) ?_
      refine lv_if_eq (tgt := 20) hx hb d_Rv_isFrozen_4 (by decide) (fun _ => ?_) (fun h => absurd (by decide +kernel) h)
      refine lv_iconst (v := 0) hx hb d_Rv_isFrozen_20 (by decide +kernel) ?_
      exact W.zret (v := 0) hx hb hr (by decide +kernel) (fun t ht hW => ⟨0, rfl, ⟨(Or.inl ⟨rfl, trivial⟩), hQ⟩, ht⟩) t_nil d_Rv_isFrozen_21
    · have hQ := hQ.2 c_3
      refine hb_ti 1 (by unfold f_WM_isDay; rw [if_neg c_2, if_neg c_3]; first | done | rfl) ?_
      refine lv_if_eq (tgt := 20) hx hb d_Rv_isFrozen_4 (by decide) (fun h => absurd h (by decide +kernel)) (fun _ => ?_)
      refine lv_aload_n hx hb d_Rv_isFrozen_7 rfl (lv_at hl 0 rfl) ?_
      refine tw_getr (D := (dC, dI)) (C := R_Rv) (T := F_Rv) (N := 6) (ci := 1) (kd := 1) (ct := ct) hx hb htb i_Rv hown hK hP hO_0 m0 rfl rfl 3 (by decide) (htb (.fieldLink R_Rv 23 "WaterMen$River" "frozen" "[Z") tw_167) (fun _ h9 => h9) rfl d_Rv_isFrozen_8 (fun q_4 e_4 m_4 => ?_)
      have hQ := hQ q_4 e_4
      refine lv_iload_n hx hb d_Rv_isFrozen_11 rfl (lv_at hl 1 rfl) ?_
      refine tw_aldZ (ct := ct) hx hb hK hP hO_0 m_4 rfl (hb_in c_2 c_3 (by decide +kernel)) d_Rv_isFrozen_12 (fun x_5 e_5 b_5 => ?_)
      have hQ := hQ x_5 e_5
      refine lv_if_eq (tgt := 20) hx hb d_Rv_isFrozen_13 (by decide) (fun c_6 => ?_) (fun c_6 => ?_)
      · have hQ := hQ.1 c_6
        refine lv_iconst (v := 0) hx hb d_Rv_isFrozen_20 (by decide +kernel) ?_
        exact W.zret (v := 0) hx hb hr (by decide +kernel) (fun t ht hW => ⟨0, rfl, ⟨(Or.inl ⟨rfl, trivial⟩), hQ⟩, ht⟩) t_nil d_Rv_isFrozen_21
      · have hQ := hQ.2 c_6
        refine lv_iconst (v := 1) hx hb d_Rv_isFrozen_16 (by decide +kernel) ?_
        refine lv_goto (tgt := 21) hx hb d_Rv_isFrozen_17 (by decide) ?_
        exact W.zret (v := 1) hx hb hr (by decide +kernel) (fun t ht hW => ⟨1, rfl, ⟨(Or.inr ⟨rfl, trivial⟩), hQ⟩, ht⟩) t_nil d_Rv_isFrozen_21
def W_WM_frost_w : List (Nat × Nat) := [(5, 1000)]
def wp_WM_frost_w (L : List Nat) (f : TF) (q0 : Nat) (p_0 : Int32) (p_1 : Int32) (Q : Int32 → List Nat → TF → Prop) : Prop := ((p_0 < 0 → Q (-1) L f) ∧ (¬ (p_0 < 0) → ((500 ≤ p_0 → Q (-1) L f) ∧ (¬ (500 ≤ p_0) → wp_WM_today_w L f q0 (fun (r_4 : Int32) => (((p_0 < r_4 → Q (-1) L f) ∧ (¬ (p_0 < r_4) → ((p_1 < 0 → Q (-1) L f) ∧ (¬ (p_1 < 0) → ((p_1 ≤ 1 → ∀ q_10 : Nat, tr f q0 0 = some q_10 → wp_Rv_isFrozen_w L f q_10 p_0 (fun (r_11 : Int32) => ((r_11 = 0 → ∀ q_12 : Nat, tr f q_10 3 = some q_12 → ((p_1 = 1 → ∀ f_1 : TF, f_1 = sI f q_12 (p_0 : Int32).toNatClampNeg (vp_nar .boolean 1) → Ok L f_1 → Q 0 L f_1) ∧ (¬ (p_1 = 1) → ∀ f_1 : TF, f_1 = sI f q_12 (p_0 : Int32).toNatClampNeg (vp_nar .boolean 0) → Ok L f_1 → Q 0 L f_1))) ∧ (r_11 = 1 → ∀ q_16 : Nat, tr f q_10 3 = some q_16 → ((p_1 = 1 → ∀ f_1 : TF, f_1 = sI f q_16 (p_0 : Int32).toNatClampNeg (vp_nar .boolean 1) → Ok L f_1 → Q 1 L f_1) ∧ (¬ (p_1 = 1) → ∀ f_1 : TF, f_1 = sI f q_16 (p_0 : Int32).toNatClampNeg (vp_nar .boolean 0) → Ok L f_1 → Q 1 L f_1)))))) ∧ (¬ (p_1 ≤ 1) → Q (-1) L f))))))))))))
set_option maxHeartbeats 4000000 in
set_option maxRecDepth 100000 in
theorem c_WM_frost_w (l : Launch) (dC : Nat → ClassId) (dI : Nat → Nat → Nat) (ct : Nat → ClassId) (L : List Nat) (f : TF) (hO_0 : Ok L f) (q0 : Nat) (m0 : q0 ∈ L ∧ tk f q0 = 0) (sz : Nat) (p_0 : Int32) (p_1 : Int32)   (Q : Int32 → List Nat → TF → Prop) (hQ : wp_WM_frost_w L f q0 p_0 p_1 Q) : Met l y_WM_frost (.code y_WM_frost b_WM_frost 4 (some .int) :: TB) ({ frames := 2, cells := 0, slots := 0, locals := 41 }) (va_Pc [.ref q0, .int p_0, .int p_1] (PC dC dI (TW ct L f) (TT ct) sz)) (va_Qi (fun r (u : TSt) => Ok u.1 u.2 ∧ Ext W_WM_frost_w L f u.1 u.2 ∧ (True) ∧ Q r u.1 u.2) (fun (u : TSt) t => va_P (dC, dI) vwCl (TW ct u.1 u.2) t.heap ∧ va_K (dC, dI) vwCl (TT ct) t ∧ va_D (va_A (TW ct L f) sz) (TW ct u.1 u.2)) (va_A (TW ct L f) sz)) 0 0 (va_A (TW ct L f) sz) := by
  refine Met.ofW (cc := b_WM_frost) (maxL := 4) (ret := (some .int)) (by decide) rfl ?_
  intro p e s m args below meth c s₁ B hml hv
  obtain ⟨rfl, hsz, hP, hK, hD0, hN⟩ := hv
  have hx := B.exec
  have hb := B.bytes
  have hr := B.returns
  have hts := atoms_spec (ws := (.code y_WM_frost b_WM_frost 4 (some .int) :: TB)) B.pre
  have htb := fun w (h : w ∈ TB) => hts w (List.mem_cons_of_mem _ h)
  have hown : s.vm.findClass R_WM = some m.cls := findClass_of_methodNamed B.named
  have hlocks := B.notSynchronized
  have hl := lv_entry ([.ref q0, .int p_0, .int p_1]) (n := 4) (Nat.le_of_ble_eq_true rfl)
  rw [lg_entry_eq]
  generalize (lg_sl ([.ref q0, .int p_0, .int p_1]) ++ List.replicate (4 - (lg_sl ([.ref q0, .int p_0, .int p_1])).length) Slot.unset).toArray = ls at hl ⊢
  have hl : lv_has ls 4 [(0, .ref q0), (1, .int p_0), (2, .int p_1)] := hl
  subst hsz
  have hD := hD0.self (sz := s.heap.size)
  obtain ⟨A, hAe⟩ : ∃ A, va_A (TW ct L f) s.heap.size = A := ⟨_, rfl⟩
  rw [hAe] at hD
  have hA : ∀ q : Nat, s.heap.size ≤ q → A q := fun q h => by rw [← hAe]; exact Or.inr h
  have hS : va_S A s.heap s.heap [] := va_S.rf
  have hA_0 : Ext [] L f L f := Ext.rf
  suffices hGo : ∀ (H : Heap) (locs : List Loc), va_P (dC, dI) vwCl (TW ct L f) H → va_S A s.heap H locs → W p l e (headSpec (.code y_WM_frost b_WM_frost 4 (some .int) :: TB) ({ frames := 2, cells := 0, slots := 0, locals := 41 })).room s m [.ref q0, .int p_0, .int p_1].toArray below meth c H locs 0 0 (MQ below (va_Qi (fun r (u : TSt) => Ok u.1 u.2 ∧ Ext W_WM_frost_w L f u.1 u.2 ∧ (True) ∧ Q r u.1 u.2) (fun (u : TSt) t => va_P (dC, dI) vwCl (TW ct u.1 u.2) t.heap ∧ va_K (dC, dI) vwCl (TT ct) t ∧ va_D (va_A (TW ct L f) s.heap.size) (TW ct u.1 u.2)) (va_A (TW ct L f) s.heap.size)) [.ref q0, .int p_0, .int p_1].toArray s 0 0 (va_A (TW ct L f) s.heap.size)) (F0 m 0 ls []) from hGo _ _ hP hS
  clear hP hS
  intro H locs hP hS
  unfold wp_WM_frost_w at hQ
  refine lv_iload_n hx hb d_WM_frost_0 rfl (lv_at hl 1 rfl) ?_
  refine vp_callSi (va_Run.run (va_runS (As := [.int p_0]) (rest := []) ⟨hx, hb, hml, hown, htb⟩ (c_WM_isDay l p_0) (cwS 1 htb (gd_S tw_127 tw_128 tw_26 tw_126) rfl rfl rfl (by decide +kernel) ⟨Nat.le_of_ble_eq_true rfl, Nat.le_of_ble_eq_true rfl⟩) ⟨fun _ _ _ _ h => h, fun U _ _ => ⟨rfl, trivial⟩⟩ rfl rfl hl.1 rfl (lv_room (Nat.le_of_ble_eq_true rfl)) d_WM_frost_1 ⟨Nat.le_of_ble_eq_true rfl, Nat.le_of_ble_eq_true rfl⟩)) (fun r er => ?_)
  subst er
  by_cases c_2 : p_0 < 0
  · have hQ := hQ.1 c_2
    refine hb_ti 0 (by unfold f_WM_isDay; rw [if_pos c_2]; first | done | rfl) ?_
    refine lv_if_eq (tgt := 24) hx hb d_WM_frost_4 (by decide) (fun _ => ?_) (fun h => absurd (by decide +kernel) h)
    refine lv_iconst (v := (-1)) hx hb d_WM_frost_24 (by decide +kernel) ?_
    refine W.widen (k := 0) (n := 0) (Nat.le_of_ble_eq_true rfl) (Nat.le_of_ble_eq_true rfl) ?_
    exact W.iret (v := (-1)) hx hb hr (fun t ht hW => ⟨⟨(-1), (L, f), rfl, ⟨hO_0, hA_0.mono (by decide +kernel), trivial, hQ⟩, by rw [ht]; exact hP, va_K.moved hW.alike hK, by rw [hAe]; exact hD⟩, by rw [hAe]; exact hS.F ht⟩) (by rw [hAe]; exact hS.2.2) d_WM_frost_25
  · have hQ := hQ.2 c_2
    by_cases c_3 : 500 ≤ p_0
    · have hQ := hQ.1 c_3
      refine hb_ti 0 (by unfold f_WM_isDay; rw [if_neg c_2, if_pos c_3]; first | done | rfl) ?_
      refine lv_if_eq (tgt := 24) hx hb d_WM_frost_4 (by decide) (fun _ => ?_) (fun h => absurd (by decide +kernel) h)
      refine lv_iconst (v := (-1)) hx hb d_WM_frost_24 (by decide +kernel) ?_
      refine W.widen (k := 0) (n := 0) (Nat.le_of_ble_eq_true rfl) (Nat.le_of_ble_eq_true rfl) ?_
      exact W.iret (v := (-1)) hx hb hr (fun t ht hW => ⟨⟨(-1), (L, f), rfl, ⟨hO_0, hA_0.mono (by decide +kernel), trivial, hQ⟩, by rw [ht]; exact hP, va_K.moved hW.alike hK, by rw [hAe]; exact hD⟩, by rw [hAe]; exact hS.F ht⟩) (by rw [hAe]; exact hS.2.2) d_WM_frost_25
    · have hQ := hQ.2 c_3
      refine hb_ti 1 (by unfold f_WM_isDay; rw [if_neg c_2, if_neg c_3]; first | done | rfl) ?_
      refine lv_if_eq (tgt := 24) hx hb d_WM_frost_4 (by decide) (fun h => absurd h (by decide +kernel)) (fun _ => ?_)
      refine lv_iload_n hx hb d_WM_frost_7 rfl (lv_at hl 1 rfl) ?_
      refine lv_aload_n hx hb d_WM_frost_8 rfl (lv_at hl 0 rfl) ?_
      refine vp_callSi (va_Run.run (va_runV (As := []) (rest := [.int p_0]) ⟨hx, hb, hml, hown, htb⟩ (c_WM_today_w l dC dI ct L f hO_0 q0 m0 _ hQ) (cwV 0 htb (gd_V tw_50 tw_51 tw_52 tw_26 tw_49) rfl rfl rfl (by decide +kernel) ⟨Nat.le_of_ble_eq_true rfl, Nat.le_of_ble_eq_true rfl⟩) ⟨pr_blind, tw_recv hK hP m0 rfl rfl, pr_pre hP hK hN⟩ rfl rfl hl.1 rfl (lv_room (Nat.le_of_ble_eq_true rfl)) d_WM_frost_9 ⟨Nat.le_of_ble_eq_true rfl, Nat.le_of_ble_eq_true rfl⟩)) (fun r_4 er_4 => ?_)
      obtain ⟨er_4, hQ⟩ := er_4
      obtain ⟨po_5, po_6, -⟩ := er_4
      refine lv_icmp_lt (tgt := 24) hx hb d_WM_frost_12 (by decide) (fun c_7 => ?_) (fun c_7 => ?_)
      · have hQ := hQ.1 c_7
        refine lv_iconst (v := (-1)) hx hb d_WM_frost_24 (by decide +kernel) ?_
        refine W.widen (k := 0) (n := 0) (Nat.le_of_ble_eq_true rfl) (Nat.le_of_ble_eq_true rfl) ?_
        exact W.iret (v := (-1)) hx hb hr (fun t ht hW => ⟨⟨(-1), (L, f), rfl, ⟨hO_0, hA_0.mono (by decide +kernel), trivial, hQ⟩, by rw [ht]; exact hP, va_K.moved hW.alike hK, by rw [hAe]; exact hD⟩, by rw [hAe]; exact hS.F ht⟩) (by rw [hAe]; exact hS.2.2) d_WM_frost_25
      · have hQ := hQ.2 c_7
        refine lv_iload_n hx hb d_WM_frost_15 rfl (lv_at hl 2 rfl) ?_
        refine lv_if_lt (tgt := 24) hx hb d_WM_frost_16 (by decide) (fun c_8 => ?_) (fun c_8 => ?_)
        · have hQ := hQ.1 c_8
          refine lv_iconst (v := (-1)) hx hb d_WM_frost_24 (by decide +kernel) ?_
          refine W.widen (k := 0) (n := 0) (Nat.le_of_ble_eq_true rfl) (Nat.le_of_ble_eq_true rfl) ?_
          exact W.iret (v := (-1)) hx hb hr (fun t ht hW => ⟨⟨(-1), (L, f), rfl, ⟨hO_0, hA_0.mono (by decide +kernel), trivial, hQ⟩, by rw [ht]; exact hP, va_K.moved hW.alike hK, by rw [hAe]; exact hD⟩, by rw [hAe]; exact hS.F ht⟩) (by rw [hAe]; exact hS.2.2) d_WM_frost_25
        · have hQ := hQ.2 c_8
          refine lv_iload_n hx hb d_WM_frost_19 rfl (lv_at hl 2 rfl) ?_
          refine lv_iconst (v := 1) hx hb d_WM_frost_20 (by decide +kernel) ?_
          refine lv_icmp_le (tgt := 26) hx hb d_WM_frost_21 (by decide) (fun c_9 => ?_) (fun c_9 => ?_)
          · have hQ := hQ.1 c_9
            refine lv_aload_n hx hb d_WM_frost_26 rfl (lv_at hl 0 rfl) ?_
            refine tw_getr (D := (dC, dI)) (C := R_WM) (T := F_WM) (N := 13) (ci := 0) (kd := 0) (ct := ct) hx hb htb i_WM hown hK hP hO_0 m0 rfl rfl 0 (by decide) (htb (.fieldLink R_WM 12 "WaterMen" "river" "LWaterMen$River;") tw_135) (fun _ h9 => h9) rfl d_WM_frost_27 (fun q_10 e_10 m_10 => ?_)
            have hQ := hQ q_10 e_10
            refine lv_iload_n hx hb d_WM_frost_30 rfl (lv_at hl 1 rfl) ?_
            refine vp_callSi (va_Run.run (va_runV (As := [.int p_0]) (rest := []) ⟨hx, hb, hml, hown, htb⟩ (c_Rv_isFrozen_w l dC dI ct L f hO_0 q_10 m_10 p_0 _ hQ) (cwV 1 htb (gd_V tw_169 tw_170 tw_171 tw_140 tw_168) rfl rfl rfl (by decide +kernel) ⟨Nat.le_of_ble_eq_true rfl, Nat.le_of_ble_eq_true rfl⟩) ⟨pr_blind, tw_recv hK hP m_10 rfl rfl, pr_pre hP hK hN⟩ rfl rfl hl.1 rfl (lv_room (Nat.le_of_ble_eq_true rfl)) d_WM_frost_31 ⟨Nat.le_of_ble_eq_true rfl, Nat.le_of_ble_eq_true rfl⟩)) (fun r_11 er_11 => ?_)
            obtain ⟨er_11, hQ⟩ := er_11
            rcases er_11 with ⟨rfl, -⟩ | ⟨rfl, -⟩
            · have hQ := hQ.1 rfl
              refine lv_if_eq (tgt := 41) hx hb d_WM_frost_34 (by decide) (fun _ => ?_) (fun h => absurd (by decide +kernel) h)
              refine lv_iconst (v := 0) hx hb d_WM_frost_41 (by decide +kernel) ?_
              refine lv_istore_n (lv' := [(3, .int 0), (0, .ref q0), (1, .int p_0), (2, .int p_1)]) hx hb d_WM_frost_42 rfl hl (by decide) rfl (fun ls hl => ?_)
              refine lv_aload_n hx hb d_WM_frost_43 rfl (lv_at hl 1 rfl) ?_
              refine tw_getR (D := (dC, dI)) (C := R_WM) (T := F_WM) (N := 13) (ci := 0) (kd := 0) (ct := ct) hx hb htb i_WM hown hK hP m0 rfl rfl 0 e_10 (by decide) (htb (.fieldLink R_WM 12 "WaterMen" "river" "LWaterMen$River;") tw_135) (fun _ h9 => h9) rfl d_WM_frost_44 ?_
              refine hb_tv (.ref q_10) rfl ?_
              refine tw_getr (D := (dC, dI)) (C := R_Rv) (T := F_Rv) (N := 6) (ci := 1) (kd := 1) (ct := ct) hx hb htb i_Rv hown hK hP hO_0 m_10 rfl rfl 3 (by decide) (htb (.fieldLink R_WM 103 "WaterMen$River" "frozen" "[Z") tw_172) (fun _ h9 => h9) rfl d_WM_frost_47 (fun q_12 e_12 m_12 => ?_)
              have hQ := hQ q_12 e_12
              refine lv_iload_n hx hb d_WM_frost_50 rfl (lv_at hl 2 rfl) ?_
              refine lv_iload_n hx hb d_WM_frost_51 rfl (lv_at hl 3 rfl) ?_
              refine lv_iconst (v := 1) hx hb d_WM_frost_52 (by decide +kernel) ?_
              refine lv_icmp_ne (tgt := 60) hx hb d_WM_frost_53 (by decide) (fun c_13 => ?_) (fun c_13 => ?_)
              · have hQ := hQ.2 c_13
                refine lv_iconst (v := 0) hx hb d_WM_frost_60 (by decide +kernel) ?_
                refine tw_astZ (ct := ct) (x := 0) hx hb hK hP hD hS hO_0 m_12 rfl (hb_in c_2 c_3 (by decide +kernel)) ⟨by decide +kernel, by decide +kernel⟩ d_WM_frost_61 (fun f_1 H locs hP hD hS hO_1 hE_1 w_14 ow_14 hF_1 => ?_)
                have hA_1 := hA_0.trans hE_1
                have hQ := hQ f_1 hF_1
                have hQ := hQ hO_1
                refine lv_iload_n hx hb d_WM_frost_62 rfl (lv_at hl 0 rfl) ?_
                refine W.widen (k := 0) (n := 0) (Nat.le_of_ble_eq_true rfl) (Nat.le_of_ble_eq_true rfl) ?_
                exact W.iret (v := 0) hx hb hr (fun t ht hW => ⟨⟨0, (L, f_1), rfl, ⟨hO_1, hA_1.mono (by decide +kernel), trivial, hQ⟩, by rw [ht]; exact hP, va_K.moved hW.alike hK, by rw [hAe]; exact hD⟩, by rw [hAe]; exact hS.F ht⟩) (by rw [hAe]; exact hS.2.2) d_WM_frost_63
              · have hQ := hQ.1 c_13
                refine lv_iconst (v := 1) hx hb d_WM_frost_56 (by decide +kernel) ?_
                refine lv_goto (tgt := 61) hx hb d_WM_frost_57 (by decide) ?_
                refine tw_astZ (ct := ct) (x := 1) hx hb hK hP hD hS hO_0 m_12 rfl (hb_in c_2 c_3 (by decide +kernel)) ⟨by decide +kernel, by decide +kernel⟩ d_WM_frost_61 (fun f_1 H locs hP hD hS hO_1 hE_1 w_15 ow_15 hF_1 => ?_)
                have hA_1 := hA_0.trans hE_1
                have hQ := hQ f_1 hF_1
                have hQ := hQ hO_1
                refine lv_iload_n hx hb d_WM_frost_62 rfl (lv_at hl 0 rfl) ?_
                refine W.widen (k := 0) (n := 0) (Nat.le_of_ble_eq_true rfl) (Nat.le_of_ble_eq_true rfl) ?_
                exact W.iret (v := 0) hx hb hr (fun t ht hW => ⟨⟨0, (L, f_1), rfl, ⟨hO_1, hA_1.mono (by decide +kernel), trivial, hQ⟩, by rw [ht]; exact hP, va_K.moved hW.alike hK, by rw [hAe]; exact hD⟩, by rw [hAe]; exact hS.F ht⟩) (by rw [hAe]; exact hS.2.2) d_WM_frost_63
            · have hQ := hQ.2 rfl
              refine lv_if_eq (tgt := 41) hx hb d_WM_frost_34 (by decide) (fun h => absurd h (by decide +kernel)) (fun _ => ?_)
              refine lv_iconst (v := 1) hx hb d_WM_frost_37 (by decide +kernel) ?_
              refine lv_goto (tgt := 42) hx hb d_WM_frost_38 (by decide) ?_
              refine lv_istore_n (lv' := [(3, .int 1), (0, .ref q0), (1, .int p_0), (2, .int p_1)]) hx hb d_WM_frost_42 rfl hl (by decide) rfl (fun ls hl => ?_)
              refine lv_aload_n hx hb d_WM_frost_43 rfl (lv_at hl 1 rfl) ?_
              refine tw_getR (D := (dC, dI)) (C := R_WM) (T := F_WM) (N := 13) (ci := 0) (kd := 0) (ct := ct) hx hb htb i_WM hown hK hP m0 rfl rfl 0 e_10 (by decide) (htb (.fieldLink R_WM 12 "WaterMen" "river" "LWaterMen$River;") tw_135) (fun _ h9 => h9) rfl d_WM_frost_44 ?_
              refine hb_tv (.ref q_10) rfl ?_
              refine tw_getr (D := (dC, dI)) (C := R_Rv) (T := F_Rv) (N := 6) (ci := 1) (kd := 1) (ct := ct) hx hb htb i_Rv hown hK hP hO_0 m_10 rfl rfl 3 (by decide) (htb (.fieldLink R_WM 103 "WaterMen$River" "frozen" "[Z") tw_172) (fun _ h9 => h9) rfl d_WM_frost_47 (fun q_16 e_16 m_16 => ?_)
              have hQ := hQ q_16 e_16
              refine lv_iload_n hx hb d_WM_frost_50 rfl (lv_at hl 2 rfl) ?_
              refine lv_iload_n hx hb d_WM_frost_51 rfl (lv_at hl 3 rfl) ?_
              refine lv_iconst (v := 1) hx hb d_WM_frost_52 (by decide +kernel) ?_
              refine lv_icmp_ne (tgt := 60) hx hb d_WM_frost_53 (by decide) (fun c_17 => ?_) (fun c_17 => ?_)
              · have hQ := hQ.2 c_17
                refine lv_iconst (v := 0) hx hb d_WM_frost_60 (by decide +kernel) ?_
                refine tw_astZ (ct := ct) (x := 0) hx hb hK hP hD hS hO_0 m_16 rfl (hb_in c_2 c_3 (by decide +kernel)) ⟨by decide +kernel, by decide +kernel⟩ d_WM_frost_61 (fun f_1 H locs hP hD hS hO_1 hE_1 w_18 ow_18 hF_1 => ?_)
                have hA_1 := hA_0.trans hE_1
                have hQ := hQ f_1 hF_1
                have hQ := hQ hO_1
                refine lv_iload_n hx hb d_WM_frost_62 rfl (lv_at hl 0 rfl) ?_
                refine W.widen (k := 0) (n := 0) (Nat.le_of_ble_eq_true rfl) (Nat.le_of_ble_eq_true rfl) ?_
                exact W.iret (v := 1) hx hb hr (fun t ht hW => ⟨⟨1, (L, f_1), rfl, ⟨hO_1, hA_1.mono (by decide +kernel), trivial, hQ⟩, by rw [ht]; exact hP, va_K.moved hW.alike hK, by rw [hAe]; exact hD⟩, by rw [hAe]; exact hS.F ht⟩) (by rw [hAe]; exact hS.2.2) d_WM_frost_63
              · have hQ := hQ.1 c_17
                refine lv_iconst (v := 1) hx hb d_WM_frost_56 (by decide +kernel) ?_
                refine lv_goto (tgt := 61) hx hb d_WM_frost_57 (by decide) ?_
                refine tw_astZ (ct := ct) (x := 1) hx hb hK hP hD hS hO_0 m_16 rfl (hb_in c_2 c_3 (by decide +kernel)) ⟨by decide +kernel, by decide +kernel⟩ d_WM_frost_61 (fun f_1 H locs hP hD hS hO_1 hE_1 w_19 ow_19 hF_1 => ?_)
                have hA_1 := hA_0.trans hE_1
                have hQ := hQ f_1 hF_1
                have hQ := hQ hO_1
                refine lv_iload_n hx hb d_WM_frost_62 rfl (lv_at hl 0 rfl) ?_
                refine W.widen (k := 0) (n := 0) (Nat.le_of_ble_eq_true rfl) (Nat.le_of_ble_eq_true rfl) ?_
                exact W.iret (v := 1) hx hb hr (fun t ht hW => ⟨⟨1, (L, f_1), rfl, ⟨hO_1, hA_1.mono (by decide +kernel), trivial, hQ⟩, by rw [ht]; exact hP, va_K.moved hW.alike hK, by rw [hAe]; exact hD⟩, by rw [hAe]; exact hS.F ht⟩) (by rw [hAe]; exact hS.2.2) d_WM_frost_63
          · have hQ := hQ.2 c_9
            refine lv_iconst (v := (-1)) hx hb d_WM_frost_24 (by decide +kernel) ?_
            refine W.widen (k := 0) (n := 0) (Nat.le_of_ble_eq_true rfl) (Nat.le_of_ble_eq_true rfl) ?_
            exact W.iret (v := (-1)) hx hb hr (fun t ht hW => ⟨⟨(-1), (L, f), rfl, ⟨hO_0, hA_0.mono (by decide +kernel), trivial, hQ⟩, by rw [ht]; exact hP, va_K.moved hW.alike hK, by rw [hAe]; exact hD⟩, by rw [hAe]; exact hS.F ht⟩) (by rw [hAe]; exact hS.2.2) d_WM_frost_25
def wp_Md_today_w (L : List Nat) (f : TF) (q0 : Nat) (Q : Int32 → Prop) : Prop := ∀ y_2 : Int32, y_2 = (ti f q0 1) / 720 → Q y_2
set_option maxHeartbeats 4000000 in
set_option maxRecDepth 100000 in
theorem c_Md_today_w (l : Launch) (dC : Nat → ClassId) (dI : Nat → Nat → Nat) (ct : Nat → ClassId) (L : List Nat) (f : TF) (hO_0 : Ok L f) (q0 : Nat) (m0 : q0 ∈ L ∧ tk f q0 = 27)    (Q : Int32 → Prop) (hQ : wp_Md_today_w L f q0 Q) : Met l y_Md_today (.code y_Md_today b_Md_today 1 (some .int) :: TB) ({ frames := 0, cells := 0, slots := 0, locals := 0 }) (va_Pc [.ref q0] (PR dC dI (TW ct L f) (TT ct))) (vp_Si (fun r => ((¬ (r < 0) ∧ ¬ (499 < r) ∧ ¬ ((ti f q0 1) < (r * 720)) ∧ ¬ (((r * 720) + 719) < (ti f q0 1)) ∧ True)) ∧ Q r)) 0 0 (fun _ => False) := by
  refine Met.ofW (cc := b_Md_today) (maxL := 1) (ret := (some .int)) (by decide) rfl ?_
  intro p e s m args below meth c s₁ B hml hv
  obtain ⟨rfl, hP, hK, hN⟩ := hv
  have hx := B.exec
  have hb := B.bytes
  have hr := B.returns
  have hts := atoms_spec (ws := (.code y_Md_today b_Md_today 1 (some .int) :: TB)) B.pre
  have htb := fun w (h : w ∈ TB) => hts w (List.mem_cons_of_mem _ h)
  have hown : s.vm.findClass R_Md = some m.cls := findClass_of_methodNamed B.named
  have hlocks := B.notSynchronized
  have hl := lv_entry ([.ref q0]) (n := 1) (Nat.le_of_ble_eq_true rfl)
  rw [lg_entry_eq]
  generalize (lg_sl ([.ref q0]) ++ List.replicate (1 - (lg_sl ([.ref q0])).length) Slot.unset).toArray = ls at hl ⊢
  have hl : lv_has ls 1 [(0, .ref q0)] := hl
  unfold wp_Md_today_w at hQ
  have bs_1 := hO_0.i m0 (show slotD 27 1 = some (.inl (0, 359999)) from rfl)
  refine lv_aload_n hx hb d_Md_today_0 rfl (lv_at hl 0 rfl) ?_
  refine tw_getI (x := (ti f q0 1)) (D := (dC, dI)) (C := R_Md) (T := F_Md) (N := 64) (ci := 7) (kd := 27) (ct := ct) hx hb htb i_Md hown hK hP m0 rfl rfl 1 rfl (by decide) (htb (.fieldLink R_Md 7 "WaterMenModel" "time" "I") tw_111) (fun _ h9 => h9) rfl d_Md_today_1 ?_
  refine lv_sipush (v := 720) hx hb d_Md_today_4 (by decide +kernel) ?_
  refine lv_idiv hx hb d_Md_today_7 (by decide) ?_
  refine hb_divn (U := 359999) (Qm := 499) (c := 720) (C1 := 719) (K := 2147482927) (by decide +kernel) (by decide +kernel) (by decide +kernel) bs_1.1 (show ¬ (2147482927 < (ti f q0 1)) from ((fun (a_0 : Int32) (k_0 : ¬ (359999 < a_0)) => (show ¬ (2147482927 < a_0) from by have z0 : (359999 : Int32).toInt = 359999 := (by decide +kernel); have z1 : (2147482927 : Int32).toInt = 2147482927 := (by decide +kernel); have r0 := fb_rng (a_0); have e0 := k_0; rw [Int32.lt_iff_toInt_lt, z0] at e0; rw [Int32.lt_iff_toInt_lt, z1]; omega)) (ti f q0 1) bs_1.2)) bs_1.2 (by decide +kernel) (fun y_2 g1_2 g2_2 g3_2 g4_2 g5_2 g9_2 => ?_)
  have hQ := hQ y_2 g9_2
  exact W.iret (v := y_2) hx hb hr (fun t ht hW => ⟨y_2, rfl, ⟨⟨g1_2, g5_2, g3_2, g4_2, trivial⟩, hQ⟩, ht⟩) t_nil d_Md_today_8
def W_Md_frost_w : List (Nat × Nat) := [(32, 1000)]
def wp_Md_frost_w (L : List Nat) (f : TF) (q0 : Nat) (p_0 : Int32) (p_1 : Int32) (Q : Int32 → List Nat → TF → Prop) : Prop := wp_Md_today_w L f q0 (fun (r_1 : Int32) => (((p_0 < r_1 → Q (-1) L f) ∧ (¬ (p_0 < r_1) → ((499 < p_0 → Q (-1) L f) ∧ (¬ (499 < p_0) → ((p_1 < 0 → Q (-1) L f) ∧ (¬ (p_1 < 0) → ((1 < p_1 → Q (-1) L f) ∧ (¬ (1 < p_1) → ∀ q_12 : Nat, tr f q0 8 = some q_12 → ∀ x_13 : Int32, ti f q_12 (p_0 : Int32).toNatClampNeg = x_13 → ((x_13 = 0 → ((p_1 = 1 → ∀ f_1 : TF, f_1 = sI f q_12 (p_0 : Int32).toNatClampNeg (vp_nar .boolean 1) → Ok L f_1 → Q 0 L f_1) ∧ (¬ (p_1 = 1) → ∀ f_1 : TF, f_1 = sI f q_12 (p_0 : Int32).toNatClampNeg (vp_nar .boolean 0) → Ok L f_1 → Q 0 L f_1))) ∧ (¬ (x_13 = 0) → ((p_1 = 1 → ∀ f_1 : TF, f_1 = sI f q_12 (p_0 : Int32).toNatClampNeg (vp_nar .boolean 1) → Ok L f_1 → Q 1 L f_1) ∧ (¬ (p_1 = 1) → ∀ f_1 : TF, f_1 = sI f q_12 (p_0 : Int32).toNatClampNeg (vp_nar .boolean 0) → Ok L f_1 → Q 1 L f_1))))))))))))))
set_option maxHeartbeats 4000000 in
set_option maxRecDepth 100000 in
theorem c_Md_frost_w (l : Launch) (dC : Nat → ClassId) (dI : Nat → Nat → Nat) (ct : Nat → ClassId) (L : List Nat) (f : TF) (hO_0 : Ok L f) (q0 : Nat) (m0 : q0 ∈ L ∧ tk f q0 = 27) (sz : Nat) (p_0 : Int32) (p_1 : Int32)   (Q : Int32 → List Nat → TF → Prop) (hQ : wp_Md_frost_w L f q0 p_0 p_1 Q) : Met l y_Md_frost (.code y_Md_frost b_Md_frost 4 (some .int) :: TB) ({ frames := 1, cells := 0, slots := 0, locals := 22 }) (va_Pc [.ref q0, .int p_0, .int p_1] (PC dC dI (TW ct L f) (TT ct) sz)) (va_Qi (fun r (u : TSt) => Ok u.1 u.2 ∧ Ext W_Md_frost_w L f u.1 u.2 ∧ (True) ∧ Q r u.1 u.2) (fun (u : TSt) t => va_P (dC, dI) vwCl (TW ct u.1 u.2) t.heap ∧ va_K (dC, dI) vwCl (TT ct) t ∧ va_D (va_A (TW ct L f) sz) (TW ct u.1 u.2)) (va_A (TW ct L f) sz)) 0 0 (va_A (TW ct L f) sz) := by
  refine Met.ofW (cc := b_Md_frost) (maxL := 4) (ret := (some .int)) (by decide) rfl ?_
  intro p e s m args below meth c s₁ B hml hv
  obtain ⟨rfl, hsz, hP, hK, hD0, hN⟩ := hv
  have hx := B.exec
  have hb := B.bytes
  have hr := B.returns
  have hts := atoms_spec (ws := (.code y_Md_frost b_Md_frost 4 (some .int) :: TB)) B.pre
  have htb := fun w (h : w ∈ TB) => hts w (List.mem_cons_of_mem _ h)
  have hown : s.vm.findClass R_Md = some m.cls := findClass_of_methodNamed B.named
  have hlocks := B.notSynchronized
  have hl := lv_entry ([.ref q0, .int p_0, .int p_1]) (n := 4) (Nat.le_of_ble_eq_true rfl)
  rw [lg_entry_eq]
  generalize (lg_sl ([.ref q0, .int p_0, .int p_1]) ++ List.replicate (4 - (lg_sl ([.ref q0, .int p_0, .int p_1])).length) Slot.unset).toArray = ls at hl ⊢
  have hl : lv_has ls 4 [(0, .ref q0), (1, .int p_0), (2, .int p_1)] := hl
  subst hsz
  have hD := hD0.self (sz := s.heap.size)
  obtain ⟨A, hAe⟩ : ∃ A, va_A (TW ct L f) s.heap.size = A := ⟨_, rfl⟩
  rw [hAe] at hD
  have hA : ∀ q : Nat, s.heap.size ≤ q → A q := fun q h => by rw [← hAe]; exact Or.inr h
  have hS : va_S A s.heap s.heap [] := va_S.rf
  have hA_0 : Ext [] L f L f := Ext.rf
  suffices hGo : ∀ (H : Heap) (locs : List Loc), va_P (dC, dI) vwCl (TW ct L f) H → va_S A s.heap H locs → W p l e (headSpec (.code y_Md_frost b_Md_frost 4 (some .int) :: TB) ({ frames := 1, cells := 0, slots := 0, locals := 22 })).room s m [.ref q0, .int p_0, .int p_1].toArray below meth c H locs 0 0 (MQ below (va_Qi (fun r (u : TSt) => Ok u.1 u.2 ∧ Ext W_Md_frost_w L f u.1 u.2 ∧ (True) ∧ Q r u.1 u.2) (fun (u : TSt) t => va_P (dC, dI) vwCl (TW ct u.1 u.2) t.heap ∧ va_K (dC, dI) vwCl (TT ct) t ∧ va_D (va_A (TW ct L f) s.heap.size) (TW ct u.1 u.2)) (va_A (TW ct L f) s.heap.size)) [.ref q0, .int p_0, .int p_1].toArray s 0 0 (va_A (TW ct L f) s.heap.size)) (F0 m 0 ls []) from hGo _ _ hP hS
  clear hP hS
  intro H locs hP hS
  unfold wp_Md_frost_w at hQ
  refine lv_iload_n hx hb d_Md_frost_0 rfl (lv_at hl 1 rfl) ?_
  refine lv_aload_n hx hb d_Md_frost_1 rfl (lv_at hl 0 rfl) ?_
  refine vp_callSi (va_Run.run (va_runV (As := []) (rest := [.int p_0]) ⟨hx, hb, hml, hown, htb⟩ (c_Md_today_w l dC dI ct L f hO_0 q0 m0 _ hQ) (cwV 0 htb (gd_V tw_113 tw_114 tw_115 tw_89 tw_112) rfl rfl rfl (by decide +kernel) ⟨Nat.le_of_ble_eq_true rfl, Nat.le_of_ble_eq_true rfl⟩) ⟨pr_blind, tw_recv hK hP m0 rfl rfl, pr_pre hP hK hN⟩ rfl rfl hl.1 rfl (lv_room (Nat.le_of_ble_eq_true rfl)) d_Md_frost_2 ⟨Nat.le_of_ble_eq_true rfl, Nat.le_of_ble_eq_true rfl⟩)) (fun r_1 er_1 => ?_)
  obtain ⟨er_1, hQ⟩ := er_1
  obtain ⟨po_2, po_3, po_4, po_5, -⟩ := er_1
  refine lv_sipush (v := 499) hx hb d_Md_frost_5 (by decide +kernel) ?_
  refine vp_callSi (va_Run.run (va_runS (As := [.int p_0, .int r_1, .int 499]) (rest := []) ⟨hx, hb, hml, hown, htb⟩ (c_Md_in l p_0 r_1 499) (cwS 3 htb (gd_S tw_90 tw_91 tw_89 tw_88) rfl rfl rfl (by decide +kernel) ⟨Nat.le_of_ble_eq_true rfl, Nat.le_of_ble_eq_true rfl⟩) ⟨fun _ _ _ _ h => h, fun U _ _ => ⟨rfl, trivial⟩⟩ rfl rfl hl.1 rfl (lv_room (Nat.le_of_ble_eq_true rfl)) d_Md_frost_8 ⟨Nat.le_of_ble_eq_true rfl, Nat.le_of_ble_eq_true rfl⟩)) (fun r er => ?_)
  subst er
  by_cases c_7 : p_0 < r_1
  · have hQ := hQ.1 c_7
    refine hb_ti 0 (by unfold f_Md_in; rw [if_pos c_7]; first | done | rfl) ?_
    refine lv_if_eq (tgt := 23) hx hb d_Md_frost_11 (by decide) (fun _ => ?_) (fun h => absurd (by decide +kernel) h)
    refine lv_iconst (v := (-1)) hx hb d_Md_frost_23 (by decide +kernel) ?_
    refine W.widen (k := 0) (n := 0) (Nat.le_of_ble_eq_true rfl) (Nat.le_of_ble_eq_true rfl) ?_
    exact W.iret (v := (-1)) hx hb hr (fun t ht hW => ⟨⟨(-1), (L, f), rfl, ⟨hO_0, hA_0.mono (by decide +kernel), trivial, hQ⟩, by rw [ht]; exact hP, va_K.moved hW.alike hK, by rw [hAe]; exact hD⟩, by rw [hAe]; exact hS.F ht⟩) (by rw [hAe]; exact hS.2.2) d_Md_frost_24
  · have hQ := hQ.2 c_7
    by_cases c_8 : 499 < p_0
    · have hQ := hQ.1 c_8
      refine hb_ti 0 (by unfold f_Md_in; rw [if_neg c_7, if_pos c_8]; first | done | rfl) ?_
      refine lv_if_eq (tgt := 23) hx hb d_Md_frost_11 (by decide) (fun _ => ?_) (fun h => absurd (by decide +kernel) h)
      refine lv_iconst (v := (-1)) hx hb d_Md_frost_23 (by decide +kernel) ?_
      refine W.widen (k := 0) (n := 0) (Nat.le_of_ble_eq_true rfl) (Nat.le_of_ble_eq_true rfl) ?_
      exact W.iret (v := (-1)) hx hb hr (fun t ht hW => ⟨⟨(-1), (L, f), rfl, ⟨hO_0, hA_0.mono (by decide +kernel), trivial, hQ⟩, by rw [ht]; exact hP, va_K.moved hW.alike hK, by rw [hAe]; exact hD⟩, by rw [hAe]; exact hS.F ht⟩) (by rw [hAe]; exact hS.2.2) d_Md_frost_24
    · have hQ := hQ.2 c_8
      refine hb_ti 1 (by unfold f_Md_in; rw [if_neg c_7, if_neg c_8]; first | done | rfl) ?_
      refine lv_if_eq (tgt := 23) hx hb d_Md_frost_11 (by decide) (fun h => absurd h (by decide +kernel)) (fun _ => ?_)
      refine lv_iload_n hx hb d_Md_frost_14 rfl (lv_at hl 2 rfl) ?_
      refine lv_iconst (v := 0) hx hb d_Md_frost_15 (by decide +kernel) ?_
      refine lv_iconst (v := 1) hx hb d_Md_frost_16 (by decide +kernel) ?_
      refine vp_callSi (va_Run.run (va_runS (As := [.int p_1, .int 0, .int 1]) (rest := []) ⟨hx, hb, hml, hown, htb⟩ (c_Md_in l p_1 0 1) (cwS 3 htb (gd_S tw_90 tw_91 tw_89 tw_88) rfl rfl rfl (by decide +kernel) ⟨Nat.le_of_ble_eq_true rfl, Nat.le_of_ble_eq_true rfl⟩) ⟨fun _ _ _ _ h => h, fun U _ _ => ⟨rfl, trivial⟩⟩ rfl rfl hl.1 rfl (lv_room (Nat.le_of_ble_eq_true rfl)) d_Md_frost_17 ⟨Nat.le_of_ble_eq_true rfl, Nat.le_of_ble_eq_true rfl⟩)) (fun r er => ?_)
      subst er
      by_cases c_10 : p_1 < 0
      · have hQ := hQ.1 c_10
        refine hb_ti 0 (by unfold f_Md_in; rw [if_pos c_10]; first | done | rfl) ?_
        refine lv_if_ne (tgt := 25) hx hb d_Md_frost_20 (by decide) (fun h => absurd (by decide +kernel) h) (fun _ => ?_)
        refine lv_iconst (v := (-1)) hx hb d_Md_frost_23 (by decide +kernel) ?_
        refine W.widen (k := 0) (n := 0) (Nat.le_of_ble_eq_true rfl) (Nat.le_of_ble_eq_true rfl) ?_
        exact W.iret (v := (-1)) hx hb hr (fun t ht hW => ⟨⟨(-1), (L, f), rfl, ⟨hO_0, hA_0.mono (by decide +kernel), trivial, hQ⟩, by rw [ht]; exact hP, va_K.moved hW.alike hK, by rw [hAe]; exact hD⟩, by rw [hAe]; exact hS.F ht⟩) (by rw [hAe]; exact hS.2.2) d_Md_frost_24
      · have hQ := hQ.2 c_10
        by_cases c_11 : 1 < p_1
        · have hQ := hQ.1 c_11
          refine hb_ti 0 (by unfold f_Md_in; rw [if_neg c_10, if_pos c_11]; first | done | rfl) ?_
          refine lv_if_ne (tgt := 25) hx hb d_Md_frost_20 (by decide) (fun h => absurd (by decide +kernel) h) (fun _ => ?_)
          refine lv_iconst (v := (-1)) hx hb d_Md_frost_23 (by decide +kernel) ?_
          refine W.widen (k := 0) (n := 0) (Nat.le_of_ble_eq_true rfl) (Nat.le_of_ble_eq_true rfl) ?_
          exact W.iret (v := (-1)) hx hb hr (fun t ht hW => ⟨⟨(-1), (L, f), rfl, ⟨hO_0, hA_0.mono (by decide +kernel), trivial, hQ⟩, by rw [ht]; exact hP, va_K.moved hW.alike hK, by rw [hAe]; exact hD⟩, by rw [hAe]; exact hS.F ht⟩) (by rw [hAe]; exact hS.2.2) d_Md_frost_24
        · have hQ := hQ.2 c_11
          refine hb_ti 1 (by unfold f_Md_in; rw [if_neg c_10, if_neg c_11]; first | done | rfl) ?_
          refine lv_if_ne (tgt := 25) hx hb d_Md_frost_20 (by decide) (fun _ => ?_) (fun h => absurd h (by decide +kernel))
          refine lv_aload_n hx hb d_Md_frost_25 rfl (lv_at hl 0 rfl) ?_
          refine tw_getr (D := (dC, dI)) (C := R_Md) (T := F_Md) (N := 64) (ci := 7) (kd := 27) (ct := ct) hx hb htb i_Md hown hK hP hO_0 m0 rfl rfl 8 (by decide) (htb (.fieldLink R_Md 49 "WaterMenModel" "frosts" "[Z") tw_173) (fun _ h9 => h9) rfl d_Md_frost_26 (fun q_12 e_12 m_12 => ?_)
          have hQ := hQ q_12 e_12
          refine lv_iload_n hx hb d_Md_frost_29 rfl (lv_at hl 1 rfl) ?_
          refine tw_aldZ (ct := ct) hx hb hK hP hO_0 m_12 rfl ((fun (a_0 : Int32) (a_1 : Int32) (k_0 : ¬ (a_0 < a_1)) (k_1 : ¬ (499 < a_0)) (k_2 : ¬ (a_1 < 0)) => (show vp_in (a_0) 500 from by have z0 : (0 : Int32).toInt = 0 := (by decide +kernel); have z1 : (499 : Int32).toInt = 499 := (by decide +kernel); have r0 := fb_rng (a_0); have r1 := fb_rng (a_1); have e0 := k_0; rw [Int32.lt_iff_toInt_lt] at e0; have e1 := k_1; rw [Int32.lt_iff_toInt_lt, z1] at e1; have e2 := k_2; rw [Int32.lt_iff_toInt_lt, z0] at e2; rw [vp_in_iff]; omega)) p_0 r_1 c_7 c_8 po_2) d_Md_frost_30 (fun x_13 e_13 b_13 => ?_)
          have hQ := hQ x_13 e_13
          refine lv_if_eq (tgt := 38) hx hb d_Md_frost_31 (by decide) (fun c_14 => ?_) (fun c_14 => ?_)
          · have hQ := hQ.1 c_14
            refine lv_iconst (v := 0) hx hb d_Md_frost_38 (by decide +kernel) ?_
            refine lv_istore_n (lv' := [(3, .int 0), (0, .ref q0), (1, .int p_0), (2, .int p_1)]) hx hb d_Md_frost_39 rfl hl (by decide) rfl (fun ls hl => ?_)
            refine lv_aload_n hx hb d_Md_frost_40 rfl (lv_at hl 1 rfl) ?_
            refine tw_getR (D := (dC, dI)) (C := R_Md) (T := F_Md) (N := 64) (ci := 7) (kd := 27) (ct := ct) hx hb htb i_Md hown hK hP m0 rfl rfl 8 e_12 (by decide) (htb (.fieldLink R_Md 49 "WaterMenModel" "frosts" "[Z") tw_173) (fun _ h9 => h9) rfl d_Md_frost_41 ?_
            refine hb_tv (.ref q_12) rfl ?_
            refine lv_iload_n hx hb d_Md_frost_44 rfl (lv_at hl 2 rfl) ?_
            refine lv_iload_n hx hb d_Md_frost_45 rfl (lv_at hl 3 rfl) ?_
            refine lv_iconst (v := 1) hx hb d_Md_frost_46 (by decide +kernel) ?_
            refine lv_icmp_ne (tgt := 54) hx hb d_Md_frost_47 (by decide) (fun c_15 => ?_) (fun c_15 => ?_)
            · have hQ := hQ.2 c_15
              refine lv_iconst (v := 0) hx hb d_Md_frost_54 (by decide +kernel) ?_
              refine tw_astZ (ct := ct) (x := 0) hx hb hK hP hD hS hO_0 m_12 rfl ((fun (a_0 : Int32) (a_1 : Int32) (k_0 : ¬ (a_0 < a_1)) (k_1 : ¬ (499 < a_0)) (k_2 : ¬ (a_1 < 0)) => (show vp_in (a_0) 500 from by have z0 : (0 : Int32).toInt = 0 := (by decide +kernel); have z1 : (499 : Int32).toInt = 499 := (by decide +kernel); have r0 := fb_rng (a_0); have r1 := fb_rng (a_1); have e0 := k_0; rw [Int32.lt_iff_toInt_lt] at e0; have e1 := k_1; rw [Int32.lt_iff_toInt_lt, z1] at e1; have e2 := k_2; rw [Int32.lt_iff_toInt_lt, z0] at e2; rw [vp_in_iff]; omega)) p_0 r_1 c_7 c_8 po_2) ⟨by decide +kernel, by decide +kernel⟩ d_Md_frost_55 (fun f_1 H locs hP hD hS hO_1 hE_1 w_16 ow_16 hF_1 => ?_)
              have hA_1 := hA_0.trans hE_1
              have hQ := hQ f_1 hF_1
              have hQ := hQ hO_1
              refine lv_iload_n hx hb d_Md_frost_56 rfl (lv_at hl 0 rfl) ?_
              refine W.widen (k := 0) (n := 0) (Nat.le_of_ble_eq_true rfl) (Nat.le_of_ble_eq_true rfl) ?_
              exact W.iret (v := 0) hx hb hr (fun t ht hW => ⟨⟨0, (L, f_1), rfl, ⟨hO_1, hA_1.mono (by decide +kernel), trivial, hQ⟩, by rw [ht]; exact hP, va_K.moved hW.alike hK, by rw [hAe]; exact hD⟩, by rw [hAe]; exact hS.F ht⟩) (by rw [hAe]; exact hS.2.2) d_Md_frost_57
            · have hQ := hQ.1 c_15
              refine lv_iconst (v := 1) hx hb d_Md_frost_50 (by decide +kernel) ?_
              refine lv_goto (tgt := 55) hx hb d_Md_frost_51 (by decide) ?_
              refine tw_astZ (ct := ct) (x := 1) hx hb hK hP hD hS hO_0 m_12 rfl ((fun (a_0 : Int32) (a_1 : Int32) (k_0 : ¬ (a_0 < a_1)) (k_1 : ¬ (499 < a_0)) (k_2 : ¬ (a_1 < 0)) => (show vp_in (a_0) 500 from by have z0 : (0 : Int32).toInt = 0 := (by decide +kernel); have z1 : (499 : Int32).toInt = 499 := (by decide +kernel); have r0 := fb_rng (a_0); have r1 := fb_rng (a_1); have e0 := k_0; rw [Int32.lt_iff_toInt_lt] at e0; have e1 := k_1; rw [Int32.lt_iff_toInt_lt, z1] at e1; have e2 := k_2; rw [Int32.lt_iff_toInt_lt, z0] at e2; rw [vp_in_iff]; omega)) p_0 r_1 c_7 c_8 po_2) ⟨by decide +kernel, by decide +kernel⟩ d_Md_frost_55 (fun f_1 H locs hP hD hS hO_1 hE_1 w_17 ow_17 hF_1 => ?_)
              have hA_1 := hA_0.trans hE_1
              have hQ := hQ f_1 hF_1
              have hQ := hQ hO_1
              refine lv_iload_n hx hb d_Md_frost_56 rfl (lv_at hl 0 rfl) ?_
              refine W.widen (k := 0) (n := 0) (Nat.le_of_ble_eq_true rfl) (Nat.le_of_ble_eq_true rfl) ?_
              exact W.iret (v := 0) hx hb hr (fun t ht hW => ⟨⟨0, (L, f_1), rfl, ⟨hO_1, hA_1.mono (by decide +kernel), trivial, hQ⟩, by rw [ht]; exact hP, va_K.moved hW.alike hK, by rw [hAe]; exact hD⟩, by rw [hAe]; exact hS.F ht⟩) (by rw [hAe]; exact hS.2.2) d_Md_frost_57
          · have hQ := hQ.2 c_14
            refine lv_iconst (v := 1) hx hb d_Md_frost_34 (by decide +kernel) ?_
            refine lv_goto (tgt := 39) hx hb d_Md_frost_35 (by decide) ?_
            refine lv_istore_n (lv' := [(3, .int 1), (0, .ref q0), (1, .int p_0), (2, .int p_1)]) hx hb d_Md_frost_39 rfl hl (by decide) rfl (fun ls hl => ?_)
            refine lv_aload_n hx hb d_Md_frost_40 rfl (lv_at hl 1 rfl) ?_
            refine tw_getR (D := (dC, dI)) (C := R_Md) (T := F_Md) (N := 64) (ci := 7) (kd := 27) (ct := ct) hx hb htb i_Md hown hK hP m0 rfl rfl 8 e_12 (by decide) (htb (.fieldLink R_Md 49 "WaterMenModel" "frosts" "[Z") tw_173) (fun _ h9 => h9) rfl d_Md_frost_41 ?_
            refine hb_tv (.ref q_12) rfl ?_
            refine lv_iload_n hx hb d_Md_frost_44 rfl (lv_at hl 2 rfl) ?_
            refine lv_iload_n hx hb d_Md_frost_45 rfl (lv_at hl 3 rfl) ?_
            refine lv_iconst (v := 1) hx hb d_Md_frost_46 (by decide +kernel) ?_
            refine lv_icmp_ne (tgt := 54) hx hb d_Md_frost_47 (by decide) (fun c_18 => ?_) (fun c_18 => ?_)
            · have hQ := hQ.2 c_18
              refine lv_iconst (v := 0) hx hb d_Md_frost_54 (by decide +kernel) ?_
              refine tw_astZ (ct := ct) (x := 0) hx hb hK hP hD hS hO_0 m_12 rfl ((fun (a_0 : Int32) (a_1 : Int32) (k_0 : ¬ (a_0 < a_1)) (k_1 : ¬ (499 < a_0)) (k_2 : ¬ (a_1 < 0)) => (show vp_in (a_0) 500 from by have z0 : (0 : Int32).toInt = 0 := (by decide +kernel); have z1 : (499 : Int32).toInt = 499 := (by decide +kernel); have r0 := fb_rng (a_0); have r1 := fb_rng (a_1); have e0 := k_0; rw [Int32.lt_iff_toInt_lt] at e0; have e1 := k_1; rw [Int32.lt_iff_toInt_lt, z1] at e1; have e2 := k_2; rw [Int32.lt_iff_toInt_lt, z0] at e2; rw [vp_in_iff]; omega)) p_0 r_1 c_7 c_8 po_2) ⟨by decide +kernel, by decide +kernel⟩ d_Md_frost_55 (fun f_1 H locs hP hD hS hO_1 hE_1 w_19 ow_19 hF_1 => ?_)
              have hA_1 := hA_0.trans hE_1
              have hQ := hQ f_1 hF_1
              have hQ := hQ hO_1
              refine lv_iload_n hx hb d_Md_frost_56 rfl (lv_at hl 0 rfl) ?_
              refine W.widen (k := 0) (n := 0) (Nat.le_of_ble_eq_true rfl) (Nat.le_of_ble_eq_true rfl) ?_
              exact W.iret (v := 1) hx hb hr (fun t ht hW => ⟨⟨1, (L, f_1), rfl, ⟨hO_1, hA_1.mono (by decide +kernel), trivial, hQ⟩, by rw [ht]; exact hP, va_K.moved hW.alike hK, by rw [hAe]; exact hD⟩, by rw [hAe]; exact hS.F ht⟩) (by rw [hAe]; exact hS.2.2) d_Md_frost_57
            · have hQ := hQ.1 c_18
              refine lv_iconst (v := 1) hx hb d_Md_frost_50 (by decide +kernel) ?_
              refine lv_goto (tgt := 55) hx hb d_Md_frost_51 (by decide) ?_
              refine tw_astZ (ct := ct) (x := 1) hx hb hK hP hD hS hO_0 m_12 rfl ((fun (a_0 : Int32) (a_1 : Int32) (k_0 : ¬ (a_0 < a_1)) (k_1 : ¬ (499 < a_0)) (k_2 : ¬ (a_1 < 0)) => (show vp_in (a_0) 500 from by have z0 : (0 : Int32).toInt = 0 := (by decide +kernel); have z1 : (499 : Int32).toInt = 499 := (by decide +kernel); have r0 := fb_rng (a_0); have r1 := fb_rng (a_1); have e0 := k_0; rw [Int32.lt_iff_toInt_lt] at e0; have e1 := k_1; rw [Int32.lt_iff_toInt_lt, z1] at e1; have e2 := k_2; rw [Int32.lt_iff_toInt_lt, z0] at e2; rw [vp_in_iff]; omega)) p_0 r_1 c_7 c_8 po_2) ⟨by decide +kernel, by decide +kernel⟩ d_Md_frost_55 (fun f_1 H locs hP hD hS hO_1 hE_1 w_20 ow_20 hF_1 => ?_)
              have hA_1 := hA_0.trans hE_1
              have hQ := hQ f_1 hF_1
              have hQ := hQ hO_1
              refine lv_iload_n hx hb d_Md_frost_56 rfl (lv_at hl 0 rfl) ?_
              refine W.widen (k := 0) (n := 0) (Nat.le_of_ble_eq_true rfl) (Nat.le_of_ble_eq_true rfl) ?_
              exact W.iret (v := 1) hx hb hr (fun t ht hW => ⟨⟨1, (L, f_1), rfl, ⟨hO_1, hA_1.mono (by decide +kernel), trivial, hQ⟩, by rw [ht]; exact hP, va_K.moved hW.alike hK, by rw [hAe]; exact hD⟩, by rw [hAe]; exact hS.F ht⟩) (by rw [hAe]; exact hS.2.2) d_Md_frost_57
