set_option maxHeartbeats 4000000 in
set_option maxRecDepth 100000 in
theorem c_WM_served_t (l : Launch) (dC : Nat → ClassId) (dI : Nat → Nat → Nat) (ct : Nat → ClassId) (L : List Nat) (f : TF) (hO_0 : Ok L f) (q0 : Nat) (m0 : q0 ∈ L ∧ tk f q0 = 0) (p_0 : Int32)   : Met l y_WM_served (.code y_WM_served b_WM_served 4 (some .int) :: TB) ({ frames := 2, cells := 0, slots := 0, locals := 44 }) (va_Pc [.ref q0, .int p_0] (PR dC dI (TW ct L f) (TT ct))) (vp_Si (fun r => True)) 0 0 (fun _ => False) := by
  refine Met.ofW (cc := b_WM_served) (maxL := 4) (ret := (some .int)) (by decide) rfl ?_
  intro p e s m args below meth c s₁ B hml hv
  obtain ⟨rfl, hP, hK, hN⟩ := hv
  have hx := B.exec
  have hb := B.bytes
  have hr := B.returns
  have hts := atoms_spec (ws := (.code y_WM_served b_WM_served 4 (some .int) :: TB)) B.pre
  have htb := fun w (h : w ∈ TB) => hts w (List.mem_cons_of_mem _ h)
  have hown : s.vm.findClass R_WM = some m.cls := findClass_of_methodNamed B.named
  have hlocks := B.notSynchronized
  have hl := lv_entry ([.ref q0, .int p_0]) (n := 4) (Nat.le_of_ble_eq_true rfl)
  rw [lg_entry_eq]
  generalize (lg_sl ([.ref q0, .int p_0]) ++ List.replicate (4 - (lg_sl ([.ref q0, .int p_0])).length) Slot.unset).toArray = ls at hl ⊢
  have hl : lv_has ls 4 [(0, .ref q0), (1, .int p_0)] := hl
  refine lv_aload_n hx hb d_WM_served_0 rfl (lv_at hl 0 rfl) ?_
  refine lv_iload_n hx hb d_WM_served_1 rfl (lv_at hl 1 rfl) ?_
  refine va_csq (va_Run.run (va_runV (As := [.int p_0]) (rest := []) ⟨hx, hb, hml, hown, htb⟩ (c_WM_manAt_t l dC dI ct L f hO_0 q0 m0 p_0) (cwV 1 htb (gd_V tw_190 tw_191 tw_192 tw_25 tw_189) rfl rfl rfl (by decide +kernel) ⟨Nat.le_of_ble_eq_true rfl, Nat.le_of_ble_eq_true rfl⟩) ⟨pr_blind, tw_recv hK hP m0 rfl rfl, pr_pre hP hK hN⟩ rfl rfl hl.1 rfl (lv_room (Nat.le_of_ble_eq_true rfl)) d_WM_served_2 ⟨Nat.le_of_ble_eq_true rfl, Nat.le_of_ble_eq_true rfl⟩)) (fun r_1 er_1 => ?_)
  rcases er_1 with rfl | ⟨q_1, rfl, m_1⟩
  · refine hb_tv .null rfl ?_
    refine lv_astore_nN (lv' := [(2, .null), (0, .ref q0), (1, .int p_0)]) hx hb d_WM_served_5 rfl hl (by decide) rfl (fun ls hl => ?_)
    refine lv_aload_nN hx hb d_WM_served_6 rfl (lv_at hl 0 rfl) ?_
    refine lv_ifnonnullN hx hb d_WM_served_7 ?_
    refine lv_iconst (v := (-1)) hx hb d_WM_served_10 (by decide +kernel) ?_
    exact W.iret (v := (-1)) hx hb hr (fun t ht hW => ⟨(-1), rfl, trivial, ht⟩) t_nil d_WM_served_11
  · refine hb_tv (.ref q_1) rfl ?_
    refine lv_astore_n (lv' := [(2, .ref q_1), (0, .ref q0), (1, .int p_0)]) hx hb d_WM_served_5 rfl hl (by decide) rfl (fun ls hl => ?_)
    refine lv_aload_n hx hb d_WM_served_6 rfl (lv_at hl 0 rfl) ?_
    refine lv_ifnonnull (tgt := 12) hx hb d_WM_served_7 (by decide) ?_
    refine lv_aload_n hx hb d_WM_served_12 rfl (lv_at hl 0 rfl) ?_
    refine tw_getq (D := (dC, dI)) (C := R_Mn) (T := F_Mn) (N := 8) (ci := 2) (kd := 20) (ct := ct) hx hb htb i_Mn hown hK hP hO_0 m_1 rfl rfl 1 (by decide) (htb (.fieldLink R_WM 119 "WaterMen$Man" "bond" "LWaterMen$Bond;") tw_202) (fun _ h9 => h9) rfl d_WM_served_13 (fun e_2 => ?_) (fun q_2 e_2 m_2 => ?_)
    · refine lv_astore_nN (lv' := [(3, .null), (2, .ref q_1), (0, .ref q0), (1, .int p_0)]) hx hb d_WM_served_16 rfl hl (by decide) rfl (fun ls hl => ?_)
      refine lv_aload_nN hx hb d_WM_served_17 rfl (lv_at hl 0 rfl) ?_
      refine lv_ifnullN (tgt := 29) hx hb d_WM_served_18 (by decide) ?_
      refine lv_bipush (v := (-2)) hx hb d_WM_served_29 (by decide +kernel) ?_
      refine lv_goto (tgt := 42) hx hb d_WM_served_31 (by decide) ?_
      exact W.iret (v := (-2)) hx hb hr (fun t ht hW => ⟨(-2), rfl, trivial, ht⟩) t_nil d_WM_served_42
    · refine lv_astore_n (lv' := [(3, .ref q_2), (2, .ref q_1), (0, .ref q0), (1, .int p_0)]) hx hb d_WM_served_16 rfl hl (by decide) rfl (fun ls hl => ?_)
      refine lv_aload_n hx hb d_WM_served_17 rfl (lv_at hl 0 rfl) ?_
      refine lv_ifnull hx hb d_WM_served_18 ?_
      refine lv_aload_n hx hb d_WM_served_21 rfl (lv_at hl 1 rfl) ?_
      refine tw_geti (D := (dC, dI)) (C := R_Mn) (T := F_Mn) (N := 8) (ci := 2) (kd := 20) (ct := ct) hx hb htb i_Mn hown hK hP hO_0 m_1 rfl rfl 0 (by decide) (htb (.fieldLink R_WM 111 "WaterMen$Man" "state" "I") tw_193) (fun _ h9 => h9) rfl d_WM_served_22 (fun x_3 e_3 b_3 => ?_)
      refine lv_iconst (v := 1) hx hb d_WM_served_25 (by decide +kernel) ?_
      refine lv_icmp_eq (tgt := 34) hx hb d_WM_served_26 (by decide) (fun c_4 => ?_) (fun c_4 => ?_)
      · refine lv_aload_n hx hb d_WM_served_34 rfl (lv_at hl 0 rfl) ?_
        refine lv_aload_n hx hb d_WM_served_35 rfl (lv_at hl 2 rfl) ?_
        refine vp_callSi (va_Run.run (va_runV (As := []) (rest := [.ref q_2]) ⟨hx, hb, hml, hown, htb⟩ (c_WM_today_t l dC dI ct L f hO_0 q0 m0) (cwV 0 htb (gd_V tw_180 tw_181 tw_182 tw_25 tw_179) rfl rfl rfl (by decide +kernel) ⟨Nat.le_of_ble_eq_true rfl, Nat.le_of_ble_eq_true rfl⟩) ⟨pr_blind, tw_recv hK hP m0 rfl rfl, pr_pre hP hK hN⟩ rfl rfl hl.1 rfl (lv_room (Nat.le_of_ble_eq_true rfl)) d_WM_served_36 ⟨Nat.le_of_ble_eq_true rfl, Nat.le_of_ble_eq_true rfl⟩)) (fun r_5 er_5 => ?_)
        obtain ⟨po_6, po_7, -⟩ := er_5
        refine vp_callSi (va_Run.run (va_runV (As := [.int r_5]) (rest := []) ⟨hx, hb, hml, hown, htb⟩ (c_Bd_daysServed_t l dC dI ct L f hO_0 q_2 m_2 r_5) (cwV 1 htb (gd_V tw_214 tw_215 tw_216 tw_196 tw_213) rfl rfl rfl (by decide +kernel) ⟨Nat.le_of_ble_eq_true rfl, Nat.le_of_ble_eq_true rfl⟩) ⟨pr_blind, tw_recv hK hP m_2 rfl rfl, pr_pre hP hK hN⟩ rfl rfl hl.1 rfl (lv_room (Nat.le_of_ble_eq_true rfl)) d_WM_served_39 ⟨Nat.le_of_ble_eq_true rfl, Nat.le_of_ble_eq_true rfl⟩)) (fun r_8 er_8 => ?_)
        clear er_8
        exact W.iret (v := r_8) hx hb hr (fun t ht hW => ⟨r_8, rfl, trivial, ht⟩) t_nil d_WM_served_42
      · refine lv_bipush (v := (-2)) hx hb d_WM_served_29 (by decide +kernel) ?_
        refine lv_goto (tgt := 42) hx hb d_WM_served_31 (by decide) ?_
        exact W.iret (v := (-2)) hx hb hr (fun t ht hW => ⟨(-2), rfl, trivial, ht⟩) t_nil d_WM_served_42
def W_WM_pass_t : List (Nat × Nat) := [(20, 0)]
set_option maxHeartbeats 4000000 in
set_option maxRecDepth 100000 in
theorem c_WM_pass_t (l : Launch) (dC : Nat → ClassId) (dI : Nat → Nat → Nat) (ct : Nat → ClassId) (L : List Nat) (f : TF) (hO_0 : Ok L f) (q0 : Nat) (m0 : q0 ∈ L ∧ tk f q0 = 0) (sz : Nat) (p_0 : Int32)   : Met l y_WM_pass (.code y_WM_pass b_WM_pass 4 (some .int) :: TB) ({ frames := 3, cells := 0, slots := 0, locals := 67 }) (va_Pc [.ref q0, .int p_0] (PC dC dI (TW ct L f) (TT ct) sz)) (va_Qi (fun r (u : TSt) => Ok u.1 u.2 ∧ Ext W_WM_pass_t L f u.1 u.2 ∧ (True)) (fun (u : TSt) t => va_P (dC, dI) vwCl (TW ct u.1 u.2) t.heap ∧ va_K (dC, dI) vwCl (TT ct) t ∧ va_D (va_A (TW ct L f) sz) (TW ct u.1 u.2)) (va_A (TW ct L f) sz)) 0 0 (va_A (TW ct L f) sz) := by
  refine Met.ofW (cc := b_WM_pass) (maxL := 4) (ret := (some .int)) (by decide) rfl ?_
  intro p e s m args below meth c s₁ B hml hv
  obtain ⟨rfl, hsz, hP, hK, hD0, hN⟩ := hv
  have hx := B.exec
  have hb := B.bytes
  have hr := B.returns
  have hts := atoms_spec (ws := (.code y_WM_pass b_WM_pass 4 (some .int) :: TB)) B.pre
  have htb := fun w (h : w ∈ TB) => hts w (List.mem_cons_of_mem _ h)
  have hown : s.vm.findClass R_WM = some m.cls := findClass_of_methodNamed B.named
  have hlocks := B.notSynchronized
  have hl := lv_entry ([.ref q0, .int p_0]) (n := 4) (Nat.le_of_ble_eq_true rfl)
  rw [lg_entry_eq]
  generalize (lg_sl ([.ref q0, .int p_0]) ++ List.replicate (4 - (lg_sl ([.ref q0, .int p_0])).length) Slot.unset).toArray = ls at hl ⊢
  have hl : lv_has ls 4 [(0, .ref q0), (1, .int p_0)] := hl
  subst hsz
  have hD := hD0.self (sz := s.heap.size)
  obtain ⟨A, hAe⟩ : ∃ A, va_A (TW ct L f) s.heap.size = A := ⟨_, rfl⟩
  rw [hAe] at hD
  have hA : ∀ q : Nat, s.heap.size ≤ q → A q := fun q h => by rw [← hAe]; exact Or.inr h
  have hS : va_S A s.heap s.heap [] := va_S.rf
  have hA_0 : Ext [] L f L f := Ext.rf
  suffices hGo : ∀ (H : Heap) (locs : List Loc), va_P (dC, dI) vwCl (TW ct L f) H → va_S A s.heap H locs → W p l e (headSpec (.code y_WM_pass b_WM_pass 4 (some .int) :: TB) ({ frames := 3, cells := 0, slots := 0, locals := 67 })).room s m [.ref q0, .int p_0].toArray below meth c H locs 0 0 (MQ below (va_Qi (fun r (u : TSt) => Ok u.1 u.2 ∧ Ext W_WM_pass_t L f u.1 u.2 ∧ (True)) (fun (u : TSt) t => va_P (dC, dI) vwCl (TW ct u.1 u.2) t.heap ∧ va_K (dC, dI) vwCl (TT ct) t ∧ va_D (va_A (TW ct L f) s.heap.size) (TW ct u.1 u.2)) (va_A (TW ct L f) s.heap.size)) [.ref q0, .int p_0].toArray s 0 0 (va_A (TW ct L f) s.heap.size)) (F0 m 0 ls []) from hGo _ _ hP hS
  clear hP hS
  intro H locs hP hS
  refine lv_aload_n hx hb d_WM_pass_0 rfl (lv_at hl 0 rfl) ?_
  refine lv_iload_n hx hb d_WM_pass_1 rfl (lv_at hl 1 rfl) ?_
  refine vp_callSi (va_Run.run (va_runV (As := [.int p_0]) (rest := []) ⟨hx, hb, hml, hown, htb⟩ (c_WM_served_t l dC dI ct L f hO_0 q0 m0 p_0) (cwV 1 htb (gd_V tw_218 tw_219 tw_220 tw_25 tw_217) rfl rfl rfl (by decide +kernel) ⟨Nat.le_of_ble_eq_true rfl, Nat.le_of_ble_eq_true rfl⟩) ⟨pr_blind, tw_recv hK hP m0 rfl rfl, pr_pre hP hK hN⟩ rfl rfl hl.1 rfl (lv_room (Nat.le_of_ble_eq_true rfl)) d_WM_pass_2 ⟨Nat.le_of_ble_eq_true rfl, Nat.le_of_ble_eq_true rfl⟩)) (fun r_1 er_1 => ?_)
  clear er_1
  refine lv_istore_n (lv' := [(2, .int r_1), (0, .ref q0), (1, .int p_0)]) hx hb d_WM_pass_5 rfl hl (by decide) rfl (fun ls hl => ?_)
  refine lv_aload_n hx hb d_WM_pass_6 rfl (lv_at hl 1 rfl) ?_
  refine lv_iload_n hx hb d_WM_pass_7 rfl (lv_at hl 2 rfl) ?_
  refine va_csq (va_Run.run (va_runV (As := [.int p_0]) (rest := []) ⟨hx, hb, hml, hown, htb⟩ (c_WM_manAt_t l dC dI ct L f hO_0 q0 m0 p_0) (cwV 1 htb (gd_V tw_190 tw_191 tw_192 tw_25 tw_189) rfl rfl rfl (by decide +kernel) ⟨Nat.le_of_ble_eq_true rfl, Nat.le_of_ble_eq_true rfl⟩) ⟨pr_blind, tw_recv hK hP m0 rfl rfl, pr_pre hP hK hN⟩ rfl rfl hl.1 rfl (lv_room (Nat.le_of_ble_eq_true rfl)) d_WM_pass_8 ⟨Nat.le_of_ble_eq_true rfl, Nat.le_of_ble_eq_true rfl⟩)) (fun r_2 er_2 => ?_)
  rcases er_2 with rfl | ⟨q_2, rfl, m_2⟩
  · refine hb_tv .null rfl ?_
    refine lv_astore_nN (lv' := [(3, .null), (2, .int r_1), (0, .ref q0), (1, .int p_0)]) hx hb d_WM_pass_11 rfl hl (by decide) rfl (fun ls hl => ?_)
    refine lv_iload_n hx hb d_WM_pass_12 rfl (lv_at hl 1 rfl) ?_
    refine lv_if_lt (tgt := 20) hx hb d_WM_pass_13 (by decide) (fun c_3 => ?_) (fun c_3 => ?_)
    · refine lv_iload_n hx hb d_WM_pass_20 rfl (lv_at hl 1 rfl) ?_
      refine W.widen (k := 0) (n := 0) (Nat.le_of_ble_eq_true rfl) (Nat.le_of_ble_eq_true rfl) ?_
      exact W.iret (v := r_1) hx hb hr (fun t ht hW => ⟨⟨r_1, (L, f), rfl, ⟨hO_0, hA_0.mono (by decide +kernel), trivial⟩, by rw [ht]; exact hP, va_K.moved hW.alike hK, by rw [hAe]; exact hD⟩, by rw [hAe]; exact hS.F ht⟩) (by rw [hAe]; exact hS.2.2) d_WM_pass_21
    · refine lv_aload_nN hx hb d_WM_pass_16 rfl (lv_at hl 0 rfl) ?_
      refine lv_ifnonnullN hx hb d_WM_pass_17 ?_
      refine lv_iload_n hx hb d_WM_pass_20 rfl (lv_at hl 1 rfl) ?_
      refine W.widen (k := 0) (n := 0) (Nat.le_of_ble_eq_true rfl) (Nat.le_of_ble_eq_true rfl) ?_
      exact W.iret (v := r_1) hx hb hr (fun t ht hW => ⟨⟨r_1, (L, f), rfl, ⟨hO_0, hA_0.mono (by decide +kernel), trivial⟩, by rw [ht]; exact hP, va_K.moved hW.alike hK, by rw [hAe]; exact hD⟩, by rw [hAe]; exact hS.F ht⟩) (by rw [hAe]; exact hS.2.2) d_WM_pass_21
  · refine hb_tv (.ref q_2) rfl ?_
    refine lv_astore_n (lv' := [(3, .ref q_2), (2, .int r_1), (0, .ref q0), (1, .int p_0)]) hx hb d_WM_pass_11 rfl hl (by decide) rfl (fun ls hl => ?_)
    refine lv_iload_n hx hb d_WM_pass_12 rfl (lv_at hl 1 rfl) ?_
    refine lv_if_lt (tgt := 20) hx hb d_WM_pass_13 (by decide) (fun c_4 => ?_) (fun c_4 => ?_)
    · refine lv_iload_n hx hb d_WM_pass_20 rfl (lv_at hl 1 rfl) ?_
      refine W.widen (k := 0) (n := 0) (Nat.le_of_ble_eq_true rfl) (Nat.le_of_ble_eq_true rfl) ?_
      exact W.iret (v := r_1) hx hb hr (fun t ht hW => ⟨⟨r_1, (L, f), rfl, ⟨hO_0, hA_0.mono (by decide +kernel), trivial⟩, by rw [ht]; exact hP, va_K.moved hW.alike hK, by rw [hAe]; exact hD⟩, by rw [hAe]; exact hS.F ht⟩) (by rw [hAe]; exact hS.2.2) d_WM_pass_21
    · refine lv_aload_n hx hb d_WM_pass_16 rfl (lv_at hl 0 rfl) ?_
      refine lv_ifnonnull (tgt := 22) hx hb d_WM_pass_17 (by decide) ?_
      refine lv_iload_n hx hb d_WM_pass_22 rfl (lv_at hl 1 rfl) ?_
      refine lv_sipush (v := 300) hx hb d_WM_pass_23 (by decide +kernel) ?_
      refine lv_icmp_ge (tgt := 38) hx hb d_WM_pass_26 (by decide) (fun c_5 => ?_) (fun c_5 => ?_)
      · refine lv_aload_n hx hb d_WM_pass_38 rfl (lv_at hl 0 rfl) ?_
        refine lv_iconst (v := 2) hx hb d_WM_pass_39 (by decide +kernel) ?_
        refine tw_puti (v := 2) (D := (dC, dI)) (C := R_Mn) (T := F_Mn) (N := 8) (ci := 2) (kd := 20) (ct := ct) (ty := .int) hx hb htb i_Mn t_Mn t_Mn_ok n_Mn hown hK hP hD hS hO_0 m_2 rfl rfl 0 (by decide) (htb (.fieldLink R_WM 111 "WaterMen$Man" "state" "I") tw_193) (fun _ h9 => h9) rfl (by decide +kernel) rfl rfl rfl (i32_full _) d_WM_pass_40 (fun f_1 H locs hP hD hS hO_1 hE_1 w_6 hF_1 => ?_)
        have hA_1 := hA_0.trans hE_1
        refine lv_iconst (v := 1) hx hb d_WM_pass_43 (by decide +kernel) ?_
        refine W.widen (k := 0) (n := 0) (Nat.le_of_ble_eq_true rfl) (Nat.le_of_ble_eq_true rfl) ?_
        exact W.iret (v := 1) hx hb hr (fun t ht hW => ⟨⟨1, (L, f_1), rfl, ⟨hO_1, hA_1.mono (by decide +kernel), trivial⟩, by rw [ht]; exact hP, va_K.moved hW.alike hK, by rw [hAe]; exact hD⟩, by rw [hAe]; exact hS.F ht⟩) (by rw [hAe]; exact hS.2.2) d_WM_pass_44
      · refine lv_bipush (v := (-100)) hx hb d_WM_pass_29 (by decide +kernel) ?_
        refine lv_sipush (v := 300) hx hb d_WM_pass_31 (by decide +kernel) ?_
        refine lv_iload_n hx hb d_WM_pass_34 rfl (lv_at hl 1 rfl) ?_
        refine lv_isub hx hb d_WM_pass_35 ?_
        refine lv_isub hx hb d_WM_pass_36 ?_
        refine W.widen (k := 0) (n := 0) (Nat.le_of_ble_eq_true rfl) (Nat.le_of_ble_eq_true rfl) ?_
        exact W.iret (v := ((-100) - (300 - r_1))) hx hb hr (fun t ht hW => ⟨⟨((-100) - (300 - r_1)), (L, f), rfl, ⟨hO_0, hA_0.mono (by decide +kernel), trivial⟩, by rw [ht]; exact hP, va_K.moved hW.alike hK, by rw [hAe]; exact hD⟩, by rw [hAe]; exact hS.F ht⟩) (by rw [hAe]; exact hS.2.2) d_WM_pass_37
set_option maxHeartbeats 4000000 in
set_option maxRecDepth 100000 in
theorem c_WM_placeInTurns_t (l : Launch) (dC : Nat → ClassId) (dI : Nat → Nat → Nat) (ct : Nat → ClassId) (L : List Nat) (f : TF) (hO_0 : Ok L f) (q0 : Nat) (m0 : q0 ∈ L ∧ tk f q0 = 0) (pq_0 : Nat) (pm_0 : pq_0 ∈ L ∧ tk f pq_0 = 20)    : Met l y_WM_placeInTurns (.code y_WM_placeInTurns b_WM_placeInTurns 5 (some .int) :: TB) ({ frames := 0, cells := 0, slots := 0, locals := 0 }) (va_Pc [.ref q0, .ref pq_0] (PR dC dI (TW ct L f) (TT ct))) (vp_Si (fun r => True)) 0 0 (fun _ => False) := by
  refine Met.ofW (cc := b_WM_placeInTurns) (maxL := 5) (ret := (some .int)) (by decide) rfl ?_
  intro p e s m args below meth c s₁ B hml hv
  obtain ⟨rfl, hP, hK, hN⟩ := hv
  have hx := B.exec
  have hb := B.bytes
  have hr := B.returns
  have hts := atoms_spec (ws := (.code y_WM_placeInTurns b_WM_placeInTurns 5 (some .int) :: TB)) B.pre
  have htb := fun w (h : w ∈ TB) => hts w (List.mem_cons_of_mem _ h)
  have hown : s.vm.findClass R_WM = some m.cls := findClass_of_methodNamed B.named
  have hlocks := B.notSynchronized
  have hl := lv_entry ([.ref q0, .ref pq_0]) (n := 5) (Nat.le_of_ble_eq_true rfl)
  rw [lg_entry_eq]
  generalize (lg_sl ([.ref q0, .ref pq_0]) ++ List.replicate (5 - (lg_sl ([.ref q0, .ref pq_0])).length) Slot.unset).toArray = ls at hl ⊢
  have hl : lv_has ls 5 [(0, .ref q0), (1, .ref pq_0)] := hl
  refine lv_aload_n hx hb d_WM_placeInTurns_0 rfl (lv_at hl 1 rfl) ?_
  refine tw_geti (D := (dC, dI)) (C := R_Mn) (T := F_Mn) (N := 8) (ci := 2) (kd := 20) (ct := ct) hx hb htb i_Mn hown hK hP hO_0 pm_0 rfl rfl 2 (by decide) (htb (.fieldLink R_WM 145 "WaterMen$Man" "turnStairs" "I") tw_222) (fun _ h9 => h9) rfl d_WM_placeInTurns_1 (fun x_1 e_1 b_1 => ?_)
  refine lv_iconst (v := (-1)) hx hb d_WM_placeInTurns_4 (by decide +kernel) ?_
  refine lv_icmp_ne (tgt := 10) hx hb d_WM_placeInTurns_5 (by decide) (fun c_2 => ?_) (fun c_2 => ?_)
  · refine lv_iconst (v := 0) hx hb d_WM_placeInTurns_10 (by decide +kernel) ?_
    refine lv_istore_n (lv' := [(2, .int 0), (0, .ref q0), (1, .ref pq_0)]) hx hb d_WM_placeInTurns_11 rfl hl (by decide) rfl (fun ls hl => ?_)
    refine lv_iconst (v := 0) hx hb d_WM_placeInTurns_12 (by decide +kernel) ?_
    refine lv_istore_n (lv' := [(3, .int 0), (2, .int 0), (0, .ref q0), (1, .ref pq_0)]) hx hb d_WM_placeInTurns_13 rfl hl (by decide) rfl (fun ls hl => ?_)
    have cut_3 : ∀ (n_3 : Nat) (v2_3 v3_3 : Int32) (ls : Array Slot), ¬ (v3_3 < 0) → ¬ (40 < v3_3) → (40 : Int32).toInt - (v3_3 : Int32).toInt ≤ (n_3 : Int) → lv_has ls 5 [(0, .ref q0), (1, .ref pq_0), (2, .int v2_3), (3, .int v3_3)] → W p l e (headSpec (.code y_WM_placeInTurns b_WM_placeInTurns 5 (some .int) :: TB) ({ frames := 0, cells := 0, slots := 0, locals := 0 })).room s m [.ref q0, .ref pq_0].toArray below meth c s.heap [] 0 0 (MQ below (vp_Si (fun r => True)) [.ref q0, .ref pq_0].toArray s 0 0 (fun _ => False)) (F0 m 14 ls []) := by
      intro n_3
      induction n_3 using Nat.strongRecOn with
      | _ n_3 ih_3 =>
        intro v2_3 v3_3 ls iv0_3 iv1_3 hm_3 hl
        refine lv_iload_n hx hb d_WM_placeInTurns_14 rfl (lv_at hl 3 rfl) ?_
        refine lv_bipush (v := 40) hx hb d_WM_placeInTurns_15 (by decide +kernel) ?_
        refine lv_icmp_ge (tgt := 66) hx hb d_WM_placeInTurns_17 (by decide) (fun c_4 => ?_) (fun c_4 => ?_)
        · refine lv_iload_n hx hb d_WM_placeInTurns_66 rfl (lv_at hl 2 rfl) ?_
          exact W.iret (v := v2_3) hx hb hr (fun t ht hW => ⟨v2_3, rfl, trivial, ht⟩) t_nil d_WM_placeInTurns_67
        · refine lv_aload_n hx hb d_WM_placeInTurns_20 rfl (lv_at hl 0 rfl) ?_
          refine tw_getr (D := (dC, dI)) (C := R_WM) (T := F_WM) (N := 13) (ci := 0) (kd := 0) (ct := ct) hx hb htb i_WM hown hK hP hO_0 m0 rfl rfl 1 (by decide) (htb (.fieldLink R_WM 18 "WaterMen" "men" "[LWaterMen$Man;") tw_188) (fun _ h9 => h9) rfl d_WM_placeInTurns_21 (fun q_5 e_5 m_5 => ?_)
          refine lv_iload_n hx hb d_WM_placeInTurns_24 rfl (lv_at hl 3 rfl) ?_
          refine tw_aldq (ct := ct) hx hb hK hP hO_0 m_5 rfl rfl (hb_in iv0_3 c_4 (by decide +kernel)) d_WM_placeInTurns_25 (fun e_6 => ?_) (fun q_6 e_6 m_6 => ?_)
          · refine lv_astoreN (lv' := [(4, .null), (0, .ref q0), (1, .ref pq_0), (2, .int v2_3), (3, .int v3_3)]) hx hb d_WM_placeInTurns_26 hl (by decide) rfl (fun ls hl => ?_)
            refine lv_aloadN hx hb d_WM_placeInTurns_28 (lv_at hl 0 rfl) ?_
            refine lv_ifnullN (tgt := 60) hx hb d_WM_placeInTurns_30 (by decide) ?_
            refine lv_iinc (v := (v3_3 + 1)) (lv' := [(3, .int (v3_3 + 1)), (4, .null), (0, .ref q0), (1, .ref pq_0), (2, .int v2_3)]) hx hb d_WM_placeInTurns_60 hl (k := 4) rfl rfl (by decide) rfl (fun ls hl => ?_)
            refine lv_goto (tgt := 14) hx hb d_WM_placeInTurns_63 (by decide) ?_
            exact ih_3 (n_3 - 1) (ms_1 ((fun (a_0 : Int32) (k_0 : ¬ (40 ≤ a_0)) => (show 1 ≤ (40 : Int32).toInt - (a_0).toInt ∧ (40 : Int32).toInt - ((a_0) + (1 : Int32)).toInt + 1 ≤ (40 : Int32).toInt - (a_0).toInt from by have z0 : (1 : Int32).toInt = 1 := (by decide +kernel); have z1 : (40 : Int32).toInt = 40 := (by decide +kernel); have r0 := fb_rng (a_0); have e0 := k_0; rw [Int32.le_iff_toInt_le, z1] at e0; obtain ⟨n_0, hn_0, s0⟩ := nd_add (x := (a_0)) (y := (1 : Int32)) (by (try rw [z0]); omega) (by (try rw [z0]); omega); rw [z0] at s0; rw [hn_0]; (try rw [z1]); omega)) v3_3 c_4) hm_3) v2_3 (v3_3 + 1) _ (show ¬ ((v3_3 + 1) < 0) from by have e0 := iv0_3; rw [Int32.lt_iff_toInt_lt] at e0; have e1 := c_4; rw [Int32.le_iff_toInt_le] at e1; have z0 : (0 : Int32).toInt = 0 := (by decide +kernel); have z1 : (1 : Int32).toInt = 1 := (by decide +kernel); have z2 : (40 : Int32).toInt = 40 := (by decide +kernel); have ss := fb_addI (x := v3_3) (y := 1) (by omega) (by omega); rw [Int32.lt_iff_toInt_lt]; omega) (show ¬ (40 < (v3_3 + 1)) from by have e0 := iv0_3; rw [Int32.lt_iff_toInt_lt] at e0; have e1 := c_4; rw [Int32.le_iff_toInt_le] at e1; have z0 : (0 : Int32).toInt = 0 := (by decide +kernel); have z1 : (1 : Int32).toInt = 1 := (by decide +kernel); have z2 : (40 : Int32).toInt = 40 := (by decide +kernel); have ss := fb_addI (x := v3_3) (y := 1) (by omega) (by omega); rw [Int32.lt_iff_toInt_lt]; omega) (by exact ms_2 ((fun (a_0 : Int32) (k_0 : ¬ (40 ≤ a_0)) => (show 1 ≤ (40 : Int32).toInt - (a_0).toInt ∧ (40 : Int32).toInt - ((a_0) + (1 : Int32)).toInt + 1 ≤ (40 : Int32).toInt - (a_0).toInt from by have z0 : (1 : Int32).toInt = 1 := (by decide +kernel); have z1 : (40 : Int32).toInt = 40 := (by decide +kernel); have r0 := fb_rng (a_0); have e0 := k_0; rw [Int32.le_iff_toInt_le, z1] at e0; obtain ⟨n_0, hn_0, s0⟩ := nd_add (x := (a_0)) (y := (1 : Int32)) (by (try rw [z0]); omega) (by (try rw [z0]); omega); rw [z0] at s0; rw [hn_0]; (try rw [z1]); omega)) v3_3 c_4) hm_3) (lv_sub hl [2, 3, 4, 0] rfl)
          · refine lv_astore (lv' := [(4, .ref q_6), (0, .ref q0), (1, .ref pq_0), (2, .int v2_3), (3, .int v3_3)]) hx hb d_WM_placeInTurns_26 hl (by decide) rfl (fun ls hl => ?_)
            refine lv_aload hx hb d_WM_placeInTurns_28 (lv_at hl 0 rfl) ?_
            refine lv_ifnull hx hb d_WM_placeInTurns_30 ?_
            refine lv_aload hx hb d_WM_placeInTurns_33 (lv_at hl 0 rfl) ?_
            refine tw_geti (D := (dC, dI)) (C := R_Mn) (T := F_Mn) (N := 8) (ci := 2) (kd := 20) (ct := ct) hx hb htb i_Mn hown hK hP hO_0 m_6 rfl rfl 2 (by decide) (htb (.fieldLink R_WM 145 "WaterMen$Man" "turnStairs" "I") tw_222) (fun _ h9 => h9) rfl d_WM_placeInTurns_35 (fun x_7 e_7 b_7 => ?_)
            refine lv_aload_n hx hb d_WM_placeInTurns_38 rfl (lv_at hl 2 rfl) ?_
            refine tw_getI (x := x_1) (D := (dC, dI)) (C := R_Mn) (T := F_Mn) (N := 8) (ci := 2) (kd := 20) (ct := ct) hx hb htb i_Mn hown hK hP pm_0 rfl rfl 2 e_1 (by decide) (htb (.fieldLink R_WM 145 "WaterMen$Man" "turnStairs" "I") tw_222) (fun _ h9 => h9) rfl d_WM_placeInTurns_39 ?_
            refine lv_icmp_ne (tgt := 60) hx hb d_WM_placeInTurns_42 (by decide) (fun c_8 => ?_) (fun c_8 => ?_)
            · refine lv_iinc (v := (v3_3 + 1)) (lv' := [(3, .int (v3_3 + 1)), (4, .ref q_6), (0, .ref q0), (1, .ref pq_0), (2, .int v2_3)]) hx hb d_WM_placeInTurns_60 hl (k := 4) rfl rfl (by decide) rfl (fun ls hl => ?_)
              refine lv_goto (tgt := 14) hx hb d_WM_placeInTurns_63 (by decide) ?_
              exact ih_3 (n_3 - 1) (ms_1 ((fun (a_0 : Int32) (k_0 : ¬ (40 ≤ a_0)) => (show 1 ≤ (40 : Int32).toInt - (a_0).toInt ∧ (40 : Int32).toInt - ((a_0) + (1 : Int32)).toInt + 1 ≤ (40 : Int32).toInt - (a_0).toInt from by have z0 : (1 : Int32).toInt = 1 := (by decide +kernel); have z1 : (40 : Int32).toInt = 40 := (by decide +kernel); have r0 := fb_rng (a_0); have e0 := k_0; rw [Int32.le_iff_toInt_le, z1] at e0; obtain ⟨n_0, hn_0, s0⟩ := nd_add (x := (a_0)) (y := (1 : Int32)) (by (try rw [z0]); omega) (by (try rw [z0]); omega); rw [z0] at s0; rw [hn_0]; (try rw [z1]); omega)) v3_3 c_4) hm_3) v2_3 (v3_3 + 1) _ (show ¬ ((v3_3 + 1) < 0) from by have e0 := iv0_3; rw [Int32.lt_iff_toInt_lt] at e0; have e1 := c_4; rw [Int32.le_iff_toInt_le] at e1; have z0 : (0 : Int32).toInt = 0 := (by decide +kernel); have z1 : (1 : Int32).toInt = 1 := (by decide +kernel); have z2 : (40 : Int32).toInt = 40 := (by decide +kernel); have ss := fb_addI (x := v3_3) (y := 1) (by omega) (by omega); rw [Int32.lt_iff_toInt_lt]; omega) (show ¬ (40 < (v3_3 + 1)) from by have e0 := iv0_3; rw [Int32.lt_iff_toInt_lt] at e0; have e1 := c_4; rw [Int32.le_iff_toInt_le] at e1; have z0 : (0 : Int32).toInt = 0 := (by decide +kernel); have z1 : (1 : Int32).toInt = 1 := (by decide +kernel); have z2 : (40 : Int32).toInt = 40 := (by decide +kernel); have ss := fb_addI (x := v3_3) (y := 1) (by omega) (by omega); rw [Int32.lt_iff_toInt_lt]; omega) (by exact ms_2 ((fun (a_0 : Int32) (k_0 : ¬ (40 ≤ a_0)) => (show 1 ≤ (40 : Int32).toInt - (a_0).toInt ∧ (40 : Int32).toInt - ((a_0) + (1 : Int32)).toInt + 1 ≤ (40 : Int32).toInt - (a_0).toInt from by have z0 : (1 : Int32).toInt = 1 := (by decide +kernel); have z1 : (40 : Int32).toInt = 40 := (by decide +kernel); have r0 := fb_rng (a_0); have e0 := k_0; rw [Int32.le_iff_toInt_le, z1] at e0; obtain ⟨n_0, hn_0, s0⟩ := nd_add (x := (a_0)) (y := (1 : Int32)) (by (try rw [z0]); omega) (by (try rw [z0]); omega); rw [z0] at s0; rw [hn_0]; (try rw [z1]); omega)) v3_3 c_4) hm_3) (lv_sub hl [2, 3, 4, 0] rfl)
            · refine lv_aload hx hb d_WM_placeInTurns_45 (lv_at hl 0 rfl) ?_
              refine tw_geti (D := (dC, dI)) (C := R_Mn) (T := F_Mn) (N := 8) (ci := 2) (kd := 20) (ct := ct) hx hb htb i_Mn hown hK hP hO_0 m_6 rfl rfl 3 (by decide) (htb (.fieldLink R_WM 196 "WaterMen$Man" "turnTicket" "I") tw_223) (fun _ h9 => h9) rfl d_WM_placeInTurns_47 (fun x_9 e_9 b_9 => ?_)
              refine lv_aload_n hx hb d_WM_placeInTurns_50 rfl (lv_at hl 2 rfl) ?_
              refine tw_geti (D := (dC, dI)) (C := R_Mn) (T := F_Mn) (N := 8) (ci := 2) (kd := 20) (ct := ct) hx hb htb i_Mn hown hK hP hO_0 pm_0 rfl rfl 3 (by decide) (htb (.fieldLink R_WM 196 "WaterMen$Man" "turnTicket" "I") tw_223) (fun _ h9 => h9) rfl d_WM_placeInTurns_51 (fun x_10 e_10 b_10 => ?_)
              refine lv_icmp_ge (tgt := 60) hx hb d_WM_placeInTurns_54 (by decide) (fun c_11 => ?_) (fun c_11 => ?_)
              · refine lv_iinc (v := (v3_3 + 1)) (lv' := [(3, .int (v3_3 + 1)), (4, .ref q_6), (0, .ref q0), (1, .ref pq_0), (2, .int v2_3)]) hx hb d_WM_placeInTurns_60 hl (k := 4) rfl rfl (by decide) rfl (fun ls hl => ?_)
                refine lv_goto (tgt := 14) hx hb d_WM_placeInTurns_63 (by decide) ?_
                exact ih_3 (n_3 - 1) (ms_1 ((fun (a_0 : Int32) (k_0 : ¬ (40 ≤ a_0)) => (show 1 ≤ (40 : Int32).toInt - (a_0).toInt ∧ (40 : Int32).toInt - ((a_0) + (1 : Int32)).toInt + 1 ≤ (40 : Int32).toInt - (a_0).toInt from by have z0 : (1 : Int32).toInt = 1 := (by decide +kernel); have z1 : (40 : Int32).toInt = 40 := (by decide +kernel); have r0 := fb_rng (a_0); have e0 := k_0; rw [Int32.le_iff_toInt_le, z1] at e0; obtain ⟨n_0, hn_0, s0⟩ := nd_add (x := (a_0)) (y := (1 : Int32)) (by (try rw [z0]); omega) (by (try rw [z0]); omega); rw [z0] at s0; rw [hn_0]; (try rw [z1]); omega)) v3_3 c_4) hm_3) v2_3 (v3_3 + 1) _ (show ¬ ((v3_3 + 1) < 0) from by have e0 := iv0_3; rw [Int32.lt_iff_toInt_lt] at e0; have e1 := c_4; rw [Int32.le_iff_toInt_le] at e1; have z0 : (0 : Int32).toInt = 0 := (by decide +kernel); have z1 : (1 : Int32).toInt = 1 := (by decide +kernel); have z2 : (40 : Int32).toInt = 40 := (by decide +kernel); have ss := fb_addI (x := v3_3) (y := 1) (by omega) (by omega); rw [Int32.lt_iff_toInt_lt]; omega) (show ¬ (40 < (v3_3 + 1)) from by have e0 := iv0_3; rw [Int32.lt_iff_toInt_lt] at e0; have e1 := c_4; rw [Int32.le_iff_toInt_le] at e1; have z0 : (0 : Int32).toInt = 0 := (by decide +kernel); have z1 : (1 : Int32).toInt = 1 := (by decide +kernel); have z2 : (40 : Int32).toInt = 40 := (by decide +kernel); have ss := fb_addI (x := v3_3) (y := 1) (by omega) (by omega); rw [Int32.lt_iff_toInt_lt]; omega) (by exact ms_2 ((fun (a_0 : Int32) (k_0 : ¬ (40 ≤ a_0)) => (show 1 ≤ (40 : Int32).toInt - (a_0).toInt ∧ (40 : Int32).toInt - ((a_0) + (1 : Int32)).toInt + 1 ≤ (40 : Int32).toInt - (a_0).toInt from by have z0 : (1 : Int32).toInt = 1 := (by decide +kernel); have z1 : (40 : Int32).toInt = 40 := (by decide +kernel); have r0 := fb_rng (a_0); have e0 := k_0; rw [Int32.le_iff_toInt_le, z1] at e0; obtain ⟨n_0, hn_0, s0⟩ := nd_add (x := (a_0)) (y := (1 : Int32)) (by (try rw [z0]); omega) (by (try rw [z0]); omega); rw [z0] at s0; rw [hn_0]; (try rw [z1]); omega)) v3_3 c_4) hm_3) (lv_sub hl [2, 3, 4, 0] rfl)
              · refine lv_iinc (v := (v2_3 + 1)) (lv' := [(2, .int (v2_3 + 1)), (4, .ref q_6), (0, .ref q0), (1, .ref pq_0), (3, .int v3_3)]) hx hb d_WM_placeInTurns_57 hl (k := 3) rfl rfl (by decide) rfl (fun ls hl => ?_)
                refine lv_iinc (v := (v3_3 + 1)) (lv' := [(3, .int (v3_3 + 1)), (2, .int (v2_3 + 1)), (4, .ref q_6), (0, .ref q0), (1, .ref pq_0)]) hx hb d_WM_placeInTurns_60 hl (k := 4) rfl rfl (by decide) rfl (fun ls hl => ?_)
                refine lv_goto (tgt := 14) hx hb d_WM_placeInTurns_63 (by decide) ?_
                exact ih_3 (n_3 - 1) (ms_1 ((fun (a_0 : Int32) (k_0 : ¬ (40 ≤ a_0)) => (show 1 ≤ (40 : Int32).toInt - (a_0).toInt ∧ (40 : Int32).toInt - ((a_0) + (1 : Int32)).toInt + 1 ≤ (40 : Int32).toInt - (a_0).toInt from by have z0 : (1 : Int32).toInt = 1 := (by decide +kernel); have z1 : (40 : Int32).toInt = 40 := (by decide +kernel); have r0 := fb_rng (a_0); have e0 := k_0; rw [Int32.le_iff_toInt_le, z1] at e0; obtain ⟨n_0, hn_0, s0⟩ := nd_add (x := (a_0)) (y := (1 : Int32)) (by (try rw [z0]); omega) (by (try rw [z0]); omega); rw [z0] at s0; rw [hn_0]; (try rw [z1]); omega)) v3_3 c_4) hm_3) (v2_3 + 1) (v3_3 + 1) _ (show ¬ ((v3_3 + 1) < 0) from by have e0 := iv0_3; rw [Int32.lt_iff_toInt_lt] at e0; have e1 := c_4; rw [Int32.le_iff_toInt_le] at e1; have z0 : (0 : Int32).toInt = 0 := (by decide +kernel); have z1 : (1 : Int32).toInt = 1 := (by decide +kernel); have z2 : (40 : Int32).toInt = 40 := (by decide +kernel); have ss := fb_addI (x := v3_3) (y := 1) (by omega) (by omega); rw [Int32.lt_iff_toInt_lt]; omega) (show ¬ (40 < (v3_3 + 1)) from by have e0 := iv0_3; rw [Int32.lt_iff_toInt_lt] at e0; have e1 := c_4; rw [Int32.le_iff_toInt_le] at e1; have z0 : (0 : Int32).toInt = 0 := (by decide +kernel); have z1 : (1 : Int32).toInt = 1 := (by decide +kernel); have z2 : (40 : Int32).toInt = 40 := (by decide +kernel); have ss := fb_addI (x := v3_3) (y := 1) (by omega) (by omega); rw [Int32.lt_iff_toInt_lt]; omega) (by exact ms_2 ((fun (a_0 : Int32) (k_0 : ¬ (40 ≤ a_0)) => (show 1 ≤ (40 : Int32).toInt - (a_0).toInt ∧ (40 : Int32).toInt - ((a_0) + (1 : Int32)).toInt + 1 ≤ (40 : Int32).toInt - (a_0).toInt from by have z0 : (1 : Int32).toInt = 1 := (by decide +kernel); have z1 : (40 : Int32).toInt = 40 := (by decide +kernel); have r0 := fb_rng (a_0); have e0 := k_0; rw [Int32.le_iff_toInt_le, z1] at e0; obtain ⟨n_0, hn_0, s0⟩ := nd_add (x := (a_0)) (y := (1 : Int32)) (by (try rw [z0]); omega) (by (try rw [z0]); omega); rw [z0] at s0; rw [hn_0]; (try rw [z1]); omega)) v3_3 c_4) hm_3) (lv_sub hl [3, 4, 1, 0] rfl)
    exact cut_3 4294967296 (0 : Int32) (0 : Int32) _ (by decide +kernel) (by decide +kernel) (by exact ms_0 _ _) (lv_sub hl [2, 3, 1, 0] rfl)
  · refine lv_iconst (v := (-1)) hx hb d_WM_placeInTurns_8 (by decide +kernel) ?_
    exact W.iret (v := (-1)) hx hb hr (fun t ht hW => ⟨(-1), rfl, trivial, ht⟩) t_nil d_WM_placeInTurns_9
set_option maxHeartbeats 4000000 in
set_option maxRecDepth 100000 in
theorem c_WM_man_t (l : Launch) (dC : Nat → ClassId) (dI : Nat → Nat → Nat) (ct : Nat → ClassId) (L : List Nat) (f : TF) (hO_0 : Ok L f) (q0 : Nat) (m0 : q0 ∈ L ∧ tk f q0 = 0) (p_0 : Int32) (p_1 : Int32)   : Met l y_WM_man (.code y_WM_man b_WM_man 4 (some .int) :: TB) ({ frames := 1, cells := 0, slots := 0, locals := 24 }) (va_Pc [.ref q0, .int p_0, .int p_1] (PR dC dI (TW ct L f) (TT ct))) (vp_Si (fun r => True)) 0 0 (fun _ => False) := by
  refine Met.ofW (cc := b_WM_man) (maxL := 4) (ret := (some .int)) (by decide) rfl ?_
  intro p e s m args below meth c s₁ B hml hv
  obtain ⟨rfl, hP, hK, hN⟩ := hv
  have hx := B.exec
  have hb := B.bytes
  have hr := B.returns
  have hts := atoms_spec (ws := (.code y_WM_man b_WM_man 4 (some .int) :: TB)) B.pre
  have htb := fun w (h : w ∈ TB) => hts w (List.mem_cons_of_mem _ h)
  have hown : s.vm.findClass R_WM = some m.cls := findClass_of_methodNamed B.named
  have hlocks := B.notSynchronized
  have hl := lv_entry ([.ref q0, .int p_0, .int p_1]) (n := 4) (Nat.le_of_ble_eq_true rfl)
  rw [lg_entry_eq]
  generalize (lg_sl ([.ref q0, .int p_0, .int p_1]) ++ List.replicate (4 - (lg_sl ([.ref q0, .int p_0, .int p_1])).length) Slot.unset).toArray = ls at hl ⊢
  have hl : lv_has ls 4 [(0, .ref q0), (1, .int p_0), (2, .int p_1)] := hl
  refine lv_aload_n hx hb d_WM_man_0 rfl (lv_at hl 0 rfl) ?_
  refine lv_iload_n hx hb d_WM_man_1 rfl (lv_at hl 1 rfl) ?_
  refine va_csq (va_Run.run (va_runV (As := [.int p_0]) (rest := []) ⟨hx, hb, hml, hown, htb⟩ (c_WM_manAt_t l dC dI ct L f hO_0 q0 m0 p_0) (cwV 1 htb (gd_V tw_190 tw_191 tw_192 tw_25 tw_189) rfl rfl rfl (by decide +kernel) ⟨Nat.le_of_ble_eq_true rfl, Nat.le_of_ble_eq_true rfl⟩) ⟨pr_blind, tw_recv hK hP m0 rfl rfl, pr_pre hP hK hN⟩ rfl rfl hl.1 rfl (lv_room (Nat.le_of_ble_eq_true rfl)) d_WM_man_2 ⟨Nat.le_of_ble_eq_true rfl, Nat.le_of_ble_eq_true rfl⟩)) (fun r_1 er_1 => ?_)
  rcases er_1 with rfl | ⟨q_1, rfl, m_1⟩
  · refine hb_tv .null rfl ?_
    refine lv_astore_nN (lv' := [(3, .null), (0, .ref q0), (1, .int p_0), (2, .int p_1)]) hx hb d_WM_man_5 rfl hl (by decide) rfl (fun ls hl => ?_)
    refine lv_aload_nN hx hb d_WM_man_6 rfl (lv_at hl 0 rfl) ?_
    refine lv_ifnonnullN hx hb d_WM_man_7 ?_
    refine lv_bipush (v := (-2)) hx hb d_WM_man_10 (by decide +kernel) ?_
    exact W.iret (v := (-2)) hx hb hr (fun t ht hW => ⟨(-2), rfl, trivial, ht⟩) t_nil d_WM_man_12
  · refine hb_tv (.ref q_1) rfl ?_
    refine lv_astore_n (lv' := [(3, .ref q_1), (0, .ref q0), (1, .int p_0), (2, .int p_1)]) hx hb d_WM_man_5 rfl hl (by decide) rfl (fun ls hl => ?_)
    refine lv_aload_n hx hb d_WM_man_6 rfl (lv_at hl 0 rfl) ?_
    refine lv_ifnonnull (tgt := 13) hx hb d_WM_man_7 (by decide) ?_
    refine lv_iload_n hx hb d_WM_man_13 rfl (lv_at hl 3 rfl) ?_
    by_cases c_2 : p_1 = 0
    · refine lv_tableIn (off := 42) (tgt := 56) hx hb d_WM_man_14 (by rw [c_2]; decide +kernel) (by rw [c_2]; decide +kernel) (by rw [c_2]; decide +kernel) (by decide) ?_
      refine lv_aload_n hx hb d_WM_man_56 rfl (lv_at hl 0 rfl) ?_
      refine tw_geti (D := (dC, dI)) (C := R_Mn) (T := F_Mn) (N := 8) (ci := 2) (kd := 20) (ct := ct) hx hb htb i_Mn hown hK hP hO_0 m_1 rfl rfl 0 (by decide) (htb (.fieldLink R_WM 111 "WaterMen$Man" "state" "I") tw_193) (fun _ h9 => h9) rfl d_WM_man_57 (fun x_3 e_3 b_3 => ?_)
      exact W.iret (v := x_3) hx hb hr (fun t ht hW => ⟨x_3, rfl, trivial, ht⟩) t_nil d_WM_man_60
    · by_cases c_4 : p_1 = 1
      · refine lv_tableIn (off := 47) (tgt := 61) hx hb d_WM_man_14 (by rw [c_4]; decide +kernel) (by rw [c_4]; decide +kernel) (by rw [c_4]; decide +kernel) (by decide) ?_
        refine lv_aload_n hx hb d_WM_man_61 rfl (lv_at hl 0 rfl) ?_
        refine tw_getq (D := (dC, dI)) (C := R_Mn) (T := F_Mn) (N := 8) (ci := 2) (kd := 20) (ct := ct) hx hb htb i_Mn hown hK hP hO_0 m_1 rfl rfl 1 (by decide) (htb (.fieldLink R_WM 119 "WaterMen$Man" "bond" "LWaterMen$Bond;") tw_202) (fun _ h9 => h9) rfl d_WM_man_62 (fun e_5 => ?_) (fun q_5 e_5 m_5 => ?_)
        · refine lv_ifnullN (tgt := 86) hx hb d_WM_man_65 (by decide) ?_
          refine lv_iconst (v := (-1)) hx hb d_WM_man_86 (by decide +kernel) ?_
          exact W.iret (v := (-1)) hx hb hr (fun t ht hW => ⟨(-1), rfl, trivial, ht⟩) t_nil d_WM_man_87
        · refine lv_ifnull hx hb d_WM_man_65 ?_
          refine lv_aload_n hx hb d_WM_man_68 rfl (lv_at hl 0 rfl) ?_
          refine tw_geti (D := (dC, dI)) (C := R_Mn) (T := F_Mn) (N := 8) (ci := 2) (kd := 20) (ct := ct) hx hb htb i_Mn hown hK hP hO_0 m_1 rfl rfl 0 (by decide) (htb (.fieldLink R_WM 111 "WaterMen$Man" "state" "I") tw_193) (fun _ h9 => h9) rfl d_WM_man_69 (fun x_6 e_6 b_6 => ?_)
          refine lv_iconst (v := 1) hx hb d_WM_man_72 (by decide +kernel) ?_
          refine lv_icmp_ne (tgt := 86) hx hb d_WM_man_73 (by decide) (fun c_7 => ?_) (fun c_7 => ?_)
          · refine lv_iconst (v := (-1)) hx hb d_WM_man_86 (by decide +kernel) ?_
            exact W.iret (v := (-1)) hx hb hr (fun t ht hW => ⟨(-1), rfl, trivial, ht⟩) t_nil d_WM_man_87
          · refine lv_aload_n hx hb d_WM_man_76 rfl (lv_at hl 0 rfl) ?_
            refine tw_getR (D := (dC, dI)) (C := R_Mn) (T := F_Mn) (N := 8) (ci := 2) (kd := 20) (ct := ct) hx hb htb i_Mn hown hK hP m_1 rfl rfl 1 e_5 (by decide) (htb (.fieldLink R_WM 119 "WaterMen$Man" "bond" "LWaterMen$Bond;") tw_202) (fun _ h9 => h9) rfl d_WM_man_77 ?_
            refine hb_tv (.ref q_5) rfl ?_
            refine tw_geti (D := (dC, dI)) (C := R_Bd) (T := F_Bd) (N := 5) (ci := 8) (kd := 21) (ct := ct) hx hb htb i_Bd hown hK hP hO_0 m_5 rfl rfl 0 (by decide) (htb (.fieldLink R_WM 142 "WaterMen$Bond" "master" "I") tw_221) (fun _ h9 => h9) rfl d_WM_man_80 (fun x_8 e_8 b_8 => ?_)
            refine lv_goto (tgt := 87) hx hb d_WM_man_83 (by decide) ?_
            exact W.iret (v := x_8) hx hb hr (fun t ht hW => ⟨x_8, rfl, trivial, ht⟩) t_nil d_WM_man_87
      · by_cases c_9 : p_1 = 2
        · refine lv_tableIn (off := 74) (tgt := 88) hx hb d_WM_man_14 (by rw [c_9]; decide +kernel) (by rw [c_9]; decide +kernel) (by rw [c_9]; decide +kernel) (by decide) ?_
          refine lv_aload_n hx hb d_WM_man_88 rfl (lv_at hl 0 rfl) ?_
          refine tw_geti (D := (dC, dI)) (C := R_Mn) (T := F_Mn) (N := 8) (ci := 2) (kd := 20) (ct := ct) hx hb htb i_Mn hown hK hP hO_0 m_1 rfl rfl 2 (by decide) (htb (.fieldLink R_WM 145 "WaterMen$Man" "turnStairs" "I") tw_222) (fun _ h9 => h9) rfl d_WM_man_89 (fun x_10 e_10 b_10 => ?_)
          exact W.iret (v := x_10) hx hb hr (fun t ht hW => ⟨x_10, rfl, trivial, ht⟩) t_nil d_WM_man_92
        · by_cases c_11 : p_1 = 3
          · refine lv_tableIn (off := 79) (tgt := 93) hx hb d_WM_man_14 (by rw [c_11]; decide +kernel) (by rw [c_11]; decide +kernel) (by rw [c_11]; decide +kernel) (by decide) ?_
            refine lv_aload_n hx hb d_WM_man_93 rfl (lv_at hl 1 rfl) ?_
            refine lv_aload_n hx hb d_WM_man_94 rfl (lv_at hl 0 rfl) ?_
            refine vp_callSi (va_Run.run (va_runV (As := [.ref q_1]) (rest := []) ⟨hx, hb, hml, hown, htb⟩ (c_WM_placeInTurns_t l dC dI ct L f hO_0 q0 m0 q_1 m_1) (cwV 1 htb (gd_V tw_225 tw_226 tw_227 tw_25 tw_224) rfl rfl rfl (by decide +kernel) ⟨Nat.le_of_ble_eq_true rfl, Nat.le_of_ble_eq_true rfl⟩) ⟨pr_blind, tw_recv hK hP m0 rfl rfl, pr_pre hP hK hN⟩ rfl rfl hl.1 rfl (lv_room (Nat.le_of_ble_eq_true rfl)) d_WM_man_95 ⟨Nat.le_of_ble_eq_true rfl, Nat.le_of_ble_eq_true rfl⟩)) (fun r_12 er_12 => ?_)
            clear er_12
            exact W.iret (v := r_12) hx hb hr (fun t ht hW => ⟨r_12, rfl, trivial, ht⟩) t_nil d_WM_man_98
          · by_cases c_13 : p_1 = 4
            · refine lv_tableIn (off := 85) (tgt := 99) hx hb d_WM_man_14 (by rw [c_13]; decide +kernel) (by rw [c_13]; decide +kernel) (by rw [c_13]; decide +kernel) (by decide) ?_
              refine lv_aload_n hx hb d_WM_man_99 rfl (lv_at hl 0 rfl) ?_
              refine tw_geti (D := (dC, dI)) (C := R_Mn) (T := F_Mn) (N := 8) (ci := 2) (kd := 20) (ct := ct) hx hb htb i_Mn hown hK hP hO_0 m_1 rfl rfl 4 (by decide) (htb (.fieldLink R_WM 152 "WaterMen$Man" "coins" "I") tw_228) (fun _ h9 => h9) rfl d_WM_man_100 (fun x_14 e_14 b_14 => ?_)
              exact W.iret (v := x_14) hx hb hr (fun t ht hW => ⟨x_14, rfl, trivial, ht⟩) t_nil d_WM_man_103
            · by_cases c_15 : p_1 = 5
              · refine lv_tableIn (off := 90) (tgt := 104) hx hb d_WM_man_14 (by rw [c_15]; decide +kernel) (by rw [c_15]; decide +kernel) (by rw [c_15]; decide +kernel) (by decide) ?_
                refine lv_aload_n hx hb d_WM_man_104 rfl (lv_at hl 0 rfl) ?_
                refine lv_aload_n hx hb d_WM_man_105 rfl (lv_at hl 1 rfl) ?_
                refine tw_geti (D := (dC, dI)) (C := R_WM) (T := F_WM) (N := 13) (ci := 0) (kd := 0) (ct := ct) hx hb htb i_WM hown hK hP hO_0 m0 rfl rfl 10 (by decide) (htb (.fieldLink R_WM 155 "WaterMen" "now" "I") tw_178) (fun _ h9 => h9) rfl d_WM_man_106 (fun x_16 e_16 b_16 => ?_)
                refine vp_callSi (va_Run.run (va_runV (As := [.int x_16]) (rest := []) ⟨hx, hb, hml, hown, htb⟩ (c_Mn_isOnWay_t l dC dI ct L f hO_0 q_1 m_1 x_16) (cwV 1 htb (gd_V tw_231 tw_232 tw_233 tw_230 tw_229) rfl rfl rfl (by decide +kernel) ⟨Nat.le_of_ble_eq_true rfl, Nat.le_of_ble_eq_true rfl⟩) ⟨pr_blind, tw_recv hK hP m_1 rfl rfl, pr_pre hP hK hN⟩ rfl rfl hl.1 rfl (lv_room (Nat.le_of_ble_eq_true rfl)) d_WM_man_109 ⟨Nat.le_of_ble_eq_true rfl, Nat.le_of_ble_eq_true rfl⟩)) (fun r_17 er_17 => ?_)
                rcases er_17 with ⟨rfl, -⟩ | ⟨rfl, -⟩
                · refine lv_if_eq (tgt := 119) hx hb d_WM_man_112 (by decide) (fun _ => ?_) (fun h => absurd (by decide +kernel) h)
                  refine lv_iconst (v := 0) hx hb d_WM_man_119 (by decide +kernel) ?_
                  exact W.iret (v := 0) hx hb hr (fun t ht hW => ⟨0, rfl, trivial, ht⟩) t_nil d_WM_man_120
                · refine lv_if_eq (tgt := 119) hx hb d_WM_man_112 (by decide) (fun h => absurd h (by decide +kernel)) (fun _ => ?_)
                  refine lv_iconst (v := 1) hx hb d_WM_man_115 (by decide +kernel) ?_
                  refine lv_goto (tgt := 120) hx hb d_WM_man_116 (by decide) ?_
                  exact W.iret (v := 1) hx hb hr (fun t ht hW => ⟨1, rfl, trivial, ht⟩) t_nil d_WM_man_120
              · by_cases c_18 : p_1 = 6
                · refine lv_tableIn (off := 107) (tgt := 121) hx hb d_WM_man_14 (by rw [c_18]; decide +kernel) (by rw [c_18]; decide +kernel) (by rw [c_18]; decide +kernel) (by decide) ?_
                  refine lv_aload_n hx hb d_WM_man_121 rfl (lv_at hl 0 rfl) ?_
                  refine tw_geti (D := (dC, dI)) (C := R_Mn) (T := F_Mn) (N := 8) (ci := 2) (kd := 20) (ct := ct) hx hb htb i_Mn hown hK hP hO_0 m_1 rfl rfl 6 (by decide) (htb (.fieldLink R_WM 161 "WaterMen$Man" "tripCount" "I") tw_234) (fun _ h9 => h9) rfl d_WM_man_122 (fun x_19 e_19 b_19 => ?_)
                  exact W.iret (v := x_19) hx hb hr (fun t ht hW => ⟨x_19, rfl, trivial, ht⟩) t_nil d_WM_man_125
                · refine lv_tableOut (tgt := 126) hx hb d_WM_man_14 (by have h0 := lv_neT c_2 (show (0 : Int32).toInt = 0 by decide +kernel); have h1 := lv_neT c_4 (show (1 : Int32).toInt = 1 by decide +kernel); have h2 := lv_neT c_9 (show (2 : Int32).toInt = 2 by decide +kernel); have h3 := lv_neT c_11 (show (3 : Int32).toInt = 3 by decide +kernel); have h4 := lv_neT c_13 (show (4 : Int32).toInt = 4 by decide +kernel); have h5 := lv_neT c_15 (show (5 : Int32).toInt = 5 by decide +kernel); have h6 := lv_neT c_18 (show (6 : Int32).toInt = 6 by decide +kernel); omega) (by decide) ?_
                  refine lv_bipush (v := (-2)) hx hb d_WM_man_126 (by decide +kernel) ?_
                  exact W.iret (v := (-2)) hx hb hr (fun t ht hW => ⟨(-2), rfl, trivial, ht⟩) t_nil d_WM_man_128
def f_WM_isOars  (p_0 : Int32) : Int32 := if p_0 = 1 then (1) else (if p_0 = 2 then (1) else (0))
set_option maxHeartbeats 4000000 in
set_option maxRecDepth 100000 in
theorem c_WM_isOars (l : Launch)  (p_0 : Int32)  : Met l y_WM_isOars (.code y_WM_isOars b_WM_isOars 1 (some .boolean) :: TB) ({ frames := 0, cells := 0, slots := 0, locals := 0 }) (va_Pc [.int p_0] (fun _ => True)) (vp_Si (fun r => r = f_WM_isOars p_0)) 0 0 (fun _ => False) := by
  refine Met.ofW (cc := b_WM_isOars) (maxL := 1) (ret := (some .boolean)) (by decide) rfl ?_
  intro p e s m args below meth c s₁ B hml hv
  obtain ⟨rfl, -⟩ := hv
  have hx := B.exec
  have hb := B.bytes
  have hr := B.returns
  have hts := atoms_spec (ws := (.code y_WM_isOars b_WM_isOars 1 (some .boolean) :: TB)) B.pre
  have htb := fun w (h : w ∈ TB) => hts w (List.mem_cons_of_mem _ h)
  have hown : s.vm.findClass R_WM = some m.cls := findClass_of_methodNamed B.named
  have hlocks := B.notSynchronized
  have hl := lv_entry ([.int p_0]) (n := 1) (Nat.le_of_ble_eq_true rfl)
  rw [lg_entry_eq]
  generalize (lg_sl ([.int p_0]) ++ List.replicate (1 - (lg_sl ([.int p_0])).length) Slot.unset).toArray = ls at hl ⊢
  have hl : lv_has ls 1 [(0, .int p_0)] := hl
  refine lv_iload_n hx hb d_WM_isOars_0 rfl (lv_at hl 0 rfl) ?_
  refine lv_iconst (v := 1) hx hb d_WM_isOars_1 (by decide +kernel) ?_
  refine lv_icmp_eq (tgt := 10) hx hb d_WM_isOars_2 (by decide) (fun c_1 => ?_) (fun c_1 => ?_)
  · refine lv_iconst (v := 1) hx hb d_WM_isOars_10 (by decide +kernel) ?_
    refine lv_goto (tgt := 15) hx hb d_WM_isOars_11 (by decide) ?_
    exact W.zret (v := 1) hx hb hr (by decide +kernel) (fun t ht hW => ⟨1, rfl, (by unfold f_WM_isOars; rw [if_pos c_1]), ht⟩) t_nil d_WM_isOars_15
  · refine lv_iload_n hx hb d_WM_isOars_5 rfl (lv_at hl 0 rfl) ?_
    refine lv_iconst (v := 2) hx hb d_WM_isOars_6 (by decide +kernel) ?_
    refine lv_icmp_ne (tgt := 14) hx hb d_WM_isOars_7 (by decide) (fun c_2 => ?_) (fun c_2 => ?_)
    · refine lv_iconst (v := 0) hx hb d_WM_isOars_14 (by decide +kernel) ?_
      exact W.zret (v := 0) hx hb hr (by decide +kernel) (fun t ht hW => ⟨0, rfl, (by unfold f_WM_isOars; rw [if_neg c_1, if_neg c_2]), ht⟩) t_nil d_WM_isOars_15
    · refine lv_iconst (v := 1) hx hb d_WM_isOars_10 (by decide +kernel) ?_
      refine lv_goto (tgt := 15) hx hb d_WM_isOars_11 (by decide) ?_
      exact W.zret (v := 1) hx hb hr (by decide +kernel) (fun t ht hW => ⟨1, rfl, (by unfold f_WM_isOars; rw [if_neg c_1, if_pos c_2]), ht⟩) t_nil d_WM_isOars_15
def W_Bt_init_t : List (Nat × Nat) := [(24, 0), (24, 1), (24, 3), (24, 4)]
set_option maxHeartbeats 4000000 in
set_option maxRecDepth 100000 in
theorem c_Bt_init_t (l : Launch) (dC : Nat → ClassId) (dI : Nat → Nat → Nat) (ct : Nat → ClassId) (L : List Nat) (f : TF) (hO_0 : Ok L f) (q0 : Nat) (m0 : q0 ∈ L ∧ tk f q0 = 24) (sz : Nat) (p_0 : Int32) (p_1 : Int32)  (as_0 : ¬ (p_1 < 0)) (as_1 : ¬ (11 < p_1)) : Met l y_Bt_init (.code y_Bt_init b_Bt_init 3 none :: TB) ({ frames := 1, cells := 0, slots := 0, locals := 12 }) (va_Pc [.ref q0, .int p_0, .int p_1] (PC dC dI (TW ct L f) (TT ct) sz)) (va_Qv (fun (u : TSt) => Ok u.1 u.2 ∧ Ext W_Bt_init_t L f u.1 u.2 ∧ (True)) (fun (u : TSt) t => va_P (dC, dI) vwCl (TW ct u.1 u.2) t.heap ∧ va_K (dC, dI) vwCl (TT ct) t ∧ va_D (va_A (TW ct L f) sz) (TW ct u.1 u.2)) (va_A (TW ct L f) sz)) 0 0 (va_A (TW ct L f) sz) := by
  refine Met.ofW (cc := b_Bt_init) (maxL := 3) (ret := none) (by decide) rfl ?_
  intro p e s m args below meth c s₁ B hml hv
  obtain ⟨rfl, hsz, hP, hK, hD0, hN⟩ := hv
  have hx := B.exec
  have hb := B.bytes
  have hr := B.returns
  have hts := atoms_spec (ws := (.code y_Bt_init b_Bt_init 3 none :: TB)) B.pre
  have htb := fun w (h : w ∈ TB) => hts w (List.mem_cons_of_mem _ h)
  have hown : s.vm.findClass R_Bt = some m.cls := findClass_of_methodNamed B.named
  have hlocks := B.notSynchronized
  have hin : meth.name = "<init>" := (name_of_methodNamed B.named B.method).1
  have hl := lv_entry ([.ref q0, .int p_0, .int p_1]) (n := 3) (Nat.le_of_ble_eq_true rfl)
  rw [lg_entry_eq]
  generalize (lg_sl ([.ref q0, .int p_0, .int p_1]) ++ List.replicate (3 - (lg_sl ([.ref q0, .int p_0, .int p_1])).length) Slot.unset).toArray = ls at hl ⊢
  have hl : lv_has ls 3 [(0, .ref q0), (1, .int p_0), (2, .int p_1)] := hl
  subst hsz
  have hD := hD0.self (sz := s.heap.size)
  obtain ⟨A, hAe⟩ : ∃ A, va_A (TW ct L f) s.heap.size = A := ⟨_, rfl⟩
  rw [hAe] at hD
  have hA : ∀ q : Nat, s.heap.size ≤ q → A q := fun q h => by rw [← hAe]; exact Or.inr h
  have hS : va_S A s.heap s.heap [] := va_S.rf
  have hA_0 : Ext [] L f L f := Ext.rf
  suffices hGo : ∀ (H : Heap) (locs : List Loc), va_P (dC, dI) vwCl (TW ct L f) H → va_S A s.heap H locs → W p l e (headSpec (.code y_Bt_init b_Bt_init 3 none :: TB) ({ frames := 1, cells := 0, slots := 0, locals := 12 })).room s m [.ref q0, .int p_0, .int p_1].toArray below meth c H locs 0 0 (MQ below (va_Qv (fun (u : TSt) => Ok u.1 u.2 ∧ Ext W_Bt_init_t L f u.1 u.2 ∧ (True)) (fun (u : TSt) t => va_P (dC, dI) vwCl (TW ct u.1 u.2) t.heap ∧ va_K (dC, dI) vwCl (TT ct) t ∧ va_D (va_A (TW ct L f) s.heap.size) (TW ct u.1 u.2)) (va_A (TW ct L f) s.heap.size)) [.ref q0, .int p_0, .int p_1].toArray s 0 0 (va_A (TW ct L f) s.heap.size)) (F0 m 0 ls []) from hGo _ _ hP hS
  clear hP hS
  intro H locs hP hS
  refine lv_aload_n hx hb d_Bt_init_0 rfl (lv_at hl 0 rfl) ?_
  refine W.objInit hx hb hown (htb (.methodLink R_Bt 3 objectInit) tw_247) (htb (.instanceMethod objectInit) tw_96) (htb (.code objectInit ⟨#[0xb1]⟩ 1 none) tw_97) rfl (by rw [hml]; exact hl.1) rfl d_Bt_init_1 (Nat.le_of_ble_eq_true rfl) (Nat.le_of_ble_eq_true rfl) ?_
  refine W.eq (g2 := F0 m 4 ls []) rfl ?_
  refine lv_aload_n hx hb d_Bt_init_4 rfl (lv_at hl 0 rfl) ?_
  refine lv_iconst (v := (-1)) hx hb d_Bt_init_5 (by decide +kernel) ?_
  refine tw_puti (v := (-1)) (D := (dC, dI)) (C := R_Bt) (T := F_Bt) (N := 6) (ci := 9) (kd := 24) (ct := ct) (ty := .int) hx hb htb i_Bt t_Bt t_Bt_ok n_Bt hown hK hP hD hS hO_0 m0 rfl rfl 3 (by decide) (htb (.fieldLink R_Bt 9 "WaterMen$Boat" "rower" "I") tw_248) (fun _ h9 => h9) rfl (by decide +kernel) rfl rfl rfl (i32_full _) d_Bt_init_6 (fun f_1 H locs hP hD hS hO_1 hE_1 w_1 hF_1 => ?_)
  have hA_1 := hA_0.trans hE_1
  refine lv_aload_n hx hb d_Bt_init_9 rfl (lv_at hl 0 rfl) ?_
  refine lv_iconst (v := (-1)) hx hb d_Bt_init_10 (by decide +kernel) ?_
  refine tw_puti (v := (-1)) (D := (dC, dI)) (C := R_Bt) (T := F_Bt) (N := 6) (ci := 9) (kd := 24) (ct := ct) (ty := .int) hx hb htb i_Bt t_Bt t_Bt_ok n_Bt hown hK hP hD hS hO_1 (hA_1.m m0) rfl rfl 4 (by decide) (htb (.fieldLink R_Bt 15 "WaterMen$Boat" "lastTrip" "I") tw_249) (fun _ h9 => h9) rfl (by decide +kernel) rfl rfl rfl (i32_full _) d_Bt_init_11 (fun f_2 H locs hP hD hS hO_2 hE_2 w_2 hF_2 => ?_)
  have hA_2 := hA_1.trans hE_2
  refine lv_aload_n hx hb d_Bt_init_14 rfl (lv_at hl 0 rfl) ?_
  refine lv_iload_n hx hb d_Bt_init_15 rfl (lv_at hl 1 rfl) ?_
  refine tw_putFi (v := p_0) (D := (dC, dI)) (C := R_Bt) (T := F_Bt) (N := 6) (ci := 9) (kd := 24) (ct := ct) (ty := .int) hx hb htb i_Bt t_Bt t_Bt_ok n_Bt hown hK hP hD hS hO_2 (hA_2.m m0) rfl rfl 0 (by decide) (htb (.fieldLink R_Bt 18 "WaterMen$Boat" "oars" "I") tw_250) (fun _ h9 => h9) rfl hin rfl (by decide +kernel) rfl rfl rfl (i32_full _) d_Bt_init_16 (fun f_3 H locs hP hD hS hO_3 hE_3 w_3 hF_3 => ?_)
  have hA_3 := hA_2.trans hE_3
  refine lv_aload_n hx hb d_Bt_init_19 rfl (lv_at hl 0 rfl) ?_
  refine lv_iload_n hx hb d_Bt_init_20 rfl (lv_at hl 2 rfl) ?_
  refine tw_puti (v := p_1) (D := (dC, dI)) (C := R_Bt) (T := F_Bt) (N := 6) (ci := 9) (kd := 24) (ct := ct) (ty := .int) hx hb htb i_Bt t_Bt t_Bt_ok n_Bt hown hK hP hD hS hO_3 (hA_3.m m0) rfl rfl 1 (by decide) (htb (.fieldLink R_Bt 21 "WaterMen$Boat" "stairs" "I") tw_251) (fun _ h9 => h9) rfl (by decide +kernel) rfl rfl rfl ⟨as_0, as_1⟩ d_Bt_init_21 (fun f_4 H locs hP hD hS hO_4 hE_4 w_4 hF_4 => ?_)
  have hA_4 := hA_3.trans hE_4
  refine W.widen (k := 0) (n := 0) (Nat.le_of_ble_eq_true rfl) (Nat.le_of_ble_eq_true rfl) ?_
  exact W.vret hx hb hr (fun t ht hW => ⟨⟨(L, f_4), rfl, ⟨hO_4, hA_4.mono (by decide +kernel), trivial⟩, by rw [ht]; exact hP, va_K.moved hW.alike hK, by rw [hAe]; exact hD⟩, by rw [hAe]; exact hS.F ht⟩) (by rw [hAe]; exact hS.2.2) d_Bt_init_24
def W_WM_boat_t : List (Nat × Nat) := [(0, 7), (7, 1000), (24, 0), (24, 1), (24, 3), (24, 4)]
set_option maxHeartbeats 4000000 in
set_option maxRecDepth 100000 in
theorem c_WM_boat_t (l : Launch) (dC : Nat → ClassId) (dI : Nat → Nat → Nat) (ct : Nat → ClassId) (L : List Nat) (f : TF) (hO_0 : Ok L f) (q0 : Nat) (m0 : q0 ∈ L ∧ tk f q0 = 0) (sz : Nat) (p_0 : Int32) (p_1 : Int32)   : Met l y_WM_boat (.code y_WM_boat b_WM_boat 3 (some .int) :: TB) ({ frames := 2, cells := 1, slots := 6, locals := 34 }) (va_Pc [.ref q0, .int p_0, .int p_1] (PC dC dI (TW ct L f) (TT ct) sz)) (va_Qi (fun r (u : TSt) => Ok u.1 u.2 ∧ Ext W_WM_boat_t L f u.1 u.2 ∧ (True)) (fun (u : TSt) t => va_P (dC, dI) vwCl (TW ct u.1 u.2) t.heap ∧ va_K (dC, dI) vwCl (TT ct) t ∧ va_D (va_A (TW ct L f) sz) (TW ct u.1 u.2)) (va_A (TW ct L f) sz)) 1 6 (va_A (TW ct L f) sz) := by
  refine Met.ofW (cc := b_WM_boat) (maxL := 3) (ret := (some .int)) (by decide) rfl ?_
  intro p e s m args below meth c s₁ B hml hv
  obtain ⟨rfl, hsz, hP, hK, hD0, hN⟩ := hv
  have hx := B.exec
  have hb := B.bytes
  have hr := B.returns
  have hts := atoms_spec (ws := (.code y_WM_boat b_WM_boat 3 (some .int) :: TB)) B.pre
  have htb := fun w (h : w ∈ TB) => hts w (List.mem_cons_of_mem _ h)
  have hown : s.vm.findClass R_WM = some m.cls := findClass_of_methodNamed B.named
  have hlocks := B.notSynchronized
  have hl := lv_entry ([.ref q0, .int p_0, .int p_1]) (n := 3) (Nat.le_of_ble_eq_true rfl)
  rw [lg_entry_eq]
  generalize (lg_sl ([.ref q0, .int p_0, .int p_1]) ++ List.replicate (3 - (lg_sl ([.ref q0, .int p_0, .int p_1])).length) Slot.unset).toArray = ls at hl ⊢
  have hl : lv_has ls 3 [(0, .ref q0), (1, .int p_0), (2, .int p_1)] := hl
  subst hsz
  have hD := hD0.self (sz := s.heap.size)
  obtain ⟨A, hAe⟩ : ∃ A, va_A (TW ct L f) s.heap.size = A := ⟨_, rfl⟩
  rw [hAe] at hD
  have hA : ∀ q : Nat, s.heap.size ≤ q → A q := fun q h => by rw [← hAe]; exact Or.inr h
  have hS : va_S A s.heap s.heap [] := va_S.rf
  have hA_0 : Ext [] L f L f := Ext.rf
  suffices hGo : ∀ (H : Heap) (locs : List Loc), va_P (dC, dI) vwCl (TW ct L f) H → va_S A s.heap H locs → W p l e (headSpec (.code y_WM_boat b_WM_boat 3 (some .int) :: TB) ({ frames := 2, cells := 1, slots := 6, locals := 34 })).room s m [.ref q0, .int p_0, .int p_1].toArray below meth c H locs 0 0 (MQ below (va_Qi (fun r (u : TSt) => Ok u.1 u.2 ∧ Ext W_WM_boat_t L f u.1 u.2 ∧ (True)) (fun (u : TSt) t => va_P (dC, dI) vwCl (TW ct u.1 u.2) t.heap ∧ va_K (dC, dI) vwCl (TT ct) t ∧ va_D (va_A (TW ct L f) s.heap.size) (TW ct u.1 u.2)) (va_A (TW ct L f) s.heap.size)) [.ref q0, .int p_0, .int p_1].toArray s 1 6 (va_A (TW ct L f) s.heap.size)) (F0 m 0 ls []) from hGo _ _ hP hS
  clear hP hS
  intro H locs hP hS
  refine lv_iload_n hx hb d_WM_boat_0 rfl (lv_at hl 1 rfl) ?_
  refine vp_callSi (va_Run.run (va_runS (As := [.int p_0]) (rest := []) ⟨hx, hb, hml, hown, htb⟩ (c_WM_isOars l p_0) (cwS 1 htb (gd_S tw_236 tw_237 tw_25 tw_235) rfl rfl rfl (by decide +kernel) ⟨Nat.le_of_ble_eq_true rfl, Nat.le_of_ble_eq_true rfl⟩) ⟨fun _ _ _ _ h => h, fun U _ _ => ⟨rfl, trivial⟩⟩ rfl rfl hl.1 rfl (lv_room (Nat.le_of_ble_eq_true rfl)) d_WM_boat_1 ⟨Nat.le_of_ble_eq_true rfl, Nat.le_of_ble_eq_true rfl⟩)) (fun r er => ?_)
  subst er
  by_cases c_2 : p_0 = 1
  · refine hb_ti 1 (by unfold f_WM_isOars; rw [if_pos c_2]; first | done | rfl) ?_
    refine lv_if_eq (tgt := 18) hx hb d_WM_boat_4 (by decide) (fun h => absurd h (by decide +kernel)) (fun _ => ?_)
    refine lv_aload_n hx hb d_WM_boat_7 rfl (lv_at hl 0 rfl) ?_
    refine tw_getr (D := (dC, dI)) (C := R_WM) (T := F_WM) (N := 13) (ci := 0) (kd := 0) (ct := ct) hx hb htb i_WM hown hK hP hO_0 m0 rfl rfl 0 (by decide) (htb (.fieldLink R_WM 12 "WaterMen" "river" "LWaterMen$River;") tw_154) (fun _ h9 => h9) rfl d_WM_boat_8 (fun q_3 e_3 m_3 => ?_)
    refine lv_iload_n hx hb d_WM_boat_11 rfl (lv_at hl 2 rfl) ?_
    refine vp_callSi (va_Run.run (va_runV (As := [.int p_1]) (rest := []) ⟨hx, hb, hml, hown, htb⟩ (c_Rv_hasStairs_t l dC dI ct L f hO_0 q_3 m_3 p_1) (cwV 1 htb (gd_V tw_239 tw_240 tw_241 tw_45 tw_238) rfl rfl rfl (by decide +kernel) ⟨Nat.le_of_ble_eq_true rfl, Nat.le_of_ble_eq_true rfl⟩) ⟨pr_blind, tw_recv hK hP m_3 rfl rfl, pr_pre hP hK hN⟩ rfl rfl hl.1 rfl (lv_room (Nat.le_of_ble_eq_true rfl)) d_WM_boat_12 ⟨Nat.le_of_ble_eq_true rfl, Nat.le_of_ble_eq_true rfl⟩)) (fun r_4 er_4 => ?_)
    rcases er_4 with ⟨rfl, -⟩ | ⟨rfl, po_5, po_6, -⟩
    · refine lv_if_ne (tgt := 20) hx hb d_WM_boat_15 (by decide) (fun h => absurd (by decide +kernel) h) (fun _ => ?_)
      refine lv_iconst (v := (-1)) hx hb d_WM_boat_18 (by decide +kernel) ?_
      refine W.widen (k := 1) (n := 6) (Nat.le_of_ble_eq_true rfl) (Nat.le_of_ble_eq_true rfl) ?_
      exact W.iret (v := (-1)) hx hb hr (fun t ht hW => ⟨⟨(-1), (L, f), rfl, ⟨hO_0, hA_0.mono (by decide +kernel), trivial⟩, by rw [ht]; exact hP, va_K.moved hW.alike hK, by rw [hAe]; exact hD⟩, by rw [hAe]; exact hS.F ht⟩) (by rw [hAe]; exact hS.2.2) d_WM_boat_19
    · refine lv_if_ne (tgt := 20) hx hb d_WM_boat_15 (by decide) (fun _ => ?_) (fun h => absurd h (by decide +kernel))
      refine lv_aload_n hx hb d_WM_boat_20 rfl (lv_at hl 0 rfl) ?_
      refine tw_geti (D := (dC, dI)) (C := R_WM) (T := F_WM) (N := 13) (ci := 0) (kd := 0) (ct := ct) hx hb htb i_WM hown hK hP hO_0 m0 rfl rfl 7 (by decide) (htb (.fieldLink R_WM 170 "WaterMen" "boatCount" "I") tw_242) (fun _ h9 => h9) rfl d_WM_boat_21 (fun x_7 e_7 b_7 => ?_)
      refine lv_bipush (v := 20) hx hb d_WM_boat_24 (by decide +kernel) ?_
      refine lv_icmp_lt (tgt := 32) hx hb d_WM_boat_26 (by decide) (fun c_8 => ?_) (fun c_8 => ?_)
      · refine lv_aload_n hx hb d_WM_boat_32 rfl (lv_at hl 0 rfl) ?_
        refine tw_getr (D := (dC, dI)) (C := R_WM) (T := F_WM) (N := 13) (ci := 0) (kd := 0) (ct := ct) hx hb htb i_WM hown hK hP hO_0 m0 rfl rfl 2 (by decide) (htb (.fieldLink R_WM 24 "WaterMen" "boats" "[LWaterMen$Boat;") tw_243) (fun _ h9 => h9) rfl d_WM_boat_33 (fun q_9 e_9 m_9 => ?_)
        refine lv_aload_n hx hb d_WM_boat_36 rfl (lv_at hl 0 rfl) ?_
        refine tw_getI (x := x_7) (D := (dC, dI)) (C := R_WM) (T := F_WM) (N := 13) (ci := 0) (kd := 0) (ct := ct) hx hb htb i_WM hown hK hP m0 rfl rfl 7 e_7 (by decide) (htb (.fieldLink R_WM 170 "WaterMen" "boatCount" "I") tw_242) (fun _ h9 => h9) rfl d_WM_boat_37 ?_
        refine tw_newO (D := (dC, dI)) (ci := 9) (fs := [.int 0, .int 0, .int 0, .int 0, .int 0, .int 0]) (C := R_Bt) (T := F_Bt) (N := 6) (ct := ct) hx hb htb i_Bt t_Bt t_Bt_ok hown (htb (.classLink R_WM 22 R_Bt) tw_244) (htb (.instantiable R_Bt 6) tw_245) (htb (.initialized R_Bt) tw_246) hK hP hD hS hA hO_0 24 rfl rfl rfl (by decide +kernel) (df_Bt) (Nat.le_of_ble_eq_true rfl) (Nat.le_of_ble_eq_true rfl) d_WM_boat_40 (fun q_n1 L_1 f_1 H hP hD hS hO_1 hE_1 m_n1 nq_1 hL_1 hF_1 => ?_)
        have hA_1 := hA_0.trans hE_1
        refine lv_dup hx hb d_WM_boat_43 rfl ?_
        refine lv_iload_n hx hb d_WM_boat_44 rfl (lv_at hl 1 rfl) ?_
        refine lv_iload_n hx hb d_WM_boat_45 rfl (lv_at hl 2 rfl) ?_
        have hFc := hb_free hD hS hA
        refine va_callv (va_runI (As := [.int p_0, .int p_1]) (rest := [.ref q_n1, .int x_7, .ref q_9]) ⟨hx, hb, hml, hown, htb⟩ (c_Bt_init_t l dC dI ct L_1 f_1 hO_1 q_n1 m_n1 _ p_0 p_1 po_5 po_6) (cwI 2 htb (gd_I tw_252) rfl rfl rfl (htb (.initialized R_Bt) tw_246) (htb (.methodLink R_WM 173 y_Bt_init) tw_253) (htb (.instanceMethod y_Bt_init) tw_254) rfl (by decide +kernel) ⟨Nat.le_of_ble_eq_true rfl, Nat.le_of_ble_eq_true rfl⟩) ⟨pc_blind, pc_pre hP hK hD hN⟩ rfl rfl hl.1 rfl (lv_room (Nat.le_of_ble_eq_true rfl)) d_WM_boat_46 ⟨Nat.le_of_ble_eq_true rfl, Nat.le_of_ble_eq_true rfl⟩) hS (fun q _ h => hFc q h) hFc (fun u t H locs ht hvm er hB hz1 hk1 hS => ?_)
        obtain ⟨L_2, f_2⟩ := u
        obtain ⟨hO_2, hE_2, er⟩ := er
        obtain ⟨hP, hK1, hD1⟩ := hB
        rw [ht] at hP
        have hP : va_P (dC, dI) vwCl (TW ct L_2 f_2) H := hP
        have hD : va_D A (TW ct L_2 f_2) := hD1.weaken (fun _ q _ h => hFc q.1 h)
        have hO_2 : Ok L_2 f_2 := hO_2
        have hE_2 : Ext W_Bt_init_t L_1 f_1 L_2 f_2 := hE_2
        clear hK1 hD1 ht hvm hz1 hk1
        have hA_2 := hA_1.trans hE_2
        clear er
        refine tw_astq (ct := ct) hx hb hK hP hD hS hO_2 (hA_2.m m_9) rfl rfl (hE_2.m m_n1) rfl rfl (hb_inp b_7.1 c_8 (by decide +kernel)) d_WM_boat_49 (fun f_3 H locs hP hD hS hO_3 hE_3 w_11 hF_3 => ?_)
        have hA_3 := hA_2.trans hE_3
        refine lv_aload_n hx hb d_WM_boat_50 rfl (lv_at hl 0 rfl) ?_
        refine lv_dup hx hb d_WM_boat_51 rfl ?_
        refine tw_getI (x := x_7) (D := (dC, dI)) (C := R_WM) (T := F_WM) (N := 13) (ci := 0) (kd := 0) (ct := ct) hx hb htb i_WM hown hK hP (hA_3.m m0) rfl rfl 7 ((hA_3.ei m0 rfl).trans e_7) (by decide) (htb (.fieldLink R_WM 170 "WaterMen" "boatCount" "I") tw_242) (fun _ h9 => h9) rfl d_WM_boat_52 ?_
        refine lv_iconst (v := 1) hx hb d_WM_boat_55 (by decide +kernel) ?_
        refine lv_iadd hx hb d_WM_boat_56 ?_
        refine tw_puti (v := (x_7 + 1)) (D := (dC, dI)) (C := R_WM) (T := F_WM) (N := 13) (ci := 0) (kd := 0) (ct := ct) (ty := .int) hx hb htb i_WM t_WM t_WM_ok n_WM hown hK hP hD hS hO_3 (hA_3.m m0) rfl rfl 7 (by decide) (htb (.fieldLink R_WM 170 "WaterMen" "boatCount" "I") tw_242) (fun _ h9 => h9) rfl (by decide +kernel) rfl rfl rfl ⟨(show ¬ ((x_7 + 1) < 0) from by have e0 := b_7.1; rw [Int32.lt_iff_toInt_lt] at e0; have e1 := c_8; rw [Int32.lt_iff_toInt_lt] at e1; have z0 : (0 : Int32).toInt = 0 := (by decide +kernel); have z1 : (1 : Int32).toInt = 1 := (by decide +kernel); have z2 : (20 : Int32).toInt = 20 := (by decide +kernel); have ss := fb_addI (x := x_7) (y := 1) (by omega) (by omega); rw [Int32.lt_iff_toInt_lt]; omega), (show ¬ (20 < (x_7 + 1)) from by have e0 := b_7.1; rw [Int32.lt_iff_toInt_lt] at e0; have e1 := c_8; rw [Int32.lt_iff_toInt_lt] at e1; have z0 : (0 : Int32).toInt = 0 := (by decide +kernel); have z1 : (1 : Int32).toInt = 1 := (by decide +kernel); have z2 : (20 : Int32).toInt = 20 := (by decide +kernel); have ss := fb_addI (x := x_7) (y := 1) (by omega) (by omega); rw [Int32.lt_iff_toInt_lt]; omega)⟩ d_WM_boat_57 (fun f_4 H locs hP hD hS hO_4 hE_4 w_12 hF_4 => ?_)
        have hA_4 := hA_3.trans hE_4
        refine lv_aload_n hx hb d_WM_boat_60 rfl (lv_at hl 0 rfl) ?_
        refine tw_getI (x := (x_7 + 1)) (D := (dC, dI)) (C := R_WM) (T := F_WM) (N := 13) (ci := 0) (kd := 0) (ct := ct) hx hb htb i_WM hown hK hP (hA_4.m m0) rfl rfl 7 w_12 (by decide) (htb (.fieldLink R_WM 170 "WaterMen" "boatCount" "I") tw_242) (fun _ h9 => h9) rfl d_WM_boat_61 ?_
        refine lv_iconst (v := 1) hx hb d_WM_boat_64 (by decide +kernel) ?_
        refine lv_isub hx hb d_WM_boat_65 ?_
        refine W.widen (k := 1) (n := 6) (Nat.le_of_ble_eq_true rfl) (Nat.le_of_ble_eq_true rfl) ?_
        exact W.iret (v := ((x_7 + 1) - 1)) hx hb hr (fun t ht hW => ⟨⟨((x_7 + 1) - 1), (L_2, f_4), rfl, ⟨hO_4, hA_4.mono (by decide +kernel), trivial⟩, by rw [ht]; exact hP, va_K.moved hW.alike hK, by rw [hAe]; exact hD⟩, by rw [hAe]; exact hS.F ht⟩) (by rw [hAe]; exact hS.2.2) d_WM_boat_66
      · refine lv_bipush (v := (-3)) hx hb d_WM_boat_29 (by decide +kernel) ?_
        refine W.widen (k := 1) (n := 6) (Nat.le_of_ble_eq_true rfl) (Nat.le_of_ble_eq_true rfl) ?_
        exact W.iret (v := (-3)) hx hb hr (fun t ht hW => ⟨⟨(-3), (L, f), rfl, ⟨hO_0, hA_0.mono (by decide +kernel), trivial⟩, by rw [ht]; exact hP, va_K.moved hW.alike hK, by rw [hAe]; exact hD⟩, by rw [hAe]; exact hS.F ht⟩) (by rw [hAe]; exact hS.2.2) d_WM_boat_31
  · by_cases c_13 : p_0 = 2
    · refine hb_ti 1 (by unfold f_WM_isOars; rw [if_neg c_2, if_pos c_13]; first | done | rfl) ?_
      refine lv_if_eq (tgt := 18) hx hb d_WM_boat_4 (by decide) (fun h => absurd h (by decide +kernel)) (fun _ => ?_)
      refine lv_aload_n hx hb d_WM_boat_7 rfl (lv_at hl 0 rfl) ?_
      refine tw_getr (D := (dC, dI)) (C := R_WM) (T := F_WM) (N := 13) (ci := 0) (kd := 0) (ct := ct) hx hb htb i_WM hown hK hP hO_0 m0 rfl rfl 0 (by decide) (htb (.fieldLink R_WM 12 "WaterMen" "river" "LWaterMen$River;") tw_154) (fun _ h9 => h9) rfl d_WM_boat_8 (fun q_14 e_14 m_14 => ?_)
      refine lv_iload_n hx hb d_WM_boat_11 rfl (lv_at hl 2 rfl) ?_
      refine vp_callSi (va_Run.run (va_runV (As := [.int p_1]) (rest := []) ⟨hx, hb, hml, hown, htb⟩ (c_Rv_hasStairs_t l dC dI ct L f hO_0 q_14 m_14 p_1) (cwV 1 htb (gd_V tw_239 tw_240 tw_241 tw_45 tw_238) rfl rfl rfl (by decide +kernel) ⟨Nat.le_of_ble_eq_true rfl, Nat.le_of_ble_eq_true rfl⟩) ⟨pr_blind, tw_recv hK hP m_14 rfl rfl, pr_pre hP hK hN⟩ rfl rfl hl.1 rfl (lv_room (Nat.le_of_ble_eq_true rfl)) d_WM_boat_12 ⟨Nat.le_of_ble_eq_true rfl, Nat.le_of_ble_eq_true rfl⟩)) (fun r_15 er_15 => ?_)
      rcases er_15 with ⟨rfl, -⟩ | ⟨rfl, po_16, po_17, -⟩
      · refine lv_if_ne (tgt := 20) hx hb d_WM_boat_15 (by decide) (fun h => absurd (by decide +kernel) h) (fun _ => ?_)
        refine lv_iconst (v := (-1)) hx hb d_WM_boat_18 (by decide +kernel) ?_
        refine W.widen (k := 1) (n := 6) (Nat.le_of_ble_eq_true rfl) (Nat.le_of_ble_eq_true rfl) ?_
        exact W.iret (v := (-1)) hx hb hr (fun t ht hW => ⟨⟨(-1), (L, f), rfl, ⟨hO_0, hA_0.mono (by decide +kernel), trivial⟩, by rw [ht]; exact hP, va_K.moved hW.alike hK, by rw [hAe]; exact hD⟩, by rw [hAe]; exact hS.F ht⟩) (by rw [hAe]; exact hS.2.2) d_WM_boat_19
      · refine lv_if_ne (tgt := 20) hx hb d_WM_boat_15 (by decide) (fun _ => ?_) (fun h => absurd h (by decide +kernel))
        refine lv_aload_n hx hb d_WM_boat_20 rfl (lv_at hl 0 rfl) ?_
        refine tw_geti (D := (dC, dI)) (C := R_WM) (T := F_WM) (N := 13) (ci := 0) (kd := 0) (ct := ct) hx hb htb i_WM hown hK hP hO_0 m0 rfl rfl 7 (by decide) (htb (.fieldLink R_WM 170 "WaterMen" "boatCount" "I") tw_242) (fun _ h9 => h9) rfl d_WM_boat_21 (fun x_18 e_18 b_18 => ?_)
        refine lv_bipush (v := 20) hx hb d_WM_boat_24 (by decide +kernel) ?_
        refine lv_icmp_lt (tgt := 32) hx hb d_WM_boat_26 (by decide) (fun c_19 => ?_) (fun c_19 => ?_)
        · refine lv_aload_n hx hb d_WM_boat_32 rfl (lv_at hl 0 rfl) ?_
          refine tw_getr (D := (dC, dI)) (C := R_WM) (T := F_WM) (N := 13) (ci := 0) (kd := 0) (ct := ct) hx hb htb i_WM hown hK hP hO_0 m0 rfl rfl 2 (by decide) (htb (.fieldLink R_WM 24 "WaterMen" "boats" "[LWaterMen$Boat;") tw_243) (fun _ h9 => h9) rfl d_WM_boat_33 (fun q_20 e_20 m_20 => ?_)
          refine lv_aload_n hx hb d_WM_boat_36 rfl (lv_at hl 0 rfl) ?_
          refine tw_getI (x := x_18) (D := (dC, dI)) (C := R_WM) (T := F_WM) (N := 13) (ci := 0) (kd := 0) (ct := ct) hx hb htb i_WM hown hK hP m0 rfl rfl 7 e_18 (by decide) (htb (.fieldLink R_WM 170 "WaterMen" "boatCount" "I") tw_242) (fun _ h9 => h9) rfl d_WM_boat_37 ?_
          refine tw_newO (D := (dC, dI)) (ci := 9) (fs := [.int 0, .int 0, .int 0, .int 0, .int 0, .int 0]) (C := R_Bt) (T := F_Bt) (N := 6) (ct := ct) hx hb htb i_Bt t_Bt t_Bt_ok hown (htb (.classLink R_WM 22 R_Bt) tw_244) (htb (.instantiable R_Bt 6) tw_245) (htb (.initialized R_Bt) tw_246) hK hP hD hS hA hO_0 24 rfl rfl rfl (by decide +kernel) (df_Bt) (Nat.le_of_ble_eq_true rfl) (Nat.le_of_ble_eq_true rfl) d_WM_boat_40 (fun q_n1 L_1 f_1 H hP hD hS hO_1 hE_1 m_n1 nq_1 hL_1 hF_1 => ?_)
          have hA_1 := hA_0.trans hE_1
          refine lv_dup hx hb d_WM_boat_43 rfl ?_
          refine lv_iload_n hx hb d_WM_boat_44 rfl (lv_at hl 1 rfl) ?_
          refine lv_iload_n hx hb d_WM_boat_45 rfl (lv_at hl 2 rfl) ?_
          have hFc := hb_free hD hS hA
          refine va_callv (va_runI (As := [.int p_0, .int p_1]) (rest := [.ref q_n1, .int x_18, .ref q_20]) ⟨hx, hb, hml, hown, htb⟩ (c_Bt_init_t l dC dI ct L_1 f_1 hO_1 q_n1 m_n1 _ p_0 p_1 po_16 po_17) (cwI 2 htb (gd_I tw_252) rfl rfl rfl (htb (.initialized R_Bt) tw_246) (htb (.methodLink R_WM 173 y_Bt_init) tw_253) (htb (.instanceMethod y_Bt_init) tw_254) rfl (by decide +kernel) ⟨Nat.le_of_ble_eq_true rfl, Nat.le_of_ble_eq_true rfl⟩) ⟨pc_blind, pc_pre hP hK hD hN⟩ rfl rfl hl.1 rfl (lv_room (Nat.le_of_ble_eq_true rfl)) d_WM_boat_46 ⟨Nat.le_of_ble_eq_true rfl, Nat.le_of_ble_eq_true rfl⟩) hS (fun q _ h => hFc q h) hFc (fun u t H locs ht hvm er hB hz1 hk1 hS => ?_)
          obtain ⟨L_2, f_2⟩ := u
          obtain ⟨hO_2, hE_2, er⟩ := er
          obtain ⟨hP, hK1, hD1⟩ := hB
          rw [ht] at hP
          have hP : va_P (dC, dI) vwCl (TW ct L_2 f_2) H := hP
          have hD : va_D A (TW ct L_2 f_2) := hD1.weaken (fun _ q _ h => hFc q.1 h)
          have hO_2 : Ok L_2 f_2 := hO_2
          have hE_2 : Ext W_Bt_init_t L_1 f_1 L_2 f_2 := hE_2
          clear hK1 hD1 ht hvm hz1 hk1
          have hA_2 := hA_1.trans hE_2
          clear er
          refine tw_astq (ct := ct) hx hb hK hP hD hS hO_2 (hA_2.m m_20) rfl rfl (hE_2.m m_n1) rfl rfl (hb_inp b_18.1 c_19 (by decide +kernel)) d_WM_boat_49 (fun f_3 H locs hP hD hS hO_3 hE_3 w_22 hF_3 => ?_)
          have hA_3 := hA_2.trans hE_3
          refine lv_aload_n hx hb d_WM_boat_50 rfl (lv_at hl 0 rfl) ?_
          refine lv_dup hx hb d_WM_boat_51 rfl ?_
          refine tw_getI (x := x_18) (D := (dC, dI)) (C := R_WM) (T := F_WM) (N := 13) (ci := 0) (kd := 0) (ct := ct) hx hb htb i_WM hown hK hP (hA_3.m m0) rfl rfl 7 ((hA_3.ei m0 rfl).trans e_18) (by decide) (htb (.fieldLink R_WM 170 "WaterMen" "boatCount" "I") tw_242) (fun _ h9 => h9) rfl d_WM_boat_52 ?_
          refine lv_iconst (v := 1) hx hb d_WM_boat_55 (by decide +kernel) ?_
          refine lv_iadd hx hb d_WM_boat_56 ?_
          refine tw_puti (v := (x_18 + 1)) (D := (dC, dI)) (C := R_WM) (T := F_WM) (N := 13) (ci := 0) (kd := 0) (ct := ct) (ty := .int) hx hb htb i_WM t_WM t_WM_ok n_WM hown hK hP hD hS hO_3 (hA_3.m m0) rfl rfl 7 (by decide) (htb (.fieldLink R_WM 170 "WaterMen" "boatCount" "I") tw_242) (fun _ h9 => h9) rfl (by decide +kernel) rfl rfl rfl ⟨(show ¬ ((x_18 + 1) < 0) from by have e0 := b_18.1; rw [Int32.lt_iff_toInt_lt] at e0; have e1 := c_19; rw [Int32.lt_iff_toInt_lt] at e1; have z0 : (0 : Int32).toInt = 0 := (by decide +kernel); have z1 : (1 : Int32).toInt = 1 := (by decide +kernel); have z2 : (20 : Int32).toInt = 20 := (by decide +kernel); have ss := fb_addI (x := x_18) (y := 1) (by omega) (by omega); rw [Int32.lt_iff_toInt_lt]; omega), (show ¬ (20 < (x_18 + 1)) from by have e0 := b_18.1; rw [Int32.lt_iff_toInt_lt] at e0; have e1 := c_19; rw [Int32.lt_iff_toInt_lt] at e1; have z0 : (0 : Int32).toInt = 0 := (by decide +kernel); have z1 : (1 : Int32).toInt = 1 := (by decide +kernel); have z2 : (20 : Int32).toInt = 20 := (by decide +kernel); have ss := fb_addI (x := x_18) (y := 1) (by omega) (by omega); rw [Int32.lt_iff_toInt_lt]; omega)⟩ d_WM_boat_57 (fun f_4 H locs hP hD hS hO_4 hE_4 w_23 hF_4 => ?_)
          have hA_4 := hA_3.trans hE_4
          refine lv_aload_n hx hb d_WM_boat_60 rfl (lv_at hl 0 rfl) ?_
          refine tw_getI (x := (x_18 + 1)) (D := (dC, dI)) (C := R_WM) (T := F_WM) (N := 13) (ci := 0) (kd := 0) (ct := ct) hx hb htb i_WM hown hK hP (hA_4.m m0) rfl rfl 7 w_23 (by decide) (htb (.fieldLink R_WM 170 "WaterMen" "boatCount" "I") tw_242) (fun _ h9 => h9) rfl d_WM_boat_61 ?_
          refine lv_iconst (v := 1) hx hb d_WM_boat_64 (by decide +kernel) ?_
          refine lv_isub hx hb d_WM_boat_65 ?_
          refine W.widen (k := 1) (n := 6) (Nat.le_of_ble_eq_true rfl) (Nat.le_of_ble_eq_true rfl) ?_
          exact W.iret (v := ((x_18 + 1) - 1)) hx hb hr (fun t ht hW => ⟨⟨((x_18 + 1) - 1), (L_2, f_4), rfl, ⟨hO_4, hA_4.mono (by decide +kernel), trivial⟩, by rw [ht]; exact hP, va_K.moved hW.alike hK, by rw [hAe]; exact hD⟩, by rw [hAe]; exact hS.F ht⟩) (by rw [hAe]; exact hS.2.2) d_WM_boat_66
        · refine lv_bipush (v := (-3)) hx hb d_WM_boat_29 (by decide +kernel) ?_
          refine W.widen (k := 1) (n := 6) (Nat.le_of_ble_eq_true rfl) (Nat.le_of_ble_eq_true rfl) ?_
          exact W.iret (v := (-3)) hx hb hr (fun t ht hW => ⟨⟨(-3), (L, f), rfl, ⟨hO_0, hA_0.mono (by decide +kernel), trivial⟩, by rw [ht]; exact hP, va_K.moved hW.alike hK, by rw [hAe]; exact hD⟩, by rw [hAe]; exact hS.F ht⟩) (by rw [hAe]; exact hS.2.2) d_WM_boat_31
    · refine hb_ti 0 (by unfold f_WM_isOars; rw [if_neg c_2, if_neg c_13]; first | done | rfl) ?_
      refine lv_if_eq (tgt := 18) hx hb d_WM_boat_4 (by decide) (fun _ => ?_) (fun h => absurd (by decide +kernel) h)
      refine lv_iconst (v := (-1)) hx hb d_WM_boat_18 (by decide +kernel) ?_
      refine W.widen (k := 1) (n := 6) (Nat.le_of_ble_eq_true rfl) (Nat.le_of_ble_eq_true rfl) ?_
      exact W.iret (v := (-1)) hx hb hr (fun t ht hW => ⟨⟨(-1), (L, f), rfl, ⟨hO_0, hA_0.mono (by decide +kernel), trivial⟩, by rw [ht]; exact hP, va_K.moved hW.alike hK, by rw [hAe]; exact hD⟩, by rw [hAe]; exact hS.F ht⟩) (by rw [hAe]; exact hS.2.2) d_WM_boat_19
