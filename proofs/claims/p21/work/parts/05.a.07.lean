def W_WM_frost_t : List (Nat × Nat) := [(5, 1000)]
set_option maxHeartbeats 4000000 in
set_option maxRecDepth 100000 in
theorem c_WM_frost_t (l : Launch) (dC : Nat → ClassId) (dI : Nat → Nat → Nat) (ct : Nat → ClassId) (L : List Nat) (f : TF) (hO_0 : Ok L f) (q0 : Nat) (m0 : q0 ∈ L ∧ tk f q0 = 0) (sz : Nat) (p_0 : Int32) (p_1 : Int32)   : Met l y_WM_frost (.code y_WM_frost b_WM_frost 4 (some .int) :: TB) ({ frames := 2, cells := 0, slots := 0, locals := 41 }) (va_Pc [.ref q0, .int p_0, .int p_1] (PC dC dI (TW ct L f) (TT ct) sz)) (va_Qi (fun r (u : TSt) => Ok u.1 u.2 ∧ Ext W_WM_frost_t L f u.1 u.2 ∧ (True)) (fun (u : TSt) t => va_P (dC, dI) vwCl (TW ct u.1 u.2) t.heap ∧ va_K (dC, dI) vwCl (TT ct) t ∧ va_D (va_A (TW ct L f) sz) (TW ct u.1 u.2)) (va_A (TW ct L f) sz)) 0 0 (va_A (TW ct L f) sz) := by
  refine Met.ofW (cc := b_WM_frost) (maxL := 4) (ret := (some .int)) (by decide) rfl ?_
  intro p e s m args below meth c s₁ B hml hv
  obtain ⟨rfl, hsz, hP, hK, hD0, hN⟩ := hv
  have hx := B.exec
  have hb := B.bytes
  have hr := B.returns
  have hts := atoms_spec (ws := (.code y_WM_frost b_WM_frost 4 (some .int) :: TB)) B.pre
  have htb := fun w (h : w ∈ TB) => hts w (List.mem_cons_of_mem _ h)
  have hown : s.vm.findClass R_WM = some m.cls := findClass_of_methodNamed B.named
  have hlocks := B.notSynchronized
  have hl := lv_entry ([.ref q0, .int p_0, .int p_1]) (n := 4) (Nat.le_of_ble_eq_true rfl)
  rw [lg_entry_eq]
  generalize (lg_sl ([.ref q0, .int p_0, .int p_1]) ++ List.replicate (4 - (lg_sl ([.ref q0, .int p_0, .int p_1])).length) Slot.unset).toArray = ls at hl ⊢
  have hl : lv_has ls 4 [(0, .ref q0), (1, .int p_0), (2, .int p_1)] := hl
  subst hsz
  have hD := hD0.self (sz := s.heap.size)
  obtain ⟨A, hAe⟩ : ∃ A, va_A (TW ct L f) s.heap.size = A := ⟨_, rfl⟩
  rw [hAe] at hD
  have hA : ∀ q : Nat, s.heap.size ≤ q → A q := fun q h => by rw [← hAe]; exact Or.inr h
  have hS : va_S A s.heap s.heap [] := va_S.rf
  have hA_0 : Ext [] L f L f := Ext.rf
  suffices hGo : ∀ (H : Heap) (locs : List Loc), va_P (dC, dI) vwCl (TW ct L f) H → va_S A s.heap H locs → W p l e (headSpec (.code y_WM_frost b_WM_frost 4 (some .int) :: TB) ({ frames := 2, cells := 0, slots := 0, locals := 41 })).room s m [.ref q0, .int p_0, .int p_1].toArray below meth c H locs 0 0 (MQ below (va_Qi (fun r (u : TSt) => Ok u.1 u.2 ∧ Ext W_WM_frost_t L f u.1 u.2 ∧ (True)) (fun (u : TSt) t => va_P (dC, dI) vwCl (TW ct u.1 u.2) t.heap ∧ va_K (dC, dI) vwCl (TT ct) t ∧ va_D (va_A (TW ct L f) s.heap.size) (TW ct u.1 u.2)) (va_A (TW ct L f) s.heap.size)) [.ref q0, .int p_0, .int p_1].toArray s 0 0 (va_A (TW ct L f) s.heap.size)) (F0 m 0 ls []) from hGo _ _ hP hS
  clear hP hS
  intro H locs hP hS
  refine lv_iload_n hx hb d_WM_frost_0 rfl (lv_at hl 1 rfl) ?_
  refine vp_callSi (va_Run.run (va_runS (As := [.int p_0]) (rest := []) ⟨hx, hb, hml, hown, htb⟩ (c_WM_isDay l p_0) (cwS 1 htb (gd_S tw_165 tw_26 tw_25 tw_24) rfl rfl rfl (by decide +kernel) ⟨Nat.le_of_ble_eq_true rfl, Nat.le_of_ble_eq_true rfl⟩) ⟨fun _ _ _ _ h => h, fun U _ _ => ⟨rfl, trivial⟩⟩ rfl rfl hl.1 rfl (lv_room (Nat.le_of_ble_eq_true rfl)) d_WM_frost_1 ⟨Nat.le_of_ble_eq_true rfl, Nat.le_of_ble_eq_true rfl⟩)) (fun r er => ?_)
  subst er
  by_cases c_2 : p_0 < 0
  · refine hb_ti 0 (by unfold f_WM_isDay; rw [if_pos c_2]; first | done | rfl) ?_
    refine lv_if_eq (tgt := 24) hx hb d_WM_frost_4 (by decide) (fun _ => ?_) (fun h => absurd (by decide +kernel) h)
    refine lv_iconst (v := (-1)) hx hb d_WM_frost_24 (by decide +kernel) ?_
    refine W.widen (k := 0) (n := 0) (Nat.le_of_ble_eq_true rfl) (Nat.le_of_ble_eq_true rfl) ?_
    exact W.iret (v := (-1)) hx hb hr (fun t ht hW => ⟨⟨(-1), (L, f), rfl, ⟨hO_0, hA_0.mono (by decide +kernel), trivial⟩, by rw [ht]; exact hP, va_K.moved hW.alike hK, by rw [hAe]; exact hD⟩, by rw [hAe]; exact hS.F ht⟩) (by rw [hAe]; exact hS.2.2) d_WM_frost_25
  · by_cases c_3 : 500 ≤ p_0
    · refine hb_ti 0 (by unfold f_WM_isDay; rw [if_neg c_2, if_pos c_3]; first | done | rfl) ?_
      refine lv_if_eq (tgt := 24) hx hb d_WM_frost_4 (by decide) (fun _ => ?_) (fun h => absurd (by decide +kernel) h)
      refine lv_iconst (v := (-1)) hx hb d_WM_frost_24 (by decide +kernel) ?_
      refine W.widen (k := 0) (n := 0) (Nat.le_of_ble_eq_true rfl) (Nat.le_of_ble_eq_true rfl) ?_
      exact W.iret (v := (-1)) hx hb hr (fun t ht hW => ⟨⟨(-1), (L, f), rfl, ⟨hO_0, hA_0.mono (by decide +kernel), trivial⟩, by rw [ht]; exact hP, va_K.moved hW.alike hK, by rw [hAe]; exact hD⟩, by rw [hAe]; exact hS.F ht⟩) (by rw [hAe]; exact hS.2.2) d_WM_frost_25
    · refine hb_ti 1 (by unfold f_WM_isDay; rw [if_neg c_2, if_neg c_3]; first | done | rfl) ?_
      refine lv_if_eq (tgt := 24) hx hb d_WM_frost_4 (by decide) (fun h => absurd h (by decide +kernel)) (fun _ => ?_)
      refine lv_iload_n hx hb d_WM_frost_7 rfl (lv_at hl 1 rfl) ?_
      refine lv_aload_n hx hb d_WM_frost_8 rfl (lv_at hl 0 rfl) ?_
      refine vp_callSi (va_Run.run (va_runV (As := []) (rest := [.int p_0]) ⟨hx, hb, hml, hown, htb⟩ (c_WM_today_t l dC dI ct L f hO_0 q0 m0) (cwV 0 htb (gd_V tw_180 tw_181 tw_182 tw_25 tw_179) rfl rfl rfl (by decide +kernel) ⟨Nat.le_of_ble_eq_true rfl, Nat.le_of_ble_eq_true rfl⟩) ⟨pr_blind, tw_recv hK hP m0 rfl rfl, pr_pre hP hK hN⟩ rfl rfl hl.1 rfl (lv_room (Nat.le_of_ble_eq_true rfl)) d_WM_frost_9 ⟨Nat.le_of_ble_eq_true rfl, Nat.le_of_ble_eq_true rfl⟩)) (fun r_4 er_4 => ?_)
      obtain ⟨po_5, po_6, -⟩ := er_4
      refine lv_icmp_lt (tgt := 24) hx hb d_WM_frost_12 (by decide) (fun c_7 => ?_) (fun c_7 => ?_)
      · refine lv_iconst (v := (-1)) hx hb d_WM_frost_24 (by decide +kernel) ?_
        refine W.widen (k := 0) (n := 0) (Nat.le_of_ble_eq_true rfl) (Nat.le_of_ble_eq_true rfl) ?_
        exact W.iret (v := (-1)) hx hb hr (fun t ht hW => ⟨⟨(-1), (L, f), rfl, ⟨hO_0, hA_0.mono (by decide +kernel), trivial⟩, by rw [ht]; exact hP, va_K.moved hW.alike hK, by rw [hAe]; exact hD⟩, by rw [hAe]; exact hS.F ht⟩) (by rw [hAe]; exact hS.2.2) d_WM_frost_25
      · refine lv_iload_n hx hb d_WM_frost_15 rfl (lv_at hl 2 rfl) ?_
        refine lv_if_lt (tgt := 24) hx hb d_WM_frost_16 (by decide) (fun c_8 => ?_) (fun c_8 => ?_)
        · refine lv_iconst (v := (-1)) hx hb d_WM_frost_24 (by decide +kernel) ?_
          refine W.widen (k := 0) (n := 0) (Nat.le_of_ble_eq_true rfl) (Nat.le_of_ble_eq_true rfl) ?_
          exact W.iret (v := (-1)) hx hb hr (fun t ht hW => ⟨⟨(-1), (L, f), rfl, ⟨hO_0, hA_0.mono (by decide +kernel), trivial⟩, by rw [ht]; exact hP, va_K.moved hW.alike hK, by rw [hAe]; exact hD⟩, by rw [hAe]; exact hS.F ht⟩) (by rw [hAe]; exact hS.2.2) d_WM_frost_25
        · refine lv_iload_n hx hb d_WM_frost_19 rfl (lv_at hl 2 rfl) ?_
          refine lv_iconst (v := 1) hx hb d_WM_frost_20 (by decide +kernel) ?_
          refine lv_icmp_le (tgt := 26) hx hb d_WM_frost_21 (by decide) (fun c_9 => ?_) (fun c_9 => ?_)
          · refine lv_aload_n hx hb d_WM_frost_26 rfl (lv_at hl 0 rfl) ?_
            refine tw_getr (D := (dC, dI)) (C := R_WM) (T := F_WM) (N := 13) (ci := 0) (kd := 0) (ct := ct) hx hb htb i_WM hown hK hP hO_0 m0 rfl rfl 0 (by decide) (htb (.fieldLink R_WM 12 "WaterMen" "river" "LWaterMen$River;") tw_154) (fun _ h9 => h9) rfl d_WM_frost_27 (fun q_10 e_10 m_10 => ?_)
            refine lv_iload_n hx hb d_WM_frost_30 rfl (lv_at hl 1 rfl) ?_
            refine vp_callSi (va_Run.run (va_runV (As := [.int p_0]) (rest := []) ⟨hx, hb, hml, hown, htb⟩ (c_Rv_isFrozen_t l dC dI ct L f hO_0 q_10 m_10 p_0) (cwV 1 htb (gd_V tw_184 tw_185 tw_186 tw_45 tw_183) rfl rfl rfl (by decide +kernel) ⟨Nat.le_of_ble_eq_true rfl, Nat.le_of_ble_eq_true rfl⟩) ⟨pr_blind, tw_recv hK hP m_10 rfl rfl, pr_pre hP hK hN⟩ rfl rfl hl.1 rfl (lv_room (Nat.le_of_ble_eq_true rfl)) d_WM_frost_31 ⟨Nat.le_of_ble_eq_true rfl, Nat.le_of_ble_eq_true rfl⟩)) (fun r_11 er_11 => ?_)
            rcases er_11 with ⟨rfl, -⟩ | ⟨rfl, -⟩
            · refine lv_if_eq (tgt := 41) hx hb d_WM_frost_34 (by decide) (fun _ => ?_) (fun h => absurd (by decide +kernel) h)
              refine lv_iconst (v := 0) hx hb d_WM_frost_41 (by decide +kernel) ?_
              refine lv_istore_n (lv' := [(3, .int 0), (0, .ref q0), (1, .int p_0), (2, .int p_1)]) hx hb d_WM_frost_42 rfl hl (by decide) rfl (fun ls hl => ?_)
              refine lv_aload_n hx hb d_WM_frost_43 rfl (lv_at hl 1 rfl) ?_
              refine tw_getR (D := (dC, dI)) (C := R_WM) (T := F_WM) (N := 13) (ci := 0) (kd := 0) (ct := ct) hx hb htb i_WM hown hK hP m0 rfl rfl 0 e_10 (by decide) (htb (.fieldLink R_WM 12 "WaterMen" "river" "LWaterMen$River;") tw_154) (fun _ h9 => h9) rfl d_WM_frost_44 ?_
              refine hb_tv (.ref q_10) rfl ?_
              refine tw_getr (D := (dC, dI)) (C := R_Rv) (T := F_Rv) (N := 6) (ci := 1) (kd := 1) (ct := ct) hx hb htb i_Rv hown hK hP hO_0 m_10 rfl rfl 3 (by decide) (htb (.fieldLink R_WM 103 "WaterMen$River" "frozen" "[Z") tw_187) (fun _ h9 => h9) rfl d_WM_frost_47 (fun q_12 e_12 m_12 => ?_)
              refine lv_iload_n hx hb d_WM_frost_50 rfl (lv_at hl 2 rfl) ?_
              refine lv_iload_n hx hb d_WM_frost_51 rfl (lv_at hl 3 rfl) ?_
              refine lv_iconst (v := 1) hx hb d_WM_frost_52 (by decide +kernel) ?_
              refine lv_icmp_ne (tgt := 60) hx hb d_WM_frost_53 (by decide) (fun c_13 => ?_) (fun c_13 => ?_)
              · refine lv_iconst (v := 0) hx hb d_WM_frost_60 (by decide +kernel) ?_
                refine tw_astZ (ct := ct) (x := 0) hx hb hK hP hD hS hO_0 m_12 rfl (hb_in c_2 c_3 (by decide +kernel)) ⟨by decide +kernel, by decide +kernel⟩ d_WM_frost_61 (fun f_1 H locs hP hD hS hO_1 hE_1 w_14 ow_14 hF_1 => ?_)
                have hA_1 := hA_0.trans hE_1
                refine lv_iload_n hx hb d_WM_frost_62 rfl (lv_at hl 0 rfl) ?_
                refine W.widen (k := 0) (n := 0) (Nat.le_of_ble_eq_true rfl) (Nat.le_of_ble_eq_true rfl) ?_
                exact W.iret (v := 0) hx hb hr (fun t ht hW => ⟨⟨0, (L, f_1), rfl, ⟨hO_1, hA_1.mono (by decide +kernel), trivial⟩, by rw [ht]; exact hP, va_K.moved hW.alike hK, by rw [hAe]; exact hD⟩, by rw [hAe]; exact hS.F ht⟩) (by rw [hAe]; exact hS.2.2) d_WM_frost_63
              · refine lv_iconst (v := 1) hx hb d_WM_frost_56 (by decide +kernel) ?_
                refine lv_goto (tgt := 61) hx hb d_WM_frost_57 (by decide) ?_
                refine tw_astZ (ct := ct) (x := 1) hx hb hK hP hD hS hO_0 m_12 rfl (hb_in c_2 c_3 (by decide +kernel)) ⟨by decide +kernel, by decide +kernel⟩ d_WM_frost_61 (fun f_1 H locs hP hD hS hO_1 hE_1 w_15 ow_15 hF_1 => ?_)
                have hA_1 := hA_0.trans hE_1
                refine lv_iload_n hx hb d_WM_frost_62 rfl (lv_at hl 0 rfl) ?_
                refine W.widen (k := 0) (n := 0) (Nat.le_of_ble_eq_true rfl) (Nat.le_of_ble_eq_true rfl) ?_
                exact W.iret (v := 0) hx hb hr (fun t ht hW => ⟨⟨0, (L, f_1), rfl, ⟨hO_1, hA_1.mono (by decide +kernel), trivial⟩, by rw [ht]; exact hP, va_K.moved hW.alike hK, by rw [hAe]; exact hD⟩, by rw [hAe]; exact hS.F ht⟩) (by rw [hAe]; exact hS.2.2) d_WM_frost_63
            · refine lv_if_eq (tgt := 41) hx hb d_WM_frost_34 (by decide) (fun h => absurd h (by decide +kernel)) (fun _ => ?_)
              refine lv_iconst (v := 1) hx hb d_WM_frost_37 (by decide +kernel) ?_
              refine lv_goto (tgt := 42) hx hb d_WM_frost_38 (by decide) ?_
              refine lv_istore_n (lv' := [(3, .int 1), (0, .ref q0), (1, .int p_0), (2, .int p_1)]) hx hb d_WM_frost_42 rfl hl (by decide) rfl (fun ls hl => ?_)
              refine lv_aload_n hx hb d_WM_frost_43 rfl (lv_at hl 1 rfl) ?_
              refine tw_getR (D := (dC, dI)) (C := R_WM) (T := F_WM) (N := 13) (ci := 0) (kd := 0) (ct := ct) hx hb htb i_WM hown hK hP m0 rfl rfl 0 e_10 (by decide) (htb (.fieldLink R_WM 12 "WaterMen" "river" "LWaterMen$River;") tw_154) (fun _ h9 => h9) rfl d_WM_frost_44 ?_
              refine hb_tv (.ref q_10) rfl ?_
              refine tw_getr (D := (dC, dI)) (C := R_Rv) (T := F_Rv) (N := 6) (ci := 1) (kd := 1) (ct := ct) hx hb htb i_Rv hown hK hP hO_0 m_10 rfl rfl 3 (by decide) (htb (.fieldLink R_WM 103 "WaterMen$River" "frozen" "[Z") tw_187) (fun _ h9 => h9) rfl d_WM_frost_47 (fun q_16 e_16 m_16 => ?_)
              refine lv_iload_n hx hb d_WM_frost_50 rfl (lv_at hl 2 rfl) ?_
              refine lv_iload_n hx hb d_WM_frost_51 rfl (lv_at hl 3 rfl) ?_
              refine lv_iconst (v := 1) hx hb d_WM_frost_52 (by decide +kernel) ?_
              refine lv_icmp_ne (tgt := 60) hx hb d_WM_frost_53 (by decide) (fun c_17 => ?_) (fun c_17 => ?_)
              · refine lv_iconst (v := 0) hx hb d_WM_frost_60 (by decide +kernel) ?_
                refine tw_astZ (ct := ct) (x := 0) hx hb hK hP hD hS hO_0 m_16 rfl (hb_in c_2 c_3 (by decide +kernel)) ⟨by decide +kernel, by decide +kernel⟩ d_WM_frost_61 (fun f_1 H locs hP hD hS hO_1 hE_1 w_18 ow_18 hF_1 => ?_)
                have hA_1 := hA_0.trans hE_1
                refine lv_iload_n hx hb d_WM_frost_62 rfl (lv_at hl 0 rfl) ?_
                refine W.widen (k := 0) (n := 0) (Nat.le_of_ble_eq_true rfl) (Nat.le_of_ble_eq_true rfl) ?_
                exact W.iret (v := 1) hx hb hr (fun t ht hW => ⟨⟨1, (L, f_1), rfl, ⟨hO_1, hA_1.mono (by decide +kernel), trivial⟩, by rw [ht]; exact hP, va_K.moved hW.alike hK, by rw [hAe]; exact hD⟩, by rw [hAe]; exact hS.F ht⟩) (by rw [hAe]; exact hS.2.2) d_WM_frost_63
              · refine lv_iconst (v := 1) hx hb d_WM_frost_56 (by decide +kernel) ?_
                refine lv_goto (tgt := 61) hx hb d_WM_frost_57 (by decide) ?_
                refine tw_astZ (ct := ct) (x := 1) hx hb hK hP hD hS hO_0 m_16 rfl (hb_in c_2 c_3 (by decide +kernel)) ⟨by decide +kernel, by decide +kernel⟩ d_WM_frost_61 (fun f_1 H locs hP hD hS hO_1 hE_1 w_19 ow_19 hF_1 => ?_)
                have hA_1 := hA_0.trans hE_1
                refine lv_iload_n hx hb d_WM_frost_62 rfl (lv_at hl 0 rfl) ?_
                refine W.widen (k := 0) (n := 0) (Nat.le_of_ble_eq_true rfl) (Nat.le_of_ble_eq_true rfl) ?_
                exact W.iret (v := 1) hx hb hr (fun t ht hW => ⟨⟨1, (L, f_1), rfl, ⟨hO_1, hA_1.mono (by decide +kernel), trivial⟩, by rw [ht]; exact hP, va_K.moved hW.alike hK, by rw [hAe]; exact hD⟩, by rw [hAe]; exact hS.F ht⟩) (by rw [hAe]; exact hS.2.2) d_WM_frost_63
          · refine lv_iconst (v := (-1)) hx hb d_WM_frost_24 (by decide +kernel) ?_
            refine W.widen (k := 0) (n := 0) (Nat.le_of_ble_eq_true rfl) (Nat.le_of_ble_eq_true rfl) ?_
            exact W.iret (v := (-1)) hx hb hr (fun t ht hW => ⟨⟨(-1), (L, f), rfl, ⟨hO_0, hA_0.mono (by decide +kernel), trivial⟩, by rw [ht]; exact hP, va_K.moved hW.alike hK, by rw [hAe]; exact hD⟩, by rw [hAe]; exact hS.F ht⟩) (by rw [hAe]; exact hS.2.2) d_WM_frost_25
set_option maxHeartbeats 4000000 in
set_option maxRecDepth 100000 in
theorem c_WM_manAt_t (l : Launch) (dC : Nat → ClassId) (dI : Nat → Nat → Nat) (ct : Nat → ClassId) (L : List Nat) (f : TF) (hO_0 : Ok L f) (q0 : Nat) (m0 : q0 ∈ L ∧ tk f q0 = 0) (p_0 : Int32)   : Met l y_WM_manAt (.code y_WM_manAt b_WM_manAt 2 (some (.object "WaterMen$Man")) :: TB) ({ frames := 0, cells := 0, slots := 0, locals := 0 }) (va_Pc [.ref q0, .int p_0] (PR dC dI (TW ct L f) (TT ct))) (va_Sq (fun r => r = none ∨ ∃ b, r = some b ∧ b ∈ L ∧ tk f b = 20)) 0 0 (fun _ => False) := by
  refine Met.ofW (cc := b_WM_manAt) (maxL := 2) (ret := (some (.object "WaterMen$Man"))) (by decide) rfl ?_
  intro p e s m args below meth c s₁ B hml hv
  obtain ⟨rfl, hP, hK, hN⟩ := hv
  have hx := B.exec
  have hb := B.bytes
  have hr := B.returns
  have hts := atoms_spec (ws := (.code y_WM_manAt b_WM_manAt 2 (some (.object "WaterMen$Man")) :: TB)) B.pre
  have htb := fun w (h : w ∈ TB) => hts w (List.mem_cons_of_mem _ h)
  have hown : s.vm.findClass R_WM = some m.cls := findClass_of_methodNamed B.named
  have hlocks := B.notSynchronized
  have hl := lv_entry ([.ref q0, .int p_0]) (n := 2) (Nat.le_of_ble_eq_true rfl)
  rw [lg_entry_eq]
  generalize (lg_sl ([.ref q0, .int p_0]) ++ List.replicate (2 - (lg_sl ([.ref q0, .int p_0])).length) Slot.unset).toArray = ls at hl ⊢
  have hl : lv_has ls 2 [(0, .ref q0), (1, .int p_0)] := hl
  refine lv_iload_n hx hb d_WM_manAt_0 rfl (lv_at hl 1 rfl) ?_
  refine lv_if_lt (tgt := 19) hx hb d_WM_manAt_1 (by decide) (fun c_1 => ?_) (fun c_1 => ?_)
  · refine lv_null hx hb d_WM_manAt_19 ?_
    exact W.aret (v := .null) (rt := .object "WaterMen$Man") hx hb hr (Or.inl ⟨_, rfl⟩) (Or.inl rfl) (fun t ht hW => ⟨none, rfl, Or.inl rfl, ht⟩) t_nil d_WM_manAt_20
  · refine lv_iload_n hx hb d_WM_manAt_4 rfl (lv_at hl 1 rfl) ?_
    refine lv_bipush (v := 40) hx hb d_WM_manAt_5 (by decide +kernel) ?_
    refine lv_icmp_ge (tgt := 19) hx hb d_WM_manAt_7 (by decide) (fun c_2 => ?_) (fun c_2 => ?_)
    · refine lv_null hx hb d_WM_manAt_19 ?_
      exact W.aret (v := .null) (rt := .object "WaterMen$Man") hx hb hr (Or.inl ⟨_, rfl⟩) (Or.inl rfl) (fun t ht hW => ⟨none, rfl, Or.inl rfl, ht⟩) t_nil d_WM_manAt_20
    · refine lv_aload_n hx hb d_WM_manAt_10 rfl (lv_at hl 0 rfl) ?_
      refine tw_getr (D := (dC, dI)) (C := R_WM) (T := F_WM) (N := 13) (ci := 0) (kd := 0) (ct := ct) hx hb htb i_WM hown hK hP hO_0 m0 rfl rfl 1 (by decide) (htb (.fieldLink R_WM 18 "WaterMen" "men" "[LWaterMen$Man;") tw_188) (fun _ h9 => h9) rfl d_WM_manAt_11 (fun q_3 e_3 m_3 => ?_)
      refine lv_iload_n hx hb d_WM_manAt_14 rfl (lv_at hl 1 rfl) ?_
      refine tw_aldq (ct := ct) hx hb hK hP hO_0 m_3 rfl rfl (hb_in c_1 c_2 (by decide +kernel)) d_WM_manAt_15 (fun e_4 => ?_) (fun q_4 e_4 m_4 => ?_)
      · refine lv_goto (tgt := 20) hx hb d_WM_manAt_16 (by decide) ?_
        exact W.aret (v := .null) (rt := .object "WaterMen$Man") hx hb hr (Or.inl ⟨_, rfl⟩) (Or.inl rfl) (fun t ht hW => ⟨none, rfl, Or.inl rfl, ht⟩) t_nil d_WM_manAt_20
      · refine lv_goto (tgt := 20) hx hb d_WM_manAt_16 (by decide) ?_
        exact W.aret (v := .ref q_4) (rt := .object "WaterMen$Man") hx hb hr (Or.inl ⟨_, rfl⟩) (Or.inr ⟨_, rfl⟩) (fun t ht hW => ⟨some q_4, rfl, Or.inr ⟨q_4, rfl, m_4⟩, ht⟩) t_nil d_WM_manAt_20
def W_WM_free_t : List (Nat × Nat) := [(20, 0)]
set_option maxHeartbeats 4000000 in
set_option maxRecDepth 100000 in
theorem c_WM_free_t (l : Launch) (dC : Nat → ClassId) (dI : Nat → Nat → Nat) (ct : Nat → ClassId) (L : List Nat) (f : TF) (hO_0 : Ok L f) (q0 : Nat) (m0 : q0 ∈ L ∧ tk f q0 = 0) (sz : Nat) (p_0 : Int32)   : Met l y_WM_free (.code y_WM_free b_WM_free 3 (some .int) :: TB) ({ frames := 1, cells := 0, slots := 0, locals := 21 }) (va_Pc [.ref q0, .int p_0] (PC dC dI (TW ct L f) (TT ct) sz)) (va_Qi (fun r (u : TSt) => Ok u.1 u.2 ∧ Ext W_WM_free_t L f u.1 u.2 ∧ (True)) (fun (u : TSt) t => va_P (dC, dI) vwCl (TW ct u.1 u.2) t.heap ∧ va_K (dC, dI) vwCl (TT ct) t ∧ va_D (va_A (TW ct L f) sz) (TW ct u.1 u.2)) (va_A (TW ct L f) sz)) 0 0 (va_A (TW ct L f) sz) := by
  refine Met.ofW (cc := b_WM_free) (maxL := 3) (ret := (some .int)) (by decide) rfl ?_
  intro p e s m args below meth c s₁ B hml hv
  obtain ⟨rfl, hsz, hP, hK, hD0, hN⟩ := hv
  have hx := B.exec
  have hb := B.bytes
  have hr := B.returns
  have hts := atoms_spec (ws := (.code y_WM_free b_WM_free 3 (some .int) :: TB)) B.pre
  have htb := fun w (h : w ∈ TB) => hts w (List.mem_cons_of_mem _ h)
  have hown : s.vm.findClass R_WM = some m.cls := findClass_of_methodNamed B.named
  have hlocks := B.notSynchronized
  have hl := lv_entry ([.ref q0, .int p_0]) (n := 3) (Nat.le_of_ble_eq_true rfl)
  rw [lg_entry_eq]
  generalize (lg_sl ([.ref q0, .int p_0]) ++ List.replicate (3 - (lg_sl ([.ref q0, .int p_0])).length) Slot.unset).toArray = ls at hl ⊢
  have hl : lv_has ls 3 [(0, .ref q0), (1, .int p_0)] := hl
  subst hsz
  have hD := hD0.self (sz := s.heap.size)
  obtain ⟨A, hAe⟩ : ∃ A, va_A (TW ct L f) s.heap.size = A := ⟨_, rfl⟩
  rw [hAe] at hD
  have hA : ∀ q : Nat, s.heap.size ≤ q → A q := fun q h => by rw [← hAe]; exact Or.inr h
  have hS : va_S A s.heap s.heap [] := va_S.rf
  have hA_0 : Ext [] L f L f := Ext.rf
  suffices hGo : ∀ (H : Heap) (locs : List Loc), va_P (dC, dI) vwCl (TW ct L f) H → va_S A s.heap H locs → W p l e (headSpec (.code y_WM_free b_WM_free 3 (some .int) :: TB) ({ frames := 1, cells := 0, slots := 0, locals := 21 })).room s m [.ref q0, .int p_0].toArray below meth c H locs 0 0 (MQ below (va_Qi (fun r (u : TSt) => Ok u.1 u.2 ∧ Ext W_WM_free_t L f u.1 u.2 ∧ (True)) (fun (u : TSt) t => va_P (dC, dI) vwCl (TW ct u.1 u.2) t.heap ∧ va_K (dC, dI) vwCl (TT ct) t ∧ va_D (va_A (TW ct L f) s.heap.size) (TW ct u.1 u.2)) (va_A (TW ct L f) s.heap.size)) [.ref q0, .int p_0].toArray s 0 0 (va_A (TW ct L f) s.heap.size)) (F0 m 0 ls []) from hGo _ _ hP hS
  clear hP hS
  intro H locs hP hS
  refine lv_aload_n hx hb d_WM_free_0 rfl (lv_at hl 0 rfl) ?_
  refine lv_iload_n hx hb d_WM_free_1 rfl (lv_at hl 1 rfl) ?_
  refine va_csq (va_Run.run (va_runV (As := [.int p_0]) (rest := []) ⟨hx, hb, hml, hown, htb⟩ (c_WM_manAt_t l dC dI ct L f hO_0 q0 m0 p_0) (cwV 1 htb (gd_V tw_190 tw_191 tw_192 tw_25 tw_189) rfl rfl rfl (by decide +kernel) ⟨Nat.le_of_ble_eq_true rfl, Nat.le_of_ble_eq_true rfl⟩) ⟨pr_blind, tw_recv hK hP m0 rfl rfl, pr_pre hP hK hN⟩ rfl rfl hl.1 rfl (lv_room (Nat.le_of_ble_eq_true rfl)) d_WM_free_2 ⟨Nat.le_of_ble_eq_true rfl, Nat.le_of_ble_eq_true rfl⟩)) (fun r_1 er_1 => ?_)
  rcases er_1 with rfl | ⟨q_1, rfl, m_1⟩
  · refine hb_tv .null rfl ?_
    refine lv_astore_nN (lv' := [(2, .null), (0, .ref q0), (1, .int p_0)]) hx hb d_WM_free_5 rfl hl (by decide) rfl (fun ls hl => ?_)
    refine lv_aload_nN hx hb d_WM_free_6 rfl (lv_at hl 0 rfl) ?_
    refine lv_ifnonnullN hx hb d_WM_free_7 ?_
    refine lv_iconst (v := (-1)) hx hb d_WM_free_10 (by decide +kernel) ?_
    refine W.widen (k := 0) (n := 0) (Nat.le_of_ble_eq_true rfl) (Nat.le_of_ble_eq_true rfl) ?_
    exact W.iret (v := (-1)) hx hb hr (fun t ht hW => ⟨⟨(-1), (L, f), rfl, ⟨hO_0, hA_0.mono (by decide +kernel), trivial⟩, by rw [ht]; exact hP, va_K.moved hW.alike hK, by rw [hAe]; exact hD⟩, by rw [hAe]; exact hS.F ht⟩) (by rw [hAe]; exact hS.2.2) d_WM_free_11
  · refine hb_tv (.ref q_1) rfl ?_
    refine lv_astore_n (lv' := [(2, .ref q_1), (0, .ref q0), (1, .int p_0)]) hx hb d_WM_free_5 rfl hl (by decide) rfl (fun ls hl => ?_)
    refine lv_aload_n hx hb d_WM_free_6 rfl (lv_at hl 0 rfl) ?_
    refine lv_ifnonnull (tgt := 12) hx hb d_WM_free_7 (by decide) ?_
    refine lv_aload_n hx hb d_WM_free_12 rfl (lv_at hl 0 rfl) ?_
    refine tw_geti (D := (dC, dI)) (C := R_Mn) (T := F_Mn) (N := 8) (ci := 2) (kd := 20) (ct := ct) hx hb htb i_Mn hown hK hP hO_0 m_1 rfl rfl 0 (by decide) (htb (.fieldLink R_WM 111 "WaterMen$Man" "state" "I") tw_193) (fun _ h9 => h9) rfl d_WM_free_13 (fun x_2 e_2 b_2 => ?_)
    refine lv_if_eq (tgt := 22) hx hb d_WM_free_16 (by decide) (fun c_3 => ?_) (fun c_3 => ?_)
    · refine lv_aload_n hx hb d_WM_free_22 rfl (lv_at hl 0 rfl) ?_
      refine lv_iconst (v := 2) hx hb d_WM_free_23 (by decide +kernel) ?_
      refine tw_puti (v := 2) (D := (dC, dI)) (C := R_Mn) (T := F_Mn) (N := 8) (ci := 2) (kd := 20) (ct := ct) (ty := .int) hx hb htb i_Mn t_Mn t_Mn_ok n_Mn hown hK hP hD hS hO_0 m_1 rfl rfl 0 (by decide) (htb (.fieldLink R_WM 111 "WaterMen$Man" "state" "I") tw_193) (fun _ h9 => h9) rfl (by decide +kernel) rfl rfl rfl (i32_full _) d_WM_free_24 (fun f_1 H locs hP hD hS hO_1 hE_1 w_4 hF_1 => ?_)
      have hA_1 := hA_0.trans hE_1
      refine lv_iconst (v := 1) hx hb d_WM_free_27 (by decide +kernel) ?_
      refine W.widen (k := 0) (n := 0) (Nat.le_of_ble_eq_true rfl) (Nat.le_of_ble_eq_true rfl) ?_
      exact W.iret (v := 1) hx hb hr (fun t ht hW => ⟨⟨1, (L, f_1), rfl, ⟨hO_1, hA_1.mono (by decide +kernel), trivial⟩, by rw [ht]; exact hP, va_K.moved hW.alike hK, by rw [hAe]; exact hD⟩, by rw [hAe]; exact hS.F ht⟩) (by rw [hAe]; exact hS.2.2) d_WM_free_28
    · refine lv_bipush (v := (-2)) hx hb d_WM_free_19 (by decide +kernel) ?_
      refine W.widen (k := 0) (n := 0) (Nat.le_of_ble_eq_true rfl) (Nat.le_of_ble_eq_true rfl) ?_
      exact W.iret (v := (-2)) hx hb hr (fun t ht hW => ⟨⟨(-2), (L, f), rfl, ⟨hO_0, hA_0.mono (by decide +kernel), trivial⟩, by rw [ht]; exact hP, va_K.moved hW.alike hK, by rw [hAe]; exact hD⟩, by rw [hAe]; exact hS.F ht⟩) (by rw [hAe]; exact hS.2.2) d_WM_free_21
def W_Bd_init_t : List (Nat × Nat) := [(75, 0), (75, 1), (75, 2), (75, 3)]
set_option maxHeartbeats 4000000 in
set_option maxRecDepth 100000 in
theorem c_Bd_init_t (l : Launch) (dC : Nat → ClassId) (dI : Nat → Nat → Nat) (ct : Nat → ClassId) (L : List Nat) (f : TF) (hO_0 : Ok L f) (q0 : Nat) (m0 : q0 ∈ L ∧ tk f q0 = 75) (sz : Nat) (p_0 : Int32) (p_1 : Int32)   : Met l y_Bd_init (.code y_Bd_init b_Bd_init 3 none :: TB) ({ frames := 1, cells := 2, slots := 12, locals := 12 }) (va_Pc [.ref q0, .int p_0, .int p_1] (PC dC dI (TW ct L f) (TT ct) sz)) (va_Qv (fun (u : TSt) => Ok u.1 u.2 ∧ Ext W_Bd_init_t L f u.1 u.2 ∧ tr u.2 q0 2 ≠ none ∧ tr u.2 q0 3 ≠ none ∧ (True)) (fun (u : TSt) t => va_P (dC, dI) vwCl (TW ct u.1 u.2) t.heap ∧ va_K (dC, dI) vwCl (TT ct) t ∧ va_D (va_A (TW ct L f) sz) (TW ct u.1 u.2)) (va_A (TW ct L f) sz)) 2 12 (va_A (TW ct L f) sz) := by
  refine Met.ofW (cc := b_Bd_init) (maxL := 3) (ret := none) (by decide) rfl ?_
  intro p e s m args below meth c s₁ B hml hv
  obtain ⟨rfl, hsz, hP, hK, hD0, hN⟩ := hv
  have hx := B.exec
  have hb := B.bytes
  have hr := B.returns
  have hts := atoms_spec (ws := (.code y_Bd_init b_Bd_init 3 none :: TB)) B.pre
  have htb := fun w (h : w ∈ TB) => hts w (List.mem_cons_of_mem _ h)
  have hown : s.vm.findClass R_Bd = some m.cls := findClass_of_methodNamed B.named
  have hlocks := B.notSynchronized
  have hin : meth.name = "<init>" := (name_of_methodNamed B.named B.method).1
  have hl := lv_entry ([.ref q0, .int p_0, .int p_1]) (n := 3) (Nat.le_of_ble_eq_true rfl)
  rw [lg_entry_eq]
  generalize (lg_sl ([.ref q0, .int p_0, .int p_1]) ++ List.replicate (3 - (lg_sl ([.ref q0, .int p_0, .int p_1])).length) Slot.unset).toArray = ls at hl ⊢
  have hl : lv_has ls 3 [(0, .ref q0), (1, .int p_0), (2, .int p_1)] := hl
  subst hsz
  have hD := hD0.self (sz := s.heap.size)
  obtain ⟨A, hAe⟩ : ∃ A, va_A (TW ct L f) s.heap.size = A := ⟨_, rfl⟩
  rw [hAe] at hD
  have hA : ∀ q : Nat, s.heap.size ≤ q → A q := fun q h => by rw [← hAe]; exact Or.inr h
  have hS : va_S A s.heap s.heap [] := va_S.rf
  have hA_0 : Ext [] L f L f := Ext.rf
  suffices hGo : ∀ (H : Heap) (locs : List Loc), va_P (dC, dI) vwCl (TW ct L f) H → va_S A s.heap H locs → W p l e (headSpec (.code y_Bd_init b_Bd_init 3 none :: TB) ({ frames := 1, cells := 2, slots := 12, locals := 12 })).room s m [.ref q0, .int p_0, .int p_1].toArray below meth c H locs 0 0 (MQ below (va_Qv (fun (u : TSt) => Ok u.1 u.2 ∧ Ext W_Bd_init_t L f u.1 u.2 ∧ tr u.2 q0 2 ≠ none ∧ tr u.2 q0 3 ≠ none ∧ (True)) (fun (u : TSt) t => va_P (dC, dI) vwCl (TW ct u.1 u.2) t.heap ∧ va_K (dC, dI) vwCl (TT ct) t ∧ va_D (va_A (TW ct L f) s.heap.size) (TW ct u.1 u.2)) (va_A (TW ct L f) s.heap.size)) [.ref q0, .int p_0, .int p_1].toArray s 2 12 (va_A (TW ct L f) s.heap.size)) (F0 m 0 ls []) from hGo _ _ hP hS
  clear hP hS
  intro H locs hP hS
  refine lv_aload_n hx hb d_Bd_init_0 rfl (lv_at hl 0 rfl) ?_
  refine W.objInit hx hb hown (htb (.methodLink R_Bd 3 objectInit) tw_197) (htb (.instanceMethod objectInit) tw_96) (htb (.code objectInit ⟨#[0xb1]⟩ 1 none) tw_97) rfl (by rw [hml]; exact hl.1) rfl d_Bd_init_1 (Nat.le_of_ble_eq_true rfl) (Nat.le_of_ble_eq_true rfl) ?_
  refine W.eq (g2 := F0 m 4 ls []) rfl ?_
  refine lv_aload_n hx hb d_Bd_init_4 rfl (lv_at hl 0 rfl) ?_
  refine lv_bipush (v := 6) hx hb d_Bd_init_5 (by decide +kernel) ?_
  refine tw_newI (ct := ct) (N' := 6) hx hb (htb (.arrayClass .int) tw_42) hK hP hD hS hA hO_0 22 rfl ⟨by decide +kernel, by decide +kernel⟩ (by decide +kernel) (by decide +kernel) (by decide +kernel) (Nat.le_of_ble_eq_true rfl) (Nat.le_of_ble_eq_true rfl) d_Bd_init_7 (fun q_n1 L_1 f_1 H hP hD hS hO_1 hE_1 m_n1 nq_1 hL_1 hF_1 => ?_)
  have hA_1 := hA_0.trans hE_1
  refine tw_putFr (b := q_n1) (D := (dC, dI)) (C := R_Bd) (T := F_Bd) (N := 5) (ci := 8) (kd := 75) (ct := ct) (ty := .array (.int)) hx hb htb i_Bd t_Bd t_Bd_ok n_Bd hown hK hP hD hS hO_1 (hA_1.m m0) rfl rfl 2 (by decide) (htb (.fieldLink R_Bd 9 "WaterMen$Bond" "gapFrom" "[I") tw_58) (fun _ h9 => h9) rfl hin rfl (by decide +kernel) rfl rfl rfl m_n1 d_Bd_init_9 (fun f_2 H locs hP hD hS hO_2 hE_2 w_1 hF_2 => ?_)
  have hA_2 := hA_1.trans hE_2
  refine lv_aload_n hx hb d_Bd_init_12 rfl (lv_at hl 0 rfl) ?_
  refine lv_bipush (v := 6) hx hb d_Bd_init_13 (by decide +kernel) ?_
  refine tw_newI (ct := ct) (N' := 6) hx hb (htb (.arrayClass .int) tw_42) hK hP hD hS hA hO_2 23 rfl ⟨by decide +kernel, by decide +kernel⟩ (by decide +kernel) (by decide +kernel) (by decide +kernel) (Nat.le_of_ble_eq_true rfl) (Nat.le_of_ble_eq_true rfl) d_Bd_init_15 (fun q_n3 L_3 f_3 H hP hD hS hO_3 hE_3 m_n3 nq_3 hL_3 hF_3 => ?_)
  have hA_3 := hA_2.trans hE_3
  refine tw_putFr (b := q_n3) (D := (dC, dI)) (C := R_Bd) (T := F_Bd) (N := 5) (ci := 8) (kd := 75) (ct := ct) (ty := .array (.int)) hx hb htb i_Bd t_Bd t_Bd_ok n_Bd hown hK hP hD hS hO_3 (hA_3.m m0) rfl rfl 3 (by decide) (htb (.fieldLink R_Bd 15 "WaterMen$Bond" "gapTo" "[I") tw_57) (fun _ h9 => h9) rfl hin rfl (by decide +kernel) rfl rfl rfl m_n3 d_Bd_init_17 (fun f_4 H locs hP hD hS hO_4 hE_4 w_2 hF_4 => ?_)
  have hA_4 := hA_3.trans hE_4
  refine lv_aload_n hx hb d_Bd_init_20 rfl (lv_at hl 0 rfl) ?_
  refine lv_iload_n hx hb d_Bd_init_21 rfl (lv_at hl 1 rfl) ?_
  refine tw_putFi (v := p_0) (D := (dC, dI)) (C := R_Bd) (T := F_Bd) (N := 5) (ci := 8) (kd := 75) (ct := ct) (ty := .int) hx hb htb i_Bd t_Bd t_Bd_ok n_Bd hown hK hP hD hS hO_4 (hA_4.m m0) rfl rfl 0 (by decide) (htb (.fieldLink R_Bd 18 "WaterMen$Bond" "master" "I") tw_198) (fun _ h9 => h9) rfl hin rfl (by decide +kernel) rfl rfl rfl (i32_full _) d_Bd_init_22 (fun f_5 H locs hP hD hS hO_5 hE_5 w_3 hF_5 => ?_)
  have hA_5 := hA_4.trans hE_5
  refine lv_aload_n hx hb d_Bd_init_25 rfl (lv_at hl 0 rfl) ?_
  refine lv_iload_n hx hb d_Bd_init_26 rfl (lv_at hl 2 rfl) ?_
  refine tw_putFi (v := p_1) (D := (dC, dI)) (C := R_Bd) (T := F_Bd) (N := 5) (ci := 8) (kd := 75) (ct := ct) (ty := .int) hx hb htb i_Bd t_Bd t_Bd_ok n_Bd hown hK hP hD hS hO_5 (hA_5.m m0) rfl rfl 1 (by decide) (htb (.fieldLink R_Bd 22 "WaterMen$Bond" "since" "I") tw_59) (fun _ h9 => h9) rfl hin rfl (by decide +kernel) rfl rfl rfl (i32_full _) d_Bd_init_27 (fun f_6 H locs hP hD hS hO_6 hE_6 w_4 hF_6 => ?_)
  have hA_6 := hA_5.trans hE_6
  refine W.widen (k := 2) (n := 12) (Nat.le_of_ble_eq_true rfl) (Nat.le_of_ble_eq_true rfl) ?_
  exact W.vret hx hb hr (fun t ht hW => ⟨⟨(L_3, f_6), rfl, ⟨hO_6, hA_6.mono (by decide +kernel), (by rw [show tr f_6 q0 2 = some q_n1 from ((hE_6.er (hA_5.m m0) rfl).trans ((hE_5.er (hA_4.m m0) rfl).trans ((hE_4.er (hA_3.m m0) rfl).trans ((hE_3.er (hA_2.m m0) rfl).trans w_1))))]; exact Option.some_ne_none _), (by rw [show tr f_6 q0 3 = some q_n3 from ((hE_6.er (hA_5.m m0) rfl).trans ((hE_5.er (hA_4.m m0) rfl).trans w_2))]; exact Option.some_ne_none _), trivial⟩, by rw [ht]; exact hP, va_K.moved hW.alike hK, by rw [hAe]; exact hD⟩, by rw [hAe]; exact hS.F ht⟩) (by rw [hAe]; exact hS.2.2) d_Bd_init_30
def W_WM_bind_t : List (Nat × Nat) := [(20, 0), (20, 1), (75, 0), (75, 1), (75, 2), (75, 3)]
set_option maxHeartbeats 4000000 in
set_option maxRecDepth 100000 in
theorem c_WM_bind_t (l : Launch) (dC : Nat → ClassId) (dI : Nat → Nat → Nat) (ct : Nat → ClassId) (L : List Nat) (f : TF) (hO_0 : Ok L f) (q0 : Nat) (m0 : q0 ∈ L ∧ tk f q0 = 0) (sz : Nat) (p_0 : Int32) (p_1 : Int32)   : Met l y_WM_bind (.code y_WM_bind b_WM_bind 5 (some .int) :: TB) ({ frames := 2, cells := 3, slots := 17, locals := 34 }) (va_Pc [.ref q0, .int p_0, .int p_1] (PC dC dI (TW ct L f) (TT ct) sz)) (va_Qi (fun r (u : TSt) => Ok u.1 u.2 ∧ Ext W_WM_bind_t L f u.1 u.2 ∧ (True)) (fun (u : TSt) t => va_P (dC, dI) vwCl (TW ct u.1 u.2) t.heap ∧ va_K (dC, dI) vwCl (TT ct) t ∧ va_D (va_A (TW ct L f) sz) (TW ct u.1 u.2)) (va_A (TW ct L f) sz)) 3 17 (va_A (TW ct L f) sz) := by
  refine Met.ofW (cc := b_WM_bind) (maxL := 5) (ret := (some .int)) (by decide) rfl ?_
  intro p e s m args below meth c s₁ B hml hv
  obtain ⟨rfl, hsz, hP, hK, hD0, hN⟩ := hv
  have hx := B.exec
  have hb := B.bytes
  have hr := B.returns
  have hts := atoms_spec (ws := (.code y_WM_bind b_WM_bind 5 (some .int) :: TB)) B.pre
  have htb := fun w (h : w ∈ TB) => hts w (List.mem_cons_of_mem _ h)
  have hown : s.vm.findClass R_WM = some m.cls := findClass_of_methodNamed B.named
  have hlocks := B.notSynchronized
  have hl := lv_entry ([.ref q0, .int p_0, .int p_1]) (n := 5) (Nat.le_of_ble_eq_true rfl)
  rw [lg_entry_eq]
  generalize (lg_sl ([.ref q0, .int p_0, .int p_1]) ++ List.replicate (5 - (lg_sl ([.ref q0, .int p_0, .int p_1])).length) Slot.unset).toArray = ls at hl ⊢
  have hl : lv_has ls 5 [(0, .ref q0), (1, .int p_0), (2, .int p_1)] := hl
  subst hsz
  have hD := hD0.self (sz := s.heap.size)
  obtain ⟨A, hAe⟩ : ∃ A, va_A (TW ct L f) s.heap.size = A := ⟨_, rfl⟩
  rw [hAe] at hD
  have hA : ∀ q : Nat, s.heap.size ≤ q → A q := fun q h => by rw [← hAe]; exact Or.inr h
  have hS : va_S A s.heap s.heap [] := va_S.rf
  have hA_0 : Ext [] L f L f := Ext.rf
  suffices hGo : ∀ (H : Heap) (locs : List Loc), va_P (dC, dI) vwCl (TW ct L f) H → va_S A s.heap H locs → W p l e (headSpec (.code y_WM_bind b_WM_bind 5 (some .int) :: TB) ({ frames := 2, cells := 3, slots := 17, locals := 34 })).room s m [.ref q0, .int p_0, .int p_1].toArray below meth c H locs 0 0 (MQ below (va_Qi (fun r (u : TSt) => Ok u.1 u.2 ∧ Ext W_WM_bind_t L f u.1 u.2 ∧ (True)) (fun (u : TSt) t => va_P (dC, dI) vwCl (TW ct u.1 u.2) t.heap ∧ va_K (dC, dI) vwCl (TT ct) t ∧ va_D (va_A (TW ct L f) s.heap.size) (TW ct u.1 u.2)) (va_A (TW ct L f) s.heap.size)) [.ref q0, .int p_0, .int p_1].toArray s 3 17 (va_A (TW ct L f) s.heap.size)) (F0 m 0 ls []) from hGo _ _ hP hS
  clear hP hS
  intro H locs hP hS
  refine lv_aload_n hx hb d_WM_bind_0 rfl (lv_at hl 0 rfl) ?_
  refine lv_iload_n hx hb d_WM_bind_1 rfl (lv_at hl 1 rfl) ?_
  refine va_csq (va_Run.run (va_runV (As := [.int p_0]) (rest := []) ⟨hx, hb, hml, hown, htb⟩ (c_WM_manAt_t l dC dI ct L f hO_0 q0 m0 p_0) (cwV 1 htb (gd_V tw_190 tw_191 tw_192 tw_25 tw_189) rfl rfl rfl (by decide +kernel) ⟨Nat.le_of_ble_eq_true rfl, Nat.le_of_ble_eq_true rfl⟩) ⟨pr_blind, tw_recv hK hP m0 rfl rfl, pr_pre hP hK hN⟩ rfl rfl hl.1 rfl (lv_room (Nat.le_of_ble_eq_true rfl)) d_WM_bind_2 ⟨Nat.le_of_ble_eq_true rfl, Nat.le_of_ble_eq_true rfl⟩)) (fun r_1 er_1 => ?_)
  rcases er_1 with rfl | ⟨q_1, rfl, m_1⟩
  · refine hb_tv .null rfl ?_
    refine lv_astore_nN (lv' := [(3, .null), (0, .ref q0), (1, .int p_0), (2, .int p_1)]) hx hb d_WM_bind_5 rfl hl (by decide) rfl (fun ls hl => ?_)
    refine lv_aload_n hx hb d_WM_bind_6 rfl (lv_at hl 1 rfl) ?_
    refine lv_iload_n hx hb d_WM_bind_7 rfl (lv_at hl 3 rfl) ?_
    refine va_csq (va_Run.run (va_runV (As := [.int p_1]) (rest := []) ⟨hx, hb, hml, hown, htb⟩ (c_WM_manAt_t l dC dI ct L f hO_0 q0 m0 p_1) (cwV 1 htb (gd_V tw_190 tw_191 tw_192 tw_25 tw_189) rfl rfl rfl (by decide +kernel) ⟨Nat.le_of_ble_eq_true rfl, Nat.le_of_ble_eq_true rfl⟩) ⟨pr_blind, tw_recv hK hP m0 rfl rfl, pr_pre hP hK hN⟩ rfl rfl hl.1 rfl (lv_room (Nat.le_of_ble_eq_true rfl)) d_WM_bind_8 ⟨Nat.le_of_ble_eq_true rfl, Nat.le_of_ble_eq_true rfl⟩)) (fun r_2 er_2 => ?_)
    rcases er_2 with rfl | ⟨q_2, rfl, m_2⟩
    · refine hb_tv .null rfl ?_
      refine lv_astoreN (lv' := [(4, .null), (3, .null), (0, .ref q0), (1, .int p_0), (2, .int p_1)]) hx hb d_WM_bind_11 hl (by decide) rfl (fun ls hl => ?_)
      refine lv_aload_nN hx hb d_WM_bind_13 rfl (lv_at hl 1 rfl) ?_
      refine lv_ifnullN (tgt := 22) hx hb d_WM_bind_14 (by decide) ?_
      refine lv_iconst (v := (-1)) hx hb d_WM_bind_22 (by decide +kernel) ?_
      refine W.widen (k := 3) (n := 17) (Nat.le_of_ble_eq_true rfl) (Nat.le_of_ble_eq_true rfl) ?_
      exact W.iret (v := (-1)) hx hb hr (fun t ht hW => ⟨⟨(-1), (L, f), rfl, ⟨hO_0, hA_0.mono (by decide +kernel), trivial⟩, by rw [ht]; exact hP, va_K.moved hW.alike hK, by rw [hAe]; exact hD⟩, by rw [hAe]; exact hS.F ht⟩) (by rw [hAe]; exact hS.2.2) d_WM_bind_23
    · refine hb_tv (.ref q_2) rfl ?_
      refine lv_astore (lv' := [(4, .ref q_2), (3, .null), (0, .ref q0), (1, .int p_0), (2, .int p_1)]) hx hb d_WM_bind_11 hl (by decide) rfl (fun ls hl => ?_)
      refine lv_aload_nN hx hb d_WM_bind_13 rfl (lv_at hl 1 rfl) ?_
      refine lv_ifnullN (tgt := 22) hx hb d_WM_bind_14 (by decide) ?_
      refine lv_iconst (v := (-1)) hx hb d_WM_bind_22 (by decide +kernel) ?_
      refine W.widen (k := 3) (n := 17) (Nat.le_of_ble_eq_true rfl) (Nat.le_of_ble_eq_true rfl) ?_
      exact W.iret (v := (-1)) hx hb hr (fun t ht hW => ⟨⟨(-1), (L, f), rfl, ⟨hO_0, hA_0.mono (by decide +kernel), trivial⟩, by rw [ht]; exact hP, va_K.moved hW.alike hK, by rw [hAe]; exact hD⟩, by rw [hAe]; exact hS.F ht⟩) (by rw [hAe]; exact hS.2.2) d_WM_bind_23
  · refine hb_tv (.ref q_1) rfl ?_
    refine lv_astore_n (lv' := [(3, .ref q_1), (0, .ref q0), (1, .int p_0), (2, .int p_1)]) hx hb d_WM_bind_5 rfl hl (by decide) rfl (fun ls hl => ?_)
    refine lv_aload_n hx hb d_WM_bind_6 rfl (lv_at hl 1 rfl) ?_
    refine lv_iload_n hx hb d_WM_bind_7 rfl (lv_at hl 3 rfl) ?_
    refine va_csq (va_Run.run (va_runV (As := [.int p_1]) (rest := []) ⟨hx, hb, hml, hown, htb⟩ (c_WM_manAt_t l dC dI ct L f hO_0 q0 m0 p_1) (cwV 1 htb (gd_V tw_190 tw_191 tw_192 tw_25 tw_189) rfl rfl rfl (by decide +kernel) ⟨Nat.le_of_ble_eq_true rfl, Nat.le_of_ble_eq_true rfl⟩) ⟨pr_blind, tw_recv hK hP m0 rfl rfl, pr_pre hP hK hN⟩ rfl rfl hl.1 rfl (lv_room (Nat.le_of_ble_eq_true rfl)) d_WM_bind_8 ⟨Nat.le_of_ble_eq_true rfl, Nat.le_of_ble_eq_true rfl⟩)) (fun r_3 er_3 => ?_)
    rcases er_3 with rfl | ⟨q_3, rfl, m_3⟩
    · refine hb_tv .null rfl ?_
      refine lv_astoreN (lv' := [(4, .null), (3, .ref q_1), (0, .ref q0), (1, .int p_0), (2, .int p_1)]) hx hb d_WM_bind_11 hl (by decide) rfl (fun ls hl => ?_)
      refine lv_aload_n hx hb d_WM_bind_13 rfl (lv_at hl 1 rfl) ?_
      refine lv_ifnull hx hb d_WM_bind_14 ?_
      refine lv_aloadN hx hb d_WM_bind_17 (lv_at hl 0 rfl) ?_
      refine lv_ifnonnullN hx hb d_WM_bind_19 ?_
      refine lv_iconst (v := (-1)) hx hb d_WM_bind_22 (by decide +kernel) ?_
      refine W.widen (k := 3) (n := 17) (Nat.le_of_ble_eq_true rfl) (Nat.le_of_ble_eq_true rfl) ?_
      exact W.iret (v := (-1)) hx hb hr (fun t ht hW => ⟨⟨(-1), (L, f), rfl, ⟨hO_0, hA_0.mono (by decide +kernel), trivial⟩, by rw [ht]; exact hP, va_K.moved hW.alike hK, by rw [hAe]; exact hD⟩, by rw [hAe]; exact hS.F ht⟩) (by rw [hAe]; exact hS.2.2) d_WM_bind_23
    · refine hb_tv (.ref q_3) rfl ?_
      refine lv_astore (lv' := [(4, .ref q_3), (3, .ref q_1), (0, .ref q0), (1, .int p_0), (2, .int p_1)]) hx hb d_WM_bind_11 hl (by decide) rfl (fun ls hl => ?_)
      refine lv_aload_n hx hb d_WM_bind_13 rfl (lv_at hl 1 rfl) ?_
      refine lv_ifnull hx hb d_WM_bind_14 ?_
      refine lv_aload hx hb d_WM_bind_17 (lv_at hl 0 rfl) ?_
      refine lv_ifnonnull (tgt := 24) hx hb d_WM_bind_19 (by decide) ?_
      refine lv_aload_n hx hb d_WM_bind_24 rfl (lv_at hl 1 rfl) ?_
      refine tw_geti (D := (dC, dI)) (C := R_Mn) (T := F_Mn) (N := 8) (ci := 2) (kd := 20) (ct := ct) hx hb htb i_Mn hown hK hP hO_0 m_1 rfl rfl 0 (by decide) (htb (.fieldLink R_WM 111 "WaterMen$Man" "state" "I") tw_193) (fun _ h9 => h9) rfl d_WM_bind_25 (fun x_4 e_4 b_4 => ?_)
      refine lv_if_ne (tgt := 40) hx hb d_WM_bind_28 (by decide) (fun c_5 => ?_) (fun c_5 => ?_)
      · refine lv_bipush (v := (-2)) hx hb d_WM_bind_40 (by decide +kernel) ?_
        refine W.widen (k := 3) (n := 17) (Nat.le_of_ble_eq_true rfl) (Nat.le_of_ble_eq_true rfl) ?_
        exact W.iret (v := (-2)) hx hb hr (fun t ht hW => ⟨⟨(-2), (L, f), rfl, ⟨hO_0, hA_0.mono (by decide +kernel), trivial⟩, by rw [ht]; exact hP, va_K.moved hW.alike hK, by rw [hAe]; exact hD⟩, by rw [hAe]; exact hS.F ht⟩) (by rw [hAe]; exact hS.2.2) d_WM_bind_42
      · refine lv_aload hx hb d_WM_bind_31 (lv_at hl 0 rfl) ?_
        refine tw_geti (D := (dC, dI)) (C := R_Mn) (T := F_Mn) (N := 8) (ci := 2) (kd := 20) (ct := ct) hx hb htb i_Mn hown hK hP hO_0 m_3 rfl rfl 0 (by decide) (htb (.fieldLink R_WM 111 "WaterMen$Man" "state" "I") tw_193) (fun _ h9 => h9) rfl d_WM_bind_33 (fun x_6 e_6 b_6 => ?_)
        refine lv_iconst (v := 2) hx hb d_WM_bind_36 (by decide +kernel) ?_
        refine lv_icmp_eq (tgt := 43) hx hb d_WM_bind_37 (by decide) (fun c_7 => ?_) (fun c_7 => ?_)
        · refine lv_aload_n hx hb d_WM_bind_43 rfl (lv_at hl 1 rfl) ?_
          refine lv_iconst (v := 1) hx hb d_WM_bind_44 (by decide +kernel) ?_
          refine tw_puti (v := 1) (D := (dC, dI)) (C := R_Mn) (T := F_Mn) (N := 8) (ci := 2) (kd := 20) (ct := ct) (ty := .int) hx hb htb i_Mn t_Mn t_Mn_ok n_Mn hown hK hP hD hS hO_0 m_1 rfl rfl 0 (by decide) (htb (.fieldLink R_WM 111 "WaterMen$Man" "state" "I") tw_193) (fun _ h9 => h9) rfl (by decide +kernel) rfl rfl rfl (i32_full _) d_WM_bind_45 (fun f_1 H locs hP hD hS hO_1 hE_1 w_8 hF_1 => ?_)
          have hA_1 := hA_0.trans hE_1
          refine lv_aload_n hx hb d_WM_bind_48 rfl (lv_at hl 1 rfl) ?_
          refine tw_newO (D := (dC, dI)) (ci := 8) (fs := [.int 0, .int 0, .null, .null, .int 0]) (C := R_Bd) (T := F_Bd) (N := 5) (ct := ct) hx hb htb i_Bd t_Bd t_Bd_ok hown (htb (.classLink R_WM 114 R_Bd) tw_194) (htb (.instantiable R_Bd 5) tw_195) (htb (.initialized R_Bd) tw_196) hK hP hD hS hA hO_1 75 rfl rfl rfl (by decide +kernel) (df_Bd) (Nat.le_of_ble_eq_true rfl) (Nat.le_of_ble_eq_true rfl) d_WM_bind_49 (fun q_n2 L_2 f_2 H hP hD hS hO_2 hE_2 m_n2 nq_2 hL_2 hF_2 => ?_)
          have hA_2 := hA_1.trans hE_2
          refine lv_dup hx hb d_WM_bind_52 rfl ?_
          refine lv_iload_n hx hb d_WM_bind_53 rfl (lv_at hl 4 rfl) ?_
          refine lv_aload_n hx hb d_WM_bind_54 rfl (lv_at hl 2 rfl) ?_
          refine vp_callSi (va_Run.run (va_runV (As := []) (rest := [.int p_1, .ref q_n2, .ref q_n2, .ref q_1]) ⟨hx, hb, hml, hown, htb⟩ (c_WM_today_t l dC dI ct L_2 f_2 hO_2 q0 (hA_2.m m0)) (cwV 0 htb (gd_V tw_180 tw_181 tw_182 tw_25 tw_179) rfl rfl rfl (by decide +kernel) ⟨Nat.le_of_ble_eq_true rfl, Nat.le_of_ble_eq_true rfl⟩) ⟨pr_blind, tw_recv hK hP (hA_2.m m0) rfl rfl, pr_pre hP hK hN⟩ rfl rfl hl.1 rfl (lv_room (Nat.le_of_ble_eq_true rfl)) d_WM_bind_55 ⟨Nat.le_of_ble_eq_true rfl, Nat.le_of_ble_eq_true rfl⟩)) (fun r_9 er_9 => ?_)
          obtain ⟨po_10, po_11, -⟩ := er_9
          have hFc := hb_free hD hS hA
          refine va_callv (va_runI (As := [.int p_1, .int r_9]) (rest := [.ref q_n2, .ref q_1]) ⟨hx, hb, hml, hown, htb⟩ (c_Bd_init_t l dC dI ct L_2 f_2 hO_2 q_n2 m_n2 _ p_1 r_9) (cwI 2 htb (gd_I tw_199) rfl rfl rfl (htb (.initialized R_Bd) tw_196) (htb (.methodLink R_WM 116 y_Bd_init) tw_200) (htb (.instanceMethod y_Bd_init) tw_201) rfl (by decide +kernel) ⟨Nat.le_of_ble_eq_true rfl, Nat.le_of_ble_eq_true rfl⟩) ⟨pc_blind, pc_pre hP hK hD hN⟩ rfl rfl hl.1 rfl (lv_room (Nat.le_of_ble_eq_true rfl)) d_WM_bind_58 ⟨Nat.le_of_ble_eq_true rfl, Nat.le_of_ble_eq_true rfl⟩) hS (fun q _ h => hFc q h) hFc (fun u t H locs ht hvm er hB hz1 hk1 hS => ?_)
          obtain ⟨L_3, f_3⟩ := u
          obtain ⟨hO_3, hE_3, nn_2, nn_3, er⟩ := er
          obtain ⟨hP, hK1, hD1⟩ := hB
          rw [ht] at hP
          have hP : va_P (dC, dI) vwCl (TW ct L_3 f_3) H := hP
          have hD : va_D A (TW ct L_3 f_3) := hD1.weaken (fun _ q _ h => hFc q.1 h)
          have hO_3 : Ok L_3 f_3 := hO_3
          have hE_3 : Ext W_Bd_init_t L_2 f_2 L_3 f_3 := hE_3
          clear hK1 hD1 ht hvm hz1 hk1
          have hA_3 := hA_2.trans hE_3
          clear er
          have hcast : ∀ (j : Nat) (d : FD), FL_21[j]? = some d → okF L_3 f_3 d (f_3 q_n2) j := by
            intro j d hd
            match j, hd with
            | 0, hd => cases hd; exact hO_3 _ (hE_3.m m_n2).1 0 _ (by rw [show (f_3 q_n2).1 = 75 from (hE_3.m m_n2).2]; rfl)
            | 1, hd => cases hd; exact hO_3 _ (hE_3.m m_n2).1 1 _ (by rw [show (f_3 q_n2).1 = 75 from (hE_3.m m_n2).2]; rfl)
            | 2, hd => cases hd; exact ok_nn (hO_3 _ (hE_3.m m_n2).1 2 _ (by rw [show (f_3 q_n2).1 = 75 from (hE_3.m m_n2).2]; rfl)) nn_2
            | 3, hd => cases hd; exact ok_nn (hO_3 _ (hE_3.m m_n2).1 3 _ (by rw [show (f_3 q_n2).1 = 75 from (hE_3.m m_n2).2]; rfl)) nn_3
            | 4, hd => cases hd; exact hO_3 _ (hE_3.m m_n2).1 4 _ (by rw [show (f_3 q_n2).1 = 75 from (hE_3.m m_n2).2]; rfl)
            | j + 5, hd => exact absurd hd (by simp [FL_21])
          obtain ⟨f_4, hO_4, hTW, hk_4, ho_4, hq_4, hF_4⟩ := tw_cast (ct := ct) (kd := 21) hO_3 (hE_3.m m_n2) rfl rfl (by decide +kernel) (by decide +kernel) hcast
          have hE_4 := ext_cast (hE_2.trans hE_3) nq_2 ho_4
          have hA_4 := hA_1.trans hE_4
          rw [← hTW] at hP hD
          have m_n4 : q_n2 ∈ L_3 ∧ tk f_4 q_n2 = 21 := ⟨(hE_3.m m_n2).1, hk_4⟩
          refine tw_putr (b := q_n2) (D := (dC, dI)) (C := R_Mn) (T := F_Mn) (N := 8) (ci := 2) (kd := 20) (ct := ct) (ty := .object "WaterMen$Bond") hx hb htb i_Mn t_Mn t_Mn_ok n_Mn hown hK hP hD hS hO_4 (hA_4.m m_1) rfl rfl 1 (by decide) (htb (.fieldLink R_WM 119 "WaterMen$Man" "bond" "LWaterMen$Bond;") tw_202) (fun _ h9 => h9) rfl (by decide +kernel) rfl rfl rfl m_n4 d_WM_bind_61 (fun f_5 H locs hP hD hS hO_5 hE_5 w_13 hF_5 => ?_)
          have hA_5 := hA_4.trans hE_5
          refine lv_iconst (v := 1) hx hb d_WM_bind_64 (by decide +kernel) ?_
          refine W.widen (k := 3) (n := 17) (Nat.le_of_ble_eq_true rfl) (Nat.le_of_ble_eq_true rfl) ?_
          exact W.iret (v := 1) hx hb hr (fun t ht hW => ⟨⟨1, (L_3, f_5), rfl, ⟨hO_5, hA_5.mono (by decide +kernel), trivial⟩, by rw [ht]; exact hP, va_K.moved hW.alike hK, by rw [hAe]; exact hD⟩, by rw [hAe]; exact hS.F ht⟩) (by rw [hAe]; exact hS.2.2) d_WM_bind_65
        · refine lv_bipush (v := (-2)) hx hb d_WM_bind_40 (by decide +kernel) ?_
          refine W.widen (k := 3) (n := 17) (Nat.le_of_ble_eq_true rfl) (Nat.le_of_ble_eq_true rfl) ?_
          exact W.iret (v := (-2)) hx hb hr (fun t ht hW => ⟨⟨(-2), (L, f), rfl, ⟨hO_0, hA_0.mono (by decide +kernel), trivial⟩, by rw [ht]; exact hP, va_K.moved hW.alike hK, by rw [hAe]; exact hD⟩, by rw [hAe]; exact hS.F ht⟩) (by rw [hAe]; exact hS.2.2) d_WM_bind_42
def W_WM_absent_t : List (Nat × Nat) := [(21, 4), (22, 1000), (23, 1000)]
set_option maxHeartbeats 4000000 in
set_option maxRecDepth 100000 in
theorem c_WM_absent_t (l : Launch) (dC : Nat → ClassId) (dI : Nat → Nat → Nat) (ct : Nat → ClassId) (L : List Nat) (f : TF) (hO_0 : Ok L f) (q0 : Nat) (m0 : q0 ∈ L ∧ tk f q0 = 0) (sz : Nat) (p_0 : Int32) (p_1 : Int32) (p_2 : Int32)   : Met l y_WM_absent (.code y_WM_absent b_WM_absent 6 (some .int) :: TB) ({ frames := 1, cells := 0, slots := 0, locals := 23 }) (va_Pc [.ref q0, .int p_0, .int p_1, .int p_2] (PC dC dI (TW ct L f) (TT ct) sz)) (va_Qi (fun r (u : TSt) => Ok u.1 u.2 ∧ Ext W_WM_absent_t L f u.1 u.2 ∧ (True)) (fun (u : TSt) t => va_P (dC, dI) vwCl (TW ct u.1 u.2) t.heap ∧ va_K (dC, dI) vwCl (TT ct) t ∧ va_D (va_A (TW ct L f) sz) (TW ct u.1 u.2)) (va_A (TW ct L f) sz)) 0 0 (va_A (TW ct L f) sz) := by
  refine Met.ofW (cc := b_WM_absent) (maxL := 6) (ret := (some .int)) (by decide) rfl ?_
  intro p e s m args below meth c s₁ B hml hv
  obtain ⟨rfl, hsz, hP, hK, hD0, hN⟩ := hv
  have hx := B.exec
  have hb := B.bytes
  have hr := B.returns
  have hts := atoms_spec (ws := (.code y_WM_absent b_WM_absent 6 (some .int) :: TB)) B.pre
  have htb := fun w (h : w ∈ TB) => hts w (List.mem_cons_of_mem _ h)
  have hown : s.vm.findClass R_WM = some m.cls := findClass_of_methodNamed B.named
  have hlocks := B.notSynchronized
  have hl := lv_entry ([.ref q0, .int p_0, .int p_1, .int p_2]) (n := 6) (Nat.le_of_ble_eq_true rfl)
  rw [lg_entry_eq]
  generalize (lg_sl ([.ref q0, .int p_0, .int p_1, .int p_2]) ++ List.replicate (6 - (lg_sl ([.ref q0, .int p_0, .int p_1, .int p_2])).length) Slot.unset).toArray = ls at hl ⊢
  have hl : lv_has ls 6 [(0, .ref q0), (1, .int p_0), (2, .int p_1), (3, .int p_2)] := hl
  subst hsz
  have hD := hD0.self (sz := s.heap.size)
  obtain ⟨A, hAe⟩ : ∃ A, va_A (TW ct L f) s.heap.size = A := ⟨_, rfl⟩
  rw [hAe] at hD
  have hA : ∀ q : Nat, s.heap.size ≤ q → A q := fun q h => by rw [← hAe]; exact Or.inr h
  have hS : va_S A s.heap s.heap [] := va_S.rf
  have hA_0 : Ext [] L f L f := Ext.rf
  suffices hGo : ∀ (H : Heap) (locs : List Loc), va_P (dC, dI) vwCl (TW ct L f) H → va_S A s.heap H locs → W p l e (headSpec (.code y_WM_absent b_WM_absent 6 (some .int) :: TB) ({ frames := 1, cells := 0, slots := 0, locals := 23 })).room s m [.ref q0, .int p_0, .int p_1, .int p_2].toArray below meth c H locs 0 0 (MQ below (va_Qi (fun r (u : TSt) => Ok u.1 u.2 ∧ Ext W_WM_absent_t L f u.1 u.2 ∧ (True)) (fun (u : TSt) t => va_P (dC, dI) vwCl (TW ct u.1 u.2) t.heap ∧ va_K (dC, dI) vwCl (TT ct) t ∧ va_D (va_A (TW ct L f) s.heap.size) (TW ct u.1 u.2)) (va_A (TW ct L f) s.heap.size)) [.ref q0, .int p_0, .int p_1, .int p_2].toArray s 0 0 (va_A (TW ct L f) s.heap.size)) (F0 m 0 ls []) from hGo _ _ hP hS
  clear hP hS
  intro H locs hP hS
  refine lv_aload_n hx hb d_WM_absent_0 rfl (lv_at hl 0 rfl) ?_
  refine lv_iload_n hx hb d_WM_absent_1 rfl (lv_at hl 1 rfl) ?_
  refine va_csq (va_Run.run (va_runV (As := [.int p_0]) (rest := []) ⟨hx, hb, hml, hown, htb⟩ (c_WM_manAt_t l dC dI ct L f hO_0 q0 m0 p_0) (cwV 1 htb (gd_V tw_190 tw_191 tw_192 tw_25 tw_189) rfl rfl rfl (by decide +kernel) ⟨Nat.le_of_ble_eq_true rfl, Nat.le_of_ble_eq_true rfl⟩) ⟨pr_blind, tw_recv hK hP m0 rfl rfl, pr_pre hP hK hN⟩ rfl rfl hl.1 rfl (lv_room (Nat.le_of_ble_eq_true rfl)) d_WM_absent_2 ⟨Nat.le_of_ble_eq_true rfl, Nat.le_of_ble_eq_true rfl⟩)) (fun r_1 er_1 => ?_)
  rcases er_1 with rfl | ⟨q_1, rfl, m_1⟩
  · refine hb_tv .null rfl ?_
    refine lv_astoreN (lv' := [(4, .null), (0, .ref q0), (1, .int p_0), (2, .int p_1), (3, .int p_2)]) hx hb d_WM_absent_5 hl (by decide) rfl (fun ls hl => ?_)
    refine lv_aloadN hx hb d_WM_absent_7 (lv_at hl 0 rfl) ?_
    refine lv_ifnullN (tgt := 29) hx hb d_WM_absent_9 (by decide) ?_
    refine lv_iconst (v := (-1)) hx hb d_WM_absent_29 (by decide +kernel) ?_
    refine W.widen (k := 0) (n := 0) (Nat.le_of_ble_eq_true rfl) (Nat.le_of_ble_eq_true rfl) ?_
    exact W.iret (v := (-1)) hx hb hr (fun t ht hW => ⟨⟨(-1), (L, f), rfl, ⟨hO_0, hA_0.mono (by decide +kernel), trivial⟩, by rw [ht]; exact hP, va_K.moved hW.alike hK, by rw [hAe]; exact hD⟩, by rw [hAe]; exact hS.F ht⟩) (by rw [hAe]; exact hS.2.2) d_WM_absent_30
  · refine hb_tv (.ref q_1) rfl ?_
    refine lv_astore (lv' := [(4, .ref q_1), (0, .ref q0), (1, .int p_0), (2, .int p_1), (3, .int p_2)]) hx hb d_WM_absent_5 hl (by decide) rfl (fun ls hl => ?_)
    refine lv_aload hx hb d_WM_absent_7 (lv_at hl 0 rfl) ?_
    refine lv_ifnull hx hb d_WM_absent_9 ?_
    refine lv_iload_n hx hb d_WM_absent_12 rfl (lv_at hl 3 rfl) ?_
    refine lv_if_lt (tgt := 29) hx hb d_WM_absent_13 (by decide) (fun c_2 => ?_) (fun c_2 => ?_)
    · refine lv_iconst (v := (-1)) hx hb d_WM_absent_29 (by decide +kernel) ?_
      refine W.widen (k := 0) (n := 0) (Nat.le_of_ble_eq_true rfl) (Nat.le_of_ble_eq_true rfl) ?_
      exact W.iret (v := (-1)) hx hb hr (fun t ht hW => ⟨⟨(-1), (L, f), rfl, ⟨hO_0, hA_0.mono (by decide +kernel), trivial⟩, by rw [ht]; exact hP, va_K.moved hW.alike hK, by rw [hAe]; exact hD⟩, by rw [hAe]; exact hS.F ht⟩) (by rw [hAe]; exact hS.2.2) d_WM_absent_30
    · refine lv_iload_n hx hb d_WM_absent_16 rfl (lv_at hl 3 rfl) ?_
      refine lv_iload_n hx hb d_WM_absent_17 rfl (lv_at hl 4 rfl) ?_
      refine lv_icmp_gt (tgt := 29) hx hb d_WM_absent_18 (by decide) (fun c_3 => ?_) (fun c_3 => ?_)
      · refine lv_iconst (v := (-1)) hx hb d_WM_absent_29 (by decide +kernel) ?_
        refine W.widen (k := 0) (n := 0) (Nat.le_of_ble_eq_true rfl) (Nat.le_of_ble_eq_true rfl) ?_
        exact W.iret (v := (-1)) hx hb hr (fun t ht hW => ⟨⟨(-1), (L, f), rfl, ⟨hO_0, hA_0.mono (by decide +kernel), trivial⟩, by rw [ht]; exact hP, va_K.moved hW.alike hK, by rw [hAe]; exact hD⟩, by rw [hAe]; exact hS.F ht⟩) (by rw [hAe]; exact hS.2.2) d_WM_absent_30
      · refine lv_iload_n hx hb d_WM_absent_21 rfl (lv_at hl 4 rfl) ?_
        refine lv_aload_n hx hb d_WM_absent_22 rfl (lv_at hl 1 rfl) ?_
        refine vp_callSi (va_Run.run (va_runV (As := []) (rest := [.int p_2]) ⟨hx, hb, hml, hown, htb⟩ (c_WM_today_t l dC dI ct L f hO_0 q0 m0) (cwV 0 htb (gd_V tw_180 tw_181 tw_182 tw_25 tw_179) rfl rfl rfl (by decide +kernel) ⟨Nat.le_of_ble_eq_true rfl, Nat.le_of_ble_eq_true rfl⟩) ⟨pr_blind, tw_recv hK hP m0 rfl rfl, pr_pre hP hK hN⟩ rfl rfl hl.1 rfl (lv_room (Nat.le_of_ble_eq_true rfl)) d_WM_absent_23 ⟨Nat.le_of_ble_eq_true rfl, Nat.le_of_ble_eq_true rfl⟩)) (fun r_4 er_4 => ?_)
        obtain ⟨po_5, po_6, -⟩ := er_4
        refine lv_icmp_le (tgt := 31) hx hb d_WM_absent_26 (by decide) (fun c_7 => ?_) (fun c_7 => ?_)
        · refine lv_aload hx hb d_WM_absent_31 (lv_at hl 0 rfl) ?_
          refine tw_getq (D := (dC, dI)) (C := R_Mn) (T := F_Mn) (N := 8) (ci := 2) (kd := 20) (ct := ct) hx hb htb i_Mn hown hK hP hO_0 m_1 rfl rfl 1 (by decide) (htb (.fieldLink R_WM 119 "WaterMen$Man" "bond" "LWaterMen$Bond;") tw_202) (fun _ h9 => h9) rfl d_WM_absent_33 (fun e_8 => ?_) (fun q_8 e_8 m_8 => ?_)
          · refine lv_astoreN (lv' := [(5, .null), (4, .ref q_1), (0, .ref q0), (1, .int p_0), (2, .int p_1), (3, .int p_2)]) hx hb d_WM_absent_36 hl (by decide) rfl (fun ls hl => ?_)
            refine lv_aloadN hx hb d_WM_absent_38 (lv_at hl 0 rfl) ?_
            refine lv_ifnullN (tgt := 54) hx hb d_WM_absent_40 (by decide) ?_
            refine lv_aloadN hx hb d_WM_absent_54 (lv_at hl 0 rfl) ?_
            refine lv_ifnullN (tgt := 78) hx hb d_WM_absent_56 (by decide) ?_
            refine lv_bipush (v := (-2)) hx hb d_WM_absent_78 (by decide +kernel) ?_
            refine W.widen (k := 0) (n := 0) (Nat.le_of_ble_eq_true rfl) (Nat.le_of_ble_eq_true rfl) ?_
            exact W.iret (v := (-2)) hx hb hr (fun t ht hW => ⟨⟨(-2), (L, f), rfl, ⟨hO_0, hA_0.mono (by decide +kernel), trivial⟩, by rw [ht]; exact hP, va_K.moved hW.alike hK, by rw [hAe]; exact hD⟩, by rw [hAe]; exact hS.F ht⟩) (by rw [hAe]; exact hS.2.2) d_WM_absent_80
          · refine lv_astore (lv' := [(5, .ref q_8), (4, .ref q_1), (0, .ref q0), (1, .int p_0), (2, .int p_1), (3, .int p_2)]) hx hb d_WM_absent_36 hl (by decide) rfl (fun ls hl => ?_)
            refine lv_aload hx hb d_WM_absent_38 (lv_at hl 0 rfl) ?_
            refine lv_ifnull hx hb d_WM_absent_40 ?_
            refine lv_iload_n hx hb d_WM_absent_43 rfl (lv_at hl 4 rfl) ?_
            refine lv_aload hx hb d_WM_absent_44 (lv_at hl 0 rfl) ?_
            refine tw_geti (D := (dC, dI)) (C := R_Bd) (T := F_Bd) (N := 5) (ci := 8) (kd := 21) (ct := ct) hx hb htb i_Bd hown hK hP hO_0 m_8 rfl rfl 1 (by decide) (htb (.fieldLink R_WM 123 "WaterMen$Bond" "since" "I") tw_203) (fun _ h9 => h9) rfl d_WM_absent_46 (fun x_9 e_9 b_9 => ?_)
            refine lv_icmp_ge (tgt := 54) hx hb d_WM_absent_49 (by decide) (fun c_10 => ?_) (fun c_10 => ?_)
            · refine lv_aload hx hb d_WM_absent_54 (lv_at hl 0 rfl) ?_
              refine lv_ifnull hx hb d_WM_absent_56 ?_
              refine lv_aload hx hb d_WM_absent_59 (lv_at hl 1 rfl) ?_
              refine tw_geti (D := (dC, dI)) (C := R_Mn) (T := F_Mn) (N := 8) (ci := 2) (kd := 20) (ct := ct) hx hb htb i_Mn hown hK hP hO_0 m_1 rfl rfl 0 (by decide) (htb (.fieldLink R_WM 111 "WaterMen$Man" "state" "I") tw_193) (fun _ h9 => h9) rfl d_WM_absent_61 (fun x_11 e_11 b_11 => ?_)
              refine lv_iconst (v := 1) hx hb d_WM_absent_64 (by decide +kernel) ?_
              refine lv_icmp_ne (tgt := 78) hx hb d_WM_absent_65 (by decide) (fun c_12 => ?_) (fun c_12 => ?_)
              · refine lv_bipush (v := (-2)) hx hb d_WM_absent_78 (by decide +kernel) ?_
                refine W.widen (k := 0) (n := 0) (Nat.le_of_ble_eq_true rfl) (Nat.le_of_ble_eq_true rfl) ?_
                exact W.iret (v := (-2)) hx hb hr (fun t ht hW => ⟨⟨(-2), (L, f), rfl, ⟨hO_0, hA_0.mono (by decide +kernel), trivial⟩, by rw [ht]; exact hP, va_K.moved hW.alike hK, by rw [hAe]; exact hD⟩, by rw [hAe]; exact hS.F ht⟩) (by rw [hAe]; exact hS.2.2) d_WM_absent_80
              · refine lv_aload hx hb d_WM_absent_68 (lv_at hl 0 rfl) ?_
                refine lv_iload_n hx hb d_WM_absent_70 rfl (lv_at hl 4 rfl) ?_
                refine lv_iload_n hx hb d_WM_absent_71 rfl (lv_at hl 5 rfl) ?_
                refine vp_callSi (va_Run.run (va_runV (As := [.int p_1, .int p_2]) (rest := []) ⟨hx, hb, hml, hown, htb⟩ (c_Bd_meetsGap_t l dC dI ct L f hO_0 q_8 m_8 p_1 p_2) (cwV 2 htb (gd_V tw_205 tw_206 tw_207 tw_196 tw_204) rfl rfl rfl (by decide +kernel) ⟨Nat.le_of_ble_eq_true rfl, Nat.le_of_ble_eq_true rfl⟩) ⟨pr_blind, tw_recv hK hP m_8 rfl rfl, pr_pre hP hK hN⟩ rfl rfl hl.1 rfl (lv_room (Nat.le_of_ble_eq_true rfl)) d_WM_absent_72 ⟨Nat.le_of_ble_eq_true rfl, Nat.le_of_ble_eq_true rfl⟩)) (fun r_13 er_13 => ?_)
                rcases er_13 with ⟨rfl, -⟩ | ⟨rfl, -⟩
                · refine lv_if_eq (tgt := 81) hx hb d_WM_absent_75 (by decide) (fun _ => ?_) (fun h => absurd (by decide +kernel) h)
                  refine lv_aload hx hb d_WM_absent_81 (lv_at hl 0 rfl) ?_
                  refine tw_geti (D := (dC, dI)) (C := R_Bd) (T := F_Bd) (N := 5) (ci := 8) (kd := 21) (ct := ct) hx hb htb i_Bd hown hK hP hO_0 m_8 rfl rfl 4 (by decide) (htb (.fieldLink R_WM 130 "WaterMen$Bond" "gapCount" "I") tw_208) (fun _ h9 => h9) rfl d_WM_absent_83 (fun x_14 e_14 b_14 => ?_)
                  refine lv_bipush (v := 6) hx hb d_WM_absent_86 (by decide +kernel) ?_
                  refine lv_icmp_lt (tgt := 96) hx hb d_WM_absent_88 (by decide) (fun c_15 => ?_) (fun c_15 => ?_)
                  · refine lv_aload hx hb d_WM_absent_96 (lv_at hl 0 rfl) ?_
                    refine lv_iload_n hx hb d_WM_absent_98 rfl (lv_at hl 4 rfl) ?_
                    refine lv_iload_n hx hb d_WM_absent_99 rfl (lv_at hl 5 rfl) ?_
                    have hFc := hb_free hD hS hA
                    refine va_calli (va_runV (As := [.int p_1, .int p_2]) (rest := []) ⟨hx, hb, hml, hown, htb⟩ (c_Bd_addGap_t l dC dI ct L f hO_0 q_8 m_8 _ p_1 p_2 (by rw [show ti f q_8 4 = x_14 from e_14]; first | done | exact (show ¬ (5 < x_14) from by have e0 := b_14.1; rw [Int32.lt_iff_toInt_lt] at e0; have e1 := c_15; rw [Int32.lt_iff_toInt_lt] at e1; have z0 : (0 : Int32).toInt = 0 := (by decide +kernel); have z1 : (5 : Int32).toInt = 5 := (by decide +kernel); have z2 : (6 : Int32).toInt = 6 := (by decide +kernel); rw [Int32.lt_iff_toInt_lt]; omega))) (cwV 2 htb (gd_V tw_210 tw_211 tw_212 tw_196 tw_209) rfl rfl rfl (by decide +kernel) ⟨Nat.le_of_ble_eq_true rfl, Nat.le_of_ble_eq_true rfl⟩) ⟨pc_blind, tw_recv hK hP m_8 rfl rfl, pc_pre hP hK hD hN⟩ rfl rfl hl.1 rfl (lv_room (Nat.le_of_ble_eq_true rfl)) d_WM_absent_100 ⟨Nat.le_of_ble_eq_true rfl, Nat.le_of_ble_eq_true rfl⟩) hS (fun q _ h => hFc q h) hFc (fun r_16 u t H locs ht hvm er hB hz1 hk1 hS => ?_)
                    obtain ⟨L_1, f_1⟩ := u
                    obtain ⟨hO_1, hE_1, er⟩ := er
                    obtain ⟨hP, hK1, hD1⟩ := hB
                    rw [ht] at hP
                    have hP : va_P (dC, dI) vwCl (TW ct L_1 f_1) H := hP
                    have hD : va_D A (TW ct L_1 f_1) := hD1.weaken (fun _ q _ h => hFc q.1 h)
                    have hO_1 : Ok L_1 f_1 := hO_1
                    have hE_1 : Ext W_Bd_addGap_t L f L_1 f_1 := hE_1
                    clear hK1 hD1 ht hvm hz1 hk1
                    have hA_1 := hA_0.trans hE_1
                    clear er
                    refine W.widen (k := 0) (n := 0) (Nat.le_of_ble_eq_true rfl) (Nat.le_of_ble_eq_true rfl) ?_
                    exact W.iret (v := r_16) hx hb hr (fun t ht hW => ⟨⟨r_16, (L_1, f_1), rfl, ⟨hO_1, hA_1.mono (by decide +kernel), trivial⟩, by rw [ht]; exact hP, va_K.moved hW.alike hK, by rw [hAe]; exact hD⟩, by rw [hAe]; exact hS.F ht⟩) (by rw [hAe]; exact hS.2.2) d_WM_absent_103
                  · refine lv_bipush (v := (-3)) hx hb d_WM_absent_91 (by decide +kernel) ?_
                    refine lv_goto (tgt := 103) hx hb d_WM_absent_93 (by decide) ?_
                    refine W.widen (k := 0) (n := 0) (Nat.le_of_ble_eq_true rfl) (Nat.le_of_ble_eq_true rfl) ?_
                    exact W.iret (v := (-3)) hx hb hr (fun t ht hW => ⟨⟨(-3), (L, f), rfl, ⟨hO_0, hA_0.mono (by decide +kernel), trivial⟩, by rw [ht]; exact hP, va_K.moved hW.alike hK, by rw [hAe]; exact hD⟩, by rw [hAe]; exact hS.F ht⟩) (by rw [hAe]; exact hS.2.2) d_WM_absent_103
                · refine lv_if_eq (tgt := 81) hx hb d_WM_absent_75 (by decide) (fun h => absurd h (by decide +kernel)) (fun _ => ?_)
                  refine lv_bipush (v := (-2)) hx hb d_WM_absent_78 (by decide +kernel) ?_
                  refine W.widen (k := 0) (n := 0) (Nat.le_of_ble_eq_true rfl) (Nat.le_of_ble_eq_true rfl) ?_
                  exact W.iret (v := (-2)) hx hb hr (fun t ht hW => ⟨⟨(-2), (L, f), rfl, ⟨hO_0, hA_0.mono (by decide +kernel), trivial⟩, by rw [ht]; exact hP, va_K.moved hW.alike hK, by rw [hAe]; exact hD⟩, by rw [hAe]; exact hS.F ht⟩) (by rw [hAe]; exact hS.2.2) d_WM_absent_80
            · refine lv_iconst (v := (-1)) hx hb d_WM_absent_52 (by decide +kernel) ?_
              refine W.widen (k := 0) (n := 0) (Nat.le_of_ble_eq_true rfl) (Nat.le_of_ble_eq_true rfl) ?_
              exact W.iret (v := (-1)) hx hb hr (fun t ht hW => ⟨⟨(-1), (L, f), rfl, ⟨hO_0, hA_0.mono (by decide +kernel), trivial⟩, by rw [ht]; exact hP, va_K.moved hW.alike hK, by rw [hAe]; exact hD⟩, by rw [hAe]; exact hS.F ht⟩) (by rw [hAe]; exact hS.2.2) d_WM_absent_53
        · refine lv_iconst (v := (-1)) hx hb d_WM_absent_29 (by decide +kernel) ?_
          refine W.widen (k := 0) (n := 0) (Nat.le_of_ble_eq_true rfl) (Nat.le_of_ble_eq_true rfl) ?_
          exact W.iret (v := (-1)) hx hb hr (fun t ht hW => ⟨⟨(-1), (L, f), rfl, ⟨hO_0, hA_0.mono (by decide +kernel), trivial⟩, by rw [ht]; exact hP, va_K.moved hW.alike hK, by rw [hAe]; exact hD⟩, by rw [hAe]; exact hS.F ht⟩) (by rw [hAe]; exact hS.2.2) d_WM_absent_30
