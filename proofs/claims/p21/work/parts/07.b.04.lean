def W_Md_boat_t : List (Nat × Nat) := [(27, 21), (45, 1000), (46, 1000), (47, 1000), (48, 1000)]
set_option maxHeartbeats 4000000 in
set_option maxRecDepth 100000 in
theorem c_Md_boat_t (l : Launch) (dC : Nat → ClassId) (dI : Nat → Nat → Nat) (ct : Nat → ClassId) (L : List Nat) (f : TF) (hO_0 : Ok L f) (q0 : Nat) (m0 : q0 ∈ L ∧ tk f q0 = 27) (sz : Nat) (p_0 : Int32) (p_1 : Int32)   : Met l y_Md_boat (.code y_Md_boat b_Md_boat 3 (some .int) :: TB) ({ frames := 2, cells := 0, slots := 0, locals := 43 }) (va_Pc [.ref q0, .int p_0, .int p_1] (PC dC dI (TW ct L f) (TT ct) sz)) (va_Qi (fun r (u : TSt) => Ok u.1 u.2 ∧ Ext W_Md_boat_t L f u.1 u.2 ∧ (True)) (fun (u : TSt) t => va_P (dC, dI) vwCl (TW ct u.1 u.2) t.heap ∧ va_K (dC, dI) vwCl (TT ct) t ∧ va_D (va_A (TW ct L f) sz) (TW ct u.1 u.2)) (va_A (TW ct L f) sz)) 0 0 (va_A (TW ct L f) sz) := by
  refine Met.ofW (cc := b_Md_boat) (maxL := 3) (ret := (some .int)) (by decide) rfl ?_
  intro p e s m args below meth c s₁ B hml hv
  obtain ⟨rfl, hsz, hP, hK, hD0, hN⟩ := hv
  have hx := B.exec
  have hb := B.bytes
  have hr := B.returns
  have hts := atoms_spec (ws := (.code y_Md_boat b_Md_boat 3 (some .int) :: TB)) B.pre
  have htb := fun w (h : w ∈ TB) => hts w (List.mem_cons_of_mem _ h)
  have hown : s.vm.findClass R_Md = some m.cls := findClass_of_methodNamed B.named
  have hlocks := B.notSynchronized
  have hl := lv_entry ([.ref q0, .int p_0, .int p_1]) (n := 3) (Nat.le_of_ble_eq_true rfl)
  rw [lg_entry_eq]
  generalize (lg_sl ([.ref q0, .int p_0, .int p_1]) ++ List.replicate (3 - (lg_sl ([.ref q0, .int p_0, .int p_1])).length) Slot.unset).toArray = ls at hl ⊢
  have hl : lv_has ls 3 [(0, .ref q0), (1, .int p_0), (2, .int p_1)] := hl
  subst hsz
  have hD := hD0.self (sz := s.heap.size)
  obtain ⟨A, hAe⟩ : ∃ A, va_A (TW ct L f) s.heap.size = A := ⟨_, rfl⟩
  rw [hAe] at hD
  have hA : ∀ q : Nat, s.heap.size ≤ q → A q := fun q h => by rw [← hAe]; exact Or.inr h
  have hS : va_S A s.heap s.heap [] := va_S.rf
  have hA_0 : Ext [] L f L f := Ext.rf
  suffices hGo : ∀ (H : Heap) (locs : List Loc), va_P (dC, dI) vwCl (TW ct L f) H → va_S A s.heap H locs → W p l e (headSpec (.code y_Md_boat b_Md_boat 3 (some .int) :: TB) ({ frames := 2, cells := 0, slots := 0, locals := 43 })).room s m [.ref q0, .int p_0, .int p_1].toArray below meth c H locs 0 0 (MQ below (va_Qi (fun r (u : TSt) => Ok u.1 u.2 ∧ Ext W_Md_boat_t L f u.1 u.2 ∧ (True)) (fun (u : TSt) t => va_P (dC, dI) vwCl (TW ct u.1 u.2) t.heap ∧ va_K (dC, dI) vwCl (TT ct) t ∧ va_D (va_A (TW ct L f) s.heap.size) (TW ct u.1 u.2)) (va_A (TW ct L f) s.heap.size)) [.ref q0, .int p_0, .int p_1].toArray s 0 0 (va_A (TW ct L f) s.heap.size)) (F0 m 0 ls []) from hGo _ _ hP hS
  clear hP hS
  intro H locs hP hS
  refine lv_iload_n hx hb d_Md_boat_0 rfl (lv_at hl 1 rfl) ?_
  refine lv_iconst (v := 1) hx hb d_Md_boat_1 (by decide +kernel) ?_
  refine lv_iconst (v := 2) hx hb d_Md_boat_2 (by decide +kernel) ?_
  refine vp_callSi (va_Run.run (va_runS (As := [.int p_0, .int 1, .int 2]) (rest := []) ⟨hx, hb, hml, hown, htb⟩ (c_Md_in l p_0 1 2) (cwS 3 htb (gd_S tw_480 tw_481 tw_479 tw_478) rfl rfl rfl (by decide +kernel) ⟨Nat.le_of_ble_eq_true rfl, Nat.le_of_ble_eq_true rfl⟩) ⟨fun _ _ _ _ h => h, fun U _ _ => ⟨rfl, trivial⟩⟩ rfl rfl hl.1 rfl (lv_room (Nat.le_of_ble_eq_true rfl)) d_Md_boat_3 ⟨Nat.le_of_ble_eq_true rfl, Nat.le_of_ble_eq_true rfl⟩)) (fun r er => ?_)
  subst er
  by_cases c_2 : p_0 < 1
  · refine hb_ti 0 (by unfold f_Md_in; rw [if_pos c_2]; first | done | rfl) ?_
    refine lv_if_eq (tgt := 17) hx hb d_Md_boat_6 (by decide) (fun _ => ?_) (fun h => absurd (by decide +kernel) h)
    refine lv_iconst (v := (-1)) hx hb d_Md_boat_17 (by decide +kernel) ?_
    refine W.widen (k := 0) (n := 0) (Nat.le_of_ble_eq_true rfl) (Nat.le_of_ble_eq_true rfl) ?_
    exact W.iret (v := (-1)) hx hb hr (fun t ht hW => ⟨⟨(-1), (L, f), rfl, ⟨hO_0, hA_0.mono (by decide +kernel), trivial⟩, by rw [ht]; exact hP, va_K.moved hW.alike hK, by rw [hAe]; exact hD⟩, by rw [hAe]; exact hS.F ht⟩) (by rw [hAe]; exact hS.2.2) d_Md_boat_18
  · by_cases c_3 : 2 < p_0
    · refine hb_ti 0 (by unfold f_Md_in; rw [if_neg c_2, if_pos c_3]; first | done | rfl) ?_
      refine lv_if_eq (tgt := 17) hx hb d_Md_boat_6 (by decide) (fun _ => ?_) (fun h => absurd (by decide +kernel) h)
      refine lv_iconst (v := (-1)) hx hb d_Md_boat_17 (by decide +kernel) ?_
      refine W.widen (k := 0) (n := 0) (Nat.le_of_ble_eq_true rfl) (Nat.le_of_ble_eq_true rfl) ?_
      exact W.iret (v := (-1)) hx hb hr (fun t ht hW => ⟨⟨(-1), (L, f), rfl, ⟨hO_0, hA_0.mono (by decide +kernel), trivial⟩, by rw [ht]; exact hP, va_K.moved hW.alike hK, by rw [hAe]; exact hD⟩, by rw [hAe]; exact hS.F ht⟩) (by rw [hAe]; exact hS.2.2) d_Md_boat_18
    · refine hb_ti 1 (by unfold f_Md_in; rw [if_neg c_2, if_neg c_3]; first | done | rfl) ?_
      refine lv_if_eq (tgt := 17) hx hb d_Md_boat_6 (by decide) (fun h => absurd h (by decide +kernel)) (fun _ => ?_)
      refine lv_aload_n hx hb d_Md_boat_9 rfl (lv_at hl 0 rfl) ?_
      refine lv_iload_n hx hb d_Md_boat_10 rfl (lv_at hl 2 rfl) ?_
      refine vp_callSi (va_Run.run (va_runV (As := [.int p_1]) (rest := []) ⟨hx, hb, hml, hown, htb⟩ (c_Md_isStairs_t l dC dI ct L f hO_0 q0 m0 p_1) (cwV 1 htb (gd_V tw_530 tw_531 tw_532 tw_479 tw_529) rfl rfl rfl (by decide +kernel) ⟨Nat.le_of_ble_eq_true rfl, Nat.le_of_ble_eq_true rfl⟩) ⟨pr_blind, tw_recv hK hP m0 rfl rfl, pr_pre hP hK hN⟩ rfl rfl hl.1 rfl (lv_room (Nat.le_of_ble_eq_true rfl)) d_Md_boat_11 ⟨Nat.le_of_ble_eq_true rfl, Nat.le_of_ble_eq_true rfl⟩)) (fun r_4 er_4 => ?_)
      rcases er_4 with ⟨rfl, -⟩ | ⟨rfl, po_5, po_6, po_7, -⟩
      · refine lv_if_ne (tgt := 19) hx hb d_Md_boat_14 (by decide) (fun h => absurd (by decide +kernel) h) (fun _ => ?_)
        refine lv_iconst (v := (-1)) hx hb d_Md_boat_17 (by decide +kernel) ?_
        refine W.widen (k := 0) (n := 0) (Nat.le_of_ble_eq_true rfl) (Nat.le_of_ble_eq_true rfl) ?_
        exact W.iret (v := (-1)) hx hb hr (fun t ht hW => ⟨⟨(-1), (L, f), rfl, ⟨hO_0, hA_0.mono (by decide +kernel), trivial⟩, by rw [ht]; exact hP, va_K.moved hW.alike hK, by rw [hAe]; exact hD⟩, by rw [hAe]; exact hS.F ht⟩) (by rw [hAe]; exact hS.2.2) d_Md_boat_18
      · refine lv_if_ne (tgt := 19) hx hb d_Md_boat_14 (by decide) (fun _ => ?_) (fun h => absurd h (by decide +kernel))
        refine lv_aload_n hx hb d_Md_boat_19 rfl (lv_at hl 0 rfl) ?_
        refine tw_geti (D := (dC, dI)) (C := R_Md) (T := F_Md) (N := 64) (ci := 7) (kd := 27) (ct := ct) hx hb htb i_Md hown hK hP hO_0 m0 rfl rfl 21 (by decide) (htb (.fieldLink R_Md 206 "WaterMenModel" "boats" "I") tw_537) (fun _ h9 => h9) rfl d_Md_boat_20 (fun x_8 e_8 b_8 => ?_)
        refine lv_bipush (v := 20) hx hb d_Md_boat_23 (by decide +kernel) ?_
        refine lv_icmp_ne (tgt := 31) hx hb d_Md_boat_25 (by decide) (fun c_9 => ?_) (fun c_9 => ?_)
        · refine lv_aload_n hx hb d_Md_boat_31 rfl (lv_at hl 0 rfl) ?_
          refine tw_getr (D := (dC, dI)) (C := R_Md) (T := F_Md) (N := 64) (ci := 7) (kd := 27) (ct := ct) hx hb htb i_Md hown hK hP hO_0 m0 rfl rfl 22 (by decide) (htb (.fieldLink R_Md 94 "WaterMenModel" "boatOars" "[I") tw_538) (fun _ h9 => h9) rfl d_Md_boat_32 (fun q_10 e_10 m_10 => ?_)
          refine lv_aload_n hx hb d_Md_boat_35 rfl (lv_at hl 0 rfl) ?_
          refine tw_getI (x := x_8) (D := (dC, dI)) (C := R_Md) (T := F_Md) (N := 64) (ci := 7) (kd := 27) (ct := ct) hx hb htb i_Md hown hK hP m0 rfl rfl 21 e_8 (by decide) (htb (.fieldLink R_Md 206 "WaterMenModel" "boats" "I") tw_537) (fun _ h9 => h9) rfl d_Md_boat_36 ?_
          refine lv_iload_n hx hb d_Md_boat_39 rfl (lv_at hl 1 rfl) ?_
          refine tw_astI (ct := ct) (x := p_0) hx hb hK hP hD hS hO_0 m_10 rfl ((fun (a_0 : Int32) (k_0 : ¬ (a_0 < 0)) (k_1 : ¬ (20 < a_0)) (k_2 : ¬ (a_0 = 20)) => (show vp_in (a_0) 20 from by have z0 : (0 : Int32).toInt = 0 := (by decide +kernel); have z1 : (20 : Int32).toInt = 20 := (by decide +kernel); have r0 := fb_rng (a_0); have e0 := k_0; rw [Int32.lt_iff_toInt_lt, z0] at e0; have e1 := k_1; rw [Int32.lt_iff_toInt_lt, z1] at e1; have e2 := k_2; rw [← Int32.toInt_inj, z1] at e2; rw [vp_in_iff]; omega)) x_8 b_8.1 b_8.2 c_9) (i32_full _) d_Md_boat_40 (fun f_1 H locs hP hD hS hO_1 hE_1 w_11 ow_11 hF_1 => ?_)
          have hA_1 := hA_0.trans hE_1
          refine lv_aload_n hx hb d_Md_boat_41 rfl (lv_at hl 0 rfl) ?_
          refine tw_getr (D := (dC, dI)) (C := R_Md) (T := F_Md) (N := 64) (ci := 7) (kd := 27) (ct := ct) hx hb htb i_Md hown hK hP hO_1 (hA_1.m m0) rfl rfl 23 (by decide) (htb (.fieldLink R_Md 97 "WaterMenModel" "boatAt" "[I") tw_539) (fun _ h9 => h9) rfl d_Md_boat_42 (fun q_12 e_12 m_12 => ?_)
          refine lv_aload_n hx hb d_Md_boat_45 rfl (lv_at hl 0 rfl) ?_
          refine tw_getI (x := x_8) (D := (dC, dI)) (C := R_Md) (T := F_Md) (N := 64) (ci := 7) (kd := 27) (ct := ct) hx hb htb i_Md hown hK hP (hA_1.m m0) rfl rfl 21 ((hA_1.ei m0 rfl).trans e_8) (by decide) (htb (.fieldLink R_Md 206 "WaterMenModel" "boats" "I") tw_537) (fun _ h9 => h9) rfl d_Md_boat_46 ?_
          refine lv_iload_n hx hb d_Md_boat_49 rfl (lv_at hl 2 rfl) ?_
          refine tw_astI (ct := ct) (x := p_1) hx hb hK hP hD hS hO_1 m_12 rfl ((fun (a_0 : Int32) (k_0 : ¬ (a_0 < 0)) (k_1 : ¬ (20 < a_0)) (k_2 : ¬ (a_0 = 20)) => (show vp_in (a_0) 20 from by have z0 : (0 : Int32).toInt = 0 := (by decide +kernel); have z1 : (20 : Int32).toInt = 20 := (by decide +kernel); have r0 := fb_rng (a_0); have e0 := k_0; rw [Int32.lt_iff_toInt_lt, z0] at e0; have e1 := k_1; rw [Int32.lt_iff_toInt_lt, z1] at e1; have e2 := k_2; rw [← Int32.toInt_inj, z1] at e2; rw [vp_in_iff]; omega)) x_8 b_8.1 b_8.2 c_9) ⟨po_5, po_6⟩ d_Md_boat_50 (fun f_2 H locs hP hD hS hO_2 hE_2 w_13 ow_13 hF_2 => ?_)
          have hA_2 := hA_1.trans hE_2
          refine lv_aload_n hx hb d_Md_boat_51 rfl (lv_at hl 0 rfl) ?_
          refine tw_getr (D := (dC, dI)) (C := R_Md) (T := F_Md) (N := 64) (ci := 7) (kd := 27) (ct := ct) hx hb htb i_Md hown hK hP hO_2 (hA_2.m m0) rfl rfl 24 (by decide) (htb (.fieldLink R_Md 100 "WaterMenModel" "boatFrom" "[I") tw_540) (fun _ h9 => h9) rfl d_Md_boat_52 (fun q_14 e_14 m_14 => ?_)
          refine lv_aload_n hx hb d_Md_boat_55 rfl (lv_at hl 0 rfl) ?_
          refine tw_getI (x := x_8) (D := (dC, dI)) (C := R_Md) (T := F_Md) (N := 64) (ci := 7) (kd := 27) (ct := ct) hx hb htb i_Md hown hK hP (hA_2.m m0) rfl rfl 21 ((hA_2.ei m0 rfl).trans e_8) (by decide) (htb (.fieldLink R_Md 206 "WaterMenModel" "boats" "I") tw_537) (fun _ h9 => h9) rfl d_Md_boat_56 ?_
          refine lv_iconst (v := 0) hx hb d_Md_boat_59 (by decide +kernel) ?_
          refine tw_astI (ct := ct) (x := 0) hx hb hK hP hD hS hO_2 m_14 rfl ((fun (a_0 : Int32) (k_0 : ¬ (a_0 < 0)) (k_1 : ¬ (20 < a_0)) (k_2 : ¬ (a_0 = 20)) => (show vp_in (a_0) 20 from by have z0 : (0 : Int32).toInt = 0 := (by decide +kernel); have z1 : (20 : Int32).toInt = 20 := (by decide +kernel); have r0 := fb_rng (a_0); have e0 := k_0; rw [Int32.lt_iff_toInt_lt, z0] at e0; have e1 := k_1; rw [Int32.lt_iff_toInt_lt, z1] at e1; have e2 := k_2; rw [← Int32.toInt_inj, z1] at e2; rw [vp_in_iff]; omega)) x_8 b_8.1 b_8.2 c_9) (i32_full _) d_Md_boat_60 (fun f_3 H locs hP hD hS hO_3 hE_3 w_15 ow_15 hF_3 => ?_)
          have hA_3 := hA_2.trans hE_3
          refine lv_aload_n hx hb d_Md_boat_61 rfl (lv_at hl 0 rfl) ?_
          refine tw_getr (D := (dC, dI)) (C := R_Md) (T := F_Md) (N := 64) (ci := 7) (kd := 27) (ct := ct) hx hb htb i_Md hown hK hP hO_3 (hA_3.m m0) rfl rfl 25 (by decide) (htb (.fieldLink R_Md 103 "WaterMenModel" "boatTrip" "[I") tw_541) (fun _ h9 => h9) rfl d_Md_boat_62 (fun q_16 e_16 m_16 => ?_)
          refine lv_aload_n hx hb d_Md_boat_65 rfl (lv_at hl 0 rfl) ?_
          refine tw_getI (x := x_8) (D := (dC, dI)) (C := R_Md) (T := F_Md) (N := 64) (ci := 7) (kd := 27) (ct := ct) hx hb htb i_Md hown hK hP (hA_3.m m0) rfl rfl 21 ((hA_3.ei m0 rfl).trans e_8) (by decide) (htb (.fieldLink R_Md 206 "WaterMenModel" "boats" "I") tw_537) (fun _ h9 => h9) rfl d_Md_boat_66 ?_
          refine lv_iconst (v := (-1)) hx hb d_Md_boat_69 (by decide +kernel) ?_
          refine tw_astI (ct := ct) (x := (-1)) hx hb hK hP hD hS hO_3 m_16 rfl ((fun (a_0 : Int32) (k_0 : ¬ (a_0 < 0)) (k_1 : ¬ (20 < a_0)) (k_2 : ¬ (a_0 = 20)) => (show vp_in (a_0) 20 from by have z0 : (0 : Int32).toInt = 0 := (by decide +kernel); have z1 : (20 : Int32).toInt = 20 := (by decide +kernel); have r0 := fb_rng (a_0); have e0 := k_0; rw [Int32.lt_iff_toInt_lt, z0] at e0; have e1 := k_1; rw [Int32.lt_iff_toInt_lt, z1] at e1; have e2 := k_2; rw [← Int32.toInt_inj, z1] at e2; rw [vp_in_iff]; omega)) x_8 b_8.1 b_8.2 c_9) ⟨by decide +kernel, by decide +kernel⟩ d_Md_boat_70 (fun f_4 H locs hP hD hS hO_4 hE_4 w_17 ow_17 hF_4 => ?_)
          have hA_4 := hA_3.trans hE_4
          refine lv_aload_n hx hb d_Md_boat_71 rfl (lv_at hl 0 rfl) ?_
          refine lv_dup hx hb d_Md_boat_72 rfl ?_
          refine tw_getI (x := x_8) (D := (dC, dI)) (C := R_Md) (T := F_Md) (N := 64) (ci := 7) (kd := 27) (ct := ct) hx hb htb i_Md hown hK hP (hA_4.m m0) rfl rfl 21 ((hA_4.ei m0 rfl).trans e_8) (by decide) (htb (.fieldLink R_Md 206 "WaterMenModel" "boats" "I") tw_537) (fun _ h9 => h9) rfl d_Md_boat_73 ?_
          refine lv_iconst (v := 1) hx hb d_Md_boat_76 (by decide +kernel) ?_
          refine lv_iadd hx hb d_Md_boat_77 ?_
          refine tw_puti (v := (x_8 + 1)) (D := (dC, dI)) (C := R_Md) (T := F_Md) (N := 64) (ci := 7) (kd := 27) (ct := ct) (ty := .int) hx hb htb i_Md t_Md t_Md_ok n_Md hown hK hP hD hS hO_4 (hA_4.m m0) rfl rfl 21 (by decide) (htb (.fieldLink R_Md 206 "WaterMenModel" "boats" "I") tw_537) (fun _ h9 => h9) rfl (by decide +kernel) rfl rfl rfl ⟨(show ¬ ((x_8 + 1) < 0) from by have e0 := b_8.1; rw [Int32.lt_iff_toInt_lt] at e0; have e1 := b_8.2; rw [Int32.lt_iff_toInt_lt] at e1; have e2 := c_9; rw [← Int32.toInt_inj] at e2; have z0 : (0 : Int32).toInt = 0 := (by decide +kernel); have z1 : (1 : Int32).toInt = 1 := (by decide +kernel); have z2 : (20 : Int32).toInt = 20 := (by decide +kernel); have ss := fb_addI (x := x_8) (y := 1) (by omega) (by omega); rw [Int32.lt_iff_toInt_lt]; omega), (show ¬ (20 < (x_8 + 1)) from by have e0 := b_8.1; rw [Int32.lt_iff_toInt_lt] at e0; have e1 := b_8.2; rw [Int32.lt_iff_toInt_lt] at e1; have e2 := c_9; rw [← Int32.toInt_inj] at e2; have z0 : (0 : Int32).toInt = 0 := (by decide +kernel); have z1 : (1 : Int32).toInt = 1 := (by decide +kernel); have z2 : (20 : Int32).toInt = 20 := (by decide +kernel); have ss := fb_addI (x := x_8) (y := 1) (by omega) (by omega); rw [Int32.lt_iff_toInt_lt]; omega)⟩ d_Md_boat_78 (fun f_5 H locs hP hD hS hO_5 hE_5 w_18 hF_5 => ?_)
          have hA_5 := hA_4.trans hE_5
          refine lv_aload_n hx hb d_Md_boat_81 rfl (lv_at hl 0 rfl) ?_
          refine tw_getI (x := (x_8 + 1)) (D := (dC, dI)) (C := R_Md) (T := F_Md) (N := 64) (ci := 7) (kd := 27) (ct := ct) hx hb htb i_Md hown hK hP (hA_5.m m0) rfl rfl 21 w_18 (by decide) (htb (.fieldLink R_Md 206 "WaterMenModel" "boats" "I") tw_537) (fun _ h9 => h9) rfl d_Md_boat_82 ?_
          refine lv_iconst (v := 1) hx hb d_Md_boat_85 (by decide +kernel) ?_
          refine lv_isub hx hb d_Md_boat_86 ?_
          refine W.widen (k := 0) (n := 0) (Nat.le_of_ble_eq_true rfl) (Nat.le_of_ble_eq_true rfl) ?_
          exact W.iret (v := ((x_8 + 1) - 1)) hx hb hr (fun t ht hW => ⟨⟨((x_8 + 1) - 1), (L, f_5), rfl, ⟨hO_5, hA_5.mono (by decide +kernel), trivial⟩, by rw [ht]; exact hP, va_K.moved hW.alike hK, by rw [hAe]; exact hD⟩, by rw [hAe]; exact hS.F ht⟩) (by rw [hAe]; exact hS.2.2) d_Md_boat_87
        · refine lv_bipush (v := (-3)) hx hb d_Md_boat_28 (by decide +kernel) ?_
          refine W.widen (k := 0) (n := 0) (Nat.le_of_ble_eq_true rfl) (Nat.le_of_ble_eq_true rfl) ?_
          exact W.iret (v := (-3)) hx hb hr (fun t ht hW => ⟨⟨(-3), (L, f), rfl, ⟨hO_0, hA_0.mono (by decide +kernel), trivial⟩, by rw [ht]; exact hP, va_K.moved hW.alike hK, by rw [hAe]; exact hD⟩, by rw [hAe]; exact hS.F ht⟩) (by rw [hAe]; exact hS.2.2) d_Md_boat_30
set_option maxHeartbeats 4000000 in
set_option maxRecDepth 100000 in
theorem c_Md_craft_t (l : Launch) (dC : Nat → ClassId) (dI : Nat → Nat → Nat) (ct : Nat → ClassId) (L : List Nat) (f : TF) (hO_0 : Ok L f) (q0 : Nat) (m0 : q0 ∈ L ∧ tk f q0 = 27) (p_0 : Int32) (p_1 : Int32)   : Met l y_Md_craft (.code y_Md_craft b_Md_craft 3 (some .int) :: TB) ({ frames := 2, cells := 0, slots := 0, locals := 43 }) (va_Pc [.ref q0, .int p_0, .int p_1] (PR dC dI (TW ct L f) (TT ct))) (vp_Si (fun r => True)) 0 0 (fun _ => False) := by
  refine Met.ofW (cc := b_Md_craft) (maxL := 3) (ret := (some .int)) (by decide) rfl ?_
  intro p e s m args below meth c s₁ B hml hv
  obtain ⟨rfl, hP, hK, hN⟩ := hv
  have hx := B.exec
  have hb := B.bytes
  have hr := B.returns
  have hts := atoms_spec (ws := (.code y_Md_craft b_Md_craft 3 (some .int) :: TB)) B.pre
  have htb := fun w (h : w ∈ TB) => hts w (List.mem_cons_of_mem _ h)
  have hown : s.vm.findClass R_Md = some m.cls := findClass_of_methodNamed B.named
  have hlocks := B.notSynchronized
  have hl := lv_entry ([.ref q0, .int p_0, .int p_1]) (n := 3) (Nat.le_of_ble_eq_true rfl)
  rw [lg_entry_eq]
  generalize (lg_sl ([.ref q0, .int p_0, .int p_1]) ++ List.replicate (3 - (lg_sl ([.ref q0, .int p_0, .int p_1])).length) Slot.unset).toArray = ls at hl ⊢
  have hl : lv_has ls 3 [(0, .ref q0), (1, .int p_0), (2, .int p_1)] := hl
  refine lv_aload_n hx hb d_Md_craft_0 rfl (lv_at hl 0 rfl) ?_
  refine lv_iload_n hx hb d_Md_craft_1 rfl (lv_at hl 1 rfl) ?_
  refine vp_callSi (va_Run.run (va_runV (As := [.int p_0]) (rest := []) ⟨hx, hb, hml, hown, htb⟩ (c_Md_isBoat_t l dC dI ct L f hO_0 q0 m0 p_0) (cwV 1 htb (gd_V tw_543 tw_544 tw_545 tw_479 tw_542) rfl rfl rfl (by decide +kernel) ⟨Nat.le_of_ble_eq_true rfl, Nat.le_of_ble_eq_true rfl⟩) ⟨pr_blind, tw_recv hK hP m0 rfl rfl, pr_pre hP hK hN⟩ rfl rfl hl.1 rfl (lv_room (Nat.le_of_ble_eq_true rfl)) d_Md_craft_2 ⟨Nat.le_of_ble_eq_true rfl, Nat.le_of_ble_eq_true rfl⟩)) (fun r_1 er_1 => ?_)
  rcases er_1 with ⟨rfl, -⟩ | ⟨rfl, po_2, po_3, -⟩
  · refine lv_if_ne (tgt := 10) hx hb d_Md_craft_5 (by decide) (fun h => absurd (by decide +kernel) h) (fun _ => ?_)
    refine lv_iconst (v := (-1)) hx hb d_Md_craft_8 (by decide +kernel) ?_
    exact W.iret (v := (-1)) hx hb hr (fun t ht hW => ⟨(-1), rfl, trivial, ht⟩) t_nil d_Md_craft_9
  · refine lv_if_ne (tgt := 10) hx hb d_Md_craft_5 (by decide) (fun _ => ?_) (fun h => absurd h (by decide +kernel))
    refine lv_iload_n hx hb d_Md_craft_10 rfl (lv_at hl 2 rfl) ?_
    by_cases c_4 : p_1 = 0
    · refine lv_tableIn (off := 33) (tgt := 44) hx hb d_Md_craft_11 (by rw [c_4]; decide +kernel) (by rw [c_4]; decide +kernel) (by rw [c_4]; decide +kernel) (by decide) ?_
      refine lv_aload_n hx hb d_Md_craft_44 rfl (lv_at hl 0 rfl) ?_
      refine tw_getr (D := (dC, dI)) (C := R_Md) (T := F_Md) (N := 64) (ci := 7) (kd := 27) (ct := ct) hx hb htb i_Md hown hK hP hO_0 m0 rfl rfl 23 (by decide) (htb (.fieldLink R_Md 97 "WaterMenModel" "boatAt" "[I") tw_539) (fun _ h9 => h9) rfl d_Md_craft_45 (fun q_5 e_5 m_5 => ?_)
      refine lv_iload_n hx hb d_Md_craft_48 rfl (lv_at hl 1 rfl) ?_
      refine tw_aldI (ct := ct) hx hb hK hP hO_0 m_5 rfl (hb_inl po_2 po_3 (by decide +kernel)) d_Md_craft_49 (fun x_6 e_6 b_6 => ?_)
      exact W.iret (v := x_6) hx hb hr (fun t ht hW => ⟨x_6, rfl, trivial, ht⟩) t_nil d_Md_craft_50
    · by_cases c_7 : p_1 = 1
      · refine lv_tableIn (off := 40) (tgt := 51) hx hb d_Md_craft_11 (by rw [c_7]; decide +kernel) (by rw [c_7]; decide +kernel) (by rw [c_7]; decide +kernel) (by decide) ?_
        refine lv_aload_n hx hb d_Md_craft_51 rfl (lv_at hl 0 rfl) ?_
        refine tw_getr (D := (dC, dI)) (C := R_Md) (T := F_Md) (N := 64) (ci := 7) (kd := 27) (ct := ct) hx hb htb i_Md hown hK hP hO_0 m0 rfl rfl 22 (by decide) (htb (.fieldLink R_Md 94 "WaterMenModel" "boatOars" "[I") tw_538) (fun _ h9 => h9) rfl d_Md_craft_52 (fun q_8 e_8 m_8 => ?_)
        refine lv_iload_n hx hb d_Md_craft_55 rfl (lv_at hl 1 rfl) ?_
        refine tw_aldI (ct := ct) hx hb hK hP hO_0 m_8 rfl (hb_inl po_2 po_3 (by decide +kernel)) d_Md_craft_56 (fun x_9 e_9 b_9 => ?_)
        exact W.iret (v := x_9) hx hb hr (fun t ht hW => ⟨x_9, rfl, trivial, ht⟩) t_nil d_Md_craft_57
      · by_cases c_10 : p_1 = 2
        · refine lv_tableIn (off := 47) (tgt := 58) hx hb d_Md_craft_11 (by rw [c_10]; decide +kernel) (by rw [c_10]; decide +kernel) (by rw [c_10]; decide +kernel) (by decide) ?_
          refine lv_aload_n hx hb d_Md_craft_58 rfl (lv_at hl 0 rfl) ?_
          refine tw_getr (D := (dC, dI)) (C := R_Md) (T := F_Md) (N := 64) (ci := 7) (kd := 27) (ct := ct) hx hb htb i_Md hown hK hP hO_0 m0 rfl rfl 24 (by decide) (htb (.fieldLink R_Md 100 "WaterMenModel" "boatFrom" "[I") tw_540) (fun _ h9 => h9) rfl d_Md_craft_59 (fun q_11 e_11 m_11 => ?_)
          refine lv_iload_n hx hb d_Md_craft_62 rfl (lv_at hl 1 rfl) ?_
          refine tw_aldI (ct := ct) hx hb hK hP hO_0 m_11 rfl (hb_inl po_2 po_3 (by decide +kernel)) d_Md_craft_63 (fun x_12 e_12 b_12 => ?_)
          exact W.iret (v := x_12) hx hb hr (fun t ht hW => ⟨x_12, rfl, trivial, ht⟩) t_nil d_Md_craft_64
        · by_cases c_13 : p_1 = 3
          · refine lv_tableIn (off := 54) (tgt := 65) hx hb d_Md_craft_11 (by rw [c_13]; decide +kernel) (by rw [c_13]; decide +kernel) (by rw [c_13]; decide +kernel) (by decide) ?_
            refine lv_aload_n hx hb d_Md_craft_65 rfl (lv_at hl 0 rfl) ?_
            refine tw_getr (D := (dC, dI)) (C := R_Md) (T := F_Md) (N := 64) (ci := 7) (kd := 27) (ct := ct) hx hb htb i_Md hown hK hP hO_0 m0 rfl rfl 25 (by decide) (htb (.fieldLink R_Md 103 "WaterMenModel" "boatTrip" "[I") tw_541) (fun _ h9 => h9) rfl d_Md_craft_66 (fun q_14 e_14 m_14 => ?_)
            refine lv_iload_n hx hb d_Md_craft_69 rfl (lv_at hl 1 rfl) ?_
            refine tw_aldI (ct := ct) hx hb hK hP hO_0 m_14 rfl (hb_inl po_2 po_3 (by decide +kernel)) d_Md_craft_70 (fun x_15 e_15 b_15 => ?_)
            refine lv_if_ge (tgt := 78) hx hb d_Md_craft_71 (by decide) (fun c_16 => ?_) (fun c_16 => ?_)
            · refine lv_aload_n hx hb d_Md_craft_78 rfl (lv_at hl 0 rfl) ?_
              refine tw_getr (D := (dC, dI)) (C := R_Md) (T := F_Md) (N := 64) (ci := 7) (kd := 27) (ct := ct) hx hb htb i_Md hown hK hP hO_0 m0 rfl rfl 49 (by decide) (htb (.fieldLink R_Md 152 "WaterMenModel" "tripMan" "[I") tw_546) (fun _ h9 => h9) rfl d_Md_craft_79 (fun q_17 e_17 m_17 => ?_)
              refine lv_aload_n hx hb d_Md_craft_82 rfl (lv_at hl 0 rfl) ?_
              refine tw_getR (D := (dC, dI)) (C := R_Md) (T := F_Md) (N := 64) (ci := 7) (kd := 27) (ct := ct) hx hb htb i_Md hown hK hP m0 rfl rfl 25 e_14 (by decide) (htb (.fieldLink R_Md 103 "WaterMenModel" "boatTrip" "[I") tw_541) (fun _ h9 => h9) rfl d_Md_craft_83 ?_
              refine hb_tv (.ref q_14) rfl ?_
              refine lv_iload_n hx hb d_Md_craft_86 rfl (lv_at hl 1 rfl) ?_
              refine tw_aldxI (ct := ct) (x := x_15) hx hb hK hP m_14 rfl (hb_inl po_2 po_3 (by decide +kernel)) e_15 d_Md_craft_87 ?_
              refine tw_aldI (ct := ct) hx hb hK hP hO_0 m_17 rfl ((fun (a_0 : Int32) (k_0 : ¬ (599 < a_0)) (k_1 : 0 ≤ a_0) => (show vp_in (a_0) 600 from by have z0 : (0 : Int32).toInt = 0 := (by decide +kernel); have z1 : (599 : Int32).toInt = 599 := (by decide +kernel); have r0 := fb_rng (a_0); have e0 := k_0; rw [Int32.lt_iff_toInt_lt, z1] at e0; have e1 := k_1; rw [Int32.le_iff_toInt_le, z0] at e1; rw [vp_in_iff]; omega)) x_15 b_15.2 c_16) d_Md_craft_88 (fun x_19 e_19 b_19 => ?_)
              exact W.iret (v := x_19) hx hb hr (fun t ht hW => ⟨x_19, rfl, trivial, ht⟩) t_nil d_Md_craft_89
            · refine lv_iconst (v := (-1)) hx hb d_Md_craft_74 (by decide +kernel) ?_
              refine lv_goto (tgt := 89) hx hb d_Md_craft_75 (by decide) ?_
              exact W.iret (v := (-1)) hx hb hr (fun t ht hW => ⟨(-1), rfl, trivial, ht⟩) t_nil d_Md_craft_89
          · by_cases c_20 : p_1 = 4
            · refine lv_tableIn (off := 79) (tgt := 90) hx hb d_Md_craft_11 (by rw [c_20]; decide +kernel) (by rw [c_20]; decide +kernel) (by rw [c_20]; decide +kernel) (by decide) ?_
              refine lv_aload_n hx hb d_Md_craft_90 rfl (lv_at hl 0 rfl) ?_
              refine tw_getr (D := (dC, dI)) (C := R_Md) (T := F_Md) (N := 64) (ci := 7) (kd := 27) (ct := ct) hx hb htb i_Md hown hK hP hO_0 m0 rfl rfl 26 (by decide) (htb (.fieldLink R_Md 106 "WaterMenModel" "sunk" "[Z") tw_547) (fun _ h9 => h9) rfl d_Md_craft_91 (fun q_21 e_21 m_21 => ?_)
              refine lv_iload_n hx hb d_Md_craft_94 rfl (lv_at hl 1 rfl) ?_
              refine tw_aldZ (ct := ct) hx hb hK hP hO_0 m_21 rfl (hb_inl po_2 po_3 (by decide +kernel)) d_Md_craft_95 (fun x_22 e_22 b_22 => ?_)
              refine lv_if_eq (tgt := 103) hx hb d_Md_craft_96 (by decide) (fun c_23 => ?_) (fun c_23 => ?_)
              · refine lv_aload_n hx hb d_Md_craft_103 rfl (lv_at hl 0 rfl) ?_
                refine tw_getr (D := (dC, dI)) (C := R_Md) (T := F_Md) (N := 64) (ci := 7) (kd := 27) (ct := ct) hx hb htb i_Md hown hK hP hO_0 m0 rfl rfl 25 (by decide) (htb (.fieldLink R_Md 103 "WaterMenModel" "boatTrip" "[I") tw_541) (fun _ h9 => h9) rfl d_Md_craft_104 (fun q_24 e_24 m_24 => ?_)
                refine lv_iload_n hx hb d_Md_craft_107 rfl (lv_at hl 1 rfl) ?_
                refine tw_aldI (ct := ct) hx hb hK hP hO_0 m_24 rfl (hb_inl po_2 po_3 (by decide +kernel)) d_Md_craft_108 (fun x_25 e_25 b_25 => ?_)
                refine lv_if_lt (tgt := 116) hx hb d_Md_craft_109 (by decide) (fun c_26 => ?_) (fun c_26 => ?_)
                · refine lv_iconst (v := 0) hx hb d_Md_craft_116 (by decide +kernel) ?_
                  exact W.iret (v := 0) hx hb hr (fun t ht hW => ⟨0, rfl, trivial, ht⟩) t_nil d_Md_craft_117
                · refine lv_iconst (v := 1) hx hb d_Md_craft_112 (by decide +kernel) ?_
                  refine lv_goto (tgt := 117) hx hb d_Md_craft_113 (by decide) ?_
                  exact W.iret (v := 1) hx hb hr (fun t ht hW => ⟨1, rfl, trivial, ht⟩) t_nil d_Md_craft_117
              · refine lv_iconst (v := 2) hx hb d_Md_craft_99 (by decide +kernel) ?_
                refine lv_goto (tgt := 117) hx hb d_Md_craft_100 (by decide) ?_
                exact W.iret (v := 2) hx hb hr (fun t ht hW => ⟨2, rfl, trivial, ht⟩) t_nil d_Md_craft_117
            · refine lv_tableOut (tgt := 118) hx hb d_Md_craft_11 (by have h0 := lv_neT c_4 (show (0 : Int32).toInt = 0 by decide +kernel); have h1 := lv_neT c_7 (show (1 : Int32).toInt = 1 by decide +kernel); have h2 := lv_neT c_10 (show (2 : Int32).toInt = 2 by decide +kernel); have h3 := lv_neT c_13 (show (3 : Int32).toInt = 3 by decide +kernel); have h4 := lv_neT c_20 (show (4 : Int32).toInt = 4 by decide +kernel); omega) (by decide) ?_
              refine lv_iconst (v := (-1)) hx hb d_Md_craft_118 (by decide +kernel) ?_
              exact W.iret (v := (-1)) hx hb hr (fun t ht hW => ⟨(-1), rfl, trivial, ht⟩) t_nil d_Md_craft_119
def WL_Md_four_t_2_1 : List (Nat × Nat) := [(27, 28), (50, 1000)]
def W_Md_four_t : List (Nat × Nat) := [(27, 28), (50, 1000)]
set_option maxHeartbeats 4000000 in
set_option maxRecDepth 100000 in
theorem c_Md_four_t (l : Launch) (dC : Nat → ClassId) (dI : Nat → Nat → Nat) (ct : Nat → ClassId) (L : List Nat) (f : TF) (hO_0 : Ok L f) (q0 : Nat) (m0 : q0 ∈ L ∧ tk f q0 = 27) (sz : Nat) (p_0 : Int32)  (as_0 : ¬ (396 < (ti f q0 28))) : Met l y_Md_four (.code y_Md_four b_Md_four 3 none :: TB) ({ frames := 0, cells := 0, slots := 0, locals := 0 }) (va_Pc [.ref q0, .int p_0] (PC dC dI (TW ct L f) (TT ct) sz)) (va_Qv (fun (u : TSt) => Ok u.1 u.2 ∧ Ext W_Md_four_t L f u.1 u.2 ∧ (((ti u.2 q0 28) = ((ti f q0 28) + 4) ∧ True))) (fun (u : TSt) t => va_P (dC, dI) vwCl (TW ct u.1 u.2) t.heap ∧ va_K (dC, dI) vwCl (TT ct) t ∧ va_D (va_A (TW ct L f) sz) (TW ct u.1 u.2)) (va_A (TW ct L f) sz)) 0 0 (va_A (TW ct L f) sz) := by
  refine Met.ofW (cc := b_Md_four) (maxL := 3) (ret := none) (by decide) rfl ?_
  intro p e s m args below meth c s₁ B hml hv
  obtain ⟨rfl, hsz, hP, hK, hD0, hN⟩ := hv
  have hx := B.exec
  have hb := B.bytes
  have hr := B.returns
  have hts := atoms_spec (ws := (.code y_Md_four b_Md_four 3 none :: TB)) B.pre
  have htb := fun w (h : w ∈ TB) => hts w (List.mem_cons_of_mem _ h)
  have hown : s.vm.findClass R_Md = some m.cls := findClass_of_methodNamed B.named
  have hlocks := B.notSynchronized
  have hl := lv_entry ([.ref q0, .int p_0]) (n := 3) (Nat.le_of_ble_eq_true rfl)
  rw [lg_entry_eq]
  generalize (lg_sl ([.ref q0, .int p_0]) ++ List.replicate (3 - (lg_sl ([.ref q0, .int p_0])).length) Slot.unset).toArray = ls at hl ⊢
  have hl : lv_has ls 3 [(0, .ref q0), (1, .int p_0)] := hl
  subst hsz
  have hD := hD0.self (sz := s.heap.size)
  obtain ⟨A, hAe⟩ : ∃ A, va_A (TW ct L f) s.heap.size = A := ⟨_, rfl⟩
  rw [hAe] at hD
  have hA : ∀ q : Nat, s.heap.size ≤ q → A q := fun q h => by rw [← hAe]; exact Or.inr h
  have hS : va_S A s.heap s.heap [] := va_S.rf
  have hA_0 : Ext [] L f L f := Ext.rf
  suffices hGo : ∀ (H : Heap) (locs : List Loc), va_P (dC, dI) vwCl (TW ct L f) H → va_S A s.heap H locs → W p l e (headSpec (.code y_Md_four b_Md_four 3 none :: TB) ({ frames := 0, cells := 0, slots := 0, locals := 0 })).room s m [.ref q0, .int p_0].toArray below meth c H locs 0 0 (MQ below (va_Qv (fun (u : TSt) => Ok u.1 u.2 ∧ Ext W_Md_four_t L f u.1 u.2 ∧ (((ti u.2 q0 28) = ((ti f q0 28) + 4) ∧ True))) (fun (u : TSt) t => va_P (dC, dI) vwCl (TW ct u.1 u.2) t.heap ∧ va_K (dC, dI) vwCl (TT ct) t ∧ va_D (va_A (TW ct L f) s.heap.size) (TW ct u.1 u.2)) (va_A (TW ct L f) s.heap.size)) [.ref q0, .int p_0].toArray s 0 0 (va_A (TW ct L f) s.heap.size)) (F0 m 0 ls []) from hGo _ _ hP hS
  clear hP hS
  intro H locs hP hS
  have bp_28 := hO_0.i m0 (show slotD 27 28 = some (.inl (0, 400)) from rfl)
  refine lv_iconst (v := 3) hx hb d_Md_four_0 (by decide +kernel) ?_
  refine lv_istore_n (lv' := [(2, .int 3), (0, .ref q0), (1, .int p_0)]) hx hb d_Md_four_1 rfl hl (by decide) rfl (fun ls hl => ?_)
  have cut_1 : ∀ (n_1 : Nat) (v2_1 : Int32) (L_1 : List Nat) (f_1 : TF) (H : Heap) (locs : List Loc) (ls : Array Slot), va_P (dC, dI) vwCl (TW ct L_1 f_1) H → va_D A (TW ct L_1 f_1) → va_S A s.heap H locs → Ok L_1 f_1 → Ext WL_Md_four_t_2_1 L f L_1 f_1 → ¬ (v2_1 < (-1)) → ¬ (3 < v2_1) → (ti f_1 q0 28) = (((ti f q0 28) + 3) - v2_1) → (v2_1 : Int32).toInt - (-1 : Int32).toInt ≤ (n_1 : Int) → lv_has ls 3 [(0, .ref q0), (1, .int p_0), (2, .int v2_1)] → W p l e (headSpec (.code y_Md_four b_Md_four 3 none :: TB) ({ frames := 0, cells := 0, slots := 0, locals := 0 })).room s m [.ref q0, .int p_0].toArray below meth c H locs 0 0 (MQ below (va_Qv (fun (u : TSt) => Ok u.1 u.2 ∧ Ext W_Md_four_t L f u.1 u.2 ∧ (((ti u.2 q0 28) = ((ti f q0 28) + 4) ∧ True))) (fun (u : TSt) t => va_P (dC, dI) vwCl (TW ct u.1 u.2) t.heap ∧ va_K (dC, dI) vwCl (TT ct) t ∧ va_D (va_A (TW ct L f) s.heap.size) (TW ct u.1 u.2)) (va_A (TW ct L f) s.heap.size)) [.ref q0, .int p_0].toArray s 0 0 (va_A (TW ct L f) s.heap.size)) (F0 m 2 ls []) := by
    intro n_1
    induction n_1 using Nat.strongRecOn with
    | _ n_1 ih_1 =>
      intro v2_1 L_1 f_1 H locs ls hP hD hS hO_1 hE_1 iv0_1 iv1_1 iv2_1 hm_1 hl
      have hA_1 := hA_0.trans hE_1
      have bf_2 := hO_1.i (hA_1.m m0) (show slotD 27 28 = some (.inl (0, 400)) from rfl)
      refine lv_iload_n hx hb d_Md_four_2 rfl (lv_at hl 2 rfl) ?_
      refine lv_if_lt (tgt := 38) hx hb d_Md_four_3 (by decide) (fun c_3 => ?_) (fun c_3 => ?_)
      · refine W.widen (k := 0) (n := 0) (Nat.le_of_ble_eq_true rfl) (Nat.le_of_ble_eq_true rfl) ?_
        exact W.vret hx hb hr (fun t ht hW => ⟨⟨(L_1, f_1), rfl, ⟨hO_1, hA_1.mono (by decide +kernel), ⟨(by show (ti f_1 q0 28) = ((ti f q0 28) + 4); rw [show ti f_1 q0 28 = (ti f_1 q0 28) from rfl]; first | done | exact (show (ti f_1 q0 28) = ((ti f q0 28) + 4) from ((fun (a_0 : Int32) (a_1 : Int32) (a_2 : Int32) (k_0 : ¬ (400 < a_0)) (k_1 : a_2 < 0) (k_2 : ¬ (a_2 < (-1))) (k_3 : a_1 = ((a_0 + 3) - a_2)) => (show a_1 = (a_0 + 4) from by have z0 : (-1 : Int32).toInt = -1 := (by decide +kernel); have z1 : (0 : Int32).toInt = 0 := (by decide +kernel); have z2 : (3 : Int32).toInt = 3 := (by decide +kernel); have z3 : (4 : Int32).toInt = 4 := (by decide +kernel); have z4 : (400 : Int32).toInt = 400 := (by decide +kernel); have r0 := fb_rng (a_0); have r1 := fb_rng (a_1); have r2 := fb_rng (a_2); have e0 := k_0; rw [Int32.lt_iff_toInt_lt, z4] at e0; obtain ⟨n_0, hn_0, s0⟩ := nd_add (x := a_0) (y := (3 : Int32)) (by (try rw [z2]); omega) (by (try rw [z2]); omega); rw [z2] at s0; have e1 := k_1; rw [Int32.lt_iff_toInt_lt, z1] at e1; have e2 := k_2; rw [Int32.lt_iff_toInt_lt, z0] at e2; obtain ⟨n_1, hn_1, s1⟩ := nd_sub (x := n_0) (y := (a_2)) (by omega) (by omega); have e3 := k_3; rw [hn_0, hn_1, ← Int32.toInt_inj] at e3; obtain ⟨n_2, hn_2, s2⟩ := nd_add (x := a_0) (y := (4 : Int32)) (by (try rw [z3]); omega) (by (try rw [z3]); omega); rw [z3] at s2; rw [hn_2, ← Int32.toInt_inj]; omega)) (ti f q0 28) (ti f_1 q0 28) v2_1 bp_28.2 c_3 iv0_1 iv2_1))), trivial⟩⟩, by rw [ht]; exact hP, va_K.moved hW.alike hK, by rw [hAe]; exact hD⟩, by rw [hAe]; exact hS.F ht⟩) (by rw [hAe]; exact hS.2.2) d_Md_four_38
      · refine lv_aload_n hx hb d_Md_four_6 rfl (lv_at hl 0 rfl) ?_
        refine tw_getr (D := (dC, dI)) (C := R_Md) (T := F_Md) (N := 64) (ci := 7) (kd := 27) (ct := ct) hx hb htb i_Md hown hK hP hO_1 (hA_1.m m0) rfl rfl 27 (by decide) (htb (.fieldLink R_Md 109 "WaterMenModel" "tape" "[B") tw_549) (fun _ h9 => h9) rfl d_Md_four_7 (fun q_4 e_4 m_4 => ?_)
        refine lv_aload_n hx hb d_Md_four_10 rfl (lv_at hl 0 rfl) ?_
        refine tw_getI (x := (ti f_1 q0 28)) (D := (dC, dI)) (C := R_Md) (T := F_Md) (N := 64) (ci := 7) (kd := 27) (ct := ct) hx hb htb i_Md hown hK hP (hA_1.m m0) rfl rfl 28 rfl (by decide) (htb (.fieldLink R_Md 212 "WaterMenModel" "taped" "I") tw_548) (fun _ h9 => h9) rfl d_Md_four_11 ?_
        refine lv_iload_n hx hb d_Md_four_14 rfl (lv_at hl 1 rfl) ?_
        refine lv_bipush (v := 8) hx hb d_Md_four_15 (by decide +kernel) ?_
        refine lv_iload_n hx hb d_Md_four_17 rfl (lv_at hl 2 rfl) ?_
        refine lv_imul hx hb d_Md_four_18 ?_
        refine lv_ishr hx hb d_Md_four_19 ?_
        refine lv_i2b hx hb d_Md_four_20 rfl ?_
        refine tw_astB (ct := ct) (x := ((p_0 >>> ((8 * v2_1) &&& 31))).toInt8.toInt32) hx hb hK hP hD hS hO_1 m_4 rfl ((fun (a_0 : Int32) (a_1 : Int32) (a_2 : Int32) (k_0 : ¬ (a_2 < 0)) (k_1 : ¬ (396 < a_0)) (k_2 : ¬ (a_0 < 0)) (k_3 : ¬ (3 < a_2)) (k_4 : a_1 = ((a_0 + 3) - a_2)) => (show vp_in (a_1) 400 from by have z0 : (0 : Int32).toInt = 0 := (by decide +kernel); have z1 : (3 : Int32).toInt = 3 := (by decide +kernel); have z2 : (396 : Int32).toInt = 396 := (by decide +kernel); have r0 := fb_rng (a_0); have r1 := fb_rng (a_1); have r2 := fb_rng (a_2); have e0 := k_0; rw [Int32.lt_iff_toInt_lt, z0] at e0; have e1 := k_1; rw [Int32.lt_iff_toInt_lt, z2] at e1; have e2 := k_2; rw [Int32.lt_iff_toInt_lt, z0] at e2; have e3 := k_3; rw [Int32.lt_iff_toInt_lt, z1] at e3; obtain ⟨n_0, hn_0, s0⟩ := nd_add (x := a_0) (y := (3 : Int32)) (by (try rw [z1]); omega) (by (try rw [z1]); omega); rw [z1] at s0; obtain ⟨n_1, hn_1, s1⟩ := nd_sub (x := n_0) (y := (a_2)) (by omega) (by omega); have e4 := k_4; rw [hn_0, hn_1, ← Int32.toInt_inj] at e4; rw [vp_in_iff]; omega)) (ti f q0 28) (ti f_1 q0 28) v2_1 c_3 as_0 bp_28.1 iv1_1 iv2_1) (i32_full _) d_Md_four_21 (fun f_2 H locs hP hD hS hO_2 hE_2 w_5 ow_5 hF_2 => ?_)
        have hA_2 := hA_1.trans hE_2
        refine lv_aload_n hx hb d_Md_four_22 rfl (lv_at hl 0 rfl) ?_
        refine lv_dup hx hb d_Md_four_23 rfl ?_
        refine tw_getI (x := (ti f_1 q0 28)) (D := (dC, dI)) (C := R_Md) (T := F_Md) (N := 64) (ci := 7) (kd := 27) (ct := ct) hx hb htb i_Md hown hK hP (hA_2.m m0) rfl rfl 28 ((hE_2.ei (hA_1.m m0) rfl).trans rfl) (by decide) (htb (.fieldLink R_Md 212 "WaterMenModel" "taped" "I") tw_548) (fun _ h9 => h9) rfl d_Md_four_24 ?_
        refine lv_iconst (v := 1) hx hb d_Md_four_27 (by decide +kernel) ?_
        refine lv_iadd hx hb d_Md_four_28 ?_
        refine tw_puti (v := ((ti f_1 q0 28) + 1)) (D := (dC, dI)) (C := R_Md) (T := F_Md) (N := 64) (ci := 7) (kd := 27) (ct := ct) (ty := .int) hx hb htb i_Md t_Md t_Md_ok n_Md hown hK hP hD hS hO_2 (hA_2.m m0) rfl rfl 28 (by decide) (htb (.fieldLink R_Md 212 "WaterMenModel" "taped" "I") tw_548) (fun _ h9 => h9) rfl (by decide +kernel) rfl rfl rfl ⟨(show ¬ (((ti f_1 q0 28) + 1) < 0) from ((fun (a_0 : Int32) (k_0 : ¬ (a_0 < 0)) (k_1 : ¬ (400 < a_0)) => (show ¬ ((a_0 + 1) < 0) from by have z0 : (0 : Int32).toInt = 0 := (by decide +kernel); have z1 : (1 : Int32).toInt = 1 := (by decide +kernel); have z2 : (400 : Int32).toInt = 400 := (by decide +kernel); have r0 := fb_rng (a_0); have e0 := k_0; rw [Int32.lt_iff_toInt_lt, z0] at e0; have e1 := k_1; rw [Int32.lt_iff_toInt_lt, z2] at e1; obtain ⟨n_0, hn_0, s0⟩ := nd_add (x := a_0) (y := (1 : Int32)) (by (try rw [z1]); omega) (by (try rw [z1]); omega); rw [z1] at s0; rw [hn_0, Int32.lt_iff_toInt_lt, z0]; omega)) (ti f_1 q0 28) bf_2.1 bf_2.2)), (show ¬ (400 < ((ti f_1 q0 28) + 1)) from ((fun (a_0 : Int32) (a_1 : Int32) (a_2 : Int32) (k_0 : ¬ (a_2 < 0)) (k_1 : ¬ (396 < a_0)) (k_2 : ¬ (3 < a_2)) (k_3 : a_1 = ((a_0 + 3) - a_2)) => (show ¬ (400 < (a_1 + 1)) from by have z0 : (0 : Int32).toInt = 0 := (by decide +kernel); have z1 : (1 : Int32).toInt = 1 := (by decide +kernel); have z2 : (3 : Int32).toInt = 3 := (by decide +kernel); have z3 : (396 : Int32).toInt = 396 := (by decide +kernel); have z4 : (400 : Int32).toInt = 400 := (by decide +kernel); have r0 := fb_rng (a_0); have r1 := fb_rng (a_1); have r2 := fb_rng (a_2); have e0 := k_0; rw [Int32.lt_iff_toInt_lt, z0] at e0; have e1 := k_1; rw [Int32.lt_iff_toInt_lt, z3] at e1; have e2 := k_2; rw [Int32.lt_iff_toInt_lt, z2] at e2; obtain ⟨n_0, hn_0, s0⟩ := nd_add (x := a_0) (y := (3 : Int32)) (by (try rw [z2]); omega) (by (try rw [z2]); omega); rw [z2] at s0; obtain ⟨n_1, hn_1, s1⟩ := nd_sub (x := n_0) (y := (a_2)) (by omega) (by omega); have e3 := k_3; rw [hn_0, hn_1, ← Int32.toInt_inj] at e3; obtain ⟨n_2, hn_2, s2⟩ := nd_add (x := a_1) (y := (1 : Int32)) (by (try rw [z1]); omega) (by (try rw [z1]); omega); rw [z1] at s2; rw [hn_2, Int32.lt_iff_toInt_lt, z4]; omega)) (ti f q0 28) (ti f_1 q0 28) v2_1 c_3 as_0 iv1_1 iv2_1))⟩ d_Md_four_29 (fun f_3 H locs hP hD hS hO_3 hE_3 w_6 hF_3 => ?_)
        have hA_3 := hA_2.trans hE_3
        refine lv_iinc (v := (v2_1 + (-1))) (lv' := [(2, .int (v2_1 + (-1))), (0, .ref q0), (1, .int p_0)]) hx hb d_Md_four_32 hl (k := 2) rfl rfl (by decide) rfl (fun ls hl => ?_)
        refine lv_goto (tgt := 2) hx hb d_Md_four_35 (by decide) ?_
        exact ih_1 (n_1 - 1) (ms_1 ((fun (a_0 : Int32) (k_0 : ¬ (a_0 < 0)) => (show 1 ≤ (a_0).toInt - (-1 : Int32).toInt ∧ ((a_0) + (-1 : Int32)).toInt - (-1 : Int32).toInt + 1 ≤ (a_0).toInt - (-1 : Int32).toInt from by have z0 : (-1 : Int32).toInt = -1 := (by decide +kernel); have z1 : (0 : Int32).toInt = 0 := (by decide +kernel); have r0 := fb_rng (a_0); have e0 := k_0; rw [Int32.lt_iff_toInt_lt, z1] at e0; obtain ⟨n_0, hn_0, s0⟩ := nd_add (x := (a_0)) (y := (-1 : Int32)) (by (try rw [z0]); omega) (by (try rw [z0]); omega); rw [z0] at s0; rw [hn_0]; (try rw [z0]); omega)) v2_1 c_3) hm_1) (v2_1 + (-1)) _ _ _ _ _ hP hD hS hO_3 (((hE_1.trans hE_2).trans hE_3).mono (by decide +kernel)) (show ¬ ((v2_1 + (-1)) < (-1)) from ((fun (a_0 : Int32) (k_0 : ¬ (a_0 < 0)) => (show ¬ ((a_0 + (-1)) < (-1)) from by have z0 : (-1 : Int32).toInt = -1 := (by decide +kernel); have z1 : (0 : Int32).toInt = 0 := (by decide +kernel); have r0 := fb_rng (a_0); have e0 := k_0; rw [Int32.lt_iff_toInt_lt, z1] at e0; obtain ⟨n_0, hn_0, s0⟩ := nd_add (x := (a_0)) (y := (-1 : Int32)) (by (try rw [z0]); omega) (by (try rw [z0]); omega); rw [z0] at s0; rw [hn_0, Int32.lt_iff_toInt_lt, z0]; omega)) v2_1 c_3)) (show ¬ (3 < (v2_1 + (-1))) from ((fun (a_0 : Int32) (k_0 : ¬ (3 < a_0)) (k_1 : ¬ (a_0 < 0)) => (show ¬ (3 < (a_0 + (-1))) from by have z0 : (-1 : Int32).toInt = -1 := (by decide +kernel); have z1 : (0 : Int32).toInt = 0 := (by decide +kernel); have z2 : (3 : Int32).toInt = 3 := (by decide +kernel); have r0 := fb_rng (a_0); have e0 := k_0; rw [Int32.lt_iff_toInt_lt, z2] at e0; have e1 := k_1; rw [Int32.lt_iff_toInt_lt, z1] at e1; obtain ⟨n_0, hn_0, s0⟩ := nd_add (x := (a_0)) (y := (-1 : Int32)) (by (try rw [z0]); omega) (by (try rw [z0]); omega); rw [z0] at s0; rw [hn_0, Int32.lt_iff_toInt_lt, z2]; omega)) v2_1 iv1_1 c_3)) (by rw [show ti f_3 q0 28 = ((ti f_1 q0 28) + 1) from w_6]; first | done | exact (show ((ti f_1 q0 28) + 1) = (((ti f q0 28) + 3) - (v2_1 + (-1))) from ((fun (a_0 : Int32) (a_1 : Int32) (a_2 : Int32) (k_0 : ¬ (400 < a_0)) (k_1 : ¬ (3 < a_2)) (k_2 : ¬ (a_2 < 0)) (k_3 : a_1 = ((a_0 + 3) - a_2)) => (show (a_1 + 1) = ((a_0 + 3) - (a_2 + (-1))) from by have z0 : (-1 : Int32).toInt = -1 := (by decide +kernel); have z1 : (0 : Int32).toInt = 0 := (by decide +kernel); have z2 : (1 : Int32).toInt = 1 := (by decide +kernel); have z3 : (3 : Int32).toInt = 3 := (by decide +kernel); have z4 : (400 : Int32).toInt = 400 := (by decide +kernel); have r0 := fb_rng (a_0); have r1 := fb_rng (a_1); have r2 := fb_rng (a_2); have e0 := k_0; rw [Int32.lt_iff_toInt_lt, z4] at e0; have e1 := k_1; rw [Int32.lt_iff_toInt_lt, z3] at e1; obtain ⟨n_0, hn_0, s0⟩ := nd_add (x := a_0) (y := (3 : Int32)) (by (try rw [z3]); omega) (by (try rw [z3]); omega); rw [z3] at s0; have e2 := k_2; rw [Int32.lt_iff_toInt_lt, z1] at e2; obtain ⟨n_1, hn_1, s1⟩ := nd_sub (x := n_0) (y := (a_2)) (by omega) (by omega); have e3 := k_3; rw [hn_0, hn_1, ← Int32.toInt_inj] at e3; obtain ⟨n_2, hn_2, s2⟩ := nd_add (x := a_1) (y := (1 : Int32)) (by (try rw [z2]); omega) (by (try rw [z2]); omega); rw [z2] at s2; obtain ⟨n_3, hn_3, s3⟩ := nd_add (x := (a_2)) (y := (-1 : Int32)) (by (try rw [z0]); omega) (by (try rw [z0]); omega); rw [z0] at s3; obtain ⟨n_4, hn_4, s4⟩ := nd_sub (x := n_0) (y := n_3) (by omega) (by omega); rw [hn_2, hn_0, hn_3, hn_4, ← Int32.toInt_inj]; omega)) (ti f q0 28) (ti f_1 q0 28) v2_1 bp_28.2 iv1_1 c_3 iv2_1))) (by exact ms_2 ((fun (a_0 : Int32) (k_0 : ¬ (a_0 < 0)) => (show 1 ≤ (a_0).toInt - (-1 : Int32).toInt ∧ ((a_0) + (-1 : Int32)).toInt - (-1 : Int32).toInt + 1 ≤ (a_0).toInt - (-1 : Int32).toInt from by have z0 : (-1 : Int32).toInt = -1 := (by decide +kernel); have z1 : (0 : Int32).toInt = 0 := (by decide +kernel); have r0 := fb_rng (a_0); have e0 := k_0; rw [Int32.lt_iff_toInt_lt, z1] at e0; obtain ⟨n_0, hn_0, s0⟩ := nd_add (x := (a_0)) (y := (-1 : Int32)) (by (try rw [z0]); omega) (by (try rw [z0]); omega); rw [z0] at s0; rw [hn_0]; (try rw [z0]); omega)) v2_1 c_3) hm_1) (lv_sub hl [1, 2, 0] rfl)
  exact cut_1 4294967296 (3 : Int32) _ _ _ _ _ hP hD hS hO_0 Ext.rf (by decide +kernel) (by decide +kernel) (show (ti f q0 28) = (((ti f q0 28) + 3) - 3) from ((fun (a_0 : Int32) (k_0 : ¬ (400 < a_0)) => (show a_0 = ((a_0 + 3) - 3) from by have z0 : (3 : Int32).toInt = 3 := (by decide +kernel); have z1 : (400 : Int32).toInt = 400 := (by decide +kernel); have r0 := fb_rng (a_0); have e0 := k_0; rw [Int32.lt_iff_toInt_lt, z1] at e0; obtain ⟨n_0, hn_0, s0⟩ := nd_add (x := a_0) (y := (3 : Int32)) (by (try rw [z0]); omega) (by (try rw [z0]); omega); rw [z0] at s0; obtain ⟨n_1, hn_1, s1⟩ := nd_sub (x := n_0) (y := (3 : Int32)) (by (try rw [z0]); omega) (by (try rw [z0]); omega); rw [z0] at s1; rw [hn_0, hn_1, ← Int32.toInt_inj]; omega)) (ti f q0 28) bp_28.2)) (by exact ms_0 _ _) (lv_sub hl [1, 2, 0] rfl)
def W_Md_feed_t : List (Nat × Nat) := [(27, 28), (50, 1000)]
set_option maxHeartbeats 4000000 in
set_option maxRecDepth 100000 in
theorem c_Md_feed_t (l : Launch) (dC : Nat → ClassId) (dI : Nat → Nat → Nat) (ct : Nat → ClassId) (L : List Nat) (f : TF) (hO_0 : Ok L f) (q0 : Nat) (m0 : q0 ∈ L ∧ tk f q0 = 27) (sz : Nat) (p_0 : Int32) (p_1 : Int32) (p_2 : Int32) (p_3 : Int32) (p_4 : Int32)   : Met l y_Md_feed (.code y_Md_feed b_Md_feed 6 (some .int) :: TB) ({ frames := 1, cells := 0, slots := 0, locals := 22 }) (va_Pc [.ref q0, .int p_0, .int p_1, .int p_2, .int p_3, .int p_4] (PC dC dI (TW ct L f) (TT ct) sz)) (va_Qi (fun r (u : TSt) => Ok u.1 u.2 ∧ Ext W_Md_feed_t L f u.1 u.2 ∧ (True)) (fun (u : TSt) t => va_P (dC, dI) vwCl (TW ct u.1 u.2) t.heap ∧ va_K (dC, dI) vwCl (TT ct) t ∧ va_D (va_A (TW ct L f) sz) (TW ct u.1 u.2)) (va_A (TW ct L f) sz)) 0 0 (va_A (TW ct L f) sz) := by
  refine Met.ofW (cc := b_Md_feed) (maxL := 6) (ret := (some .int)) (by decide) rfl ?_
  intro p e s m args below meth c s₁ B hml hv
  obtain ⟨rfl, hsz, hP, hK, hD0, hN⟩ := hv
  have hx := B.exec
  have hb := B.bytes
  have hr := B.returns
  have hts := atoms_spec (ws := (.code y_Md_feed b_Md_feed 6 (some .int) :: TB)) B.pre
  have htb := fun w (h : w ∈ TB) => hts w (List.mem_cons_of_mem _ h)
  have hown : s.vm.findClass R_Md = some m.cls := findClass_of_methodNamed B.named
  have hlocks := B.notSynchronized
  have hl := lv_entry ([.ref q0, .int p_0, .int p_1, .int p_2, .int p_3, .int p_4]) (n := 6) (Nat.le_of_ble_eq_true rfl)
  rw [lg_entry_eq]
  generalize (lg_sl ([.ref q0, .int p_0, .int p_1, .int p_2, .int p_3, .int p_4]) ++ List.replicate (6 - (lg_sl ([.ref q0, .int p_0, .int p_1, .int p_2, .int p_3, .int p_4])).length) Slot.unset).toArray = ls at hl ⊢
  have hl : lv_has ls 6 [(0, .ref q0), (1, .int p_0), (2, .int p_1), (3, .int p_2), (4, .int p_3), (5, .int p_4)] := hl
  subst hsz
  have hD := hD0.self (sz := s.heap.size)
  obtain ⟨A, hAe⟩ : ∃ A, va_A (TW ct L f) s.heap.size = A := ⟨_, rfl⟩
  rw [hAe] at hD
  have hA : ∀ q : Nat, s.heap.size ≤ q → A q := fun q h => by rw [← hAe]; exact Or.inr h
  have hS : va_S A s.heap s.heap [] := va_S.rf
  have hA_0 : Ext [] L f L f := Ext.rf
  suffices hGo : ∀ (H : Heap) (locs : List Loc), va_P (dC, dI) vwCl (TW ct L f) H → va_S A s.heap H locs → W p l e (headSpec (.code y_Md_feed b_Md_feed 6 (some .int) :: TB) ({ frames := 1, cells := 0, slots := 0, locals := 22 })).room s m [.ref q0, .int p_0, .int p_1, .int p_2, .int p_3, .int p_4].toArray below meth c H locs 0 0 (MQ below (va_Qi (fun r (u : TSt) => Ok u.1 u.2 ∧ Ext W_Md_feed_t L f u.1 u.2 ∧ (True)) (fun (u : TSt) t => va_P (dC, dI) vwCl (TW ct u.1 u.2) t.heap ∧ va_K (dC, dI) vwCl (TT ct) t ∧ va_D (va_A (TW ct L f) s.heap.size) (TW ct u.1 u.2)) (va_A (TW ct L f) s.heap.size)) [.ref q0, .int p_0, .int p_1, .int p_2, .int p_3, .int p_4].toArray s 0 0 (va_A (TW ct L f) s.heap.size)) (F0 m 0 ls []) from hGo _ _ hP hS
  clear hP hS
  intro H locs hP hS
  have bs_1 := hO_0.i m0 (show slotD 27 28 = some (.inl (0, 400)) from rfl)
  refine lv_aload_n hx hb d_Md_feed_0 rfl (lv_at hl 0 rfl) ?_
  refine tw_getI (x := (ti f q0 28)) (D := (dC, dI)) (C := R_Md) (T := F_Md) (N := 64) (ci := 7) (kd := 27) (ct := ct) hx hb htb i_Md hown hK hP m0 rfl rfl 28 rfl (by decide) (htb (.fieldLink R_Md 212 "WaterMenModel" "taped" "I") tw_548) (fun _ h9 => h9) rfl d_Md_feed_1 ?_
  refine lv_bipush (v := 20) hx hb d_Md_feed_4 (by decide +kernel) ?_
  refine lv_iadd hx hb d_Md_feed_6 ?_
  refine lv_sipush (v := 400) hx hb d_Md_feed_7 (by decide +kernel) ?_
  refine lv_icmp_le (tgt := 16) hx hb d_Md_feed_10 (by decide) (fun c_2 => ?_) (fun c_2 => ?_)
  · refine lv_aload_n hx hb d_Md_feed_16 rfl (lv_at hl 0 rfl) ?_
    refine lv_iload_n hx hb d_Md_feed_17 rfl (lv_at hl 1 rfl) ?_
    have hFc := hb_free hD hS hA
    refine va_callv (va_runV (As := [.int p_0]) (rest := []) ⟨hx, hb, hml, hown, htb⟩ (c_Md_four_t l dC dI ct L f hO_0 q0 m0 _ p_0 (by rw [show ti f q0 28 = (ti f q0 28) from rfl]; first | done | exact (show ¬ (396 < (ti f q0 28)) from ((fun (a_0 : Int32) (k_0 : ¬ (400 < a_0)) (k_1 : (a_0 + 20) ≤ 400) => (show ¬ (396 < a_0) from by have z0 : (20 : Int32).toInt = 20 := (by decide +kernel); have z1 : (396 : Int32).toInt = 396 := (by decide +kernel); have z2 : (400 : Int32).toInt = 400 := (by decide +kernel); have r0 := fb_rng (a_0); have e0 := k_0; rw [Int32.lt_iff_toInt_lt, z2] at e0; obtain ⟨n_0, hn_0, s0⟩ := nd_add (x := a_0) (y := (20 : Int32)) (by (try rw [z0]); omega) (by (try rw [z0]); omega); rw [z0] at s0; have e1 := k_1; rw [hn_0, Int32.le_iff_toInt_le, z2] at e1; rw [Int32.lt_iff_toInt_lt, z1]; omega)) (ti f q0 28) bs_1.2 c_2)))) (cwV 1 htb (gd_V tw_551 tw_552 tw_553 tw_479 tw_550) rfl rfl rfl (by decide +kernel) ⟨Nat.le_of_ble_eq_true rfl, Nat.le_of_ble_eq_true rfl⟩) ⟨pc_blind, tw_recv hK hP m0 rfl rfl, pc_pre hP hK hD hN⟩ rfl rfl hl.1 rfl (lv_room (Nat.le_of_ble_eq_true rfl)) d_Md_feed_18 ⟨Nat.le_of_ble_eq_true rfl, Nat.le_of_ble_eq_true rfl⟩) hS (fun q _ h => hFc q h) hFc (fun u t H locs ht hvm er hB hz1 hk1 hS => ?_)
    obtain ⟨L_1, f_1⟩ := u
    obtain ⟨hO_1, hE_1, er⟩ := er
    obtain ⟨hP, hK1, hD1⟩ := hB
    rw [ht] at hP
    have hP : va_P (dC, dI) vwCl (TW ct L_1 f_1) H := hP
    have hD : va_D A (TW ct L_1 f_1) := hD1.weaken (fun _ q _ h => hFc q.1 h)
    have hO_1 : Ok L_1 f_1 := hO_1
    have hE_1 : Ext W_Md_four_t L f L_1 f_1 := hE_1
    clear hK1 hD1 ht hvm hz1 hk1
    have hA_1 := hA_0.trans hE_1
    obtain ⟨po_4, -⟩ := er
    refine lv_aload_n hx hb d_Md_feed_21 rfl (lv_at hl 0 rfl) ?_
    refine lv_iload_n hx hb d_Md_feed_22 rfl (lv_at hl 2 rfl) ?_
    have hFc := hb_free hD hS hA
    refine va_callv (va_runV (As := [.int p_1]) (rest := []) ⟨hx, hb, hml, hown, htb⟩ (c_Md_four_t l dC dI ct L_1 f_1 hO_1 q0 (hA_1.m m0) _ p_1 (by rw [show ti f_1 q0 28 = (ti f_1 q0 28) from rfl]; first | done | exact (show ¬ (396 < (ti f_1 q0 28)) from ((fun (a_0 : Int32) (a_1 : Int32) (k_0 : ¬ (400 < a_0)) (k_1 : (a_0 + 20) ≤ 400) (k_2 : a_1 = (a_0 + 4)) => (show ¬ (396 < a_1) from by have z0 : (4 : Int32).toInt = 4 := (by decide +kernel); have z1 : (20 : Int32).toInt = 20 := (by decide +kernel); have z2 : (396 : Int32).toInt = 396 := (by decide +kernel); have z3 : (400 : Int32).toInt = 400 := (by decide +kernel); have r0 := fb_rng (a_0); have r1 := fb_rng (a_1); have e0 := k_0; rw [Int32.lt_iff_toInt_lt, z3] at e0; obtain ⟨n_0, hn_0, s0⟩ := nd_add (x := a_0) (y := (20 : Int32)) (by (try rw [z1]); omega) (by (try rw [z1]); omega); rw [z1] at s0; have e1 := k_1; rw [hn_0, Int32.le_iff_toInt_le, z3] at e1; obtain ⟨n_1, hn_1, s1⟩ := nd_add (x := a_0) (y := (4 : Int32)) (by (try rw [z0]); omega) (by (try rw [z0]); omega); rw [z0] at s1; have e2 := k_2; rw [hn_1, ← Int32.toInt_inj] at e2; rw [Int32.lt_iff_toInt_lt, z2]; omega)) (ti f q0 28) (ti f_1 q0 28) bs_1.2 c_2 po_4)))) (cwV 1 htb (gd_V tw_551 tw_552 tw_553 tw_479 tw_550) rfl rfl rfl (by decide +kernel) ⟨Nat.le_of_ble_eq_true rfl, Nat.le_of_ble_eq_true rfl⟩) ⟨pc_blind, tw_recv hK hP (hA_1.m m0) rfl rfl, pc_pre hP hK hD hN⟩ rfl rfl hl.1 rfl (lv_room (Nat.le_of_ble_eq_true rfl)) d_Md_feed_23 ⟨Nat.le_of_ble_eq_true rfl, Nat.le_of_ble_eq_true rfl⟩) hS (fun q _ h => hFc q h) hFc (fun u t H locs ht hvm er hB hz1 hk1 hS => ?_)
    obtain ⟨L_2, f_2⟩ := u
    obtain ⟨hO_2, hE_2, er⟩ := er
    obtain ⟨hP, hK1, hD1⟩ := hB
    rw [ht] at hP
    have hP : va_P (dC, dI) vwCl (TW ct L_2 f_2) H := hP
    have hD : va_D A (TW ct L_2 f_2) := hD1.weaken (fun _ q _ h => hFc q.1 h)
    have hO_2 : Ok L_2 f_2 := hO_2
    have hE_2 : Ext W_Md_four_t L_1 f_1 L_2 f_2 := hE_2
    clear hK1 hD1 ht hvm hz1 hk1
    have hA_2 := hA_1.trans hE_2
    obtain ⟨po_6, -⟩ := er
    refine lv_aload_n hx hb d_Md_feed_26 rfl (lv_at hl 0 rfl) ?_
    refine lv_iload_n hx hb d_Md_feed_27 rfl (lv_at hl 3 rfl) ?_
    have hFc := hb_free hD hS hA
    refine va_callv (va_runV (As := [.int p_2]) (rest := []) ⟨hx, hb, hml, hown, htb⟩ (c_Md_four_t l dC dI ct L_2 f_2 hO_2 q0 (hA_2.m m0) _ p_2 (by rw [show ti f_2 q0 28 = (ti f_2 q0 28) from rfl]; first | done | exact (show ¬ (396 < (ti f_2 q0 28)) from ((fun (a_0 : Int32) (a_1 : Int32) (a_2 : Int32) (k_0 : ¬ (400 < a_0)) (k_1 : (a_0 + 20) ≤ 400) (k_2 : a_1 = (a_0 + 4)) (k_3 : a_2 = (a_1 + 4)) => (show ¬ (396 < a_2) from by have z0 : (4 : Int32).toInt = 4 := (by decide +kernel); have z1 : (20 : Int32).toInt = 20 := (by decide +kernel); have z2 : (396 : Int32).toInt = 396 := (by decide +kernel); have z3 : (400 : Int32).toInt = 400 := (by decide +kernel); have r0 := fb_rng (a_0); have r1 := fb_rng (a_1); have r2 := fb_rng (a_2); have e0 := k_0; rw [Int32.lt_iff_toInt_lt, z3] at e0; obtain ⟨n_0, hn_0, s0⟩ := nd_add (x := a_0) (y := (20 : Int32)) (by (try rw [z1]); omega) (by (try rw [z1]); omega); rw [z1] at s0; have e1 := k_1; rw [hn_0, Int32.le_iff_toInt_le, z3] at e1; obtain ⟨n_1, hn_1, s1⟩ := nd_add (x := a_0) (y := (4 : Int32)) (by (try rw [z0]); omega) (by (try rw [z0]); omega); rw [z0] at s1; have e2 := k_2; rw [hn_1, ← Int32.toInt_inj] at e2; obtain ⟨n_2, hn_2, s2⟩ := nd_add (x := a_1) (y := (4 : Int32)) (by (try rw [z0]); omega) (by (try rw [z0]); omega); rw [z0] at s2; have e3 := k_3; rw [hn_2, ← Int32.toInt_inj] at e3; rw [Int32.lt_iff_toInt_lt, z2]; omega)) (ti f q0 28) (ti f_1 q0 28) (ti f_2 q0 28) bs_1.2 c_2 po_4 po_6)))) (cwV 1 htb (gd_V tw_551 tw_552 tw_553 tw_479 tw_550) rfl rfl rfl (by decide +kernel) ⟨Nat.le_of_ble_eq_true rfl, Nat.le_of_ble_eq_true rfl⟩) ⟨pc_blind, tw_recv hK hP (hA_2.m m0) rfl rfl, pc_pre hP hK hD hN⟩ rfl rfl hl.1 rfl (lv_room (Nat.le_of_ble_eq_true rfl)) d_Md_feed_28 ⟨Nat.le_of_ble_eq_true rfl, Nat.le_of_ble_eq_true rfl⟩) hS (fun q _ h => hFc q h) hFc (fun u t H locs ht hvm er hB hz1 hk1 hS => ?_)
    obtain ⟨L_3, f_3⟩ := u
    obtain ⟨hO_3, hE_3, er⟩ := er
    obtain ⟨hP, hK1, hD1⟩ := hB
    rw [ht] at hP
    have hP : va_P (dC, dI) vwCl (TW ct L_3 f_3) H := hP
    have hD : va_D A (TW ct L_3 f_3) := hD1.weaken (fun _ q _ h => hFc q.1 h)
    have hO_3 : Ok L_3 f_3 := hO_3
    have hE_3 : Ext W_Md_four_t L_2 f_2 L_3 f_3 := hE_3
    clear hK1 hD1 ht hvm hz1 hk1
    have hA_3 := hA_2.trans hE_3
    obtain ⟨po_8, -⟩ := er
    refine lv_aload_n hx hb d_Md_feed_31 rfl (lv_at hl 0 rfl) ?_
    refine lv_iload hx hb d_Md_feed_32 (lv_at hl 4 rfl) ?_
    have hFc := hb_free hD hS hA
    refine va_callv (va_runV (As := [.int p_3]) (rest := []) ⟨hx, hb, hml, hown, htb⟩ (c_Md_four_t l dC dI ct L_3 f_3 hO_3 q0 (hA_3.m m0) _ p_3 (by rw [show ti f_3 q0 28 = (ti f_3 q0 28) from rfl]; first | done | exact (show ¬ (396 < (ti f_3 q0 28)) from ((fun (a_0 : Int32) (a_1 : Int32) (a_2 : Int32) (a_3 : Int32) (k_0 : ¬ (400 < a_0)) (k_1 : (a_0 + 20) ≤ 400) (k_2 : a_1 = (a_0 + 4)) (k_3 : a_2 = (a_1 + 4)) (k_4 : a_3 = (a_2 + 4)) => (show ¬ (396 < a_3) from by have z0 : (4 : Int32).toInt = 4 := (by decide +kernel); have z1 : (20 : Int32).toInt = 20 := (by decide +kernel); have z2 : (396 : Int32).toInt = 396 := (by decide +kernel); have z3 : (400 : Int32).toInt = 400 := (by decide +kernel); have r0 := fb_rng (a_0); have r1 := fb_rng (a_1); have r2 := fb_rng (a_2); have r3 := fb_rng (a_3); have e0 := k_0; rw [Int32.lt_iff_toInt_lt, z3] at e0; obtain ⟨n_0, hn_0, s0⟩ := nd_add (x := a_0) (y := (20 : Int32)) (by (try rw [z1]); omega) (by (try rw [z1]); omega); rw [z1] at s0; have e1 := k_1; rw [hn_0, Int32.le_iff_toInt_le, z3] at e1; obtain ⟨n_1, hn_1, s1⟩ := nd_add (x := a_0) (y := (4 : Int32)) (by (try rw [z0]); omega) (by (try rw [z0]); omega); rw [z0] at s1; have e2 := k_2; rw [hn_1, ← Int32.toInt_inj] at e2; obtain ⟨n_2, hn_2, s2⟩ := nd_add (x := a_1) (y := (4 : Int32)) (by (try rw [z0]); omega) (by (try rw [z0]); omega); rw [z0] at s2; have e3 := k_3; rw [hn_2, ← Int32.toInt_inj] at e3; obtain ⟨n_3, hn_3, s3⟩ := nd_add (x := a_2) (y := (4 : Int32)) (by (try rw [z0]); omega) (by (try rw [z0]); omega); rw [z0] at s3; have e4 := k_4; rw [hn_3, ← Int32.toInt_inj] at e4; rw [Int32.lt_iff_toInt_lt, z2]; omega)) (ti f q0 28) (ti f_1 q0 28) (ti f_2 q0 28) (ti f_3 q0 28) bs_1.2 c_2 po_4 po_6 po_8)))) (cwV 1 htb (gd_V tw_551 tw_552 tw_553 tw_479 tw_550) rfl rfl rfl (by decide +kernel) ⟨Nat.le_of_ble_eq_true rfl, Nat.le_of_ble_eq_true rfl⟩) ⟨pc_blind, tw_recv hK hP (hA_3.m m0) rfl rfl, pc_pre hP hK hD hN⟩ rfl rfl hl.1 rfl (lv_room (Nat.le_of_ble_eq_true rfl)) d_Md_feed_34 ⟨Nat.le_of_ble_eq_true rfl, Nat.le_of_ble_eq_true rfl⟩) hS (fun q _ h => hFc q h) hFc (fun u t H locs ht hvm er hB hz1 hk1 hS => ?_)
    obtain ⟨L_4, f_4⟩ := u
    obtain ⟨hO_4, hE_4, er⟩ := er
    obtain ⟨hP, hK1, hD1⟩ := hB
    rw [ht] at hP
    have hP : va_P (dC, dI) vwCl (TW ct L_4 f_4) H := hP
    have hD : va_D A (TW ct L_4 f_4) := hD1.weaken (fun _ q _ h => hFc q.1 h)
    have hO_4 : Ok L_4 f_4 := hO_4
    have hE_4 : Ext W_Md_four_t L_3 f_3 L_4 f_4 := hE_4
    clear hK1 hD1 ht hvm hz1 hk1
    have hA_4 := hA_3.trans hE_4
    obtain ⟨po_10, -⟩ := er
    refine lv_aload_n hx hb d_Md_feed_37 rfl (lv_at hl 0 rfl) ?_
    refine lv_iload hx hb d_Md_feed_38 (lv_at hl 5 rfl) ?_
    have hFc := hb_free hD hS hA
    refine va_callv (va_runV (As := [.int p_4]) (rest := []) ⟨hx, hb, hml, hown, htb⟩ (c_Md_four_t l dC dI ct L_4 f_4 hO_4 q0 (hA_4.m m0) _ p_4 (by rw [show ti f_4 q0 28 = (ti f_4 q0 28) from rfl]; first | done | exact (show ¬ (396 < (ti f_4 q0 28)) from ((fun (a_0 : Int32) (a_1 : Int32) (a_2 : Int32) (a_3 : Int32) (a_4 : Int32) (k_0 : ¬ (400 < a_0)) (k_1 : (a_0 + 20) ≤ 400) (k_2 : a_1 = (a_0 + 4)) (k_3 : a_2 = (a_1 + 4)) (k_4 : a_3 = (a_2 + 4)) (k_5 : a_4 = (a_3 + 4)) => (show ¬ (396 < a_4) from by have z0 : (4 : Int32).toInt = 4 := (by decide +kernel); have z1 : (20 : Int32).toInt = 20 := (by decide +kernel); have z2 : (396 : Int32).toInt = 396 := (by decide +kernel); have z3 : (400 : Int32).toInt = 400 := (by decide +kernel); have r0 := fb_rng (a_0); have r1 := fb_rng (a_1); have r2 := fb_rng (a_2); have r3 := fb_rng (a_3); have r4 := fb_rng (a_4); have e0 := k_0; rw [Int32.lt_iff_toInt_lt, z3] at e0; obtain ⟨n_0, hn_0, s0⟩ := nd_add (x := a_0) (y := (20 : Int32)) (by (try rw [z1]); omega) (by (try rw [z1]); omega); rw [z1] at s0; have e1 := k_1; rw [hn_0, Int32.le_iff_toInt_le, z3] at e1; obtain ⟨n_1, hn_1, s1⟩ := nd_add (x := a_0) (y := (4 : Int32)) (by (try rw [z0]); omega) (by (try rw [z0]); omega); rw [z0] at s1; have e2 := k_2; rw [hn_1, ← Int32.toInt_inj] at e2; obtain ⟨n_2, hn_2, s2⟩ := nd_add (x := a_1) (y := (4 : Int32)) (by (try rw [z0]); omega) (by (try rw [z0]); omega); rw [z0] at s2; have e3 := k_3; rw [hn_2, ← Int32.toInt_inj] at e3; obtain ⟨n_3, hn_3, s3⟩ := nd_add (x := a_2) (y := (4 : Int32)) (by (try rw [z0]); omega) (by (try rw [z0]); omega); rw [z0] at s3; have e4 := k_4; rw [hn_3, ← Int32.toInt_inj] at e4; obtain ⟨n_4, hn_4, s4⟩ := nd_add (x := a_3) (y := (4 : Int32)) (by (try rw [z0]); omega) (by (try rw [z0]); omega); rw [z0] at s4; have e5 := k_5; rw [hn_4, ← Int32.toInt_inj] at e5; rw [Int32.lt_iff_toInt_lt, z2]; omega)) (ti f q0 28) (ti f_1 q0 28) (ti f_2 q0 28) (ti f_3 q0 28) (ti f_4 q0 28) bs_1.2 c_2 po_4 po_6 po_8 po_10)))) (cwV 1 htb (gd_V tw_551 tw_552 tw_553 tw_479 tw_550) rfl rfl rfl (by decide +kernel) ⟨Nat.le_of_ble_eq_true rfl, Nat.le_of_ble_eq_true rfl⟩) ⟨pc_blind, tw_recv hK hP (hA_4.m m0) rfl rfl, pc_pre hP hK hD hN⟩ rfl rfl hl.1 rfl (lv_room (Nat.le_of_ble_eq_true rfl)) d_Md_feed_40 ⟨Nat.le_of_ble_eq_true rfl, Nat.le_of_ble_eq_true rfl⟩) hS (fun q _ h => hFc q h) hFc (fun u t H locs ht hvm er hB hz1 hk1 hS => ?_)
    obtain ⟨L_5, f_5⟩ := u
    obtain ⟨hO_5, hE_5, er⟩ := er
    obtain ⟨hP, hK1, hD1⟩ := hB
    rw [ht] at hP
    have hP : va_P (dC, dI) vwCl (TW ct L_5 f_5) H := hP
    have hD : va_D A (TW ct L_5 f_5) := hD1.weaken (fun _ q _ h => hFc q.1 h)
    have hO_5 : Ok L_5 f_5 := hO_5
    have hE_5 : Ext W_Md_four_t L_4 f_4 L_5 f_5 := hE_5
    clear hK1 hD1 ht hvm hz1 hk1
    have hA_5 := hA_4.trans hE_5
    obtain ⟨po_12, -⟩ := er
    refine lv_aload_n hx hb d_Md_feed_43 rfl (lv_at hl 0 rfl) ?_
    refine tw_getI (x := (ti f_5 q0 28)) (D := (dC, dI)) (C := R_Md) (T := F_Md) (N := 64) (ci := 7) (kd := 27) (ct := ct) hx hb htb i_Md hown hK hP (hA_5.m m0) rfl rfl 28 rfl (by decide) (htb (.fieldLink R_Md 212 "WaterMenModel" "taped" "I") tw_548) (fun _ h9 => h9) rfl d_Md_feed_44 ?_
    refine W.widen (k := 0) (n := 0) (Nat.le_of_ble_eq_true rfl) (Nat.le_of_ble_eq_true rfl) ?_
    exact W.iret (v := (ti f_5 q0 28)) hx hb hr (fun t ht hW => ⟨⟨(ti f_5 q0 28), (L_5, f_5), rfl, ⟨hO_5, hA_5.mono (by decide +kernel), trivial⟩, by rw [ht]; exact hP, va_K.moved hW.alike hK, by rw [hAe]; exact hD⟩, by rw [hAe]; exact hS.F ht⟩) (by rw [hAe]; exact hS.2.2) d_Md_feed_47
  · refine lv_bipush (v := (-3)) hx hb d_Md_feed_13 (by decide +kernel) ?_
    refine W.widen (k := 0) (n := 0) (Nat.le_of_ble_eq_true rfl) (Nat.le_of_ble_eq_true rfl) ?_
    exact W.iret (v := (-3)) hx hb hr (fun t ht hW => ⟨⟨(-3), (L, f), rfl, ⟨hO_0, hA_0.mono (by decide +kernel), trivial⟩, by rw [ht]; exact hP, va_K.moved hW.alike hK, by rw [hAe]; exact hD⟩, by rw [hAe]; exact hS.F ht⟩) (by rw [hAe]; exact hS.2.2) d_Md_feed_15
def W_Md_end_t : List (Nat × Nat) := [(27, 28)]
set_option maxHeartbeats 4000000 in
set_option maxRecDepth 100000 in
theorem c_Md_end_t (l : Launch) (dC : Nat → ClassId) (dI : Nat → Nat → Nat) (ct : Nat → ClassId) (L : List Nat) (f : TF) (hO_0 : Ok L f) (q0 : Nat) (m0 : q0 ∈ L ∧ tk f q0 = 27) (sz : Nat) (p_0 : Int32)   : Met l y_Md_end (.code y_Md_end b_Md_end 2 (some .int) :: TB) ({ frames := 1, cells := 0, slots := 0, locals := 22 }) (va_Pc [.ref q0, .int p_0] (PC dC dI (TW ct L f) (TT ct) sz)) (va_Qi (fun r (u : TSt) => Ok u.1 u.2 ∧ Ext W_Md_end_t L f u.1 u.2 ∧ (True)) (fun (u : TSt) t => va_P (dC, dI) vwCl (TW ct u.1 u.2) t.heap ∧ va_K (dC, dI) vwCl (TT ct) t ∧ va_D (va_A (TW ct L f) sz) (TW ct u.1 u.2)) (va_A (TW ct L f) sz)) 0 0 (va_A (TW ct L f) sz) := by
  refine Met.ofW (cc := b_Md_end) (maxL := 2) (ret := (some .int)) (by decide) rfl ?_
  intro p e s m args below meth c s₁ B hml hv
  obtain ⟨rfl, hsz, hP, hK, hD0, hN⟩ := hv
  have hx := B.exec
  have hb := B.bytes
  have hr := B.returns
  have hts := atoms_spec (ws := (.code y_Md_end b_Md_end 2 (some .int) :: TB)) B.pre
  have htb := fun w (h : w ∈ TB) => hts w (List.mem_cons_of_mem _ h)
  have hown : s.vm.findClass R_Md = some m.cls := findClass_of_methodNamed B.named
  have hlocks := B.notSynchronized
  have hl := lv_entry ([.ref q0, .int p_0]) (n := 2) (Nat.le_of_ble_eq_true rfl)
  rw [lg_entry_eq]
  generalize (lg_sl ([.ref q0, .int p_0]) ++ List.replicate (2 - (lg_sl ([.ref q0, .int p_0])).length) Slot.unset).toArray = ls at hl ⊢
  have hl : lv_has ls 2 [(0, .ref q0), (1, .int p_0)] := hl
  subst hsz
  have hD := hD0.self (sz := s.heap.size)
  obtain ⟨A, hAe⟩ : ∃ A, va_A (TW ct L f) s.heap.size = A := ⟨_, rfl⟩
  rw [hAe] at hD
  have hA : ∀ q : Nat, s.heap.size ≤ q → A q := fun q h => by rw [← hAe]; exact Or.inr h
  have hS : va_S A s.heap s.heap [] := va_S.rf
  have hA_0 : Ext [] L f L f := Ext.rf
  suffices hGo : ∀ (H : Heap) (locs : List Loc), va_P (dC, dI) vwCl (TW ct L f) H → va_S A s.heap H locs → W p l e (headSpec (.code y_Md_end b_Md_end 2 (some .int) :: TB) ({ frames := 1, cells := 0, slots := 0, locals := 22 })).room s m [.ref q0, .int p_0].toArray below meth c H locs 0 0 (MQ below (va_Qi (fun r (u : TSt) => Ok u.1 u.2 ∧ Ext W_Md_end_t L f u.1 u.2 ∧ (True)) (fun (u : TSt) t => va_P (dC, dI) vwCl (TW ct u.1 u.2) t.heap ∧ va_K (dC, dI) vwCl (TT ct) t ∧ va_D (va_A (TW ct L f) s.heap.size) (TW ct u.1 u.2)) (va_A (TW ct L f) s.heap.size)) [.ref q0, .int p_0].toArray s 0 0 (va_A (TW ct L f) s.heap.size)) (F0 m 0 ls []) from hGo _ _ hP hS
  clear hP hS
  intro H locs hP hS
  refine lv_iload_n hx hb d_Md_end_0 rfl (lv_at hl 1 rfl) ?_
  refine lv_iconst (v := 0) hx hb d_Md_end_1 (by decide +kernel) ?_
  refine lv_aload_n hx hb d_Md_end_2 rfl (lv_at hl 0 rfl) ?_
  refine tw_geti (D := (dC, dI)) (C := R_Md) (T := F_Md) (N := 64) (ci := 7) (kd := 27) (ct := ct) hx hb htb i_Md hown hK hP hO_0 m0 rfl rfl 28 (by decide) (htb (.fieldLink R_Md 212 "WaterMenModel" "taped" "I") tw_548) (fun _ h9 => h9) rfl d_Md_end_3 (fun x_1 e_1 b_1 => ?_)
  refine vp_callSi (va_Run.run (va_runS (As := [.int p_0, .int 0, .int x_1]) (rest := []) ⟨hx, hb, hml, hown, htb⟩ (c_Md_in l p_0 0 x_1) (cwS 3 htb (gd_S tw_480 tw_481 tw_479 tw_478) rfl rfl rfl (by decide +kernel) ⟨Nat.le_of_ble_eq_true rfl, Nat.le_of_ble_eq_true rfl⟩) ⟨fun _ _ _ _ h => h, fun U _ _ => ⟨rfl, trivial⟩⟩ rfl rfl hl.1 rfl (lv_room (Nat.le_of_ble_eq_true rfl)) d_Md_end_6 ⟨Nat.le_of_ble_eq_true rfl, Nat.le_of_ble_eq_true rfl⟩)) (fun r er => ?_)
  subst er
  by_cases c_3 : p_0 < 0
  · refine hb_ti 0 (by unfold f_Md_in; rw [if_pos c_3]; first | done | rfl) ?_
    refine lv_if_ne (tgt := 14) hx hb d_Md_end_9 (by decide) (fun h => absurd (by decide +kernel) h) (fun _ => ?_)
    refine lv_iconst (v := (-1)) hx hb d_Md_end_12 (by decide +kernel) ?_
    refine W.widen (k := 0) (n := 0) (Nat.le_of_ble_eq_true rfl) (Nat.le_of_ble_eq_true rfl) ?_
    exact W.iret (v := (-1)) hx hb hr (fun t ht hW => ⟨⟨(-1), (L, f), rfl, ⟨hO_0, hA_0.mono (by decide +kernel), trivial⟩, by rw [ht]; exact hP, va_K.moved hW.alike hK, by rw [hAe]; exact hD⟩, by rw [hAe]; exact hS.F ht⟩) (by rw [hAe]; exact hS.2.2) d_Md_end_13
  · by_cases c_4 : x_1 < p_0
    · refine hb_ti 0 (by unfold f_Md_in; rw [if_neg c_3, if_pos c_4]; first | done | rfl) ?_
      refine lv_if_ne (tgt := 14) hx hb d_Md_end_9 (by decide) (fun h => absurd (by decide +kernel) h) (fun _ => ?_)
      refine lv_iconst (v := (-1)) hx hb d_Md_end_12 (by decide +kernel) ?_
      refine W.widen (k := 0) (n := 0) (Nat.le_of_ble_eq_true rfl) (Nat.le_of_ble_eq_true rfl) ?_
      exact W.iret (v := (-1)) hx hb hr (fun t ht hW => ⟨⟨(-1), (L, f), rfl, ⟨hO_0, hA_0.mono (by decide +kernel), trivial⟩, by rw [ht]; exact hP, va_K.moved hW.alike hK, by rw [hAe]; exact hD⟩, by rw [hAe]; exact hS.F ht⟩) (by rw [hAe]; exact hS.2.2) d_Md_end_13
    · refine hb_ti 1 (by unfold f_Md_in; rw [if_neg c_3, if_neg c_4]; first | done | rfl) ?_
      refine lv_if_ne (tgt := 14) hx hb d_Md_end_9 (by decide) (fun _ => ?_) (fun h => absurd h (by decide +kernel))
      refine lv_aload_n hx hb d_Md_end_14 rfl (lv_at hl 0 rfl) ?_
      refine lv_iload_n hx hb d_Md_end_15 rfl (lv_at hl 1 rfl) ?_
      refine tw_puti (v := p_0) (D := (dC, dI)) (C := R_Md) (T := F_Md) (N := 64) (ci := 7) (kd := 27) (ct := ct) (ty := .int) hx hb htb i_Md t_Md t_Md_ok n_Md hown hK hP hD hS hO_0 m0 rfl rfl 28 (by decide) (htb (.fieldLink R_Md 212 "WaterMenModel" "taped" "I") tw_548) (fun _ h9 => h9) rfl (by decide +kernel) rfl rfl rfl ⟨c_3, (show ¬ (400 < p_0) from ((fun (a_0 : Int32) (a_1 : Int32) (k_0 : ¬ (a_1 < a_0)) (k_1 : ¬ (400 < a_1)) => (show ¬ (400 < a_0) from by have z0 : (400 : Int32).toInt = 400 := (by decide +kernel); have r0 := fb_rng (a_0); have r1 := fb_rng (a_1); have e0 := k_0; rw [Int32.lt_iff_toInt_lt] at e0; have e1 := k_1; rw [Int32.lt_iff_toInt_lt, z0] at e1; rw [Int32.lt_iff_toInt_lt, z0]; omega)) p_0 x_1 c_4 b_1.2))⟩ d_Md_end_16 (fun f_1 H locs hP hD hS hO_1 hE_1 w_5 hF_1 => ?_)
      have hA_1 := hA_0.trans hE_1
      refine lv_iload_n hx hb d_Md_end_19 rfl (lv_at hl 1 rfl) ?_
      refine W.widen (k := 0) (n := 0) (Nat.le_of_ble_eq_true rfl) (Nat.le_of_ble_eq_true rfl) ?_
      exact W.iret (v := p_0) hx hb hr (fun t ht hW => ⟨⟨p_0, (L, f_1), rfl, ⟨hO_1, hA_1.mono (by decide +kernel), trivial⟩, by rw [ht]; exact hP, va_K.moved hW.alike hK, by rw [hAe]; exact hD⟩, by rw [hAe]; exact hS.F ht⟩) (by rw [hAe]; exact hS.2.2) d_Md_end_20
def f_Md_isLetter  (p_0 : Int32) : Int32 := if p_0 < 97 then (0) else (if 122 < p_0 then (0) else (1))
set_option maxHeartbeats 4000000 in
set_option maxRecDepth 100000 in
theorem c_Md_isLetter (l : Launch)  (p_0 : Int32)  : Met l y_Md_isLetter (.code y_Md_isLetter b_Md_isLetter 1 (some .boolean) :: TB) ({ frames := 0, cells := 0, slots := 0, locals := 0 }) (va_Pc [.int p_0] (fun _ => True)) (vp_Si (fun r => r = f_Md_isLetter p_0)) 0 0 (fun _ => False) := by
  refine Met.ofW (cc := b_Md_isLetter) (maxL := 1) (ret := (some .boolean)) (by decide) rfl ?_
  intro p e s m args below meth c s₁ B hml hv
  obtain ⟨rfl, -⟩ := hv
  have hx := B.exec
  have hb := B.bytes
  have hr := B.returns
  have hts := atoms_spec (ws := (.code y_Md_isLetter b_Md_isLetter 1 (some .boolean) :: TB)) B.pre
  have htb := fun w (h : w ∈ TB) => hts w (List.mem_cons_of_mem _ h)
  have hown : s.vm.findClass R_Md = some m.cls := findClass_of_methodNamed B.named
  have hlocks := B.notSynchronized
  have hl := lv_entry ([.int p_0]) (n := 1) (Nat.le_of_ble_eq_true rfl)
  rw [lg_entry_eq]
  generalize (lg_sl ([.int p_0]) ++ List.replicate (1 - (lg_sl ([.int p_0])).length) Slot.unset).toArray = ls at hl ⊢
  have hl : lv_has ls 1 [(0, .int p_0)] := hl
  refine lv_iload_n hx hb d_Md_isLetter_0 rfl (lv_at hl 0 rfl) ?_
  refine lv_bipush (v := 97) hx hb d_Md_isLetter_1 (by decide +kernel) ?_
  refine lv_icmp_lt (tgt := 16) hx hb d_Md_isLetter_3 (by decide) (fun c_1 => ?_) (fun c_1 => ?_)
  · refine lv_iconst (v := 0) hx hb d_Md_isLetter_16 (by decide +kernel) ?_
    exact W.zret (v := 0) hx hb hr (by decide +kernel) (fun t ht hW => ⟨0, rfl, (by unfold f_Md_isLetter; rw [if_pos c_1]), ht⟩) t_nil d_Md_isLetter_17
  · refine lv_iload_n hx hb d_Md_isLetter_6 rfl (lv_at hl 0 rfl) ?_
    refine lv_bipush (v := 122) hx hb d_Md_isLetter_7 (by decide +kernel) ?_
    refine lv_icmp_gt (tgt := 16) hx hb d_Md_isLetter_9 (by decide) (fun c_2 => ?_) (fun c_2 => ?_)
    · refine lv_iconst (v := 0) hx hb d_Md_isLetter_16 (by decide +kernel) ?_
      exact W.zret (v := 0) hx hb hr (by decide +kernel) (fun t ht hW => ⟨0, rfl, (by unfold f_Md_isLetter; rw [if_neg c_1, if_pos c_2]), ht⟩) t_nil d_Md_isLetter_17
    · refine lv_iconst (v := 1) hx hb d_Md_isLetter_12 (by decide +kernel) ?_
      refine lv_goto (tgt := 17) hx hb d_Md_isLetter_13 (by decide) ?_
      exact W.zret (v := 1) hx hb hr (by decide +kernel) (fun t ht hW => ⟨1, rfl, (by unfold f_Md_isLetter; rw [if_neg c_1, if_neg c_2]), ht⟩) t_nil d_Md_isLetter_17
