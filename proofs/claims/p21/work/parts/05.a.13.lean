set_option maxHeartbeats 4000000 in
set_option maxRecDepth 100000 in
theorem c_WM_priceOf_t (l : Launch) (dC : Nat → ClassId) (dI : Nat → Nat → Nat) (ct : Nat → ClassId) (L : List Nat) (f : TF) (hO_0 : Ok L f) (q0 : Nat) (m0 : q0 ∈ L ∧ tk f q0 = 0) (pq_0 : Nat) (pm_0 : pq_0 ∈ L ∧ tk f pq_0 = 15) (p_1 : Int32) (p_2 : Int32) (p_3 : Int32) (p_4 : Int32)  (as_0 : ¬ (p_1 < 0)) (as_1 : ¬ (11 < p_1)) (as_2 : ¬ (p_2 < 0)) (as_3 : ¬ (11 < p_2)) (as_4 : ¬ (p_3 < 0)) (as_5 : ¬ (5999 < p_3)) : Met l y_WM_priceOf (.code y_WM_priceOf b_WM_priceOf 9 (some .int) :: TB) ({ frames := 3, cells := 0, slots := 0, locals := 71 }) (va_Pc [.ref q0, .ref pq_0, .int p_1, .int p_2, .int p_3, .int p_4] (PR dC dI (TW ct L f) (TT ct))) (vp_Si (fun r => True)) 0 0 (fun _ => False) := by
  refine Met.ofW (cc := b_WM_priceOf) (maxL := 9) (ret := (some .int)) (by decide) rfl ?_
  intro p e s m args below meth c s₁ B hml hv
  obtain ⟨rfl, hP, hK, hN⟩ := hv
  have hx := B.exec
  have hb := B.bytes
  have hr := B.returns
  have hts := atoms_spec (ws := (.code y_WM_priceOf b_WM_priceOf 9 (some .int) :: TB)) B.pre
  have htb := fun w (h : w ∈ TB) => hts w (List.mem_cons_of_mem _ h)
  have hown : s.vm.findClass R_WM = some m.cls := findClass_of_methodNamed B.named
  have hlocks := B.notSynchronized
  have hl := lv_entry ([.ref q0, .ref pq_0, .int p_1, .int p_2, .int p_3, .int p_4]) (n := 9) (Nat.le_of_ble_eq_true rfl)
  rw [lg_entry_eq]
  generalize (lg_sl ([.ref q0, .ref pq_0, .int p_1, .int p_2, .int p_3, .int p_4]) ++ List.replicate (9 - (lg_sl ([.ref q0, .ref pq_0, .int p_1, .int p_2, .int p_3, .int p_4])).length) Slot.unset).toArray = ls at hl ⊢
  have hl : lv_has ls 9 [(0, .ref q0), (1, .ref pq_0), (2, .int p_1), (3, .int p_2), (4, .int p_3), (5, .int p_4)] := hl
  refine lv_iload hx hb d_WM_priceOf_0 (lv_at hl 4 rfl) ?_
  refine lv_bipush (v := 12) hx hb d_WM_priceOf_2 (by decide +kernel) ?_
  refine lv_idiv hx hb d_WM_priceOf_4 (by decide) ?_
  refine hb_divn (U := 5999) (Qm := 499) (c := 12) (C1 := 11) (K := 2147483635) (by decide +kernel) (by decide +kernel) (by decide +kernel) as_4 (show ¬ (2147483635 < p_3) from by have e0 := as_4; rw [Int32.lt_iff_toInt_lt] at e0; have e1 := as_5; rw [Int32.lt_iff_toInt_lt] at e1; have z0 : (0 : Int32).toInt = 0 := (by decide +kernel); have z1 : (5999 : Int32).toInt = 5999 := (by decide +kernel); have z2 : (2147483635 : Int32).toInt = 2147483635 := (by decide +kernel); rw [Int32.lt_iff_toInt_lt]; omega) as_5 (by decide +kernel) (fun y_1 g1_1 g2_1 g3_1 g4_1 g5_1 g9_1 => ?_)
  refine lv_istore (lv' := [(6, .int y_1), (0, .ref q0), (1, .ref pq_0), (2, .int p_1), (3, .int p_2), (4, .int p_3), (5, .int p_4)]) hx hb d_WM_priceOf_5 hl (by decide) rfl (fun ls hl => ?_)
  refine lv_iload hx hb d_WM_priceOf_7 (lv_at hl 5 rfl) ?_
  refine lv_bipush (v := 12) hx hb d_WM_priceOf_9 (by decide +kernel) ?_
  refine lv_irem hx hb d_WM_priceOf_11 (by decide) ?_
  refine hb_remn (c := 12) (C1 := 11) (K := 2147483635) (by decide +kernel) (by decide +kernel) (by decide +kernel) as_4 (show ¬ (2147483635 < p_3) from by have e0 := as_4; rw [Int32.lt_iff_toInt_lt] at e0; have e1 := as_5; rw [Int32.lt_iff_toInt_lt] at e1; have z0 : (0 : Int32).toInt = 0 := (by decide +kernel); have z1 : (5999 : Int32).toInt = 5999 := (by decide +kernel); have z2 : (2147483635 : Int32).toInt = 2147483635 := (by decide +kernel); rw [Int32.lt_iff_toInt_lt]; omega) (fun y_2 qu_2 g1_2 g2_2 g3_2 g4_2 g5_2 g9_2 => ?_)
  refine lv_istore (lv' := [(7, .int y_2), (6, .int y_1), (0, .ref q0), (1, .ref pq_0), (2, .int p_1), (3, .int p_2), (4, .int p_3), (5, .int p_4)]) hx hb d_WM_priceOf_12 hl (by decide) rfl (fun ls hl => ?_)
  refine lv_aload_n hx hb d_WM_priceOf_14 rfl (lv_at hl 2 rfl) ?_
  refine tw_getr (D := (dC, dI)) (C := R_WM) (T := F_WM) (N := 13) (ci := 0) (kd := 0) (ct := ct) hx hb htb i_WM hown hK hP hO_0 m0 rfl rfl 0 (by decide) (htb (.fieldLink R_WM 12 "WaterMen" "river" "LWaterMen$River;") tw_154) (fun _ h9 => h9) rfl d_WM_priceOf_15 (fun q_3 e_3 m_3 => ?_)
  refine lv_iload_n hx hb d_WM_priceOf_18 rfl (lv_at hl 4 rfl) ?_
  refine lv_iload_n hx hb d_WM_priceOf_19 rfl (lv_at hl 5 rfl) ?_
  refine lv_iload hx hb d_WM_priceOf_20 (lv_at hl 1 rfl) ?_
  refine lv_iload hx hb d_WM_priceOf_22 (lv_at hl 0 rfl) ?_
  refine vp_callSi (va_Run.run (va_runV (As := [.int p_1, .int p_2, .int y_1, .int y_2]) (rest := []) ⟨hx, hb, hml, hown, htb⟩ (c_Rv_drift_t l dC dI ct L f hO_0 q_3 m_3 p_1 p_2 y_1 y_2 g1_1 g5_1 g1_2 g2_2) (cwV 4 htb (gd_V tw_332 tw_333 tw_334 tw_45 tw_331) rfl rfl rfl (by decide +kernel) ⟨Nat.le_of_ble_eq_true rfl, Nat.le_of_ble_eq_true rfl⟩) ⟨pr_blind, tw_recv hK hP m_3 rfl rfl, pr_pre hP hK hN⟩ rfl rfl hl.1 rfl (lv_room (Nat.le_of_ble_eq_true rfl)) d_WM_priceOf_24 ⟨Nat.le_of_ble_eq_true rfl, Nat.le_of_ble_eq_true rfl⟩)) (fun r_4 er_4 => ?_)
  clear er_4
  refine lv_istore (lv' := [(8, .int r_4), (7, .int y_2), (6, .int y_1), (0, .ref q0), (1, .ref pq_0), (2, .int p_1), (3, .int p_2), (4, .int p_3), (5, .int p_4)]) hx hb d_WM_priceOf_27 hl (by decide) rfl (fun ls hl => ?_)
  refine lv_aload_n hx hb d_WM_priceOf_29 rfl (lv_at hl 4 rfl) ?_
  refine lv_aload_n hx hb d_WM_priceOf_30 rfl (lv_at hl 3 rfl) ?_
  refine tw_getR (D := (dC, dI)) (C := R_WM) (T := F_WM) (N := 13) (ci := 0) (kd := 0) (ct := ct) hx hb htb i_WM hown hK hP m0 rfl rfl 0 e_3 (by decide) (htb (.fieldLink R_WM 12 "WaterMen" "river" "LWaterMen$River;") tw_154) (fun _ h9 => h9) rfl d_WM_priceOf_31 ?_
  refine hb_tv (.ref q_3) rfl ?_
  refine lv_iload_n hx hb d_WM_priceOf_34 rfl (lv_at hl 5 rfl) ?_
  refine lv_iload_n hx hb d_WM_priceOf_35 rfl (lv_at hl 6 rfl) ?_
  refine vp_callSi (va_Run.run (va_runV (As := [.int p_1, .int p_2]) (rest := [.ref pq_0]) ⟨hx, hb, hml, hown, htb⟩ (c_Rv_distance_t l dC dI ct L f hO_0 q_3 m_3 p_1 p_2 as_0 as_1 as_2 as_3) (cwV 2 htb (gd_V tw_336 tw_337 tw_338 tw_45 tw_335) rfl rfl rfl (by decide +kernel) ⟨Nat.le_of_ble_eq_true rfl, Nat.le_of_ble_eq_true rfl⟩) ⟨pr_blind, tw_recv hK hP m_3 rfl rfl, pr_pre hP hK hN⟩ rfl rfl hl.1 rfl (lv_room (Nat.le_of_ble_eq_true rfl)) d_WM_priceOf_36 ⟨Nat.le_of_ble_eq_true rfl, Nat.le_of_ble_eq_true rfl⟩)) (fun r_5 er_5 => ?_)
  clear er_5
  refine lv_iload hx hb d_WM_priceOf_39 (lv_at hl 0 rfl) ?_
  refine lv_iload hx hb d_WM_priceOf_41 (lv_at hl 2 rfl) ?_
  refine lv_iload hx hb d_WM_priceOf_43 (lv_at hl 1 rfl) ?_
  refine lv_iload hx hb d_WM_priceOf_45 (lv_at hl 8 rfl) ?_
  refine vp_callSi (va_Run.run (va_runV (As := [.int r_5, .int r_4, .int y_1, .int y_2, .int p_4]) (rest := []) ⟨hx, hb, hml, hown, htb⟩ (c_Or_price_t l dC dI ct L f hO_0 pq_0 pm_0 r_5 r_4 y_1 y_2 p_4) (cwV 5 htb (gd_V tw_340 tw_341 tw_342 tw_68 tw_339) rfl rfl rfl (by decide +kernel) ⟨Nat.le_of_ble_eq_true rfl, Nat.le_of_ble_eq_true rfl⟩) ⟨pr_blind, tw_recv hK hP pm_0 rfl rfl, pr_pre hP hK hN⟩ rfl rfl hl.1 rfl (lv_room (Nat.le_of_ble_eq_true rfl)) d_WM_priceOf_47 ⟨Nat.le_of_ble_eq_true rfl, Nat.le_of_ble_eq_true rfl⟩)) (fun r_6 er_6 => ?_)
  clear er_6
  exact W.iret (v := r_6) hx hb hr (fun t ht hW => ⟨r_6, rfl, trivial, ht⟩) t_nil d_WM_priceOf_50
set_option maxHeartbeats 4000000 in
set_option maxRecDepth 100000 in
theorem c_WM_fare_t (l : Launch) (dC : Nat → ClassId) (dI : Nat → Nat → Nat) (ct : Nat → ClassId) (L : List Nat) (f : TF) (hO_0 : Ok L f) (q0 : Nat) (m0 : q0 ∈ L ∧ tk f q0 = 0) (p_0 : Int32) (p_1 : Int32) (p_2 : Int32) (p_3 : Int32) (p_4 : Int32)   : Met l y_WM_fare (.code y_WM_fare b_WM_fare 8 (some .int) :: TB) ({ frames := 4, cells := 0, slots := 0, locals := 99 }) (va_Pc [.ref q0, .int p_0, .int p_1, .int p_2, .int p_3, .int p_4] (PR dC dI (TW ct L f) (TT ct))) (vp_Si (fun r => True)) 0 0 (fun _ => False) := by
  refine Met.ofW (cc := b_WM_fare) (maxL := 8) (ret := (some .int)) (by decide) rfl ?_
  intro p e s m args below meth c s₁ B hml hv
  obtain ⟨rfl, hP, hK, hN⟩ := hv
  have hx := B.exec
  have hb := B.bytes
  have hr := B.returns
  have hts := atoms_spec (ws := (.code y_WM_fare b_WM_fare 8 (some .int) :: TB)) B.pre
  have htb := fun w (h : w ∈ TB) => hts w (List.mem_cons_of_mem _ h)
  have hown : s.vm.findClass R_WM = some m.cls := findClass_of_methodNamed B.named
  have hlocks := B.notSynchronized
  have hl := lv_entry ([.ref q0, .int p_0, .int p_1, .int p_2, .int p_3, .int p_4]) (n := 8) (Nat.le_of_ble_eq_true rfl)
  rw [lg_entry_eq]
  generalize (lg_sl ([.ref q0, .int p_0, .int p_1, .int p_2, .int p_3, .int p_4]) ++ List.replicate (8 - (lg_sl ([.ref q0, .int p_0, .int p_1, .int p_2, .int p_3, .int p_4])).length) Slot.unset).toArray = ls at hl ⊢
  have hl : lv_has ls 8 [(0, .ref q0), (1, .int p_0), (2, .int p_1), (3, .int p_2), (4, .int p_3), (5, .int p_4)] := hl
  refine lv_aload_n hx hb d_WM_fare_0 rfl (lv_at hl 0 rfl) ?_
  refine lv_iload_n hx hb d_WM_fare_1 rfl (lv_at hl 1 rfl) ?_
  refine va_csq (va_Run.run (va_runV (As := [.int p_0]) (rest := []) ⟨hx, hb, hml, hown, htb⟩ (c_WM_orderAt_t l dC dI ct L f hO_0 q0 m0 p_0) (cwV 1 htb (gd_V tw_324 tw_325 tw_326 tw_25 tw_323) rfl rfl rfl (by decide +kernel) ⟨Nat.le_of_ble_eq_true rfl, Nat.le_of_ble_eq_true rfl⟩) ⟨pr_blind, tw_recv hK hP m0 rfl rfl, pr_pre hP hK hN⟩ rfl rfl hl.1 rfl (lv_room (Nat.le_of_ble_eq_true rfl)) d_WM_fare_2 ⟨Nat.le_of_ble_eq_true rfl, Nat.le_of_ble_eq_true rfl⟩)) (fun r_1 er_1 => ?_)
  rcases er_1 with rfl | ⟨q_1, rfl, m_1⟩
  · refine hb_tv .null rfl ?_
    refine lv_astoreN (lv' := [(6, .null), (0, .ref q0), (1, .int p_0), (2, .int p_1), (3, .int p_2), (4, .int p_3), (5, .int p_4)]) hx hb d_WM_fare_5 hl (by decide) rfl (fun ls hl => ?_)
    refine lv_aloadN hx hb d_WM_fare_7 (lv_at hl 0 rfl) ?_
    refine lv_ifnullN (tgt := 39) hx hb d_WM_fare_9 (by decide) ?_
    refine lv_iconst (v := (-1)) hx hb d_WM_fare_39 (by decide +kernel) ?_
    exact W.iret (v := (-1)) hx hb hr (fun t ht hW => ⟨(-1), rfl, trivial, ht⟩) t_nil d_WM_fare_40
  · refine hb_tv (.ref q_1) rfl ?_
    refine lv_astore (lv' := [(6, .ref q_1), (0, .ref q0), (1, .int p_0), (2, .int p_1), (3, .int p_2), (4, .int p_3), (5, .int p_4)]) hx hb d_WM_fare_5 hl (by decide) rfl (fun ls hl => ?_)
    refine lv_aload hx hb d_WM_fare_7 (lv_at hl 0 rfl) ?_
    refine lv_ifnull hx hb d_WM_fare_9 ?_
    refine lv_aload_n hx hb d_WM_fare_12 rfl (lv_at hl 1 rfl) ?_
    refine tw_getr (D := (dC, dI)) (C := R_WM) (T := F_WM) (N := 13) (ci := 0) (kd := 0) (ct := ct) hx hb htb i_WM hown hK hP hO_0 m0 rfl rfl 0 (by decide) (htb (.fieldLink R_WM 12 "WaterMen" "river" "LWaterMen$River;") tw_154) (fun _ h9 => h9) rfl d_WM_fare_13 (fun q_2 e_2 m_2 => ?_)
    refine lv_iload_n hx hb d_WM_fare_16 rfl (lv_at hl 3 rfl) ?_
    refine vp_callSi (va_Run.run (va_runV (As := [.int p_1]) (rest := []) ⟨hx, hb, hml, hown, htb⟩ (c_Rv_hasStairs_t l dC dI ct L f hO_0 q_2 m_2 p_1) (cwV 1 htb (gd_V tw_239 tw_240 tw_241 tw_45 tw_238) rfl rfl rfl (by decide +kernel) ⟨Nat.le_of_ble_eq_true rfl, Nat.le_of_ble_eq_true rfl⟩) ⟨pr_blind, tw_recv hK hP m_2 rfl rfl, pr_pre hP hK hN⟩ rfl rfl hl.1 rfl (lv_room (Nat.le_of_ble_eq_true rfl)) d_WM_fare_17 ⟨Nat.le_of_ble_eq_true rfl, Nat.le_of_ble_eq_true rfl⟩)) (fun r_3 er_3 => ?_)
    rcases er_3 with ⟨rfl, -⟩ | ⟨rfl, po_4, po_5, -⟩
    · refine lv_if_eq (tgt := 39) hx hb d_WM_fare_20 (by decide) (fun _ => ?_) (fun h => absurd (by decide +kernel) h)
      refine lv_iconst (v := (-1)) hx hb d_WM_fare_39 (by decide +kernel) ?_
      exact W.iret (v := (-1)) hx hb hr (fun t ht hW => ⟨(-1), rfl, trivial, ht⟩) t_nil d_WM_fare_40
    · refine lv_if_eq (tgt := 39) hx hb d_WM_fare_20 (by decide) (fun h => absurd h (by decide +kernel)) (fun _ => ?_)
      refine lv_aload_n hx hb d_WM_fare_23 rfl (lv_at hl 1 rfl) ?_
      refine tw_getR (D := (dC, dI)) (C := R_WM) (T := F_WM) (N := 13) (ci := 0) (kd := 0) (ct := ct) hx hb htb i_WM hown hK hP m0 rfl rfl 0 e_2 (by decide) (htb (.fieldLink R_WM 12 "WaterMen" "river" "LWaterMen$River;") tw_154) (fun _ h9 => h9) rfl d_WM_fare_24 ?_
      refine hb_tv (.ref q_2) rfl ?_
      refine lv_iload_n hx hb d_WM_fare_27 rfl (lv_at hl 4 rfl) ?_
      refine vp_callSi (va_Run.run (va_runV (As := [.int p_2]) (rest := []) ⟨hx, hb, hml, hown, htb⟩ (c_Rv_hasStairs_t l dC dI ct L f hO_0 q_2 m_2 p_2) (cwV 1 htb (gd_V tw_239 tw_240 tw_241 tw_45 tw_238) rfl rfl rfl (by decide +kernel) ⟨Nat.le_of_ble_eq_true rfl, Nat.le_of_ble_eq_true rfl⟩) ⟨pr_blind, tw_recv hK hP m_2 rfl rfl, pr_pre hP hK hN⟩ rfl rfl hl.1 rfl (lv_room (Nat.le_of_ble_eq_true rfl)) d_WM_fare_28 ⟨Nat.le_of_ble_eq_true rfl, Nat.le_of_ble_eq_true rfl⟩)) (fun r_6 er_6 => ?_)
      rcases er_6 with ⟨rfl, -⟩ | ⟨rfl, po_7, po_8, -⟩
      · refine lv_if_eq (tgt := 39) hx hb d_WM_fare_31 (by decide) (fun _ => ?_) (fun h => absurd (by decide +kernel) h)
        refine lv_iconst (v := (-1)) hx hb d_WM_fare_39 (by decide +kernel) ?_
        exact W.iret (v := (-1)) hx hb hr (fun t ht hW => ⟨(-1), rfl, trivial, ht⟩) t_nil d_WM_fare_40
      · refine lv_if_eq (tgt := 39) hx hb d_WM_fare_31 (by decide) (fun h => absurd h (by decide +kernel)) (fun _ => ?_)
        refine lv_iload_n hx hb d_WM_fare_34 rfl (lv_at hl 3 rfl) ?_
        refine lv_iload_n hx hb d_WM_fare_35 rfl (lv_at hl 4 rfl) ?_
        refine lv_icmp_ne (tgt := 41) hx hb d_WM_fare_36 (by decide) (fun c_9 => ?_) (fun c_9 => ?_)
        · refine lv_iload hx hb d_WM_fare_41 (lv_at hl 5 rfl) ?_
          refine lv_if_lt (tgt := 62) hx hb d_WM_fare_43 (by decide) (fun c_10 => ?_) (fun c_10 => ?_)
          · refine lv_iconst (v := (-1)) hx hb d_WM_fare_62 (by decide +kernel) ?_
            exact W.iret (v := (-1)) hx hb hr (fun t ht hW => ⟨(-1), rfl, trivial, ht⟩) t_nil d_WM_fare_63
          · refine lv_iload hx hb d_WM_fare_46 (lv_at hl 5 rfl) ?_
            refine lv_sipush (v := 6000) hx hb d_WM_fare_48 (by decide +kernel) ?_
            refine lv_icmp_ge (tgt := 62) hx hb d_WM_fare_51 (by decide) (fun c_11 => ?_) (fun c_11 => ?_)
            · refine lv_iconst (v := (-1)) hx hb d_WM_fare_62 (by decide +kernel) ?_
              exact W.iret (v := (-1)) hx hb hr (fun t ht hW => ⟨(-1), rfl, trivial, ht⟩) t_nil d_WM_fare_63
            · refine lv_iload hx hb d_WM_fare_54 (lv_at hl 6 rfl) ?_
              refine vp_callSi (va_Run.run (va_runS (As := [.int p_4]) (rest := []) ⟨hx, hb, hml, hown, htb⟩ (c_WM_isOars l p_4) (cwS 1 htb (gd_S tw_236 tw_237 tw_25 tw_235) rfl rfl rfl (by decide +kernel) ⟨Nat.le_of_ble_eq_true rfl, Nat.le_of_ble_eq_true rfl⟩) ⟨fun _ _ _ _ h => h, fun U _ _ => ⟨rfl, trivial⟩⟩ rfl rfl hl.1 rfl (lv_room (Nat.le_of_ble_eq_true rfl)) d_WM_fare_56 ⟨Nat.le_of_ble_eq_true rfl, Nat.le_of_ble_eq_true rfl⟩)) (fun r er => ?_)
              subst er
              by_cases c_13 : p_4 = 1
              · refine hb_ti 1 (by unfold f_WM_isOars; rw [if_pos c_13]; first | done | rfl) ?_
                refine lv_if_ne (tgt := 64) hx hb d_WM_fare_59 (by decide) (fun _ => ?_) (fun h => absurd h (by decide +kernel))
                refine lv_aload_n hx hb d_WM_fare_64 rfl (lv_at hl 1 rfl) ?_
                refine lv_aload hx hb d_WM_fare_65 (lv_at hl 0 rfl) ?_
                refine lv_iload_n hx hb d_WM_fare_67 rfl (lv_at hl 3 rfl) ?_
                refine lv_iload_n hx hb d_WM_fare_68 rfl (lv_at hl 4 rfl) ?_
                refine lv_iload hx hb d_WM_fare_69 (lv_at hl 5 rfl) ?_
                refine lv_iload hx hb d_WM_fare_71 (lv_at hl 6 rfl) ?_
                refine vp_callSi (va_Run.run (va_runV (As := [.ref q_1, .int p_1, .int p_2, .int p_3, .int p_4]) (rest := []) ⟨hx, hb, hml, hown, htb⟩ (c_WM_priceOf_t l dC dI ct L f hO_0 q0 m0 q_1 m_1 p_1 p_2 p_3 p_4 po_4 po_5 po_7 po_8 c_10 (show ¬ (5999 < p_3) from by have e0 := c_10; rw [Int32.lt_iff_toInt_lt] at e0; have e1 := c_11; rw [Int32.le_iff_toInt_le] at e1; have z0 : (0 : Int32).toInt = 0 := (by decide +kernel); have z1 : (5999 : Int32).toInt = 5999 := (by decide +kernel); have z2 : (6000 : Int32).toInt = 6000 := (by decide +kernel); rw [Int32.lt_iff_toInt_lt]; omega)) (cwV 5 htb (gd_V tw_344 tw_345 tw_346 tw_25 tw_343) rfl rfl rfl (by decide +kernel) ⟨Nat.le_of_ble_eq_true rfl, Nat.le_of_ble_eq_true rfl⟩) ⟨pr_blind, tw_recv hK hP m0 rfl rfl, pr_pre hP hK hN⟩ rfl rfl hl.1 rfl (lv_room (Nat.le_of_ble_eq_true rfl)) d_WM_fare_73 ⟨Nat.le_of_ble_eq_true rfl, Nat.le_of_ble_eq_true rfl⟩)) (fun r_14 er_14 => ?_)
                clear er_14
                refine lv_istore (lv' := [(7, .int r_14), (6, .ref q_1), (0, .ref q0), (1, .int p_0), (2, .int p_1), (3, .int p_2), (4, .int p_3), (5, .int p_4)]) hx hb d_WM_fare_76 hl (by decide) rfl (fun ls hl => ?_)
                refine lv_iload hx hb d_WM_fare_78 (lv_at hl 0 rfl) ?_
                refine lv_iconst (v := (-1)) hx hb d_WM_fare_80 (by decide +kernel) ?_
                refine lv_icmp_ne (tgt := 89) hx hb d_WM_fare_81 (by decide) (fun c_15 => ?_) (fun c_15 => ?_)
                · refine lv_iload hx hb d_WM_fare_89 (lv_at hl 0 rfl) ?_
                  exact W.iret (v := r_14) hx hb hr (fun t ht hW => ⟨r_14, rfl, trivial, ht⟩) t_nil d_WM_fare_91
                · refine lv_bipush (v := (-2)) hx hb d_WM_fare_84 (by decide +kernel) ?_
                  refine lv_goto (tgt := 91) hx hb d_WM_fare_86 (by decide) ?_
                  exact W.iret (v := (-2)) hx hb hr (fun t ht hW => ⟨(-2), rfl, trivial, ht⟩) t_nil d_WM_fare_91
              · by_cases c_16 : p_4 = 2
                · refine hb_ti 1 (by unfold f_WM_isOars; rw [if_neg c_13, if_pos c_16]; first | done | rfl) ?_
                  refine lv_if_ne (tgt := 64) hx hb d_WM_fare_59 (by decide) (fun _ => ?_) (fun h => absurd h (by decide +kernel))
                  refine lv_aload_n hx hb d_WM_fare_64 rfl (lv_at hl 1 rfl) ?_
                  refine lv_aload hx hb d_WM_fare_65 (lv_at hl 0 rfl) ?_
                  refine lv_iload_n hx hb d_WM_fare_67 rfl (lv_at hl 3 rfl) ?_
                  refine lv_iload_n hx hb d_WM_fare_68 rfl (lv_at hl 4 rfl) ?_
                  refine lv_iload hx hb d_WM_fare_69 (lv_at hl 5 rfl) ?_
                  refine lv_iload hx hb d_WM_fare_71 (lv_at hl 6 rfl) ?_
                  refine vp_callSi (va_Run.run (va_runV (As := [.ref q_1, .int p_1, .int p_2, .int p_3, .int p_4]) (rest := []) ⟨hx, hb, hml, hown, htb⟩ (c_WM_priceOf_t l dC dI ct L f hO_0 q0 m0 q_1 m_1 p_1 p_2 p_3 p_4 po_4 po_5 po_7 po_8 c_10 (show ¬ (5999 < p_3) from by have e0 := c_10; rw [Int32.lt_iff_toInt_lt] at e0; have e1 := c_11; rw [Int32.le_iff_toInt_le] at e1; have z0 : (0 : Int32).toInt = 0 := (by decide +kernel); have z1 : (5999 : Int32).toInt = 5999 := (by decide +kernel); have z2 : (6000 : Int32).toInt = 6000 := (by decide +kernel); rw [Int32.lt_iff_toInt_lt]; omega)) (cwV 5 htb (gd_V tw_344 tw_345 tw_346 tw_25 tw_343) rfl rfl rfl (by decide +kernel) ⟨Nat.le_of_ble_eq_true rfl, Nat.le_of_ble_eq_true rfl⟩) ⟨pr_blind, tw_recv hK hP m0 rfl rfl, pr_pre hP hK hN⟩ rfl rfl hl.1 rfl (lv_room (Nat.le_of_ble_eq_true rfl)) d_WM_fare_73 ⟨Nat.le_of_ble_eq_true rfl, Nat.le_of_ble_eq_true rfl⟩)) (fun r_17 er_17 => ?_)
                  clear er_17
                  refine lv_istore (lv' := [(7, .int r_17), (6, .ref q_1), (0, .ref q0), (1, .int p_0), (2, .int p_1), (3, .int p_2), (4, .int p_3), (5, .int p_4)]) hx hb d_WM_fare_76 hl (by decide) rfl (fun ls hl => ?_)
                  refine lv_iload hx hb d_WM_fare_78 (lv_at hl 0 rfl) ?_
                  refine lv_iconst (v := (-1)) hx hb d_WM_fare_80 (by decide +kernel) ?_
                  refine lv_icmp_ne (tgt := 89) hx hb d_WM_fare_81 (by decide) (fun c_18 => ?_) (fun c_18 => ?_)
                  · refine lv_iload hx hb d_WM_fare_89 (lv_at hl 0 rfl) ?_
                    exact W.iret (v := r_17) hx hb hr (fun t ht hW => ⟨r_17, rfl, trivial, ht⟩) t_nil d_WM_fare_91
                  · refine lv_bipush (v := (-2)) hx hb d_WM_fare_84 (by decide +kernel) ?_
                    refine lv_goto (tgt := 91) hx hb d_WM_fare_86 (by decide) ?_
                    exact W.iret (v := (-2)) hx hb hr (fun t ht hW => ⟨(-2), rfl, trivial, ht⟩) t_nil d_WM_fare_91
                · refine hb_ti 0 (by unfold f_WM_isOars; rw [if_neg c_13, if_neg c_16]; first | done | rfl) ?_
                  refine lv_if_ne (tgt := 64) hx hb d_WM_fare_59 (by decide) (fun h => absurd (by decide +kernel) h) (fun _ => ?_)
                  refine lv_iconst (v := (-1)) hx hb d_WM_fare_62 (by decide +kernel) ?_
                  exact W.iret (v := (-1)) hx hb hr (fun t ht hW => ⟨(-1), rfl, trivial, ht⟩) t_nil d_WM_fare_63
        · refine lv_iconst (v := (-1)) hx hb d_WM_fare_39 (by decide +kernel) ?_
          exact W.iret (v := (-1)) hx hb hr (fun t ht hW => ⟨(-1), rfl, trivial, ht⟩) t_nil d_WM_fare_40
set_option maxHeartbeats 4000000 in
set_option maxRecDepth 100000 in
theorem c_WM_mayGoTo_t (l : Launch) (dC : Nat → ClassId) (dI : Nat → Nat → Nat) (ct : Nat → ClassId) (L : List Nat) (f : TF) (hO_0 : Ok L f) (q0 : Nat) (m0 : q0 ∈ L ∧ tk f q0 = 0) (pq_0 : Nat) (pm_0 : pq_0 ∈ L ∧ tk f pq_0 = 24) (p_1 : Int32)   : Met l y_WM_mayGoTo (.code y_WM_mayGoTo b_WM_mayGoTo 3 (some .boolean) :: TB) ({ frames := 1, cells := 0, slots := 0, locals := 21 }) (va_Pc [.ref q0, .ref pq_0, .int p_1] (PR dC dI (TW ct L f) (TT ct))) (vp_Si (fun r => (r = 0 ∧ True) ∨ (r = 1 ∧ ¬ (p_1 < 0) ∧ ¬ (11 < p_1) ∧ True))) 0 0 (fun _ => False) := by
  refine Met.ofW (cc := b_WM_mayGoTo) (maxL := 3) (ret := (some .boolean)) (by decide) rfl ?_
  intro p e s m args below meth c s₁ B hml hv
  obtain ⟨rfl, hP, hK, hN⟩ := hv
  have hx := B.exec
  have hb := B.bytes
  have hr := B.returns
  have hts := atoms_spec (ws := (.code y_WM_mayGoTo b_WM_mayGoTo 3 (some .boolean) :: TB)) B.pre
  have htb := fun w (h : w ∈ TB) => hts w (List.mem_cons_of_mem _ h)
  have hown : s.vm.findClass R_WM = some m.cls := findClass_of_methodNamed B.named
  have hlocks := B.notSynchronized
  have hl := lv_entry ([.ref q0, .ref pq_0, .int p_1]) (n := 3) (Nat.le_of_ble_eq_true rfl)
  rw [lg_entry_eq]
  generalize (lg_sl ([.ref q0, .ref pq_0, .int p_1]) ++ List.replicate (3 - (lg_sl ([.ref q0, .ref pq_0, .int p_1])).length) Slot.unset).toArray = ls at hl ⊢
  have hl : lv_has ls 3 [(0, .ref q0), (1, .ref pq_0), (2, .int p_1)] := hl
  refine lv_aload_n hx hb d_WM_mayGoTo_0 rfl (lv_at hl 1 rfl) ?_
  refine tw_geti (D := (dC, dI)) (C := R_Bt) (T := F_Bt) (N := 6) (ci := 9) (kd := 24) (ct := ct) hx hb htb i_Bt hown hK hP hO_0 pm_0 rfl rfl 5 (by decide) (htb (.fieldLink R_WM 283 "WaterMen$Boat" "sunk" "Z") tw_347) (fun _ h9 => h9) rfl d_WM_mayGoTo_1 (fun x_1 e_1 b_1 => ?_)
  refine lv_if_ne (tgt := 30) hx hb d_WM_mayGoTo_4 (by decide) (fun c_2 => ?_) (fun c_2 => ?_)
  · refine lv_iconst (v := 0) hx hb d_WM_mayGoTo_30 (by decide +kernel) ?_
    exact W.zret (v := 0) hx hb hr (by decide +kernel) (fun t ht hW => ⟨0, rfl, (Or.inl ⟨rfl, trivial⟩), ht⟩) t_nil d_WM_mayGoTo_31
  · refine lv_aload_n hx hb d_WM_mayGoTo_7 rfl (lv_at hl 0 rfl) ?_
    refine tw_getr (D := (dC, dI)) (C := R_WM) (T := F_WM) (N := 13) (ci := 0) (kd := 0) (ct := ct) hx hb htb i_WM hown hK hP hO_0 m0 rfl rfl 0 (by decide) (htb (.fieldLink R_WM 12 "WaterMen" "river" "LWaterMen$River;") tw_154) (fun _ h9 => h9) rfl d_WM_mayGoTo_8 (fun q_3 e_3 m_3 => ?_)
    refine lv_iload_n hx hb d_WM_mayGoTo_11 rfl (lv_at hl 2 rfl) ?_
    refine vp_callSi (va_Run.run (va_runV (As := [.int p_1]) (rest := []) ⟨hx, hb, hml, hown, htb⟩ (c_Rv_hasStairs_t l dC dI ct L f hO_0 q_3 m_3 p_1) (cwV 1 htb (gd_V tw_239 tw_240 tw_241 tw_45 tw_238) rfl rfl rfl (by decide +kernel) ⟨Nat.le_of_ble_eq_true rfl, Nat.le_of_ble_eq_true rfl⟩) ⟨pr_blind, tw_recv hK hP m_3 rfl rfl, pr_pre hP hK hN⟩ rfl rfl hl.1 rfl (lv_room (Nat.le_of_ble_eq_true rfl)) d_WM_mayGoTo_12 ⟨Nat.le_of_ble_eq_true rfl, Nat.le_of_ble_eq_true rfl⟩)) (fun r_4 er_4 => ?_)
    rcases er_4 with ⟨rfl, -⟩ | ⟨rfl, po_5, po_6, -⟩
    · refine lv_if_eq (tgt := 30) hx hb d_WM_mayGoTo_15 (by decide) (fun _ => ?_) (fun h => absurd (by decide +kernel) h)
      refine lv_iconst (v := 0) hx hb d_WM_mayGoTo_30 (by decide +kernel) ?_
      exact W.zret (v := 0) hx hb hr (by decide +kernel) (fun t ht hW => ⟨0, rfl, (Or.inl ⟨rfl, trivial⟩), ht⟩) t_nil d_WM_mayGoTo_31
    · refine lv_if_eq (tgt := 30) hx hb d_WM_mayGoTo_15 (by decide) (fun h => absurd h (by decide +kernel)) (fun _ => ?_)
      refine lv_iload_n hx hb d_WM_mayGoTo_18 rfl (lv_at hl 2 rfl) ?_
      refine lv_aload_n hx hb d_WM_mayGoTo_19 rfl (lv_at hl 1 rfl) ?_
      refine tw_geti (D := (dC, dI)) (C := R_Bt) (T := F_Bt) (N := 6) (ci := 9) (kd := 24) (ct := ct) hx hb htb i_Bt hown hK hP hO_0 pm_0 rfl rfl 1 (by decide) (htb (.fieldLink R_WM 178 "WaterMen$Boat" "stairs" "I") tw_259) (fun _ h9 => h9) rfl d_WM_mayGoTo_20 (fun x_7 e_7 b_7 => ?_)
      refine lv_icmp_eq (tgt := 30) hx hb d_WM_mayGoTo_23 (by decide) (fun c_8 => ?_) (fun c_8 => ?_)
      · refine lv_iconst (v := 0) hx hb d_WM_mayGoTo_30 (by decide +kernel) ?_
        exact W.zret (v := 0) hx hb hr (by decide +kernel) (fun t ht hW => ⟨0, rfl, (Or.inl ⟨rfl, trivial⟩), ht⟩) t_nil d_WM_mayGoTo_31
      · refine lv_iconst (v := 1) hx hb d_WM_mayGoTo_26 (by decide +kernel) ?_
        refine lv_goto (tgt := 31) hx hb d_WM_mayGoTo_27 (by decide) ?_
        exact W.zret (v := 1) hx hb hr (by decide +kernel) (fun t ht hW => ⟨1, rfl, (Or.inr ⟨rfl, po_5, po_6, trivial⟩), ht⟩) t_nil d_WM_mayGoTo_31
set_option maxHeartbeats 4000000 in
set_option maxRecDepth 100000 in
theorem c_WM_hasTurns_t (l : Launch) (dC : Nat → ClassId) (dI : Nat → Nat → Nat) (ct : Nat → ClassId) (L : List Nat) (f : TF) (hO_0 : Ok L f) (q0 : Nat) (m0 : q0 ∈ L ∧ tk f q0 = 0) (p_0 : Int32)   : Met l y_WM_hasTurns (.code y_WM_hasTurns b_WM_hasTurns 4 (some .boolean) :: TB) ({ frames := 0, cells := 0, slots := 0, locals := 0 }) (va_Pc [.ref q0, .int p_0] (PR dC dI (TW ct L f) (TT ct))) (vp_Si (fun r => (r = 0 ∧ True) ∨ (r = 1 ∧ True))) 0 0 (fun _ => False) := by
  refine Met.ofW (cc := b_WM_hasTurns) (maxL := 4) (ret := (some .boolean)) (by decide) rfl ?_
  intro p e s m args below meth c s₁ B hml hv
  obtain ⟨rfl, hP, hK, hN⟩ := hv
  have hx := B.exec
  have hb := B.bytes
  have hr := B.returns
  have hts := atoms_spec (ws := (.code y_WM_hasTurns b_WM_hasTurns 4 (some .boolean) :: TB)) B.pre
  have htb := fun w (h : w ∈ TB) => hts w (List.mem_cons_of_mem _ h)
  have hown : s.vm.findClass R_WM = some m.cls := findClass_of_methodNamed B.named
  have hlocks := B.notSynchronized
  have hl := lv_entry ([.ref q0, .int p_0]) (n := 4) (Nat.le_of_ble_eq_true rfl)
  rw [lg_entry_eq]
  generalize (lg_sl ([.ref q0, .int p_0]) ++ List.replicate (4 - (lg_sl ([.ref q0, .int p_0])).length) Slot.unset).toArray = ls at hl ⊢
  have hl : lv_has ls 4 [(0, .ref q0), (1, .int p_0)] := hl
  refine lv_iconst (v := 0) hx hb d_WM_hasTurns_0 (by decide +kernel) ?_
  refine lv_istore_n (lv' := [(2, .int 0), (0, .ref q0), (1, .int p_0)]) hx hb d_WM_hasTurns_1 rfl hl (by decide) rfl (fun ls hl => ?_)
  have cut_1 : ∀ (n_1 : Nat) (v2_1 : Int32) (ls : Array Slot), ¬ (v2_1 < 0) → ¬ (40 < v2_1) → (40 : Int32).toInt - (v2_1 : Int32).toInt ≤ (n_1 : Int) → lv_has ls 4 [(0, .ref q0), (1, .int p_0), (2, .int v2_1)] → W p l e (headSpec (.code y_WM_hasTurns b_WM_hasTurns 4 (some .boolean) :: TB) ({ frames := 0, cells := 0, slots := 0, locals := 0 })).room s m [.ref q0, .int p_0].toArray below meth c s.heap [] 0 0 (MQ below (vp_Si (fun r => (r = 0 ∧ True) ∨ (r = 1 ∧ True))) [.ref q0, .int p_0].toArray s 0 0 (fun _ => False)) (F0 m 2 ls []) := by
    intro n_1
    induction n_1 using Nat.strongRecOn with
    | _ n_1 ih_1 =>
      intro v2_1 ls iv0_1 iv1_1 hm_1 hl
      refine lv_iload_n hx hb d_WM_hasTurns_2 rfl (lv_at hl 2 rfl) ?_
      refine lv_bipush (v := 40) hx hb d_WM_hasTurns_3 (by decide +kernel) ?_
      refine lv_icmp_ge (tgt := 35) hx hb d_WM_hasTurns_5 (by decide) (fun c_2 => ?_) (fun c_2 => ?_)
      · refine lv_iconst (v := 0) hx hb d_WM_hasTurns_35 (by decide +kernel) ?_
        exact W.zret (v := 0) hx hb hr (by decide +kernel) (fun t ht hW => ⟨0, rfl, (Or.inl ⟨rfl, trivial⟩), ht⟩) t_nil d_WM_hasTurns_36
      · refine lv_aload_n hx hb d_WM_hasTurns_8 rfl (lv_at hl 0 rfl) ?_
        refine tw_getr (D := (dC, dI)) (C := R_WM) (T := F_WM) (N := 13) (ci := 0) (kd := 0) (ct := ct) hx hb htb i_WM hown hK hP hO_0 m0 rfl rfl 1 (by decide) (htb (.fieldLink R_WM 18 "WaterMen" "men" "[LWaterMen$Man;") tw_188) (fun _ h9 => h9) rfl d_WM_hasTurns_9 (fun q_3 e_3 m_3 => ?_)
        refine lv_iload_n hx hb d_WM_hasTurns_12 rfl (lv_at hl 2 rfl) ?_
        refine tw_aldq (ct := ct) hx hb hK hP hO_0 m_3 rfl rfl (hb_in iv0_1 c_2 (by decide +kernel)) d_WM_hasTurns_13 (fun e_4 => ?_) (fun q_4 e_4 m_4 => ?_)
        · refine lv_astore_nN (lv' := [(3, .null), (0, .ref q0), (1, .int p_0), (2, .int v2_1)]) hx hb d_WM_hasTurns_14 rfl hl (by decide) rfl (fun ls hl => ?_)
          refine lv_aload_nN hx hb d_WM_hasTurns_15 rfl (lv_at hl 0 rfl) ?_
          refine lv_ifnullN (tgt := 29) hx hb d_WM_hasTurns_16 (by decide) ?_
          refine lv_iinc (v := (v2_1 + 1)) (lv' := [(2, .int (v2_1 + 1)), (3, .null), (0, .ref q0), (1, .int p_0)]) hx hb d_WM_hasTurns_29 hl (k := 3) rfl rfl (by decide) rfl (fun ls hl => ?_)
          refine lv_goto (tgt := 2) hx hb d_WM_hasTurns_32 (by decide) ?_
          exact ih_1 (n_1 - 1) (ms_1 ((fun (a_0 : Int32) (k_0 : ¬ (40 ≤ a_0)) => (show 1 ≤ (40 : Int32).toInt - (a_0).toInt ∧ (40 : Int32).toInt - ((a_0) + (1 : Int32)).toInt + 1 ≤ (40 : Int32).toInt - (a_0).toInt from by have z0 : (1 : Int32).toInt = 1 := (by decide +kernel); have z1 : (40 : Int32).toInt = 40 := (by decide +kernel); have r0 := fb_rng (a_0); have e0 := k_0; rw [Int32.le_iff_toInt_le, z1] at e0; obtain ⟨n_0, hn_0, s0⟩ := nd_add (x := (a_0)) (y := (1 : Int32)) (by (try rw [z0]); omega) (by (try rw [z0]); omega); rw [z0] at s0; rw [hn_0]; (try rw [z1]); omega)) v2_1 c_2) hm_1) (v2_1 + 1) _ (show ¬ ((v2_1 + 1) < 0) from by have e0 := iv0_1; rw [Int32.lt_iff_toInt_lt] at e0; have e1 := c_2; rw [Int32.le_iff_toInt_le] at e1; have z0 : (0 : Int32).toInt = 0 := (by decide +kernel); have z1 : (1 : Int32).toInt = 1 := (by decide +kernel); have z2 : (40 : Int32).toInt = 40 := (by decide +kernel); have ss := fb_addI (x := v2_1) (y := 1) (by omega) (by omega); rw [Int32.lt_iff_toInt_lt]; omega) (show ¬ (40 < (v2_1 + 1)) from by have e0 := iv0_1; rw [Int32.lt_iff_toInt_lt] at e0; have e1 := c_2; rw [Int32.le_iff_toInt_le] at e1; have z0 : (0 : Int32).toInt = 0 := (by decide +kernel); have z1 : (1 : Int32).toInt = 1 := (by decide +kernel); have z2 : (40 : Int32).toInt = 40 := (by decide +kernel); have ss := fb_addI (x := v2_1) (y := 1) (by omega) (by omega); rw [Int32.lt_iff_toInt_lt]; omega) (by exact ms_2 ((fun (a_0 : Int32) (k_0 : ¬ (40 ≤ a_0)) => (show 1 ≤ (40 : Int32).toInt - (a_0).toInt ∧ (40 : Int32).toInt - ((a_0) + (1 : Int32)).toInt + 1 ≤ (40 : Int32).toInt - (a_0).toInt from by have z0 : (1 : Int32).toInt = 1 := (by decide +kernel); have z1 : (40 : Int32).toInt = 40 := (by decide +kernel); have r0 := fb_rng (a_0); have e0 := k_0; rw [Int32.le_iff_toInt_le, z1] at e0; obtain ⟨n_0, hn_0, s0⟩ := nd_add (x := (a_0)) (y := (1 : Int32)) (by (try rw [z0]); omega) (by (try rw [z0]); omega); rw [z0] at s0; rw [hn_0]; (try rw [z1]); omega)) v2_1 c_2) hm_1) (lv_sub hl [2, 3, 0] rfl)
        · refine lv_astore_n (lv' := [(3, .ref q_4), (0, .ref q0), (1, .int p_0), (2, .int v2_1)]) hx hb d_WM_hasTurns_14 rfl hl (by decide) rfl (fun ls hl => ?_)
          refine lv_aload_n hx hb d_WM_hasTurns_15 rfl (lv_at hl 0 rfl) ?_
          refine lv_ifnull hx hb d_WM_hasTurns_16 ?_
          refine lv_aload_n hx hb d_WM_hasTurns_19 rfl (lv_at hl 0 rfl) ?_
          refine tw_geti (D := (dC, dI)) (C := R_Mn) (T := F_Mn) (N := 8) (ci := 2) (kd := 20) (ct := ct) hx hb htb i_Mn hown hK hP hO_0 m_4 rfl rfl 2 (by decide) (htb (.fieldLink R_WM 145 "WaterMen$Man" "turnStairs" "I") tw_222) (fun _ h9 => h9) rfl d_WM_hasTurns_20 (fun x_5 e_5 b_5 => ?_)
          refine lv_iload_n hx hb d_WM_hasTurns_23 rfl (lv_at hl 2 rfl) ?_
          refine lv_icmp_ne (tgt := 29) hx hb d_WM_hasTurns_24 (by decide) (fun c_6 => ?_) (fun c_6 => ?_)
          · refine lv_iinc (v := (v2_1 + 1)) (lv' := [(2, .int (v2_1 + 1)), (3, .ref q_4), (0, .ref q0), (1, .int p_0)]) hx hb d_WM_hasTurns_29 hl (k := 3) rfl rfl (by decide) rfl (fun ls hl => ?_)
            refine lv_goto (tgt := 2) hx hb d_WM_hasTurns_32 (by decide) ?_
            exact ih_1 (n_1 - 1) (ms_1 ((fun (a_0 : Int32) (k_0 : ¬ (40 ≤ a_0)) => (show 1 ≤ (40 : Int32).toInt - (a_0).toInt ∧ (40 : Int32).toInt - ((a_0) + (1 : Int32)).toInt + 1 ≤ (40 : Int32).toInt - (a_0).toInt from by have z0 : (1 : Int32).toInt = 1 := (by decide +kernel); have z1 : (40 : Int32).toInt = 40 := (by decide +kernel); have r0 := fb_rng (a_0); have e0 := k_0; rw [Int32.le_iff_toInt_le, z1] at e0; obtain ⟨n_0, hn_0, s0⟩ := nd_add (x := (a_0)) (y := (1 : Int32)) (by (try rw [z0]); omega) (by (try rw [z0]); omega); rw [z0] at s0; rw [hn_0]; (try rw [z1]); omega)) v2_1 c_2) hm_1) (v2_1 + 1) _ (show ¬ ((v2_1 + 1) < 0) from by have e0 := iv0_1; rw [Int32.lt_iff_toInt_lt] at e0; have e1 := c_2; rw [Int32.le_iff_toInt_le] at e1; have z0 : (0 : Int32).toInt = 0 := (by decide +kernel); have z1 : (1 : Int32).toInt = 1 := (by decide +kernel); have z2 : (40 : Int32).toInt = 40 := (by decide +kernel); have ss := fb_addI (x := v2_1) (y := 1) (by omega) (by omega); rw [Int32.lt_iff_toInt_lt]; omega) (show ¬ (40 < (v2_1 + 1)) from by have e0 := iv0_1; rw [Int32.lt_iff_toInt_lt] at e0; have e1 := c_2; rw [Int32.le_iff_toInt_le] at e1; have z0 : (0 : Int32).toInt = 0 := (by decide +kernel); have z1 : (1 : Int32).toInt = 1 := (by decide +kernel); have z2 : (40 : Int32).toInt = 40 := (by decide +kernel); have ss := fb_addI (x := v2_1) (y := 1) (by omega) (by omega); rw [Int32.lt_iff_toInt_lt]; omega) (by exact ms_2 ((fun (a_0 : Int32) (k_0 : ¬ (40 ≤ a_0)) => (show 1 ≤ (40 : Int32).toInt - (a_0).toInt ∧ (40 : Int32).toInt - ((a_0) + (1 : Int32)).toInt + 1 ≤ (40 : Int32).toInt - (a_0).toInt from by have z0 : (1 : Int32).toInt = 1 := (by decide +kernel); have z1 : (40 : Int32).toInt = 40 := (by decide +kernel); have r0 := fb_rng (a_0); have e0 := k_0; rw [Int32.le_iff_toInt_le, z1] at e0; obtain ⟨n_0, hn_0, s0⟩ := nd_add (x := (a_0)) (y := (1 : Int32)) (by (try rw [z0]); omega) (by (try rw [z0]); omega); rw [z0] at s0; rw [hn_0]; (try rw [z1]); omega)) v2_1 c_2) hm_1) (lv_sub hl [2, 3, 0] rfl)
          · refine lv_iconst (v := 1) hx hb d_WM_hasTurns_27 (by decide +kernel) ?_
            exact W.zret (v := 1) hx hb hr (by decide +kernel) (fun t ht hW => ⟨1, rfl, (Or.inr ⟨rfl, trivial⟩), ht⟩) t_nil d_WM_hasTurns_28
  exact cut_1 4294967296 (0 : Int32) _ (by decide +kernel) (by decide +kernel) (by exact ms_0 _ _) (lv_sub hl [1, 2, 0] rfl)
set_option maxHeartbeats 4000000 in
set_option maxRecDepth 100000 in
theorem c_WM_mustWait_t (l : Launch) (dC : Nat → ClassId) (dI : Nat → Nat → Nat) (ct : Nat → ClassId) (L : List Nat) (f : TF) (hO_0 : Ok L f) (q0 : Nat) (m0 : q0 ∈ L ∧ tk f q0 = 0) (pq_0 : Nat) (pm_0 : pq_0 ∈ L ∧ tk f pq_0 = 20) (p_1 : Int32)   : Met l y_WM_mustWait (.code y_WM_mustWait b_WM_mustWait 3 (some .boolean) :: TB) ({ frames := 1, cells := 0, slots := 0, locals := 24 }) (va_Pc [.ref q0, .ref pq_0, .int p_1] (PR dC dI (TW ct L f) (TT ct))) (vp_Si (fun r => (r = 0 ∧ True) ∨ (r = 1 ∧ True))) 0 0 (fun _ => False) := by
  refine Met.ofW (cc := b_WM_mustWait) (maxL := 3) (ret := (some .boolean)) (by decide) rfl ?_
  intro p e s m args below meth c s₁ B hml hv
  obtain ⟨rfl, hP, hK, hN⟩ := hv
  have hx := B.exec
  have hb := B.bytes
  have hr := B.returns
  have hts := atoms_spec (ws := (.code y_WM_mustWait b_WM_mustWait 3 (some .boolean) :: TB)) B.pre
  have htb := fun w (h : w ∈ TB) => hts w (List.mem_cons_of_mem _ h)
  have hown : s.vm.findClass R_WM = some m.cls := findClass_of_methodNamed B.named
  have hlocks := B.notSynchronized
  have hl := lv_entry ([.ref q0, .ref pq_0, .int p_1]) (n := 3) (Nat.le_of_ble_eq_true rfl)
  rw [lg_entry_eq]
  generalize (lg_sl ([.ref q0, .ref pq_0, .int p_1]) ++ List.replicate (3 - (lg_sl ([.ref q0, .ref pq_0, .int p_1])).length) Slot.unset).toArray = ls at hl ⊢
  have hl : lv_has ls 3 [(0, .ref q0), (1, .ref pq_0), (2, .int p_1)] := hl
  refine lv_aload_n hx hb d_WM_mustWait_0 rfl (lv_at hl 1 rfl) ?_
  refine tw_geti (D := (dC, dI)) (C := R_Mn) (T := F_Mn) (N := 8) (ci := 2) (kd := 20) (ct := ct) hx hb htb i_Mn hown hK hP hO_0 pm_0 rfl rfl 2 (by decide) (htb (.fieldLink R_WM 145 "WaterMen$Man" "turnStairs" "I") tw_222) (fun _ h9 => h9) rfl d_WM_mustWait_1 (fun x_1 e_1 b_1 => ?_)
  refine lv_iload_n hx hb d_WM_mustWait_4 rfl (lv_at hl 2 rfl) ?_
  refine lv_icmp_ne (tgt := 22) hx hb d_WM_mustWait_5 (by decide) (fun c_2 => ?_) (fun c_2 => ?_)
  · refine lv_aload_n hx hb d_WM_mustWait_22 rfl (lv_at hl 0 rfl) ?_
    refine lv_iload_n hx hb d_WM_mustWait_23 rfl (lv_at hl 2 rfl) ?_
    refine vp_callSi (va_Run.run (va_runV (As := [.int p_1]) (rest := []) ⟨hx, hb, hml, hown, htb⟩ (c_WM_hasTurns_t l dC dI ct L f hO_0 q0 m0 p_1) (cwV 1 htb (gd_V tw_353 tw_354 tw_355 tw_25 tw_352) rfl rfl rfl (by decide +kernel) ⟨Nat.le_of_ble_eq_true rfl, Nat.le_of_ble_eq_true rfl⟩) ⟨pr_blind, tw_recv hK hP m0 rfl rfl, pr_pre hP hK hN⟩ rfl rfl hl.1 rfl (lv_room (Nat.le_of_ble_eq_true rfl)) d_WM_mustWait_24 ⟨Nat.le_of_ble_eq_true rfl, Nat.le_of_ble_eq_true rfl⟩)) (fun r_3 er_3 => ?_)
    rcases er_3 with ⟨rfl, -⟩ | ⟨rfl, -⟩
    · exact W.zret (v := 0) hx hb hr (by decide +kernel) (fun t ht hW => ⟨0, rfl, (Or.inl ⟨rfl, trivial⟩), ht⟩) t_nil d_WM_mustWait_27
    · exact W.zret (v := 1) hx hb hr (by decide +kernel) (fun t ht hW => ⟨1, rfl, (Or.inr ⟨rfl, trivial⟩), ht⟩) t_nil d_WM_mustWait_27
  · refine lv_aload_n hx hb d_WM_mustWait_8 rfl (lv_at hl 0 rfl) ?_
    refine lv_aload_n hx hb d_WM_mustWait_9 rfl (lv_at hl 1 rfl) ?_
    refine vp_callSi (va_Run.run (va_runV (As := [.ref pq_0]) (rest := []) ⟨hx, hb, hml, hown, htb⟩ (c_WM_placeInTurns_t l dC dI ct L f hO_0 q0 m0 pq_0 pm_0) (cwV 1 htb (gd_V tw_225 tw_226 tw_227 tw_25 tw_224) rfl rfl rfl (by decide +kernel) ⟨Nat.le_of_ble_eq_true rfl, Nat.le_of_ble_eq_true rfl⟩) ⟨pr_blind, tw_recv hK hP m0 rfl rfl, pr_pre hP hK hN⟩ rfl rfl hl.1 rfl (lv_room (Nat.le_of_ble_eq_true rfl)) d_WM_mustWait_10 ⟨Nat.le_of_ble_eq_true rfl, Nat.le_of_ble_eq_true rfl⟩)) (fun r_4 er_4 => ?_)
    clear er_4
    refine lv_if_eq (tgt := 20) hx hb d_WM_mustWait_13 (by decide) (fun c_5 => ?_) (fun c_5 => ?_)
    · refine lv_iconst (v := 0) hx hb d_WM_mustWait_20 (by decide +kernel) ?_
      exact W.zret (v := 0) hx hb hr (by decide +kernel) (fun t ht hW => ⟨0, rfl, (Or.inl ⟨rfl, trivial⟩), ht⟩) t_nil d_WM_mustWait_21
    · refine lv_iconst (v := 1) hx hb d_WM_mustWait_16 (by decide +kernel) ?_
      refine lv_goto (tgt := 21) hx hb d_WM_mustWait_17 (by decide) ?_
      exact W.zret (v := 1) hx hb hr (by decide +kernel) (fun t ht hW => ⟨1, rfl, (Or.inr ⟨rfl, trivial⟩), ht⟩) t_nil d_WM_mustWait_21
set_option maxHeartbeats 4000000 in
set_option maxRecDepth 100000 in
theorem c_WM_hourNow_t (l : Launch) (dC : Nat → ClassId) (dI : Nat → Nat → Nat) (ct : Nat → ClassId) (L : List Nat) (f : TF) (hO_0 : Ok L f) (q0 : Nat) (m0 : q0 ∈ L ∧ tk f q0 = 0)    : Met l y_WM_hourNow (.code y_WM_hourNow b_WM_hourNow 1 (some .int) :: TB) ({ frames := 0, cells := 0, slots := 0, locals := 0 }) (va_Pc [.ref q0] (PR dC dI (TW ct L f) (TT ct))) (vp_Si (fun r => (¬ (r < 0) ∧ ¬ (11 < r) ∧ True))) 0 0 (fun _ => False) := by
  refine Met.ofW (cc := b_WM_hourNow) (maxL := 1) (ret := (some .int)) (by decide) rfl ?_
  intro p e s m args below meth c s₁ B hml hv
  obtain ⟨rfl, hP, hK, hN⟩ := hv
  have hx := B.exec
  have hb := B.bytes
  have hr := B.returns
  have hts := atoms_spec (ws := (.code y_WM_hourNow b_WM_hourNow 1 (some .int) :: TB)) B.pre
  have htb := fun w (h : w ∈ TB) => hts w (List.mem_cons_of_mem _ h)
  have hown : s.vm.findClass R_WM = some m.cls := findClass_of_methodNamed B.named
  have hlocks := B.notSynchronized
  have hl := lv_entry ([.ref q0]) (n := 1) (Nat.le_of_ble_eq_true rfl)
  rw [lg_entry_eq]
  generalize (lg_sl ([.ref q0]) ++ List.replicate (1 - (lg_sl ([.ref q0])).length) Slot.unset).toArray = ls at hl ⊢
  have hl : lv_has ls 1 [(0, .ref q0)] := hl
  refine lv_aload_n hx hb d_WM_hourNow_0 rfl (lv_at hl 0 rfl) ?_
  refine tw_geti (D := (dC, dI)) (C := R_WM) (T := F_WM) (N := 13) (ci := 0) (kd := 0) (ct := ct) hx hb htb i_WM hown hK hP hO_0 m0 rfl rfl 10 (by decide) (htb (.fieldLink R_WM 155 "WaterMen" "now" "I") tw_178) (fun _ h9 => h9) rfl d_WM_hourNow_1 (fun x_1 e_1 b_1 => ?_)
  refine lv_bipush (v := 60) hx hb d_WM_hourNow_4 (by decide +kernel) ?_
  refine lv_idiv hx hb d_WM_hourNow_6 (by decide) ?_
  refine hb_divn (U := 359999) (Qm := 5999) (c := 60) (C1 := 59) (K := 2147483587) (by decide +kernel) (by decide +kernel) (by decide +kernel) b_1.1 (show ¬ (2147483587 < x_1) from by have e0 := b_1.1; rw [Int32.lt_iff_toInt_lt] at e0; have e1 := b_1.2; rw [Int32.lt_iff_toInt_lt] at e1; have z0 : (0 : Int32).toInt = 0 := (by decide +kernel); have z1 : (359999 : Int32).toInt = 359999 := (by decide +kernel); have z2 : (2147483587 : Int32).toInt = 2147483587 := (by decide +kernel); rw [Int32.lt_iff_toInt_lt]; omega) b_1.2 (by decide +kernel) (fun y_2 g1_2 g2_2 g3_2 g4_2 g5_2 g9_2 => ?_)
  refine lv_bipush (v := 12) hx hb d_WM_hourNow_7 (by decide +kernel) ?_
  refine lv_irem hx hb d_WM_hourNow_9 (by decide) ?_
  refine hb_remn (c := 12) (C1 := 11) (K := 2147483635) (by decide +kernel) (by decide +kernel) (by decide +kernel) g1_2 (show ¬ (2147483635 < y_2) from by have e0 := g1_2; rw [Int32.lt_iff_toInt_lt] at e0; have e1 := g5_2; rw [Int32.lt_iff_toInt_lt] at e1; have z0 : (0 : Int32).toInt = 0 := (by decide +kernel); have z1 : (5999 : Int32).toInt = 5999 := (by decide +kernel); have z2 : (2147483635 : Int32).toInt = 2147483635 := (by decide +kernel); rw [Int32.lt_iff_toInt_lt]; omega) (fun y_3 qu_3 g1_3 g2_3 g3_3 g4_3 g5_3 g9_3 => ?_)
  exact W.iret (v := y_3) hx hb hr (fun t ht hW => ⟨y_3, rfl, ⟨g1_3, g2_3, trivial⟩, ht⟩) t_nil d_WM_hourNow_10
set_option maxHeartbeats 4000000 in
set_option maxRecDepth 100000 in
theorem c_WM_minutesOfWay_t (l : Launch) (dC : Nat → ClassId) (dI : Nat → Nat → Nat) (ct : Nat → ClassId) (L : List Nat) (f : TF) (hO_0 : Ok L f) (q0 : Nat) (m0 : q0 ∈ L ∧ tk f q0 = 0) (pq_0 : Nat) (pm_0 : pq_0 ∈ L ∧ tk f pq_0 = 24) (p_1 : Int32)  (as_0 : ¬ (p_1 < 0)) (as_1 : ¬ (11 < p_1)) : Met l y_WM_minutesOfWay (.code y_WM_minutesOfWay b_WM_minutesOfWay 6 (some .int) :: TB) ({ frames := 3, cells := 0, slots := 0, locals := 71 }) (va_Pc [.ref q0, .ref pq_0, .int p_1] (PR dC dI (TW ct L f) (TT ct))) (vp_Si (fun r => True)) 0 0 (fun _ => False) := by
  refine Met.ofW (cc := b_WM_minutesOfWay) (maxL := 6) (ret := (some .int)) (by decide) rfl ?_
  intro p e s m args below meth c s₁ B hml hv
  obtain ⟨rfl, hP, hK, hN⟩ := hv
  have hx := B.exec
  have hb := B.bytes
  have hr := B.returns
  have hts := atoms_spec (ws := (.code y_WM_minutesOfWay b_WM_minutesOfWay 6 (some .int) :: TB)) B.pre
  have htb := fun w (h : w ∈ TB) => hts w (List.mem_cons_of_mem _ h)
  have hown : s.vm.findClass R_WM = some m.cls := findClass_of_methodNamed B.named
  have hlocks := B.notSynchronized
  have hl := lv_entry ([.ref q0, .ref pq_0, .int p_1]) (n := 6) (Nat.le_of_ble_eq_true rfl)
  rw [lg_entry_eq]
  generalize (lg_sl ([.ref q0, .ref pq_0, .int p_1]) ++ List.replicate (6 - (lg_sl ([.ref q0, .ref pq_0, .int p_1])).length) Slot.unset).toArray = ls at hl ⊢
  have hl : lv_has ls 6 [(0, .ref q0), (1, .ref pq_0), (2, .int p_1)] := hl
  refine lv_aload_n hx hb d_WM_minutesOfWay_0 rfl (lv_at hl 0 rfl) ?_
  refine tw_getr (D := (dC, dI)) (C := R_WM) (T := F_WM) (N := 13) (ci := 0) (kd := 0) (ct := ct) hx hb htb i_WM hown hK hP hO_0 m0 rfl rfl 0 (by decide) (htb (.fieldLink R_WM 12 "WaterMen" "river" "LWaterMen$River;") tw_154) (fun _ h9 => h9) rfl d_WM_minutesOfWay_1 (fun q_1 e_1 m_1 => ?_)
  refine lv_aload_n hx hb d_WM_minutesOfWay_4 rfl (lv_at hl 1 rfl) ?_
  refine tw_geti (D := (dC, dI)) (C := R_Bt) (T := F_Bt) (N := 6) (ci := 9) (kd := 24) (ct := ct) hx hb htb i_Bt hown hK hP hO_0 pm_0 rfl rfl 1 (by decide) (htb (.fieldLink R_WM 178 "WaterMen$Boat" "stairs" "I") tw_259) (fun _ h9 => h9) rfl d_WM_minutesOfWay_5 (fun x_2 e_2 b_2 => ?_)
  refine lv_iload_n hx hb d_WM_minutesOfWay_8 rfl (lv_at hl 2 rfl) ?_
  refine lv_aload_n hx hb d_WM_minutesOfWay_9 rfl (lv_at hl 0 rfl) ?_
  refine vp_callSi (va_Run.run (va_runV (As := []) (rest := [.int p_1, .int x_2, .ref q_1]) ⟨hx, hb, hml, hown, htb⟩ (c_WM_today_t l dC dI ct L f hO_0 q0 m0) (cwV 0 htb (gd_V tw_180 tw_181 tw_182 tw_25 tw_179) rfl rfl rfl (by decide +kernel) ⟨Nat.le_of_ble_eq_true rfl, Nat.le_of_ble_eq_true rfl⟩) ⟨pr_blind, tw_recv hK hP m0 rfl rfl, pr_pre hP hK hN⟩ rfl rfl hl.1 rfl (lv_room (Nat.le_of_ble_eq_true rfl)) d_WM_minutesOfWay_10 ⟨Nat.le_of_ble_eq_true rfl, Nat.le_of_ble_eq_true rfl⟩)) (fun r_3 er_3 => ?_)
  obtain ⟨po_4, po_5, -⟩ := er_3
  refine lv_aload_n hx hb d_WM_minutesOfWay_13 rfl (lv_at hl 0 rfl) ?_
  refine vp_callSi (va_Run.run (va_runV (As := []) (rest := [.int r_3, .int p_1, .int x_2, .ref q_1]) ⟨hx, hb, hml, hown, htb⟩ (c_WM_hourNow_t l dC dI ct L f hO_0 q0 m0) (cwV 0 htb (gd_V tw_365 tw_366 tw_367 tw_25 tw_364) rfl rfl rfl (by decide +kernel) ⟨Nat.le_of_ble_eq_true rfl, Nat.le_of_ble_eq_true rfl⟩) ⟨pr_blind, tw_recv hK hP m0 rfl rfl, pr_pre hP hK hN⟩ rfl rfl hl.1 rfl (lv_room (Nat.le_of_ble_eq_true rfl)) d_WM_minutesOfWay_14 ⟨Nat.le_of_ble_eq_true rfl, Nat.le_of_ble_eq_true rfl⟩)) (fun r_6 er_6 => ?_)
  obtain ⟨po_7, po_8, -⟩ := er_6
  refine vp_callSi (va_Run.run (va_runV (As := [.int x_2, .int p_1, .int r_3, .int r_6]) (rest := []) ⟨hx, hb, hml, hown, htb⟩ (c_Rv_drift_t l dC dI ct L f hO_0 q_1 m_1 x_2 p_1 r_3 r_6 po_4 po_5 po_7 po_8) (cwV 4 htb (gd_V tw_332 tw_333 tw_334 tw_45 tw_331) rfl rfl rfl (by decide +kernel) ⟨Nat.le_of_ble_eq_true rfl, Nat.le_of_ble_eq_true rfl⟩) ⟨pr_blind, tw_recv hK hP m_1 rfl rfl, pr_pre hP hK hN⟩ rfl rfl hl.1 rfl (lv_room (Nat.le_of_ble_eq_true rfl)) d_WM_minutesOfWay_17 ⟨Nat.le_of_ble_eq_true rfl, Nat.le_of_ble_eq_true rfl⟩)) (fun r_9 er_9 => ?_)
  clear er_9
  refine lv_istore_n (lv' := [(3, .int r_9), (0, .ref q0), (1, .ref pq_0), (2, .int p_1)]) hx hb d_WM_minutesOfWay_20 rfl hl (by decide) rfl (fun ls hl => ?_)
  refine lv_iload_n hx hb d_WM_minutesOfWay_21 rfl (lv_at hl 0 rfl) ?_
  refine lv_if_le (tgt := 30) hx hb d_WM_minutesOfWay_22 (by decide) (fun c_10 => ?_) (fun c_10 => ?_)
  · refine lv_iload_n hx hb d_WM_minutesOfWay_30 rfl (lv_at hl 0 rfl) ?_
    refine lv_if_ge (tgt := 39) hx hb d_WM_minutesOfWay_31 (by decide) (fun c_11 => ?_) (fun c_11 => ?_)
    · refine lv_bipush (v := 10) hx hb d_WM_minutesOfWay_39 (by decide +kernel) ?_
      refine lv_istore (lv' := [(4, .int 10), (3, .int r_9), (0, .ref q0), (1, .ref pq_0), (2, .int p_1)]) hx hb d_WM_minutesOfWay_41 hl (by decide) rfl (fun ls hl => ?_)
      refine lv_aload_n hx hb d_WM_minutesOfWay_43 rfl (lv_at hl 2 rfl) ?_
      refine tw_getR (D := (dC, dI)) (C := R_WM) (T := F_WM) (N := 13) (ci := 0) (kd := 0) (ct := ct) hx hb htb i_WM hown hK hP m0 rfl rfl 0 e_1 (by decide) (htb (.fieldLink R_WM 12 "WaterMen" "river" "LWaterMen$River;") tw_154) (fun _ h9 => h9) rfl d_WM_minutesOfWay_44 ?_
      refine hb_tv (.ref q_1) rfl ?_
      refine lv_aload_n hx hb d_WM_minutesOfWay_47 rfl (lv_at hl 3 rfl) ?_
      refine tw_getI (x := x_2) (D := (dC, dI)) (C := R_Bt) (T := F_Bt) (N := 6) (ci := 9) (kd := 24) (ct := ct) hx hb htb i_Bt hown hK hP pm_0 rfl rfl 1 e_2 (by decide) (htb (.fieldLink R_WM 178 "WaterMen$Boat" "stairs" "I") tw_259) (fun _ h9 => h9) rfl d_WM_minutesOfWay_48 ?_
      refine lv_iload_n hx hb d_WM_minutesOfWay_51 rfl (lv_at hl 4 rfl) ?_
      refine vp_callSi (va_Run.run (va_runV (As := [.int x_2, .int p_1]) (rest := []) ⟨hx, hb, hml, hown, htb⟩ (c_Rv_distance_t l dC dI ct L f hO_0 q_1 m_1 x_2 p_1 b_2.1 b_2.2 as_0 as_1) (cwV 2 htb (gd_V tw_336 tw_337 tw_338 tw_45 tw_335) rfl rfl rfl (by decide +kernel) ⟨Nat.le_of_ble_eq_true rfl, Nat.le_of_ble_eq_true rfl⟩) ⟨pr_blind, tw_recv hK hP m_1 rfl rfl, pr_pre hP hK hN⟩ rfl rfl hl.1 rfl (lv_room (Nat.le_of_ble_eq_true rfl)) d_WM_minutesOfWay_52 ⟨Nat.le_of_ble_eq_true rfl, Nat.le_of_ble_eq_true rfl⟩)) (fun r_12 er_12 => ?_)
      clear er_12
      refine lv_iload hx hb d_WM_minutesOfWay_55 (lv_at hl 0 rfl) ?_
      refine lv_imul hx hb d_WM_minutesOfWay_57 ?_
      refine lv_istore (lv' := [(5, .int (r_12 * 10)), (4, .int 10), (3, .int r_9), (0, .ref q0), (1, .ref pq_0), (2, .int p_1)]) hx hb d_WM_minutesOfWay_58 hl (by decide) rfl (fun ls hl => ?_)
      refine lv_iconst (v := 1) hx hb d_WM_minutesOfWay_60 (by decide +kernel) ?_
      refine lv_aload_n hx hb d_WM_minutesOfWay_61 rfl (lv_at hl 4 rfl) ?_
      refine tw_geti (D := (dC, dI)) (C := R_Bt) (T := F_Bt) (N := 6) (ci := 9) (kd := 24) (ct := ct) hx hb htb i_Bt hown hK hP hO_0 pm_0 rfl rfl 0 (by decide) (htb (.fieldLink R_WM 181 "WaterMen$Boat" "oars" "I") tw_260) (fun _ h9 => h9) rfl d_WM_minutesOfWay_62 (fun x_13 e_13 b_13 => ?_)
      refine lv_iconst (v := 2) hx hb d_WM_minutesOfWay_65 (by decide +kernel) ?_
      refine lv_icmp_ne (tgt := 78) hx hb d_WM_minutesOfWay_66 (by decide) (fun c_14 => ?_) (fun c_14 => ?_)
      · refine lv_iload hx hb d_WM_minutesOfWay_78 (lv_at hl 0 rfl) ?_
        refine va_mmax hx hb (hml.trans hl.1.symm) hown (htb (.methodLink R_WM 370 Lib.Math.max.name) tw_368) (htb (.static Lib.Math.max.name) tw_39) (htb (.initialized "java/lang/Math") tw_32) (htb (.code Lib.Math.max.name Lib.Math.max.code 2 (some .int)) tw_40) (Nat.le_of_ble_eq_true rfl) (Nat.le_of_ble_eq_true rfl) (Nat.le_of_ble_eq_true rfl) (Nat.le_of_ble_eq_true rfl) d_WM_minutesOfWay_80 ?_
        refine hb_anyi (fun y_15 => ?_)
        exact W.iret (v := y_15) hx hb hr (fun t ht hW => ⟨y_15, rfl, trivial, ht⟩) t_nil d_WM_minutesOfWay_83
      · refine lv_iload hx hb d_WM_minutesOfWay_69 (lv_at hl 0 rfl) ?_
        refine lv_iconst (v := 2) hx hb d_WM_minutesOfWay_71 (by decide +kernel) ?_
        refine lv_imul hx hb d_WM_minutesOfWay_72 ?_
        refine lv_iconst (v := 3) hx hb d_WM_minutesOfWay_73 (by decide +kernel) ?_
        refine lv_idiv hx hb d_WM_minutesOfWay_74 (by decide) ?_
        refine lv_goto (tgt := 80) hx hb d_WM_minutesOfWay_75 (by decide) ?_
        refine va_mmax hx hb (hml.trans hl.1.symm) hown (htb (.methodLink R_WM 370 Lib.Math.max.name) tw_368) (htb (.static Lib.Math.max.name) tw_39) (htb (.initialized "java/lang/Math") tw_32) (htb (.code Lib.Math.max.name Lib.Math.max.code 2 (some .int)) tw_40) (Nat.le_of_ble_eq_true rfl) (Nat.le_of_ble_eq_true rfl) (Nat.le_of_ble_eq_true rfl) (Nat.le_of_ble_eq_true rfl) d_WM_minutesOfWay_80 ?_
        refine hb_anyi (fun y_16 => ?_)
        exact W.iret (v := y_16) hx hb hr (fun t ht hW => ⟨y_16, rfl, trivial, ht⟩) t_nil d_WM_minutesOfWay_83
    · refine lv_bipush (v := 14) hx hb d_WM_minutesOfWay_34 (by decide +kernel) ?_
      refine lv_goto (tgt := 41) hx hb d_WM_minutesOfWay_36 (by decide) ?_
      refine lv_istore (lv' := [(4, .int 14), (3, .int r_9), (0, .ref q0), (1, .ref pq_0), (2, .int p_1)]) hx hb d_WM_minutesOfWay_41 hl (by decide) rfl (fun ls hl => ?_)
      refine lv_aload_n hx hb d_WM_minutesOfWay_43 rfl (lv_at hl 2 rfl) ?_
      refine tw_getR (D := (dC, dI)) (C := R_WM) (T := F_WM) (N := 13) (ci := 0) (kd := 0) (ct := ct) hx hb htb i_WM hown hK hP m0 rfl rfl 0 e_1 (by decide) (htb (.fieldLink R_WM 12 "WaterMen" "river" "LWaterMen$River;") tw_154) (fun _ h9 => h9) rfl d_WM_minutesOfWay_44 ?_
      refine hb_tv (.ref q_1) rfl ?_
      refine lv_aload_n hx hb d_WM_minutesOfWay_47 rfl (lv_at hl 3 rfl) ?_
      refine tw_getI (x := x_2) (D := (dC, dI)) (C := R_Bt) (T := F_Bt) (N := 6) (ci := 9) (kd := 24) (ct := ct) hx hb htb i_Bt hown hK hP pm_0 rfl rfl 1 e_2 (by decide) (htb (.fieldLink R_WM 178 "WaterMen$Boat" "stairs" "I") tw_259) (fun _ h9 => h9) rfl d_WM_minutesOfWay_48 ?_
      refine lv_iload_n hx hb d_WM_minutesOfWay_51 rfl (lv_at hl 4 rfl) ?_
      refine vp_callSi (va_Run.run (va_runV (As := [.int x_2, .int p_1]) (rest := []) ⟨hx, hb, hml, hown, htb⟩ (c_Rv_distance_t l dC dI ct L f hO_0 q_1 m_1 x_2 p_1 b_2.1 b_2.2 as_0 as_1) (cwV 2 htb (gd_V tw_336 tw_337 tw_338 tw_45 tw_335) rfl rfl rfl (by decide +kernel) ⟨Nat.le_of_ble_eq_true rfl, Nat.le_of_ble_eq_true rfl⟩) ⟨pr_blind, tw_recv hK hP m_1 rfl rfl, pr_pre hP hK hN⟩ rfl rfl hl.1 rfl (lv_room (Nat.le_of_ble_eq_true rfl)) d_WM_minutesOfWay_52 ⟨Nat.le_of_ble_eq_true rfl, Nat.le_of_ble_eq_true rfl⟩)) (fun r_17 er_17 => ?_)
      clear er_17
      refine lv_iload hx hb d_WM_minutesOfWay_55 (lv_at hl 0 rfl) ?_
      refine lv_imul hx hb d_WM_minutesOfWay_57 ?_
      refine lv_istore (lv' := [(5, .int (r_17 * 14)), (4, .int 14), (3, .int r_9), (0, .ref q0), (1, .ref pq_0), (2, .int p_1)]) hx hb d_WM_minutesOfWay_58 hl (by decide) rfl (fun ls hl => ?_)
      refine lv_iconst (v := 1) hx hb d_WM_minutesOfWay_60 (by decide +kernel) ?_
      refine lv_aload_n hx hb d_WM_minutesOfWay_61 rfl (lv_at hl 4 rfl) ?_
      refine tw_geti (D := (dC, dI)) (C := R_Bt) (T := F_Bt) (N := 6) (ci := 9) (kd := 24) (ct := ct) hx hb htb i_Bt hown hK hP hO_0 pm_0 rfl rfl 0 (by decide) (htb (.fieldLink R_WM 181 "WaterMen$Boat" "oars" "I") tw_260) (fun _ h9 => h9) rfl d_WM_minutesOfWay_62 (fun x_18 e_18 b_18 => ?_)
      refine lv_iconst (v := 2) hx hb d_WM_minutesOfWay_65 (by decide +kernel) ?_
      refine lv_icmp_ne (tgt := 78) hx hb d_WM_minutesOfWay_66 (by decide) (fun c_19 => ?_) (fun c_19 => ?_)
      · refine lv_iload hx hb d_WM_minutesOfWay_78 (lv_at hl 0 rfl) ?_
        refine va_mmax hx hb (hml.trans hl.1.symm) hown (htb (.methodLink R_WM 370 Lib.Math.max.name) tw_368) (htb (.static Lib.Math.max.name) tw_39) (htb (.initialized "java/lang/Math") tw_32) (htb (.code Lib.Math.max.name Lib.Math.max.code 2 (some .int)) tw_40) (Nat.le_of_ble_eq_true rfl) (Nat.le_of_ble_eq_true rfl) (Nat.le_of_ble_eq_true rfl) (Nat.le_of_ble_eq_true rfl) d_WM_minutesOfWay_80 ?_
        refine hb_anyi (fun y_20 => ?_)
        exact W.iret (v := y_20) hx hb hr (fun t ht hW => ⟨y_20, rfl, trivial, ht⟩) t_nil d_WM_minutesOfWay_83
      · refine lv_iload hx hb d_WM_minutesOfWay_69 (lv_at hl 0 rfl) ?_
        refine lv_iconst (v := 2) hx hb d_WM_minutesOfWay_71 (by decide +kernel) ?_
        refine lv_imul hx hb d_WM_minutesOfWay_72 ?_
        refine lv_iconst (v := 3) hx hb d_WM_minutesOfWay_73 (by decide +kernel) ?_
        refine lv_idiv hx hb d_WM_minutesOfWay_74 (by decide) ?_
        refine lv_goto (tgt := 80) hx hb d_WM_minutesOfWay_75 (by decide) ?_
        refine va_mmax hx hb (hml.trans hl.1.symm) hown (htb (.methodLink R_WM 370 Lib.Math.max.name) tw_368) (htb (.static Lib.Math.max.name) tw_39) (htb (.initialized "java/lang/Math") tw_32) (htb (.code Lib.Math.max.name Lib.Math.max.code 2 (some .int)) tw_40) (Nat.le_of_ble_eq_true rfl) (Nat.le_of_ble_eq_true rfl) (Nat.le_of_ble_eq_true rfl) (Nat.le_of_ble_eq_true rfl) d_WM_minutesOfWay_80 ?_
        refine hb_anyi (fun y_21 => ?_)
        exact W.iret (v := y_21) hx hb hr (fun t ht hW => ⟨y_21, rfl, trivial, ht⟩) t_nil d_WM_minutesOfWay_83
  · refine lv_bipush (v := 7) hx hb d_WM_minutesOfWay_25 (by decide +kernel) ?_
    refine lv_goto (tgt := 41) hx hb d_WM_minutesOfWay_27 (by decide) ?_
    refine lv_istore (lv' := [(4, .int 7), (3, .int r_9), (0, .ref q0), (1, .ref pq_0), (2, .int p_1)]) hx hb d_WM_minutesOfWay_41 hl (by decide) rfl (fun ls hl => ?_)
    refine lv_aload_n hx hb d_WM_minutesOfWay_43 rfl (lv_at hl 2 rfl) ?_
    refine tw_getR (D := (dC, dI)) (C := R_WM) (T := F_WM) (N := 13) (ci := 0) (kd := 0) (ct := ct) hx hb htb i_WM hown hK hP m0 rfl rfl 0 e_1 (by decide) (htb (.fieldLink R_WM 12 "WaterMen" "river" "LWaterMen$River;") tw_154) (fun _ h9 => h9) rfl d_WM_minutesOfWay_44 ?_
    refine hb_tv (.ref q_1) rfl ?_
    refine lv_aload_n hx hb d_WM_minutesOfWay_47 rfl (lv_at hl 3 rfl) ?_
    refine tw_getI (x := x_2) (D := (dC, dI)) (C := R_Bt) (T := F_Bt) (N := 6) (ci := 9) (kd := 24) (ct := ct) hx hb htb i_Bt hown hK hP pm_0 rfl rfl 1 e_2 (by decide) (htb (.fieldLink R_WM 178 "WaterMen$Boat" "stairs" "I") tw_259) (fun _ h9 => h9) rfl d_WM_minutesOfWay_48 ?_
    refine lv_iload_n hx hb d_WM_minutesOfWay_51 rfl (lv_at hl 4 rfl) ?_
    refine vp_callSi (va_Run.run (va_runV (As := [.int x_2, .int p_1]) (rest := []) ⟨hx, hb, hml, hown, htb⟩ (c_Rv_distance_t l dC dI ct L f hO_0 q_1 m_1 x_2 p_1 b_2.1 b_2.2 as_0 as_1) (cwV 2 htb (gd_V tw_336 tw_337 tw_338 tw_45 tw_335) rfl rfl rfl (by decide +kernel) ⟨Nat.le_of_ble_eq_true rfl, Nat.le_of_ble_eq_true rfl⟩) ⟨pr_blind, tw_recv hK hP m_1 rfl rfl, pr_pre hP hK hN⟩ rfl rfl hl.1 rfl (lv_room (Nat.le_of_ble_eq_true rfl)) d_WM_minutesOfWay_52 ⟨Nat.le_of_ble_eq_true rfl, Nat.le_of_ble_eq_true rfl⟩)) (fun r_22 er_22 => ?_)
    clear er_22
    refine lv_iload hx hb d_WM_minutesOfWay_55 (lv_at hl 0 rfl) ?_
    refine lv_imul hx hb d_WM_minutesOfWay_57 ?_
    refine lv_istore (lv' := [(5, .int (r_22 * 7)), (4, .int 7), (3, .int r_9), (0, .ref q0), (1, .ref pq_0), (2, .int p_1)]) hx hb d_WM_minutesOfWay_58 hl (by decide) rfl (fun ls hl => ?_)
    refine lv_iconst (v := 1) hx hb d_WM_minutesOfWay_60 (by decide +kernel) ?_
    refine lv_aload_n hx hb d_WM_minutesOfWay_61 rfl (lv_at hl 4 rfl) ?_
    refine tw_geti (D := (dC, dI)) (C := R_Bt) (T := F_Bt) (N := 6) (ci := 9) (kd := 24) (ct := ct) hx hb htb i_Bt hown hK hP hO_0 pm_0 rfl rfl 0 (by decide) (htb (.fieldLink R_WM 181 "WaterMen$Boat" "oars" "I") tw_260) (fun _ h9 => h9) rfl d_WM_minutesOfWay_62 (fun x_23 e_23 b_23 => ?_)
    refine lv_iconst (v := 2) hx hb d_WM_minutesOfWay_65 (by decide +kernel) ?_
    refine lv_icmp_ne (tgt := 78) hx hb d_WM_minutesOfWay_66 (by decide) (fun c_24 => ?_) (fun c_24 => ?_)
    · refine lv_iload hx hb d_WM_minutesOfWay_78 (lv_at hl 0 rfl) ?_
      refine va_mmax hx hb (hml.trans hl.1.symm) hown (htb (.methodLink R_WM 370 Lib.Math.max.name) tw_368) (htb (.static Lib.Math.max.name) tw_39) (htb (.initialized "java/lang/Math") tw_32) (htb (.code Lib.Math.max.name Lib.Math.max.code 2 (some .int)) tw_40) (Nat.le_of_ble_eq_true rfl) (Nat.le_of_ble_eq_true rfl) (Nat.le_of_ble_eq_true rfl) (Nat.le_of_ble_eq_true rfl) d_WM_minutesOfWay_80 ?_
      refine hb_anyi (fun y_25 => ?_)
      exact W.iret (v := y_25) hx hb hr (fun t ht hW => ⟨y_25, rfl, trivial, ht⟩) t_nil d_WM_minutesOfWay_83
    · refine lv_iload hx hb d_WM_minutesOfWay_69 (lv_at hl 0 rfl) ?_
      refine lv_iconst (v := 2) hx hb d_WM_minutesOfWay_71 (by decide +kernel) ?_
      refine lv_imul hx hb d_WM_minutesOfWay_72 ?_
      refine lv_iconst (v := 3) hx hb d_WM_minutesOfWay_73 (by decide +kernel) ?_
      refine lv_idiv hx hb d_WM_minutesOfWay_74 (by decide) ?_
      refine lv_goto (tgt := 80) hx hb d_WM_minutesOfWay_75 (by decide) ?_
      refine va_mmax hx hb (hml.trans hl.1.symm) hown (htb (.methodLink R_WM 370 Lib.Math.max.name) tw_368) (htb (.static Lib.Math.max.name) tw_39) (htb (.initialized "java/lang/Math") tw_32) (htb (.code Lib.Math.max.name Lib.Math.max.code 2 (some .int)) tw_40) (Nat.le_of_ble_eq_true rfl) (Nat.le_of_ble_eq_true rfl) (Nat.le_of_ble_eq_true rfl) (Nat.le_of_ble_eq_true rfl) d_WM_minutesOfWay_80 ?_
      refine hb_anyi (fun y_26 => ?_)
      exact W.iret (v := y_26) hx hb hr (fun t ht hW => ⟨y_26, rfl, trivial, ht⟩) t_nil d_WM_minutesOfWay_83
set_option maxHeartbeats 4000000 in
set_option maxRecDepth 100000 in
theorem c_WM_hindrance_t (l : Launch) (dC : Nat → ClassId) (dI : Nat → Nat → Nat) (ct : Nat → ClassId) (L : List Nat) (f : TF) (hO_0 : Ok L f) (q0 : Nat) (m0 : q0 ∈ L ∧ tk f q0 = 0) (pq_0 : Nat) (pm_0 : pq_0 ∈ L ∧ tk f pq_0 = 24) (pq_1 : Nat) (pm_1 : pq_1 ∈ L ∧ tk f pq_1 = 20) (p_2 : Int32)  (as_0 : ¬ (p_2 < 0)) (as_1 : ¬ (11 < p_2)) : Met l y_WM_hindrance (.code y_WM_hindrance b_WM_hindrance 6 (some .int) :: TB) ({ frames := 4, cells := 0, slots := 0, locals := 99 }) (va_Pc [.ref q0, .ref pq_0, .ref pq_1, .int p_2] (PR dC dI (TW ct L f) (TT ct))) (vp_Si (fun r => True)) 0 0 (fun _ => False) := by
  refine Met.ofW (cc := b_WM_hindrance) (maxL := 6) (ret := (some .int)) (by decide) rfl ?_
  intro p e s m args below meth c s₁ B hml hv
  obtain ⟨rfl, hP, hK, hN⟩ := hv
  have hx := B.exec
  have hb := B.bytes
  have hr := B.returns
  have hts := atoms_spec (ws := (.code y_WM_hindrance b_WM_hindrance 6 (some .int) :: TB)) B.pre
  have htb := fun w (h : w ∈ TB) => hts w (List.mem_cons_of_mem _ h)
  have hown : s.vm.findClass R_WM = some m.cls := findClass_of_methodNamed B.named
  have hlocks := B.notSynchronized
  have hl := lv_entry ([.ref q0, .ref pq_0, .ref pq_1, .int p_2]) (n := 6) (Nat.le_of_ble_eq_true rfl)
  rw [lg_entry_eq]
  generalize (lg_sl ([.ref q0, .ref pq_0, .ref pq_1, .int p_2]) ++ List.replicate (6 - (lg_sl ([.ref q0, .ref pq_0, .ref pq_1, .int p_2])).length) Slot.unset).toArray = ls at hl ⊢
  have hl : lv_has ls 6 [(0, .ref q0), (1, .ref pq_0), (2, .ref pq_1), (3, .int p_2)] := hl
  refine lv_aload_n hx hb d_WM_hindrance_0 rfl (lv_at hl 0 rfl) ?_
  refine vp_callSi (va_Run.run (va_runV (As := []) (rest := []) ⟨hx, hb, hml, hown, htb⟩ (c_WM_today_t l dC dI ct L f hO_0 q0 m0) (cwV 0 htb (gd_V tw_180 tw_181 tw_182 tw_25 tw_179) rfl rfl rfl (by decide +kernel) ⟨Nat.le_of_ble_eq_true rfl, Nat.le_of_ble_eq_true rfl⟩) ⟨pr_blind, tw_recv hK hP m0 rfl rfl, pr_pre hP hK hN⟩ rfl rfl hl.1 rfl (lv_room (Nat.le_of_ble_eq_true rfl)) d_WM_hindrance_1 ⟨Nat.le_of_ble_eq_true rfl, Nat.le_of_ble_eq_true rfl⟩)) (fun r_1 er_1 => ?_)
  obtain ⟨po_2, po_3, -⟩ := er_1
  refine lv_istore (lv' := [(4, .int r_1), (0, .ref q0), (1, .ref pq_0), (2, .ref pq_1), (3, .int p_2)]) hx hb d_WM_hindrance_4 hl (by decide) rfl (fun ls hl => ?_)
  refine lv_aload_n hx hb d_WM_hindrance_6 rfl (lv_at hl 1 rfl) ?_
  refine tw_getr (D := (dC, dI)) (C := R_WM) (T := F_WM) (N := 13) (ci := 0) (kd := 0) (ct := ct) hx hb htb i_WM hown hK hP hO_0 m0 rfl rfl 0 (by decide) (htb (.fieldLink R_WM 12 "WaterMen" "river" "LWaterMen$River;") tw_154) (fun _ h9 => h9) rfl d_WM_hindrance_7 (fun q_4 e_4 m_4 => ?_)
  refine lv_iload hx hb d_WM_hindrance_10 (lv_at hl 0 rfl) ?_
  refine vp_callSi (va_Run.run (va_runV (As := [.int r_1]) (rest := []) ⟨hx, hb, hml, hown, htb⟩ (c_Rv_isFrozen_t l dC dI ct L f hO_0 q_4 m_4 r_1) (cwV 1 htb (gd_V tw_184 tw_185 tw_186 tw_45 tw_183) rfl rfl rfl (by decide +kernel) ⟨Nat.le_of_ble_eq_true rfl, Nat.le_of_ble_eq_true rfl⟩) ⟨pr_blind, tw_recv hK hP m_4 rfl rfl, pr_pre hP hK hN⟩ rfl rfl hl.1 rfl (lv_room (Nat.le_of_ble_eq_true rfl)) d_WM_hindrance_12 ⟨Nat.le_of_ble_eq_true rfl, Nat.le_of_ble_eq_true rfl⟩)) (fun r_5 er_5 => ?_)
  rcases er_5 with ⟨rfl, -⟩ | ⟨rfl, -⟩
  · refine lv_if_eq (tgt := 20) hx hb d_WM_hindrance_15 (by decide) (fun _ => ?_) (fun h => absurd (by decide +kernel) h)
    refine lv_aload_n hx hb d_WM_hindrance_20 rfl (lv_at hl 2 rfl) ?_
    refine lv_aload_n hx hb d_WM_hindrance_21 rfl (lv_at hl 1 rfl) ?_
    refine tw_geti (D := (dC, dI)) (C := R_WM) (T := F_WM) (N := 13) (ci := 0) (kd := 0) (ct := ct) hx hb htb i_WM hown hK hP hO_0 m0 rfl rfl 10 (by decide) (htb (.fieldLink R_WM 155 "WaterMen" "now" "I") tw_178) (fun _ h9 => h9) rfl d_WM_hindrance_22 (fun x_6 e_6 b_6 => ?_)
    refine vp_callSi (va_Run.run (va_runV (As := [.int x_6]) (rest := []) ⟨hx, hb, hml, hown, htb⟩ (c_Bt_stateAt_t l dC dI ct L f hO_0 pq_0 pm_0 x_6) (cwV 1 htb (gd_V tw_263 tw_264 tw_265 tw_246 tw_262) rfl rfl rfl (by decide +kernel) ⟨Nat.le_of_ble_eq_true rfl, Nat.le_of_ble_eq_true rfl⟩) ⟨pr_blind, tw_recv hK hP pm_0 rfl rfl, pr_pre hP hK hN⟩ rfl rfl hl.1 rfl (lv_room (Nat.le_of_ble_eq_true rfl)) d_WM_hindrance_25 ⟨Nat.le_of_ble_eq_true rfl, Nat.le_of_ble_eq_true rfl⟩)) (fun r_7 er_7 => ?_)
    clear er_7
    refine lv_iconst (v := 1) hx hb d_WM_hindrance_28 (by decide +kernel) ?_
    refine lv_icmp_ne (tgt := 34) hx hb d_WM_hindrance_29 (by decide) (fun c_8 => ?_) (fun c_8 => ?_)
    · refine lv_aload_n hx hb d_WM_hindrance_34 rfl (lv_at hl 3 rfl) ?_
      refine tw_geti (D := (dC, dI)) (C := R_Mn) (T := F_Mn) (N := 8) (ci := 2) (kd := 20) (ct := ct) hx hb htb i_Mn hown hK hP hO_0 pm_1 rfl rfl 0 (by decide) (htb (.fieldLink R_WM 111 "WaterMen$Man" "state" "I") tw_193) (fun _ h9 => h9) rfl d_WM_hindrance_35 (fun x_9 e_9 b_9 => ?_)
      refine lv_iconst (v := 2) hx hb d_WM_hindrance_38 (by decide +kernel) ?_
      refine lv_icmp_ne (tgt := 53) hx hb d_WM_hindrance_39 (by decide) (fun c_10 => ?_) (fun c_10 => ?_)
      · refine lv_iconst (v := 3) hx hb d_WM_hindrance_53 (by decide +kernel) ?_
        exact W.iret (v := 3) hx hb hr (fun t ht hW => ⟨3, rfl, trivial, ht⟩) t_nil d_WM_hindrance_54
      · refine lv_aload_n hx hb d_WM_hindrance_42 rfl (lv_at hl 3 rfl) ?_
        refine lv_aload_n hx hb d_WM_hindrance_43 rfl (lv_at hl 1 rfl) ?_
        refine tw_getI (x := x_6) (D := (dC, dI)) (C := R_WM) (T := F_WM) (N := 13) (ci := 0) (kd := 0) (ct := ct) hx hb htb i_WM hown hK hP m0 rfl rfl 10 e_6 (by decide) (htb (.fieldLink R_WM 155 "WaterMen" "now" "I") tw_178) (fun _ h9 => h9) rfl d_WM_hindrance_44 ?_
        refine vp_callSi (va_Run.run (va_runV (As := [.int x_6]) (rest := []) ⟨hx, hb, hml, hown, htb⟩ (c_Mn_isOnWay_t l dC dI ct L f hO_0 pq_1 pm_1 x_6) (cwV 1 htb (gd_V tw_231 tw_232 tw_233 tw_230 tw_229) rfl rfl rfl (by decide +kernel) ⟨Nat.le_of_ble_eq_true rfl, Nat.le_of_ble_eq_true rfl⟩) ⟨pr_blind, tw_recv hK hP pm_1 rfl rfl, pr_pre hP hK hN⟩ rfl rfl hl.1 rfl (lv_room (Nat.le_of_ble_eq_true rfl)) d_WM_hindrance_47 ⟨Nat.le_of_ble_eq_true rfl, Nat.le_of_ble_eq_true rfl⟩)) (fun r_11 er_11 => ?_)
        rcases er_11 with ⟨rfl, -⟩ | ⟨rfl, -⟩
        · refine lv_if_eq (tgt := 55) hx hb d_WM_hindrance_50 (by decide) (fun _ => ?_) (fun h => absurd (by decide +kernel) h)
          refine lv_aload_n hx hb d_WM_hindrance_55 rfl (lv_at hl 1 rfl) ?_
          refine lv_aload_n hx hb d_WM_hindrance_56 rfl (lv_at hl 3 rfl) ?_
          refine lv_aload_n hx hb d_WM_hindrance_57 rfl (lv_at hl 2 rfl) ?_
          refine tw_geti (D := (dC, dI)) (C := R_Bt) (T := F_Bt) (N := 6) (ci := 9) (kd := 24) (ct := ct) hx hb htb i_Bt hown hK hP hO_0 pm_0 rfl rfl 1 (by decide) (htb (.fieldLink R_WM 178 "WaterMen$Boat" "stairs" "I") tw_259) (fun _ h9 => h9) rfl d_WM_hindrance_58 (fun x_12 e_12 b_12 => ?_)
          refine vp_callSi (va_Run.run (va_runV (As := [.ref pq_1, .int x_12]) (rest := []) ⟨hx, hb, hml, hown, htb⟩ (c_WM_mustWait_t l dC dI ct L f hO_0 q0 m0 pq_1 pm_1 x_12) (cwV 2 htb (gd_V tw_357 tw_358 tw_359 tw_25 tw_356) rfl rfl rfl (by decide +kernel) ⟨Nat.le_of_ble_eq_true rfl, Nat.le_of_ble_eq_true rfl⟩) ⟨pr_blind, tw_recv hK hP m0 rfl rfl, pr_pre hP hK hN⟩ rfl rfl hl.1 rfl (lv_room (Nat.le_of_ble_eq_true rfl)) d_WM_hindrance_61 ⟨Nat.le_of_ble_eq_true rfl, Nat.le_of_ble_eq_true rfl⟩)) (fun r_13 er_13 => ?_)
          rcases er_13 with ⟨rfl, -⟩ | ⟨rfl, -⟩
          · refine lv_if_eq (tgt := 69) hx hb d_WM_hindrance_64 (by decide) (fun _ => ?_) (fun h => absurd (by decide +kernel) h)
            refine lv_aload_n hx hb d_WM_hindrance_69 rfl (lv_at hl 1 rfl) ?_
            refine lv_aload_n hx hb d_WM_hindrance_70 rfl (lv_at hl 1 rfl) ?_
            refine lv_iload hx hb d_WM_hindrance_71 (lv_at hl 0 rfl) ?_
            refine lv_iload hx hb d_WM_hindrance_73 (lv_at hl 0 rfl) ?_
            refine vp_callSi (va_Run.run (va_runV (As := [.int r_1, .int r_1]) (rest := [.ref q0]) ⟨hx, hb, hml, hown, htb⟩ (c_WM_numberInForce_t l dC dI ct L f hO_0 q0 m0 r_1 r_1) (cwV 2 htb (gd_V tw_328 tw_329 tw_330 tw_25 tw_327) rfl rfl rfl (by decide +kernel) ⟨Nat.le_of_ble_eq_true rfl, Nat.le_of_ble_eq_true rfl⟩) ⟨pr_blind, tw_recv hK hP m0 rfl rfl, pr_pre hP hK hN⟩ rfl rfl hl.1 rfl (lv_room (Nat.le_of_ble_eq_true rfl)) d_WM_hindrance_75 ⟨Nat.le_of_ble_eq_true rfl, Nat.le_of_ble_eq_true rfl⟩)) (fun r_14 er_14 => ?_)
            clear er_14
            refine va_csq (va_Run.run (va_runV (As := [.int r_14]) (rest := []) ⟨hx, hb, hml, hown, htb⟩ (c_WM_orderAt_t l dC dI ct L f hO_0 q0 m0 r_14) (cwV 1 htb (gd_V tw_324 tw_325 tw_326 tw_25 tw_323) rfl rfl rfl (by decide +kernel) ⟨Nat.le_of_ble_eq_true rfl, Nat.le_of_ble_eq_true rfl⟩) ⟨pr_blind, tw_recv hK hP m0 rfl rfl, pr_pre hP hK hN⟩ rfl rfl hl.1 rfl (lv_room (Nat.le_of_ble_eq_true rfl)) d_WM_hindrance_78 ⟨Nat.le_of_ble_eq_true rfl, Nat.le_of_ble_eq_true rfl⟩)) (fun r_15 er_15 => ?_)
            rcases er_15 with rfl | ⟨q_15, rfl, m_15⟩
            · refine hb_tv .null rfl ?_
              refine lv_astoreN (lv' := [(5, .null), (4, .int r_1), (0, .ref q0), (1, .ref pq_0), (2, .ref pq_1), (3, .int p_2)]) hx hb d_WM_hindrance_81 hl (by decide) rfl (fun ls hl => ?_)
              refine lv_aloadN hx hb d_WM_hindrance_83 (lv_at hl 0 rfl) ?_
              refine lv_ifnullN (tgt := 114) hx hb d_WM_hindrance_85 (by decide) ?_
              refine lv_iconst (v := 5) hx hb d_WM_hindrance_114 (by decide +kernel) ?_
              exact W.iret (v := 5) hx hb hr (fun t ht hW => ⟨5, rfl, trivial, ht⟩) t_nil d_WM_hindrance_115
            · refine hb_tv (.ref q_15) rfl ?_
              refine lv_astore (lv' := [(5, .ref q_15), (4, .int r_1), (0, .ref q0), (1, .ref pq_0), (2, .ref pq_1), (3, .int p_2)]) hx hb d_WM_hindrance_81 hl (by decide) rfl (fun ls hl => ?_)
              refine lv_aload hx hb d_WM_hindrance_83 (lv_at hl 0 rfl) ?_
              refine lv_ifnull hx hb d_WM_hindrance_85 ?_
              refine lv_aload_n hx hb d_WM_hindrance_88 rfl (lv_at hl 2 rfl) ?_
              refine lv_aload hx hb d_WM_hindrance_89 (lv_at hl 0 rfl) ?_
              refine lv_aload_n hx hb d_WM_hindrance_91 rfl (lv_at hl 3 rfl) ?_
              refine tw_getI (x := x_12) (D := (dC, dI)) (C := R_Bt) (T := F_Bt) (N := 6) (ci := 9) (kd := 24) (ct := ct) hx hb htb i_Bt hown hK hP pm_0 rfl rfl 1 e_12 (by decide) (htb (.fieldLink R_WM 178 "WaterMen$Boat" "stairs" "I") tw_259) (fun _ h9 => h9) rfl d_WM_hindrance_92 ?_
              refine lv_iload_n hx hb d_WM_hindrance_95 rfl (lv_at hl 5 rfl) ?_
              refine lv_aload_n hx hb d_WM_hindrance_96 rfl (lv_at hl 2 rfl) ?_
              refine tw_getI (x := x_6) (D := (dC, dI)) (C := R_WM) (T := F_WM) (N := 13) (ci := 0) (kd := 0) (ct := ct) hx hb htb i_WM hown hK hP m0 rfl rfl 10 e_6 (by decide) (htb (.fieldLink R_WM 155 "WaterMen" "now" "I") tw_178) (fun _ h9 => h9) rfl d_WM_hindrance_97 ?_
              refine lv_bipush (v := 60) hx hb d_WM_hindrance_100 (by decide +kernel) ?_
              refine lv_idiv hx hb d_WM_hindrance_102 (by decide) ?_
              refine hb_divn (U := 359999) (Qm := 5999) (c := 60) (C1 := 59) (K := 2147483587) (by decide +kernel) (by decide +kernel) (by decide +kernel) b_6.1 (show ¬ (2147483587 < x_6) from by have e0 := b_6.1; rw [Int32.lt_iff_toInt_lt] at e0; have e1 := b_6.2; rw [Int32.lt_iff_toInt_lt] at e1; have z0 : (0 : Int32).toInt = 0 := (by decide +kernel); have z1 : (359999 : Int32).toInt = 359999 := (by decide +kernel); have z2 : (2147483587 : Int32).toInt = 2147483587 := (by decide +kernel); rw [Int32.lt_iff_toInt_lt]; omega) b_6.2 (by decide +kernel) (fun y_16 g1_16 g2_16 g3_16 g4_16 g5_16 g9_16 => ?_)
              refine lv_aload_n hx hb d_WM_hindrance_103 rfl (lv_at hl 3 rfl) ?_
              refine tw_geti (D := (dC, dI)) (C := R_Bt) (T := F_Bt) (N := 6) (ci := 9) (kd := 24) (ct := ct) hx hb htb i_Bt hown hK hP hO_0 pm_0 rfl rfl 0 (by decide) (htb (.fieldLink R_WM 181 "WaterMen$Boat" "oars" "I") tw_260) (fun _ h9 => h9) rfl d_WM_hindrance_104 (fun x_17 e_17 b_17 => ?_)
              refine vp_callSi (va_Run.run (va_runV (As := [.ref q_15, .int x_12, .int p_2, .int y_16, .int x_17]) (rest := []) ⟨hx, hb, hml, hown, htb⟩ (c_WM_priceOf_t l dC dI ct L f hO_0 q0 m0 q_15 m_15 x_12 p_2 y_16 x_17 b_12.1 b_12.2 as_0 as_1 g1_16 g5_16) (cwV 5 htb (gd_V tw_344 tw_345 tw_346 tw_25 tw_343) rfl rfl rfl (by decide +kernel) ⟨Nat.le_of_ble_eq_true rfl, Nat.le_of_ble_eq_true rfl⟩) ⟨pr_blind, tw_recv hK hP m0 rfl rfl, pr_pre hP hK hN⟩ rfl rfl hl.1 rfl (lv_room (Nat.le_of_ble_eq_true rfl)) d_WM_hindrance_107 ⟨Nat.le_of_ble_eq_true rfl, Nat.le_of_ble_eq_true rfl⟩)) (fun r_18 er_18 => ?_)
              clear er_18
              refine lv_iconst (v := (-1)) hx hb d_WM_hindrance_110 (by decide +kernel) ?_
              refine lv_icmp_ne (tgt := 116) hx hb d_WM_hindrance_111 (by decide) (fun c_19 => ?_) (fun c_19 => ?_)
              · refine lv_aload_n hx hb d_WM_hindrance_116 rfl (lv_at hl 2 rfl) ?_
                refine tw_getR (D := (dC, dI)) (C := R_WM) (T := F_WM) (N := 13) (ci := 0) (kd := 0) (ct := ct) hx hb htb i_WM hown hK hP m0 rfl rfl 0 e_4 (by decide) (htb (.fieldLink R_WM 12 "WaterMen" "river" "LWaterMen$River;") tw_154) (fun _ h9 => h9) rfl d_WM_hindrance_117 ?_
                refine hb_tv (.ref q_4) rfl ?_
                refine lv_aload_n hx hb d_WM_hindrance_120 rfl (lv_at hl 3 rfl) ?_
                refine tw_getI (x := x_12) (D := (dC, dI)) (C := R_Bt) (T := F_Bt) (N := 6) (ci := 9) (kd := 24) (ct := ct) hx hb htb i_Bt hown hK hP pm_0 rfl rfl 1 e_12 (by decide) (htb (.fieldLink R_WM 178 "WaterMen$Boat" "stairs" "I") tw_259) (fun _ h9 => h9) rfl d_WM_hindrance_121 ?_
                refine lv_iload_n hx hb d_WM_hindrance_124 rfl (lv_at hl 5 rfl) ?_
                refine vp_callSi (va_Run.run (va_runV (As := [.int x_12, .int p_2]) (rest := []) ⟨hx, hb, hml, hown, htb⟩ (c_Rv_passesBridge_t l dC dI ct L f hO_0 q_4 m_4 x_12 p_2) (cwV 2 htb (gd_V tw_361 tw_362 tw_363 tw_45 tw_360) rfl rfl rfl (by decide +kernel) ⟨Nat.le_of_ble_eq_true rfl, Nat.le_of_ble_eq_true rfl⟩) ⟨pr_blind, tw_recv hK hP m_4 rfl rfl, pr_pre hP hK hN⟩ rfl rfl hl.1 rfl (lv_room (Nat.le_of_ble_eq_true rfl)) d_WM_hindrance_125 ⟨Nat.le_of_ble_eq_true rfl, Nat.le_of_ble_eq_true rfl⟩)) (fun r_20 er_20 => ?_)
                rcases er_20 with ⟨rfl, -⟩ | ⟨rfl, -⟩
                · refine lv_if_eq (tgt := 159) hx hb d_WM_hindrance_128 (by decide) (fun _ => ?_) (fun h => absurd (by decide +kernel) h)
                  refine lv_aload_n hx hb d_WM_hindrance_159 rfl (lv_at hl 2 rfl) ?_
                  refine lv_aload_n hx hb d_WM_hindrance_160 rfl (lv_at hl 3 rfl) ?_
                  refine lv_iload_n hx hb d_WM_hindrance_161 rfl (lv_at hl 5 rfl) ?_
                  refine vp_callSi (va_Run.run (va_runV (As := [.ref pq_0, .int p_2]) (rest := []) ⟨hx, hb, hml, hown, htb⟩ (c_WM_minutesOfWay_t l dC dI ct L f hO_0 q0 m0 pq_0 pm_0 p_2 as_0 as_1) (cwV 2 htb (gd_V tw_370 tw_371 tw_372 tw_25 tw_369) rfl rfl rfl (by decide +kernel) ⟨Nat.le_of_ble_eq_true rfl, Nat.le_of_ble_eq_true rfl⟩) ⟨pr_blind, tw_recv hK hP m0 rfl rfl, pr_pre hP hK hN⟩ rfl rfl hl.1 rfl (lv_room (Nat.le_of_ble_eq_true rfl)) d_WM_hindrance_162 ⟨Nat.le_of_ble_eq_true rfl, Nat.le_of_ble_eq_true rfl⟩)) (fun r_21 er_21 => ?_)
                  clear er_21
                  refine lv_ldcw (v := 359999) hx hb hown (htb (.constant R_WM 270 359999) tw_373) d_WM_hindrance_165 ?_
                  refine lv_aload_n hx hb d_WM_hindrance_168 rfl (lv_at hl 2 rfl) ?_
                  refine tw_getI (x := x_6) (D := (dC, dI)) (C := R_WM) (T := F_WM) (N := 13) (ci := 0) (kd := 0) (ct := ct) hx hb htb i_WM hown hK hP m0 rfl rfl 10 e_6 (by decide) (htb (.fieldLink R_WM 155 "WaterMen" "now" "I") tw_178) (fun _ h9 => h9) rfl d_WM_hindrance_169 ?_
                  refine lv_isub hx hb d_WM_hindrance_172 ?_
                  refine lv_icmp_le (tgt := 181) hx hb d_WM_hindrance_173 (by decide) (fun c_22 => ?_) (fun c_22 => ?_)
                  · refine lv_iconst (v := 0) hx hb d_WM_hindrance_181 (by decide +kernel) ?_
                    exact W.iret (v := 0) hx hb hr (fun t ht hW => ⟨0, rfl, trivial, ht⟩) t_nil d_WM_hindrance_182
                  · refine lv_bipush (v := 7) hx hb d_WM_hindrance_176 (by decide +kernel) ?_
                    refine lv_goto (tgt := 182) hx hb d_WM_hindrance_178 (by decide) ?_
                    exact W.iret (v := 7) hx hb hr (fun t ht hW => ⟨7, rfl, trivial, ht⟩) t_nil d_WM_hindrance_182
                · refine lv_if_eq (tgt := 159) hx hb d_WM_hindrance_128 (by decide) (fun h => absurd h (by decide +kernel)) (fun _ => ?_)
                  refine lv_aload hx hb d_WM_hindrance_131 (lv_at hl 0 rfl) ?_
                  refine lv_aload_n hx hb d_WM_hindrance_133 rfl (lv_at hl 2 rfl) ?_
                  refine vp_callSi (va_Run.run (va_runV (As := []) (rest := [.ref q_15]) ⟨hx, hb, hml, hown, htb⟩ (c_WM_hourNow_t l dC dI ct L f hO_0 q0 m0) (cwV 0 htb (gd_V tw_365 tw_366 tw_367 tw_25 tw_364) rfl rfl rfl (by decide +kernel) ⟨Nat.le_of_ble_eq_true rfl, Nat.le_of_ble_eq_true rfl⟩) ⟨pr_blind, tw_recv hK hP m0 rfl rfl, pr_pre hP hK hN⟩ rfl rfl hl.1 rfl (lv_room (Nat.le_of_ble_eq_true rfl)) d_WM_hindrance_134 ⟨Nat.le_of_ble_eq_true rfl, Nat.le_of_ble_eq_true rfl⟩)) (fun r_23 er_23 => ?_)
                  obtain ⟨po_24, po_25, -⟩ := er_23
                  refine lv_aload_n hx hb d_WM_hindrance_137 rfl (lv_at hl 2 rfl) ?_
                  refine tw_getR (D := (dC, dI)) (C := R_WM) (T := F_WM) (N := 13) (ci := 0) (kd := 0) (ct := ct) hx hb htb i_WM hown hK hP m0 rfl rfl 0 e_4 (by decide) (htb (.fieldLink R_WM 12 "WaterMen" "river" "LWaterMen$River;") tw_154) (fun _ h9 => h9) rfl d_WM_hindrance_138 ?_
                  refine hb_tv (.ref q_4) rfl ?_
                  refine lv_iload hx hb d_WM_hindrance_141 (lv_at hl 1 rfl) ?_
                  refine lv_aload_n hx hb d_WM_hindrance_143 rfl (lv_at hl 2 rfl) ?_
                  refine vp_callSi (va_Run.run (va_runV (As := []) (rest := [.int r_1, .ref q_4, .int r_23, .ref q_15]) ⟨hx, hb, hml, hown, htb⟩ (c_WM_hourNow_t l dC dI ct L f hO_0 q0 m0) (cwV 0 htb (gd_V tw_365 tw_366 tw_367 tw_25 tw_364) rfl rfl rfl (by decide +kernel) ⟨Nat.le_of_ble_eq_true rfl, Nat.le_of_ble_eq_true rfl⟩) ⟨pr_blind, tw_recv hK hP m0 rfl rfl, pr_pre hP hK hN⟩ rfl rfl hl.1 rfl (lv_room (Nat.le_of_ble_eq_true rfl)) d_WM_hindrance_144 ⟨Nat.le_of_ble_eq_true rfl, Nat.le_of_ble_eq_true rfl⟩)) (fun r_26 er_26 => ?_)
                  obtain ⟨po_27, po_28, -⟩ := er_26
                  refine vp_callSi (va_Run.run (va_runV (As := [.int r_1, .int r_26]) (rest := [.int r_23, .ref q_15]) ⟨hx, hb, hml, hown, htb⟩ (c_Rv_flowIn_t l dC dI ct L f hO_0 q_4 m_4 r_1 r_26 po_2 po_3 po_27 po_28) (cwV 2 htb (gd_V tw_177 tw_51 tw_52 tw_45 tw_49) rfl rfl rfl (by decide +kernel) ⟨Nat.le_of_ble_eq_true rfl, Nat.le_of_ble_eq_true rfl⟩) ⟨pr_blind, tw_recv hK hP m_4 rfl rfl, pr_pre hP hK hN⟩ rfl rfl hl.1 rfl (lv_room (Nat.le_of_ble_eq_true rfl)) d_WM_hindrance_147 ⟨Nat.le_of_ble_eq_true rfl, Nat.le_of_ble_eq_true rfl⟩)) (fun r_29 er_29 => ?_)
                  clear er_29
                  refine vp_callSi (va_Run.run (va_runV (As := [.int r_23, .int r_29]) (rest := []) ⟨hx, hb, hml, hown, htb⟩ (c_Or_shutsBridge_t l dC dI ct L f hO_0 q_15 m_15 r_23 r_29) (cwV 2 htb (gd_V tw_375 tw_376 tw_377 tw_68 tw_374) rfl rfl rfl (by decide +kernel) ⟨Nat.le_of_ble_eq_true rfl, Nat.le_of_ble_eq_true rfl⟩) ⟨pr_blind, tw_recv hK hP m_15 rfl rfl, pr_pre hP hK hN⟩ rfl rfl hl.1 rfl (lv_room (Nat.le_of_ble_eq_true rfl)) d_WM_hindrance_150 ⟨Nat.le_of_ble_eq_true rfl, Nat.le_of_ble_eq_true rfl⟩)) (fun r_30 er_30 => ?_)
                  rcases er_30 with ⟨rfl, -⟩ | ⟨rfl, -⟩
                  · refine lv_if_eq (tgt := 159) hx hb d_WM_hindrance_153 (by decide) (fun _ => ?_) (fun h => absurd (by decide +kernel) h)
                    refine lv_aload_n hx hb d_WM_hindrance_159 rfl (lv_at hl 2 rfl) ?_
                    refine lv_aload_n hx hb d_WM_hindrance_160 rfl (lv_at hl 3 rfl) ?_
                    refine lv_iload_n hx hb d_WM_hindrance_161 rfl (lv_at hl 5 rfl) ?_
                    refine vp_callSi (va_Run.run (va_runV (As := [.ref pq_0, .int p_2]) (rest := []) ⟨hx, hb, hml, hown, htb⟩ (c_WM_minutesOfWay_t l dC dI ct L f hO_0 q0 m0 pq_0 pm_0 p_2 as_0 as_1) (cwV 2 htb (gd_V tw_370 tw_371 tw_372 tw_25 tw_369) rfl rfl rfl (by decide +kernel) ⟨Nat.le_of_ble_eq_true rfl, Nat.le_of_ble_eq_true rfl⟩) ⟨pr_blind, tw_recv hK hP m0 rfl rfl, pr_pre hP hK hN⟩ rfl rfl hl.1 rfl (lv_room (Nat.le_of_ble_eq_true rfl)) d_WM_hindrance_162 ⟨Nat.le_of_ble_eq_true rfl, Nat.le_of_ble_eq_true rfl⟩)) (fun r_31 er_31 => ?_)
                    clear er_31
                    refine lv_ldcw (v := 359999) hx hb hown (htb (.constant R_WM 270 359999) tw_373) d_WM_hindrance_165 ?_
                    refine lv_aload_n hx hb d_WM_hindrance_168 rfl (lv_at hl 2 rfl) ?_
                    refine tw_getI (x := x_6) (D := (dC, dI)) (C := R_WM) (T := F_WM) (N := 13) (ci := 0) (kd := 0) (ct := ct) hx hb htb i_WM hown hK hP m0 rfl rfl 10 e_6 (by decide) (htb (.fieldLink R_WM 155 "WaterMen" "now" "I") tw_178) (fun _ h9 => h9) rfl d_WM_hindrance_169 ?_
                    refine lv_isub hx hb d_WM_hindrance_172 ?_
                    refine lv_icmp_le (tgt := 181) hx hb d_WM_hindrance_173 (by decide) (fun c_32 => ?_) (fun c_32 => ?_)
                    · refine lv_iconst (v := 0) hx hb d_WM_hindrance_181 (by decide +kernel) ?_
                      exact W.iret (v := 0) hx hb hr (fun t ht hW => ⟨0, rfl, trivial, ht⟩) t_nil d_WM_hindrance_182
                    · refine lv_bipush (v := 7) hx hb d_WM_hindrance_176 (by decide +kernel) ?_
                      refine lv_goto (tgt := 182) hx hb d_WM_hindrance_178 (by decide) ?_
                      exact W.iret (v := 7) hx hb hr (fun t ht hW => ⟨7, rfl, trivial, ht⟩) t_nil d_WM_hindrance_182
                  · refine lv_if_eq (tgt := 159) hx hb d_WM_hindrance_153 (by decide) (fun h => absurd h (by decide +kernel)) (fun _ => ?_)
                    refine lv_bipush (v := 6) hx hb d_WM_hindrance_156 (by decide +kernel) ?_
                    exact W.iret (v := 6) hx hb hr (fun t ht hW => ⟨6, rfl, trivial, ht⟩) t_nil d_WM_hindrance_158
              · refine lv_iconst (v := 5) hx hb d_WM_hindrance_114 (by decide +kernel) ?_
                exact W.iret (v := 5) hx hb hr (fun t ht hW => ⟨5, rfl, trivial, ht⟩) t_nil d_WM_hindrance_115
          · refine lv_if_eq (tgt := 69) hx hb d_WM_hindrance_64 (by decide) (fun h => absurd h (by decide +kernel)) (fun _ => ?_)
            refine lv_iconst (v := 4) hx hb d_WM_hindrance_67 (by decide +kernel) ?_
            exact W.iret (v := 4) hx hb hr (fun t ht hW => ⟨4, rfl, trivial, ht⟩) t_nil d_WM_hindrance_68
        · refine lv_if_eq (tgt := 55) hx hb d_WM_hindrance_50 (by decide) (fun h => absurd h (by decide +kernel)) (fun _ => ?_)
          refine lv_iconst (v := 3) hx hb d_WM_hindrance_53 (by decide +kernel) ?_
          exact W.iret (v := 3) hx hb hr (fun t ht hW => ⟨3, rfl, trivial, ht⟩) t_nil d_WM_hindrance_54
    · refine lv_iconst (v := 2) hx hb d_WM_hindrance_32 (by decide +kernel) ?_
      exact W.iret (v := 2) hx hb hr (fun t ht hW => ⟨2, rfl, trivial, ht⟩) t_nil d_WM_hindrance_33
  · refine lv_if_eq (tgt := 20) hx hb d_WM_hindrance_15 (by decide) (fun h => absurd h (by decide +kernel)) (fun _ => ?_)
    refine lv_iconst (v := 1) hx hb d_WM_hindrance_18 (by decide +kernel) ?_
    exact W.iret (v := 1) hx hb hr (fun t ht hW => ⟨1, rfl, trivial, ht⟩) t_nil d_WM_hindrance_19
