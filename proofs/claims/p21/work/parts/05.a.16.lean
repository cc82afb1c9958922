set_option maxHeartbeats 4000000 in
set_option maxRecDepth 100000 in
theorem c_WM_trip_t (l : Launch) (dC : Nat → ClassId) (dI : Nat → Nat → Nat) (ct : Nat → ClassId) (L : List Nat) (f : TF) (hO_0 : Ok L f) (q0 : Nat) (m0 : q0 ∈ L ∧ tk f q0 = 0) (p_0 : Int32) (p_1 : Int32)   : Met l y_WM_trip (.code y_WM_trip b_WM_trip 4 (some .int) :: TB) ({ frames := 1, cells := 0, slots := 0, locals := 21 }) (va_Pc [.ref q0, .int p_0, .int p_1] (PR dC dI (TW ct L f) (TT ct))) (vp_Si (fun r => True)) 0 0 (fun _ => False) := by
  refine Met.ofW (cc := b_WM_trip) (maxL := 4) (ret := (some .int)) (by decide) rfl ?_
  intro p e s m args below meth c s₁ B hml hv
  obtain ⟨rfl, hP, hK, hN⟩ := hv
  have hx := B.exec
  have hb := B.bytes
  have hr := B.returns
  have hts := atoms_spec (ws := (.code y_WM_trip b_WM_trip 4 (some .int) :: TB)) B.pre
  have htb := fun w (h : w ∈ TB) => hts w (List.mem_cons_of_mem _ h)
  have hown : s.vm.findClass R_WM = some m.cls := findClass_of_methodNamed B.named
  have hlocks := B.notSynchronized
  have hl := lv_entry ([.ref q0, .int p_0, .int p_1]) (n := 4) (Nat.le_of_ble_eq_true rfl)
  rw [lg_entry_eq]
  generalize (lg_sl ([.ref q0, .int p_0, .int p_1]) ++ List.replicate (4 - (lg_sl ([.ref q0, .int p_0, .int p_1])).length) Slot.unset).toArray = ls at hl ⊢
  have hl : lv_has ls 4 [(0, .ref q0), (1, .int p_0), (2, .int p_1)] := hl
  refine lv_aload_n hx hb d_WM_trip_0 rfl (lv_at hl 0 rfl) ?_
  refine lv_iload_n hx hb d_WM_trip_1 rfl (lv_at hl 1 rfl) ?_
  refine va_csq (va_Run.run (va_runV (As := [.int p_0]) (rest := []) ⟨hx, hb, hml, hown, htb⟩ (c_WM_tripAt_t l dC dI ct L f hO_0 q0 m0 p_0) (cwV 1 htb (gd_V tw_438 tw_439 tw_440 tw_25 tw_437) rfl rfl rfl (by decide +kernel) ⟨Nat.le_of_ble_eq_true rfl, Nat.le_of_ble_eq_true rfl⟩) ⟨pr_blind, tw_recv hK hP m0 rfl rfl, pr_pre hP hK hN⟩ rfl rfl hl.1 rfl (lv_room (Nat.le_of_ble_eq_true rfl)) d_WM_trip_2 ⟨Nat.le_of_ble_eq_true rfl, Nat.le_of_ble_eq_true rfl⟩)) (fun r_1 er_1 => ?_)
  rcases er_1 with rfl | ⟨q_1, rfl, m_1⟩
  · refine hb_tv .null rfl ?_
    refine lv_astore_nN (lv' := [(3, .null), (0, .ref q0), (1, .int p_0), (2, .int p_1)]) hx hb d_WM_trip_5 rfl hl (by decide) rfl (fun ls hl => ?_)
    refine lv_aload_nN hx hb d_WM_trip_6 rfl (lv_at hl 0 rfl) ?_
    refine lv_ifnonnullN hx hb d_WM_trip_7 ?_
    refine lv_bipush (v := (-2)) hx hb d_WM_trip_10 (by decide +kernel) ?_
    exact W.iret (v := (-2)) hx hb hr (fun t ht hW => ⟨(-2), rfl, trivial, ht⟩) t_nil d_WM_trip_12
  · refine hb_tv (.ref q_1) rfl ?_
    refine lv_astore_n (lv' := [(3, .ref q_1), (0, .ref q0), (1, .int p_0), (2, .int p_1)]) hx hb d_WM_trip_5 rfl hl (by decide) rfl (fun ls hl => ?_)
    refine lv_aload_n hx hb d_WM_trip_6 rfl (lv_at hl 0 rfl) ?_
    refine lv_ifnonnull (tgt := 13) hx hb d_WM_trip_7 (by decide) ?_
    refine lv_iload_n hx hb d_WM_trip_13 rfl (lv_at hl 3 rfl) ?_
    by_cases c_2 : p_1 = 0
    · refine lv_tableIn (off := 46) (tgt := 60) hx hb d_WM_trip_14 (by rw [c_2]; decide +kernel) (by rw [c_2]; decide +kernel) (by rw [c_2]; decide +kernel) (by decide) ?_
      refine lv_aload_n hx hb d_WM_trip_60 rfl (lv_at hl 0 rfl) ?_
      refine tw_geti (D := (dC, dI)) (C := R_Tr) (T := F_Tr) (N := 8) (ci := 10) (kd := 25) (ct := ct) hx hb htb i_Tr hown hK hP hO_0 m_1 rfl rfl 0 (by decide) (htb (.fieldLink R_WM 303 "WaterMen$Trip" "boat" "I") tw_446) (fun _ h9 => h9) rfl d_WM_trip_61 (fun x_3 e_3 b_3 => ?_)
      exact W.iret (v := x_3) hx hb hr (fun t ht hW => ⟨x_3, rfl, trivial, ht⟩) t_nil d_WM_trip_64
    · by_cases c_4 : p_1 = 1
      · refine lv_tableIn (off := 51) (tgt := 65) hx hb d_WM_trip_14 (by rw [c_4]; decide +kernel) (by rw [c_4]; decide +kernel) (by rw [c_4]; decide +kernel) (by decide) ?_
        refine lv_aload_n hx hb d_WM_trip_65 rfl (lv_at hl 0 rfl) ?_
        refine tw_geti (D := (dC, dI)) (C := R_Tr) (T := F_Tr) (N := 8) (ci := 10) (kd := 25) (ct := ct) hx hb htb i_Tr hown hK hP hO_0 m_1 rfl rfl 1 (by decide) (htb (.fieldLink R_WM 306 "WaterMen$Trip" "man" "I") tw_447) (fun _ h9 => h9) rfl d_WM_trip_66 (fun x_5 e_5 b_5 => ?_)
        exact W.iret (v := x_5) hx hb hr (fun t ht hW => ⟨x_5, rfl, trivial, ht⟩) t_nil d_WM_trip_69
      · by_cases c_6 : p_1 = 2
        · refine lv_tableIn (off := 56) (tgt := 70) hx hb d_WM_trip_14 (by rw [c_6]; decide +kernel) (by rw [c_6]; decide +kernel) (by rw [c_6]; decide +kernel) (by decide) ?_
          refine lv_aload_n hx hb d_WM_trip_70 rfl (lv_at hl 0 rfl) ?_
          refine tw_geti (D := (dC, dI)) (C := R_Tr) (T := F_Tr) (N := 8) (ci := 10) (kd := 25) (ct := ct) hx hb htb i_Tr hown hK hP hO_0 m_1 rfl rfl 4 (by decide) (htb (.fieldLink R_WM 247 "WaterMen$Trip" "from" "I") tw_395) (fun _ h9 => h9) rfl d_WM_trip_71 (fun x_7 e_7 b_7 => ?_)
          exact W.iret (v := x_7) hx hb hr (fun t ht hW => ⟨x_7, rfl, trivial, ht⟩) t_nil d_WM_trip_74
        · by_cases c_8 : p_1 = 3
          · refine lv_tableIn (off := 61) (tgt := 75) hx hb d_WM_trip_14 (by rw [c_8]; decide +kernel) (by rw [c_8]; decide +kernel) (by rw [c_8]; decide +kernel) (by decide) ?_
            refine lv_aload_n hx hb d_WM_trip_75 rfl (lv_at hl 0 rfl) ?_
            refine tw_geti (D := (dC, dI)) (C := R_Tr) (T := F_Tr) (N := 8) (ci := 10) (kd := 25) (ct := ct) hx hb htb i_Tr hown hK hP hO_0 m_1 rfl rfl 5 (by decide) (htb (.fieldLink R_WM 250 "WaterMen$Trip" "to" "I") tw_396) (fun _ h9 => h9) rfl d_WM_trip_76 (fun x_9 e_9 b_9 => ?_)
            exact W.iret (v := x_9) hx hb hr (fun t ht hW => ⟨x_9, rfl, trivial, ht⟩) t_nil d_WM_trip_79
          · by_cases c_10 : p_1 = 4
            · refine lv_tableIn (off := 66) (tgt := 80) hx hb d_WM_trip_14 (by rw [c_10]; decide +kernel) (by rw [c_10]; decide +kernel) (by rw [c_10]; decide +kernel) (by decide) ?_
              refine lv_aload_n hx hb d_WM_trip_80 rfl (lv_at hl 0 rfl) ?_
              refine tw_geti (D := (dC, dI)) (C := R_Tr) (T := F_Tr) (N := 8) (ci := 10) (kd := 25) (ct := ct) hx hb htb i_Tr hown hK hP hO_0 m_1 rfl rfl 2 (by decide) (htb (.fieldLink R_WM 309 "WaterMen$Trip" "start" "I") tw_448) (fun _ h9 => h9) rfl d_WM_trip_81 (fun x_11 e_11 b_11 => ?_)
              exact W.iret (v := x_11) hx hb hr (fun t ht hW => ⟨x_11, rfl, trivial, ht⟩) t_nil d_WM_trip_84
            · by_cases c_12 : p_1 = 5
              · refine lv_tableIn (off := 71) (tgt := 85) hx hb d_WM_trip_14 (by rw [c_12]; decide +kernel) (by rw [c_12]; decide +kernel) (by rw [c_12]; decide +kernel) (by decide) ?_
                refine lv_aload_n hx hb d_WM_trip_85 rfl (lv_at hl 0 rfl) ?_
                refine tw_geti (D := (dC, dI)) (C := R_Tr) (T := F_Tr) (N := 8) (ci := 10) (kd := 25) (ct := ct) hx hb htb i_Tr hown hK hP hO_0 m_1 rfl rfl 6 (by decide) (htb (.fieldLink R_WM 257 "WaterMen$Trip" "arrival" "I") tw_397) (fun _ h9 => h9) rfl d_WM_trip_86 (fun x_13 e_13 b_13 => ?_)
                exact W.iret (v := x_13) hx hb hr (fun t ht hW => ⟨x_13, rfl, trivial, ht⟩) t_nil d_WM_trip_89
              · by_cases c_14 : p_1 = 6
                · refine lv_tableIn (off := 76) (tgt := 90) hx hb d_WM_trip_14 (by rw [c_14]; decide +kernel) (by rw [c_14]; decide +kernel) (by rw [c_14]; decide +kernel) (by decide) ?_
                  refine lv_aload_n hx hb d_WM_trip_90 rfl (lv_at hl 0 rfl) ?_
                  refine tw_geti (D := (dC, dI)) (C := R_Tr) (T := F_Tr) (N := 8) (ci := 10) (kd := 25) (ct := ct) hx hb htb i_Tr hown hK hP hO_0 m_1 rfl rfl 3 (by decide) (htb (.fieldLink R_WM 312 "WaterMen$Trip" "paid" "I") tw_449) (fun _ h9 => h9) rfl d_WM_trip_91 (fun x_15 e_15 b_15 => ?_)
                  exact W.iret (v := x_15) hx hb hr (fun t ht hW => ⟨x_15, rfl, trivial, ht⟩) t_nil d_WM_trip_94
                · by_cases c_16 : p_1 = 7
                  · refine lv_tableIn (off := 81) (tgt := 95) hx hb d_WM_trip_14 (by rw [c_16]; decide +kernel) (by rw [c_16]; decide +kernel) (by rw [c_16]; decide +kernel) (by decide) ?_
                    refine lv_aload_n hx hb d_WM_trip_95 rfl (lv_at hl 0 rfl) ?_
                    refine tw_geti (D := (dC, dI)) (C := R_Tr) (T := F_Tr) (N := 8) (ci := 10) (kd := 25) (ct := ct) hx hb htb i_Tr hown hK hP hO_0 m_1 rfl rfl 7 (by decide) (htb (.fieldLink R_WM 297 "WaterMen$Trip" "sank" "Z") tw_445) (fun _ h9 => h9) rfl d_WM_trip_96 (fun x_17 e_17 b_17 => ?_)
                    refine lv_if_eq (tgt := 106) hx hb d_WM_trip_99 (by decide) (fun c_18 => ?_) (fun c_18 => ?_)
                    · refine lv_iconst (v := 0) hx hb d_WM_trip_106 (by decide +kernel) ?_
                      exact W.iret (v := 0) hx hb hr (fun t ht hW => ⟨0, rfl, trivial, ht⟩) t_nil d_WM_trip_107
                    · refine lv_iconst (v := 1) hx hb d_WM_trip_102 (by decide +kernel) ?_
                      refine lv_goto (tgt := 107) hx hb d_WM_trip_103 (by decide) ?_
                      exact W.iret (v := 1) hx hb hr (fun t ht hW => ⟨1, rfl, trivial, ht⟩) t_nil d_WM_trip_107
                  · refine lv_tableOut (tgt := 108) hx hb d_WM_trip_14 (by have h0 := lv_neT c_2 (show (0 : Int32).toInt = 0 by decide +kernel); have h1 := lv_neT c_4 (show (1 : Int32).toInt = 1 by decide +kernel); have h2 := lv_neT c_6 (show (2 : Int32).toInt = 2 by decide +kernel); have h3 := lv_neT c_8 (show (3 : Int32).toInt = 3 by decide +kernel); have h4 := lv_neT c_10 (show (4 : Int32).toInt = 4 by decide +kernel); have h5 := lv_neT c_12 (show (5 : Int32).toInt = 5 by decide +kernel); have h6 := lv_neT c_14 (show (6 : Int32).toInt = 6 by decide +kernel); have h7 := lv_neT c_16 (show (7 : Int32).toInt = 7 by decide +kernel); omega) (by decide) ?_
                    refine lv_bipush (v := (-2)) hx hb d_WM_trip_108 (by decide +kernel) ?_
                    exact W.iret (v := (-2)) hx hb hr (fun t ht hW => ⟨(-2), rfl, trivial, ht⟩) t_nil d_WM_trip_110
set_option maxHeartbeats 4000000 in
set_option maxRecDepth 100000 in
theorem c_WM_dueOf_t (l : Launch) (dC : Nat → ClassId) (dI : Nat → Nat → Nat) (ct : Nat → ClassId) (L : List Nat) (f : TF) (hO_0 : Ok L f) (q0 : Nat) (m0 : q0 ∈ L ∧ tk f q0 = 0) (pq_0 : Nat) (pm_0 : pq_0 ∈ L ∧ tk f pq_0 = 25) (p_1 : Int32)   : Met l y_WM_dueOf (.code y_WM_dueOf b_WM_dueOf 5 (some .int) :: TB) ({ frames := 4, cells := 0, slots := 0, locals := 99 }) (va_Pc [.ref q0, .ref pq_0, .int p_1] (PR dC dI (TW ct L f) (TT ct))) (vp_Si (fun r => True)) 0 0 (fun _ => False) := by
  refine Met.ofW (cc := b_WM_dueOf) (maxL := 5) (ret := (some .int)) (by decide) rfl ?_
  intro p e s m args below meth c s₁ B hml hv
  obtain ⟨rfl, hP, hK, hN⟩ := hv
  have hx := B.exec
  have hb := B.bytes
  have hr := B.returns
  have hts := atoms_spec (ws := (.code y_WM_dueOf b_WM_dueOf 5 (some .int) :: TB)) B.pre
  have htb := fun w (h : w ∈ TB) => hts w (List.mem_cons_of_mem _ h)
  have hown : s.vm.findClass R_WM = some m.cls := findClass_of_methodNamed B.named
  have hlocks := B.notSynchronized
  have hl := lv_entry ([.ref q0, .ref pq_0, .int p_1]) (n := 5) (Nat.le_of_ble_eq_true rfl)
  rw [lg_entry_eq]
  generalize (lg_sl ([.ref q0, .ref pq_0, .int p_1]) ++ List.replicate (5 - (lg_sl ([.ref q0, .ref pq_0, .int p_1])).length) Slot.unset).toArray = ls at hl ⊢
  have hl : lv_has ls 5 [(0, .ref q0), (1, .ref pq_0), (2, .int p_1)] := hl
  refine lv_aload_n hx hb d_WM_dueOf_0 rfl (lv_at hl 0 rfl) ?_
  refine lv_aload_n hx hb d_WM_dueOf_1 rfl (lv_at hl 0 rfl) ?_
  refine lv_aload_n hx hb d_WM_dueOf_2 rfl (lv_at hl 1 rfl) ?_
  refine tw_geti (D := (dC, dI)) (C := R_Tr) (T := F_Tr) (N := 8) (ci := 10) (kd := 25) (ct := ct) hx hb htb i_Tr hown hK hP hO_0 pm_0 rfl rfl 2 (by decide) (htb (.fieldLink R_WM 309 "WaterMen$Trip" "start" "I") tw_448) (fun _ h9 => h9) rfl d_WM_dueOf_3 (fun x_1 e_1 b_1 => ?_)
  refine lv_sipush (v := 720) hx hb d_WM_dueOf_6 (by decide +kernel) ?_
  refine lv_idiv hx hb d_WM_dueOf_9 (by decide) ?_
  refine hb_divn (U := 359999) (Qm := 499) (c := 720) (C1 := 719) (K := 2147482927) (by decide +kernel) (by decide +kernel) (by decide +kernel) b_1.1 (show ¬ (2147482927 < x_1) from by have e0 := b_1.1; rw [Int32.lt_iff_toInt_lt] at e0; have e1 := b_1.2; rw [Int32.lt_iff_toInt_lt] at e1; have z0 : (0 : Int32).toInt = 0 := (by decide +kernel); have z1 : (359999 : Int32).toInt = 359999 := (by decide +kernel); have z2 : (2147482927 : Int32).toInt = 2147482927 := (by decide +kernel); rw [Int32.lt_iff_toInt_lt]; omega) b_1.2 (by decide +kernel) (fun y_2 g1_2 g2_2 g3_2 g4_2 g5_2 g9_2 => ?_)
  refine lv_iload_n hx hb d_WM_dueOf_10 rfl (lv_at hl 2 rfl) ?_
  refine vp_callSi (va_Run.run (va_runV (As := [.int y_2, .int p_1]) (rest := [.ref q0]) ⟨hx, hb, hml, hown, htb⟩ (c_WM_numberInForce_t l dC dI ct L f hO_0 q0 m0 y_2 p_1) (cwV 2 htb (gd_V tw_328 tw_329 tw_330 tw_25 tw_327) rfl rfl rfl (by decide +kernel) ⟨Nat.le_of_ble_eq_true rfl, Nat.le_of_ble_eq_true rfl⟩) ⟨pr_blind, tw_recv hK hP m0 rfl rfl, pr_pre hP hK hN⟩ rfl rfl hl.1 rfl (lv_room (Nat.le_of_ble_eq_true rfl)) d_WM_dueOf_11 ⟨Nat.le_of_ble_eq_true rfl, Nat.le_of_ble_eq_true rfl⟩)) (fun r_3 er_3 => ?_)
  clear er_3
  refine va_csq (va_Run.run (va_runV (As := [.int r_3]) (rest := []) ⟨hx, hb, hml, hown, htb⟩ (c_WM_orderAt_t l dC dI ct L f hO_0 q0 m0 r_3) (cwV 1 htb (gd_V tw_324 tw_325 tw_326 tw_25 tw_323) rfl rfl rfl (by decide +kernel) ⟨Nat.le_of_ble_eq_true rfl, Nat.le_of_ble_eq_true rfl⟩) ⟨pr_blind, tw_recv hK hP m0 rfl rfl, pr_pre hP hK hN⟩ rfl rfl hl.1 rfl (lv_room (Nat.le_of_ble_eq_true rfl)) d_WM_dueOf_14 ⟨Nat.le_of_ble_eq_true rfl, Nat.le_of_ble_eq_true rfl⟩)) (fun r_4 er_4 => ?_)
  rcases er_4 with rfl | ⟨q_4, rfl, m_4⟩
  · refine hb_tv .null rfl ?_
    refine lv_astore_nN (lv' := [(3, .null), (0, .ref q0), (1, .ref pq_0), (2, .int p_1)]) hx hb d_WM_dueOf_17 rfl hl (by decide) rfl (fun ls hl => ?_)
    refine lv_aload_n hx hb d_WM_dueOf_18 rfl (lv_at hl 1 rfl) ?_
    refine lv_aload_n hx hb d_WM_dueOf_19 rfl (lv_at hl 2 rfl) ?_
    refine tw_geti (D := (dC, dI)) (C := R_Tr) (T := F_Tr) (N := 8) (ci := 10) (kd := 25) (ct := ct) hx hb htb i_Tr hown hK hP hO_0 pm_0 rfl rfl 0 (by decide) (htb (.fieldLink R_WM 303 "WaterMen$Trip" "boat" "I") tw_446) (fun _ h9 => h9) rfl d_WM_dueOf_20 (fun x_5 e_5 b_5 => ?_)
    refine va_csq (va_Run.run (va_runV (As := [.int x_5]) (rest := []) ⟨hx, hb, hml, hown, htb⟩ (c_WM_boatAt_t l dC dI ct L f hO_0 q0 m0 x_5) (cwV 1 htb (gd_V tw_256 tw_257 tw_258 tw_25 tw_255) rfl rfl rfl (by decide +kernel) ⟨Nat.le_of_ble_eq_true rfl, Nat.le_of_ble_eq_true rfl⟩) ⟨pr_blind, tw_recv hK hP m0 rfl rfl, pr_pre hP hK hN⟩ rfl rfl hl.1 rfl (lv_room (Nat.le_of_ble_eq_true rfl)) d_WM_dueOf_23 ⟨Nat.le_of_ble_eq_true rfl, Nat.le_of_ble_eq_true rfl⟩)) (fun r_6 er_6 => ?_)
    rcases er_6 with rfl | ⟨q_6, rfl, m_6⟩
    · refine hb_tv .null rfl ?_
      refine lv_astoreN (lv' := [(4, .null), (3, .null), (0, .ref q0), (1, .ref pq_0), (2, .int p_1)]) hx hb d_WM_dueOf_26 hl (by decide) rfl (fun ls hl => ?_)
      refine lv_aload_nN hx hb d_WM_dueOf_28 rfl (lv_at hl 1 rfl) ?_
      refine lv_ifnullN (tgt := 37) hx hb d_WM_dueOf_29 (by decide) ?_
      refine lv_iconst (v := (-1)) hx hb d_WM_dueOf_37 (by decide +kernel) ?_
      exact W.iret (v := (-1)) hx hb hr (fun t ht hW => ⟨(-1), rfl, trivial, ht⟩) t_nil d_WM_dueOf_38
    · refine hb_tv (.ref q_6) rfl ?_
      refine lv_astore (lv' := [(4, .ref q_6), (3, .null), (0, .ref q0), (1, .ref pq_0), (2, .int p_1)]) hx hb d_WM_dueOf_26 hl (by decide) rfl (fun ls hl => ?_)
      refine lv_aload_nN hx hb d_WM_dueOf_28 rfl (lv_at hl 1 rfl) ?_
      refine lv_ifnullN (tgt := 37) hx hb d_WM_dueOf_29 (by decide) ?_
      refine lv_iconst (v := (-1)) hx hb d_WM_dueOf_37 (by decide +kernel) ?_
      exact W.iret (v := (-1)) hx hb hr (fun t ht hW => ⟨(-1), rfl, trivial, ht⟩) t_nil d_WM_dueOf_38
  · refine hb_tv (.ref q_4) rfl ?_
    refine lv_astore_n (lv' := [(3, .ref q_4), (0, .ref q0), (1, .ref pq_0), (2, .int p_1)]) hx hb d_WM_dueOf_17 rfl hl (by decide) rfl (fun ls hl => ?_)
    refine lv_aload_n hx hb d_WM_dueOf_18 rfl (lv_at hl 1 rfl) ?_
    refine lv_aload_n hx hb d_WM_dueOf_19 rfl (lv_at hl 2 rfl) ?_
    refine tw_geti (D := (dC, dI)) (C := R_Tr) (T := F_Tr) (N := 8) (ci := 10) (kd := 25) (ct := ct) hx hb htb i_Tr hown hK hP hO_0 pm_0 rfl rfl 0 (by decide) (htb (.fieldLink R_WM 303 "WaterMen$Trip" "boat" "I") tw_446) (fun _ h9 => h9) rfl d_WM_dueOf_20 (fun x_7 e_7 b_7 => ?_)
    refine va_csq (va_Run.run (va_runV (As := [.int x_7]) (rest := []) ⟨hx, hb, hml, hown, htb⟩ (c_WM_boatAt_t l dC dI ct L f hO_0 q0 m0 x_7) (cwV 1 htb (gd_V tw_256 tw_257 tw_258 tw_25 tw_255) rfl rfl rfl (by decide +kernel) ⟨Nat.le_of_ble_eq_true rfl, Nat.le_of_ble_eq_true rfl⟩) ⟨pr_blind, tw_recv hK hP m0 rfl rfl, pr_pre hP hK hN⟩ rfl rfl hl.1 rfl (lv_room (Nat.le_of_ble_eq_true rfl)) d_WM_dueOf_23 ⟨Nat.le_of_ble_eq_true rfl, Nat.le_of_ble_eq_true rfl⟩)) (fun r_8 er_8 => ?_)
    rcases er_8 with rfl | ⟨q_8, rfl, m_8⟩
    · refine hb_tv .null rfl ?_
      refine lv_astoreN (lv' := [(4, .null), (3, .ref q_4), (0, .ref q0), (1, .ref pq_0), (2, .int p_1)]) hx hb d_WM_dueOf_26 hl (by decide) rfl (fun ls hl => ?_)
      refine lv_aload_n hx hb d_WM_dueOf_28 rfl (lv_at hl 1 rfl) ?_
      refine lv_ifnull hx hb d_WM_dueOf_29 ?_
      refine lv_aloadN hx hb d_WM_dueOf_32 (lv_at hl 0 rfl) ?_
      refine lv_ifnonnullN hx hb d_WM_dueOf_34 ?_
      refine lv_iconst (v := (-1)) hx hb d_WM_dueOf_37 (by decide +kernel) ?_
      exact W.iret (v := (-1)) hx hb hr (fun t ht hW => ⟨(-1), rfl, trivial, ht⟩) t_nil d_WM_dueOf_38
    · refine hb_tv (.ref q_8) rfl ?_
      refine lv_astore (lv' := [(4, .ref q_8), (3, .ref q_4), (0, .ref q0), (1, .ref pq_0), (2, .int p_1)]) hx hb d_WM_dueOf_26 hl (by decide) rfl (fun ls hl => ?_)
      refine lv_aload_n hx hb d_WM_dueOf_28 rfl (lv_at hl 1 rfl) ?_
      refine lv_ifnull hx hb d_WM_dueOf_29 ?_
      refine lv_aload hx hb d_WM_dueOf_32 (lv_at hl 0 rfl) ?_
      refine lv_ifnonnull (tgt := 39) hx hb d_WM_dueOf_34 (by decide) ?_
      refine lv_aload_n hx hb d_WM_dueOf_39 rfl (lv_at hl 2 rfl) ?_
      refine lv_aload_n hx hb d_WM_dueOf_40 rfl (lv_at hl 1 rfl) ?_
      refine lv_aload_n hx hb d_WM_dueOf_41 rfl (lv_at hl 3 rfl) ?_
      refine tw_geti (D := (dC, dI)) (C := R_Tr) (T := F_Tr) (N := 8) (ci := 10) (kd := 25) (ct := ct) hx hb htb i_Tr hown hK hP hO_0 pm_0 rfl rfl 4 (by decide) (htb (.fieldLink R_WM 247 "WaterMen$Trip" "from" "I") tw_395) (fun _ h9 => h9) rfl d_WM_dueOf_42 (fun x_9 e_9 b_9 => ?_)
      refine lv_aload_n hx hb d_WM_dueOf_45 rfl (lv_at hl 3 rfl) ?_
      refine tw_geti (D := (dC, dI)) (C := R_Tr) (T := F_Tr) (N := 8) (ci := 10) (kd := 25) (ct := ct) hx hb htb i_Tr hown hK hP hO_0 pm_0 rfl rfl 5 (by decide) (htb (.fieldLink R_WM 250 "WaterMen$Trip" "to" "I") tw_396) (fun _ h9 => h9) rfl d_WM_dueOf_46 (fun x_10 e_10 b_10 => ?_)
      refine lv_aload_n hx hb d_WM_dueOf_49 rfl (lv_at hl 3 rfl) ?_
      refine tw_getI (x := x_1) (D := (dC, dI)) (C := R_Tr) (T := F_Tr) (N := 8) (ci := 10) (kd := 25) (ct := ct) hx hb htb i_Tr hown hK hP pm_0 rfl rfl 2 e_1 (by decide) (htb (.fieldLink R_WM 309 "WaterMen$Trip" "start" "I") tw_448) (fun _ h9 => h9) rfl d_WM_dueOf_50 ?_
      refine lv_bipush (v := 60) hx hb d_WM_dueOf_53 (by decide +kernel) ?_
      refine lv_idiv hx hb d_WM_dueOf_55 (by decide) ?_
      refine hb_divn (U := 359999) (Qm := 5999) (c := 60) (C1 := 59) (K := 2147483587) (by decide +kernel) (by decide +kernel) (by decide +kernel) b_1.1 (show ¬ (2147483587 < x_1) from by have e0 := b_1.1; rw [Int32.lt_iff_toInt_lt] at e0; have e1 := b_1.2; rw [Int32.lt_iff_toInt_lt] at e1; have z0 : (0 : Int32).toInt = 0 := (by decide +kernel); have z1 : (359999 : Int32).toInt = 359999 := (by decide +kernel); have z2 : (2147483587 : Int32).toInt = 2147483587 := (by decide +kernel); rw [Int32.lt_iff_toInt_lt]; omega) b_1.2 (by decide +kernel) (fun y_11 g1_11 g2_11 g3_11 g4_11 g5_11 g9_11 => ?_)
      refine lv_aload hx hb d_WM_dueOf_56 (lv_at hl 0 rfl) ?_
      refine tw_geti (D := (dC, dI)) (C := R_Bt) (T := F_Bt) (N := 6) (ci := 9) (kd := 24) (ct := ct) hx hb htb i_Bt hown hK hP hO_0 m_8 rfl rfl 0 (by decide) (htb (.fieldLink R_WM 181 "WaterMen$Boat" "oars" "I") tw_260) (fun _ h9 => h9) rfl d_WM_dueOf_58 (fun x_12 e_12 b_12 => ?_)
      refine vp_callSi (va_Run.run (va_runV (As := [.ref q_4, .int x_9, .int x_10, .int y_11, .int x_12]) (rest := []) ⟨hx, hb, hml, hown, htb⟩ (c_WM_priceOf_t l dC dI ct L f hO_0 q0 m0 q_4 m_4 x_9 x_10 y_11 x_12 b_9.1 b_9.2 b_10.1 b_10.2 g1_11 g5_11) (cwV 5 htb (gd_V tw_344 tw_345 tw_346 tw_25 tw_343) rfl rfl rfl (by decide +kernel) ⟨Nat.le_of_ble_eq_true rfl, Nat.le_of_ble_eq_true rfl⟩) ⟨pr_blind, tw_recv hK hP m0 rfl rfl, pr_pre hP hK hN⟩ rfl rfl hl.1 rfl (lv_room (Nat.le_of_ble_eq_true rfl)) d_WM_dueOf_61 ⟨Nat.le_of_ble_eq_true rfl, Nat.le_of_ble_eq_true rfl⟩)) (fun r_13 er_13 => ?_)
      clear er_13
      exact W.iret (v := r_13) hx hb hr (fun t ht hW => ⟨r_13, rfl, trivial, ht⟩) t_nil d_WM_dueOf_64
set_option maxHeartbeats 4000000 in
set_option maxRecDepth 100000 in
theorem c_WM_due_t (l : Launch) (dC : Nat → ClassId) (dI : Nat → Nat → Nat) (ct : Nat → ClassId) (L : List Nat) (f : TF) (hO_0 : Ok L f) (q0 : Nat) (m0 : q0 ∈ L ∧ tk f q0 = 0) (p_0 : Int32) (p_1 : Int32)   : Met l y_WM_due (.code y_WM_due b_WM_due 4 (some .int) :: TB) ({ frames := 5, cells := 0, slots := 0, locals := 123 }) (va_Pc [.ref q0, .int p_0, .int p_1] (PR dC dI (TW ct L f) (TT ct))) (vp_Si (fun r => True)) 0 0 (fun _ => False) := by
  refine Met.ofW (cc := b_WM_due) (maxL := 4) (ret := (some .int)) (by decide) rfl ?_
  intro p e s m args below meth c s₁ B hml hv
  obtain ⟨rfl, hP, hK, hN⟩ := hv
  have hx := B.exec
  have hb := B.bytes
  have hr := B.returns
  have hts := atoms_spec (ws := (.code y_WM_due b_WM_due 4 (some .int) :: TB)) B.pre
  have htb := fun w (h : w ∈ TB) => hts w (List.mem_cons_of_mem _ h)
  have hown : s.vm.findClass R_WM = some m.cls := findClass_of_methodNamed B.named
  have hlocks := B.notSynchronized
  have hl := lv_entry ([.ref q0, .int p_0, .int p_1]) (n := 4) (Nat.le_of_ble_eq_true rfl)
  rw [lg_entry_eq]
  generalize (lg_sl ([.ref q0, .int p_0, .int p_1]) ++ List.replicate (4 - (lg_sl ([.ref q0, .int p_0, .int p_1])).length) Slot.unset).toArray = ls at hl ⊢
  have hl : lv_has ls 4 [(0, .ref q0), (1, .int p_0), (2, .int p_1)] := hl
  refine lv_aload_n hx hb d_WM_due_0 rfl (lv_at hl 0 rfl) ?_
  refine lv_iload_n hx hb d_WM_due_1 rfl (lv_at hl 1 rfl) ?_
  refine va_csq (va_Run.run (va_runV (As := [.int p_0]) (rest := []) ⟨hx, hb, hml, hown, htb⟩ (c_WM_tripAt_t l dC dI ct L f hO_0 q0 m0 p_0) (cwV 1 htb (gd_V tw_438 tw_439 tw_440 tw_25 tw_437) rfl rfl rfl (by decide +kernel) ⟨Nat.le_of_ble_eq_true rfl, Nat.le_of_ble_eq_true rfl⟩) ⟨pr_blind, tw_recv hK hP m0 rfl rfl, pr_pre hP hK hN⟩ rfl rfl hl.1 rfl (lv_room (Nat.le_of_ble_eq_true rfl)) d_WM_due_2 ⟨Nat.le_of_ble_eq_true rfl, Nat.le_of_ble_eq_true rfl⟩)) (fun r_1 er_1 => ?_)
  rcases er_1 with rfl | ⟨q_1, rfl, m_1⟩
  · refine hb_tv .null rfl ?_
    refine lv_astore_nN (lv' := [(3, .null), (0, .ref q0), (1, .int p_0), (2, .int p_1)]) hx hb d_WM_due_5 rfl hl (by decide) rfl (fun ls hl => ?_)
    refine lv_aload_nN hx hb d_WM_due_6 rfl (lv_at hl 0 rfl) ?_
    refine lv_ifnullN (tgt := 17) hx hb d_WM_due_7 (by decide) ?_
    refine lv_bipush (v := (-2)) hx hb d_WM_due_17 (by decide +kernel) ?_
    refine lv_goto (tgt := 28) hx hb d_WM_due_19 (by decide) ?_
    exact W.iret (v := (-2)) hx hb hr (fun t ht hW => ⟨(-2), rfl, trivial, ht⟩) t_nil d_WM_due_28
  · refine hb_tv (.ref q_1) rfl ?_
    refine lv_astore_n (lv' := [(3, .ref q_1), (0, .ref q0), (1, .int p_0), (2, .int p_1)]) hx hb d_WM_due_5 rfl hl (by decide) rfl (fun ls hl => ?_)
    refine lv_aload_n hx hb d_WM_due_6 rfl (lv_at hl 0 rfl) ?_
    refine lv_ifnull hx hb d_WM_due_7 ?_
    refine lv_iload_n hx hb d_WM_due_10 rfl (lv_at hl 3 rfl) ?_
    refine vp_callSi (va_Run.run (va_runS (As := [.int p_1]) (rest := []) ⟨hx, hb, hml, hown, htb⟩ (c_WM_isDay l p_1) (cwS 1 htb (gd_S tw_165 tw_26 tw_25 tw_24) rfl rfl rfl (by decide +kernel) ⟨Nat.le_of_ble_eq_true rfl, Nat.le_of_ble_eq_true rfl⟩) ⟨fun _ _ _ _ h => h, fun U _ _ => ⟨rfl, trivial⟩⟩ rfl rfl hl.1 rfl (lv_room (Nat.le_of_ble_eq_true rfl)) d_WM_due_11 ⟨Nat.le_of_ble_eq_true rfl, Nat.le_of_ble_eq_true rfl⟩)) (fun r er => ?_)
    subst er
    by_cases c_3 : p_1 < 0
    · refine hb_ti 0 (by unfold f_WM_isDay; rw [if_pos c_3]; first | done | rfl) ?_
      refine lv_if_ne (tgt := 22) hx hb d_WM_due_14 (by decide) (fun h => absurd (by decide +kernel) h) (fun _ => ?_)
      refine lv_bipush (v := (-2)) hx hb d_WM_due_17 (by decide +kernel) ?_
      refine lv_goto (tgt := 28) hx hb d_WM_due_19 (by decide) ?_
      exact W.iret (v := (-2)) hx hb hr (fun t ht hW => ⟨(-2), rfl, trivial, ht⟩) t_nil d_WM_due_28
    · by_cases c_4 : 500 ≤ p_1
      · refine hb_ti 0 (by unfold f_WM_isDay; rw [if_neg c_3, if_pos c_4]; first | done | rfl) ?_
        refine lv_if_ne (tgt := 22) hx hb d_WM_due_14 (by decide) (fun h => absurd (by decide +kernel) h) (fun _ => ?_)
        refine lv_bipush (v := (-2)) hx hb d_WM_due_17 (by decide +kernel) ?_
        refine lv_goto (tgt := 28) hx hb d_WM_due_19 (by decide) ?_
        exact W.iret (v := (-2)) hx hb hr (fun t ht hW => ⟨(-2), rfl, trivial, ht⟩) t_nil d_WM_due_28
      · refine hb_ti 1 (by unfold f_WM_isDay; rw [if_neg c_3, if_neg c_4]; first | done | rfl) ?_
        refine lv_if_ne (tgt := 22) hx hb d_WM_due_14 (by decide) (fun _ => ?_) (fun h => absurd h (by decide +kernel))
        refine lv_aload_n hx hb d_WM_due_22 rfl (lv_at hl 1 rfl) ?_
        refine lv_aload_n hx hb d_WM_due_23 rfl (lv_at hl 0 rfl) ?_
        refine lv_iload_n hx hb d_WM_due_24 rfl (lv_at hl 3 rfl) ?_
        refine vp_callSi (va_Run.run (va_runV (As := [.ref q_1, .int p_1]) (rest := []) ⟨hx, hb, hml, hown, htb⟩ (c_WM_dueOf_t l dC dI ct L f hO_0 q0 m0 q_1 m_1 p_1) (cwV 2 htb (gd_V tw_451 tw_452 tw_453 tw_25 tw_450) rfl rfl rfl (by decide +kernel) ⟨Nat.le_of_ble_eq_true rfl, Nat.le_of_ble_eq_true rfl⟩) ⟨pr_blind, tw_recv hK hP m0 rfl rfl, pr_pre hP hK hN⟩ rfl rfl hl.1 rfl (lv_room (Nat.le_of_ble_eq_true rfl)) d_WM_due_25 ⟨Nat.le_of_ble_eq_true rfl, Nat.le_of_ble_eq_true rfl⟩)) (fun r_5 er_5 => ?_)
        clear er_5
        exact W.iret (v := r_5) hx hb hr (fun t ht hW => ⟨r_5, rfl, trivial, ht⟩) t_nil d_WM_due_28
set_option maxHeartbeats 4000000 in
set_option maxRecDepth 100000 in
theorem c_WM_overpaid_t (l : Launch) (dC : Nat → ClassId) (dI : Nat → Nat → Nat) (ct : Nat → ClassId) (L : List Nat) (f : TF) (hO_0 : Ok L f) (q0 : Nat) (m0 : q0 ∈ L ∧ tk f q0 = 0) (pq_0 : Nat) (pm_0 : pq_0 ∈ L ∧ tk f pq_0 = 25) (p_1 : Int32)   : Met l y_WM_overpaid (.code y_WM_overpaid b_WM_overpaid 4 (some .int) :: TB) ({ frames := 5, cells := 0, slots := 0, locals := 123 }) (va_Pc [.ref q0, .ref pq_0, .int p_1] (PR dC dI (TW ct L f) (TT ct))) (vp_Si (fun r => True)) 0 0 (fun _ => False) := by
  refine Met.ofW (cc := b_WM_overpaid) (maxL := 4) (ret := (some .int)) (by decide) rfl ?_
  intro p e s m args below meth c s₁ B hml hv
  obtain ⟨rfl, hP, hK, hN⟩ := hv
  have hx := B.exec
  have hb := B.bytes
  have hr := B.returns
  have hts := atoms_spec (ws := (.code y_WM_overpaid b_WM_overpaid 4 (some .int) :: TB)) B.pre
  have htb := fun w (h : w ∈ TB) => hts w (List.mem_cons_of_mem _ h)
  have hown : s.vm.findClass R_WM = some m.cls := findClass_of_methodNamed B.named
  have hlocks := B.notSynchronized
  have hl := lv_entry ([.ref q0, .ref pq_0, .int p_1]) (n := 4) (Nat.le_of_ble_eq_true rfl)
  rw [lg_entry_eq]
  generalize (lg_sl ([.ref q0, .ref pq_0, .int p_1]) ++ List.replicate (4 - (lg_sl ([.ref q0, .ref pq_0, .int p_1])).length) Slot.unset).toArray = ls at hl ⊢
  have hl : lv_has ls 4 [(0, .ref q0), (1, .ref pq_0), (2, .int p_1)] := hl
  refine lv_aload_n hx hb d_WM_overpaid_0 rfl (lv_at hl 0 rfl) ?_
  refine lv_aload_n hx hb d_WM_overpaid_1 rfl (lv_at hl 1 rfl) ?_
  refine lv_iload_n hx hb d_WM_overpaid_2 rfl (lv_at hl 2 rfl) ?_
  refine vp_callSi (va_Run.run (va_runV (As := [.ref pq_0, .int p_1]) (rest := []) ⟨hx, hb, hml, hown, htb⟩ (c_WM_dueOf_t l dC dI ct L f hO_0 q0 m0 pq_0 pm_0 p_1) (cwV 2 htb (gd_V tw_451 tw_452 tw_453 tw_25 tw_450) rfl rfl rfl (by decide +kernel) ⟨Nat.le_of_ble_eq_true rfl, Nat.le_of_ble_eq_true rfl⟩) ⟨pr_blind, tw_recv hK hP m0 rfl rfl, pr_pre hP hK hN⟩ rfl rfl hl.1 rfl (lv_room (Nat.le_of_ble_eq_true rfl)) d_WM_overpaid_3 ⟨Nat.le_of_ble_eq_true rfl, Nat.le_of_ble_eq_true rfl⟩)) (fun r_1 er_1 => ?_)
  clear er_1
  refine lv_istore_n (lv' := [(3, .int r_1), (0, .ref q0), (1, .ref pq_0), (2, .int p_1)]) hx hb d_WM_overpaid_6 rfl hl (by decide) rfl (fun ls hl => ?_)
  refine lv_iload_n hx hb d_WM_overpaid_7 rfl (lv_at hl 0 rfl) ?_
  refine lv_iconst (v := (-1)) hx hb d_WM_overpaid_8 (by decide +kernel) ?_
  refine lv_icmp_ne (tgt := 16) hx hb d_WM_overpaid_9 (by decide) (fun c_2 => ?_) (fun c_2 => ?_)
  · refine lv_iconst (v := 0) hx hb d_WM_overpaid_16 (by decide +kernel) ?_
    refine lv_aload_n hx hb d_WM_overpaid_17 rfl (lv_at hl 2 rfl) ?_
    refine tw_geti (D := (dC, dI)) (C := R_Tr) (T := F_Tr) (N := 8) (ci := 10) (kd := 25) (ct := ct) hx hb htb i_Tr hown hK hP hO_0 pm_0 rfl rfl 3 (by decide) (htb (.fieldLink R_WM 312 "WaterMen$Trip" "paid" "I") tw_449) (fun _ h9 => h9) rfl d_WM_overpaid_18 (fun x_3 e_3 b_3 => ?_)
    refine lv_iload_n hx hb d_WM_overpaid_21 rfl (lv_at hl 0 rfl) ?_
    refine lv_isub hx hb d_WM_overpaid_22 ?_
    refine va_mmax hx hb (hml.trans hl.1.symm) hown (htb (.methodLink R_WM 370 Lib.Math.max.name) tw_368) (htb (.static Lib.Math.max.name) tw_39) (htb (.initialized "java/lang/Math") tw_32) (htb (.code Lib.Math.max.name Lib.Math.max.code 2 (some .int)) tw_40) (Nat.le_of_ble_eq_true rfl) (Nat.le_of_ble_eq_true rfl) (Nat.le_of_ble_eq_true rfl) (Nat.le_of_ble_eq_true rfl) d_WM_overpaid_23 ?_
    refine hb_anyi (fun y_4 => ?_)
    exact W.iret (v := y_4) hx hb hr (fun t ht hW => ⟨y_4, rfl, trivial, ht⟩) t_nil d_WM_overpaid_26
  · refine lv_iconst (v := 0) hx hb d_WM_overpaid_12 (by decide +kernel) ?_
    refine lv_goto (tgt := 26) hx hb d_WM_overpaid_13 (by decide) ?_
    exact W.iret (v := 0) hx hb hr (fun t ht hW => ⟨0, rfl, trivial, ht⟩) t_nil d_WM_overpaid_26
set_option maxHeartbeats 4000000 in
set_option maxRecDepth 100000 in
theorem c_WM_over_t (l : Launch) (dC : Nat → ClassId) (dI : Nat → Nat → Nat) (ct : Nat → ClassId) (L : List Nat) (f : TF) (hO_0 : Ok L f) (q0 : Nat) (m0 : q0 ∈ L ∧ tk f q0 = 0) (p_0 : Int32) (p_1 : Int32)   : Met l y_WM_over (.code y_WM_over b_WM_over 6 (some .int) :: TB) ({ frames := 6, cells := 0, slots := 0, locals := 146 }) (va_Pc [.ref q0, .int p_0, .int p_1] (PR dC dI (TW ct L f) (TT ct))) (vp_Si (fun r => True)) 0 0 (fun _ => False) := by
  refine Met.ofW (cc := b_WM_over) (maxL := 6) (ret := (some .int)) (by decide) rfl ?_
  intro p e s m args below meth c s₁ B hml hv
  obtain ⟨rfl, hP, hK, hN⟩ := hv
  have hx := B.exec
  have hb := B.bytes
  have hr := B.returns
  have hts := atoms_spec (ws := (.code y_WM_over b_WM_over 6 (some .int) :: TB)) B.pre
  have htb := fun w (h : w ∈ TB) => hts w (List.mem_cons_of_mem _ h)
  have hown : s.vm.findClass R_WM = some m.cls := findClass_of_methodNamed B.named
  have hlocks := B.notSynchronized
  have hl := lv_entry ([.ref q0, .int p_0, .int p_1]) (n := 6) (Nat.le_of_ble_eq_true rfl)
  rw [lg_entry_eq]
  generalize (lg_sl ([.ref q0, .int p_0, .int p_1]) ++ List.replicate (6 - (lg_sl ([.ref q0, .int p_0, .int p_1])).length) Slot.unset).toArray = ls at hl ⊢
  have hl : lv_has ls 6 [(0, .ref q0), (1, .int p_0), (2, .int p_1)] := hl
  refine lv_aload_n hx hb d_WM_over_0 rfl (lv_at hl 0 rfl) ?_
  refine lv_iload_n hx hb d_WM_over_1 rfl (lv_at hl 1 rfl) ?_
  refine va_csq (va_Run.run (va_runV (As := [.int p_0]) (rest := []) ⟨hx, hb, hml, hown, htb⟩ (c_WM_manAt_t l dC dI ct L f hO_0 q0 m0 p_0) (cwV 1 htb (gd_V tw_190 tw_191 tw_192 tw_25 tw_189) rfl rfl rfl (by decide +kernel) ⟨Nat.le_of_ble_eq_true rfl, Nat.le_of_ble_eq_true rfl⟩) ⟨pr_blind, tw_recv hK hP m0 rfl rfl, pr_pre hP hK hN⟩ rfl rfl hl.1 rfl (lv_room (Nat.le_of_ble_eq_true rfl)) d_WM_over_2 ⟨Nat.le_of_ble_eq_true rfl, Nat.le_of_ble_eq_true rfl⟩)) (fun r_1 er_1 => ?_)
  rcases er_1 with rfl | ⟨q_1, rfl, m_1⟩
  · refine hb_tv .null rfl ?_
    refine lv_ifnullN (tgt := 15) hx hb d_WM_over_5 (by decide) ?_
    refine lv_iconst (v := (-1)) hx hb d_WM_over_15 (by decide +kernel) ?_
    exact W.iret (v := (-1)) hx hb hr (fun t ht hW => ⟨(-1), rfl, trivial, ht⟩) t_nil d_WM_over_16
  · refine hb_tv (.ref q_1) rfl ?_
    refine lv_ifnull hx hb d_WM_over_5 ?_
    refine lv_iload_n hx hb d_WM_over_8 rfl (lv_at hl 2 rfl) ?_
    refine vp_callSi (va_Run.run (va_runS (As := [.int p_1]) (rest := []) ⟨hx, hb, hml, hown, htb⟩ (c_WM_isDay l p_1) (cwS 1 htb (gd_S tw_165 tw_26 tw_25 tw_24) rfl rfl rfl (by decide +kernel) ⟨Nat.le_of_ble_eq_true rfl, Nat.le_of_ble_eq_true rfl⟩) ⟨fun _ _ _ _ h => h, fun U _ _ => ⟨rfl, trivial⟩⟩ rfl rfl hl.1 rfl (lv_room (Nat.le_of_ble_eq_true rfl)) d_WM_over_9 ⟨Nat.le_of_ble_eq_true rfl, Nat.le_of_ble_eq_true rfl⟩)) (fun r er => ?_)
    subst er
    by_cases c_3 : p_1 < 0
    · refine hb_ti 0 (by unfold f_WM_isDay; rw [if_pos c_3]; first | done | rfl) ?_
      refine lv_if_ne (tgt := 17) hx hb d_WM_over_12 (by decide) (fun h => absurd (by decide +kernel) h) (fun _ => ?_)
      refine lv_iconst (v := (-1)) hx hb d_WM_over_15 (by decide +kernel) ?_
      exact W.iret (v := (-1)) hx hb hr (fun t ht hW => ⟨(-1), rfl, trivial, ht⟩) t_nil d_WM_over_16
    · by_cases c_4 : 500 ≤ p_1
      · refine hb_ti 0 (by unfold f_WM_isDay; rw [if_neg c_3, if_pos c_4]; first | done | rfl) ?_
        refine lv_if_ne (tgt := 17) hx hb d_WM_over_12 (by decide) (fun h => absurd (by decide +kernel) h) (fun _ => ?_)
        refine lv_iconst (v := (-1)) hx hb d_WM_over_15 (by decide +kernel) ?_
        exact W.iret (v := (-1)) hx hb hr (fun t ht hW => ⟨(-1), rfl, trivial, ht⟩) t_nil d_WM_over_16
      · refine hb_ti 1 (by unfold f_WM_isDay; rw [if_neg c_3, if_neg c_4]; first | done | rfl) ?_
        refine lv_if_ne (tgt := 17) hx hb d_WM_over_12 (by decide) (fun _ => ?_) (fun h => absurd h (by decide +kernel))
        refine lv_iconst (v := 0) hx hb d_WM_over_17 (by decide +kernel) ?_
        refine lv_istore_n (lv' := [(3, .int 0), (0, .ref q0), (1, .int p_0), (2, .int p_1)]) hx hb d_WM_over_18 rfl hl (by decide) rfl (fun ls hl => ?_)
        refine lv_iconst (v := 0) hx hb d_WM_over_19 (by decide +kernel) ?_
        refine lv_istore (lv' := [(4, .int 0), (3, .int 0), (0, .ref q0), (1, .int p_0), (2, .int p_1)]) hx hb d_WM_over_20 hl (by decide) rfl (fun ls hl => ?_)
        have cut_5 : ∀ (n_5 : Nat) (v3_5 v4_5 : Int32) (ls : Array Slot), ¬ (v4_5 < 0) → ¬ (600 < v4_5) → (600 : Int32).toInt - (v4_5 : Int32).toInt ≤ (n_5 : Int) → lv_has ls 6 [(0, .ref q0), (1, .int p_0), (2, .int p_1), (3, .int v3_5), (4, .int v4_5)] → W p l e (headSpec (.code y_WM_over b_WM_over 6 (some .int) :: TB) ({ frames := 6, cells := 0, slots := 0, locals := 146 })).room s m [.ref q0, .int p_0, .int p_1].toArray below meth c s.heap [] 0 0 (MQ below (vp_Si (fun r => True)) [.ref q0, .int p_0, .int p_1].toArray s 0 0 (fun _ => False)) (F0 m 22 ls []) := by
          intro n_5
          induction n_5 using Nat.strongRecOn with
          | _ n_5 ih_5 =>
            intro v3_5 v4_5 ls iv0_5 iv1_5 hm_5 hl
            refine lv_iload hx hb d_WM_over_22 (lv_at hl 4 rfl) ?_
            refine lv_aload_n hx hb d_WM_over_24 rfl (lv_at hl 0 rfl) ?_
            refine tw_geti (D := (dC, dI)) (C := R_WM) (T := F_WM) (N := 13) (ci := 0) (kd := 0) (ct := ct) hx hb htb i_WM hown hK hP hO_0 m0 rfl rfl 9 (by decide) (htb (.fieldLink R_WM 243 "WaterMen" "tripCount" "I") tw_383) (fun _ h9 => h9) rfl d_WM_over_25 (fun x_6 e_6 b_6 => ?_)
            refine lv_icmp_ge (tgt := 69) hx hb d_WM_over_28 (by decide) (fun c_7 => ?_) (fun c_7 => ?_)
            · refine lv_iload_n hx hb d_WM_over_69 rfl (lv_at hl 3 rfl) ?_
              exact W.iret (v := v3_5) hx hb hr (fun t ht hW => ⟨v3_5, rfl, trivial, ht⟩) t_nil d_WM_over_70
            · refine lv_aload_n hx hb d_WM_over_31 rfl (lv_at hl 0 rfl) ?_
              refine lv_iload hx hb d_WM_over_32 (lv_at hl 4 rfl) ?_
              refine va_csq (va_Run.run (va_runV (As := [.int v4_5]) (rest := []) ⟨hx, hb, hml, hown, htb⟩ (c_WM_tripAt_t l dC dI ct L f hO_0 q0 m0 v4_5) (cwV 1 htb (gd_V tw_438 tw_439 tw_440 tw_25 tw_437) rfl rfl rfl (by decide +kernel) ⟨Nat.le_of_ble_eq_true rfl, Nat.le_of_ble_eq_true rfl⟩) ⟨pr_blind, tw_recv hK hP m0 rfl rfl, pr_pre hP hK hN⟩ rfl rfl hl.1 rfl (lv_room (Nat.le_of_ble_eq_true rfl)) d_WM_over_34 ⟨Nat.le_of_ble_eq_true rfl, Nat.le_of_ble_eq_true rfl⟩)) (fun r_8 er_8 => ?_)
              rcases er_8 with rfl | ⟨q_8, rfl, m_8⟩
              · refine hb_tv .null rfl ?_
                refine lv_astoreN (lv' := [(5, .null), (0, .ref q0), (1, .int p_0), (2, .int p_1), (3, .int v3_5), (4, .int v4_5)]) hx hb d_WM_over_37 hl (by decide) rfl (fun ls hl => ?_)
                refine lv_aloadN hx hb d_WM_over_39 (lv_at hl 0 rfl) ?_
                refine lv_ifnullN (tgt := 63) hx hb d_WM_over_41 (by decide) ?_
                refine lv_iinc (v := (v4_5 + 1)) (lv' := [(4, .int (v4_5 + 1)), (5, .null), (0, .ref q0), (1, .int p_0), (2, .int p_1), (3, .int v3_5)]) hx hb d_WM_over_63 hl (k := 5) rfl rfl (by decide) rfl (fun ls hl => ?_)
                refine lv_goto (tgt := 22) hx hb d_WM_over_66 (by decide) ?_
                exact ih_5 (n_5 - 1) (ms_1 ((fun (a_0 : Int32) (a_1 : Int32) (k_0 : ¬ (a_1 ≤ a_0)) (k_1 : ¬ (600 < a_1)) => (show 1 ≤ (600 : Int32).toInt - (a_0).toInt ∧ (600 : Int32).toInt - ((a_0) + (1 : Int32)).toInt + 1 ≤ (600 : Int32).toInt - (a_0).toInt from by have z0 : (1 : Int32).toInt = 1 := (by decide +kernel); have z1 : (600 : Int32).toInt = 600 := (by decide +kernel); have r0 := fb_rng (a_0); have r1 := fb_rng (a_1); have e0 := k_0; rw [Int32.le_iff_toInt_le] at e0; have e1 := k_1; rw [Int32.lt_iff_toInt_lt, z1] at e1; obtain ⟨n_0, hn_0, s0⟩ := nd_add (x := (a_0)) (y := (1 : Int32)) (by (try rw [z0]); omega) (by (try rw [z0]); omega); rw [z0] at s0; rw [hn_0]; (try rw [z1]); omega)) v4_5 x_6 c_7 b_6.2) hm_5) v3_5 (v4_5 + 1) _ (show ¬ ((v4_5 + 1) < 0) from by have e0 := iv0_5; rw [Int32.lt_iff_toInt_lt] at e0; have e1 := iv1_5; rw [Int32.lt_iff_toInt_lt] at e1; have z0 : (0 : Int32).toInt = 0 := (by decide +kernel); have z1 : (1 : Int32).toInt = 1 := (by decide +kernel); have z2 : (600 : Int32).toInt = 600 := (by decide +kernel); have ss := fb_addI (x := v4_5) (y := 1) (by omega) (by omega); rw [Int32.lt_iff_toInt_lt]; omega) (show ¬ (600 < (v4_5 + 1)) from ((fun (a_0 : Int32) (a_1 : Int32) (k_0 : ¬ (a_1 ≤ a_0)) (k_1 : ¬ (600 < a_1)) => (show ¬ (600 < (a_0 + 1)) from by have z0 : (1 : Int32).toInt = 1 := (by decide +kernel); have z1 : (600 : Int32).toInt = 600 := (by decide +kernel); have r0 := fb_rng (a_0); have r1 := fb_rng (a_1); have e0 := k_0; rw [Int32.le_iff_toInt_le] at e0; have e1 := k_1; rw [Int32.lt_iff_toInt_lt, z1] at e1; obtain ⟨n_0, hn_0, s0⟩ := nd_add (x := (a_0)) (y := (1 : Int32)) (by (try rw [z0]); omega) (by (try rw [z0]); omega); rw [z0] at s0; rw [hn_0, Int32.lt_iff_toInt_lt, z1]; omega)) v4_5 x_6 c_7 b_6.2)) (by exact ms_2 ((fun (a_0 : Int32) (a_1 : Int32) (k_0 : ¬ (a_1 ≤ a_0)) (k_1 : ¬ (600 < a_1)) => (show 1 ≤ (600 : Int32).toInt - (a_0).toInt ∧ (600 : Int32).toInt - ((a_0) + (1 : Int32)).toInt + 1 ≤ (600 : Int32).toInt - (a_0).toInt from by have z0 : (1 : Int32).toInt = 1 := (by decide +kernel); have z1 : (600 : Int32).toInt = 600 := (by decide +kernel); have r0 := fb_rng (a_0); have r1 := fb_rng (a_1); have e0 := k_0; rw [Int32.le_iff_toInt_le] at e0; have e1 := k_1; rw [Int32.lt_iff_toInt_lt, z1] at e1; obtain ⟨n_0, hn_0, s0⟩ := nd_add (x := (a_0)) (y := (1 : Int32)) (by (try rw [z0]); omega) (by (try rw [z0]); omega); rw [z0] at s0; rw [hn_0]; (try rw [z1]); omega)) v4_5 x_6 c_7 b_6.2) hm_5) (lv_sub hl [2, 3, 4, 5, 0] rfl)
              · refine hb_tv (.ref q_8) rfl ?_
                refine lv_astore (lv' := [(5, .ref q_8), (0, .ref q0), (1, .int p_0), (2, .int p_1), (3, .int v3_5), (4, .int v4_5)]) hx hb d_WM_over_37 hl (by decide) rfl (fun ls hl => ?_)
                refine lv_aload hx hb d_WM_over_39 (lv_at hl 0 rfl) ?_
                refine lv_ifnull hx hb d_WM_over_41 ?_
                refine lv_aload hx hb d_WM_over_44 (lv_at hl 0 rfl) ?_
                refine tw_geti (D := (dC, dI)) (C := R_Tr) (T := F_Tr) (N := 8) (ci := 10) (kd := 25) (ct := ct) hx hb htb i_Tr hown hK hP hO_0 m_8 rfl rfl 1 (by decide) (htb (.fieldLink R_WM 306 "WaterMen$Trip" "man" "I") tw_447) (fun _ h9 => h9) rfl d_WM_over_46 (fun x_9 e_9 b_9 => ?_)
                refine lv_iload_n hx hb d_WM_over_49 rfl (lv_at hl 2 rfl) ?_
                refine lv_icmp_ne (tgt := 63) hx hb d_WM_over_50 (by decide) (fun c_10 => ?_) (fun c_10 => ?_)
                · refine lv_iinc (v := (v4_5 + 1)) (lv' := [(4, .int (v4_5 + 1)), (5, .ref q_8), (0, .ref q0), (1, .int p_0), (2, .int p_1), (3, .int v3_5)]) hx hb d_WM_over_63 hl (k := 5) rfl rfl (by decide) rfl (fun ls hl => ?_)
                  refine lv_goto (tgt := 22) hx hb d_WM_over_66 (by decide) ?_
                  exact ih_5 (n_5 - 1) (ms_1 ((fun (a_0 : Int32) (a_1 : Int32) (k_0 : ¬ (a_1 ≤ a_0)) (k_1 : ¬ (600 < a_1)) => (show 1 ≤ (600 : Int32).toInt - (a_0).toInt ∧ (600 : Int32).toInt - ((a_0) + (1 : Int32)).toInt + 1 ≤ (600 : Int32).toInt - (a_0).toInt from by have z0 : (1 : Int32).toInt = 1 := (by decide +kernel); have z1 : (600 : Int32).toInt = 600 := (by decide +kernel); have r0 := fb_rng (a_0); have r1 := fb_rng (a_1); have e0 := k_0; rw [Int32.le_iff_toInt_le] at e0; have e1 := k_1; rw [Int32.lt_iff_toInt_lt, z1] at e1; obtain ⟨n_0, hn_0, s0⟩ := nd_add (x := (a_0)) (y := (1 : Int32)) (by (try rw [z0]); omega) (by (try rw [z0]); omega); rw [z0] at s0; rw [hn_0]; (try rw [z1]); omega)) v4_5 x_6 c_7 b_6.2) hm_5) v3_5 (v4_5 + 1) _ (show ¬ ((v4_5 + 1) < 0) from by have e0 := iv0_5; rw [Int32.lt_iff_toInt_lt] at e0; have e1 := iv1_5; rw [Int32.lt_iff_toInt_lt] at e1; have z0 : (0 : Int32).toInt = 0 := (by decide +kernel); have z1 : (1 : Int32).toInt = 1 := (by decide +kernel); have z2 : (600 : Int32).toInt = 600 := (by decide +kernel); have ss := fb_addI (x := v4_5) (y := 1) (by omega) (by omega); rw [Int32.lt_iff_toInt_lt]; omega) (show ¬ (600 < (v4_5 + 1)) from ((fun (a_0 : Int32) (a_1 : Int32) (k_0 : ¬ (a_1 ≤ a_0)) (k_1 : ¬ (600 < a_1)) => (show ¬ (600 < (a_0 + 1)) from by have z0 : (1 : Int32).toInt = 1 := (by decide +kernel); have z1 : (600 : Int32).toInt = 600 := (by decide +kernel); have r0 := fb_rng (a_0); have r1 := fb_rng (a_1); have e0 := k_0; rw [Int32.le_iff_toInt_le] at e0; have e1 := k_1; rw [Int32.lt_iff_toInt_lt, z1] at e1; obtain ⟨n_0, hn_0, s0⟩ := nd_add (x := (a_0)) (y := (1 : Int32)) (by (try rw [z0]); omega) (by (try rw [z0]); omega); rw [z0] at s0; rw [hn_0, Int32.lt_iff_toInt_lt, z1]; omega)) v4_5 x_6 c_7 b_6.2)) (by exact ms_2 ((fun (a_0 : Int32) (a_1 : Int32) (k_0 : ¬ (a_1 ≤ a_0)) (k_1 : ¬ (600 < a_1)) => (show 1 ≤ (600 : Int32).toInt - (a_0).toInt ∧ (600 : Int32).toInt - ((a_0) + (1 : Int32)).toInt + 1 ≤ (600 : Int32).toInt - (a_0).toInt from by have z0 : (1 : Int32).toInt = 1 := (by decide +kernel); have z1 : (600 : Int32).toInt = 600 := (by decide +kernel); have r0 := fb_rng (a_0); have r1 := fb_rng (a_1); have e0 := k_0; rw [Int32.le_iff_toInt_le] at e0; have e1 := k_1; rw [Int32.lt_iff_toInt_lt, z1] at e1; obtain ⟨n_0, hn_0, s0⟩ := nd_add (x := (a_0)) (y := (1 : Int32)) (by (try rw [z0]); omega) (by (try rw [z0]); omega); rw [z0] at s0; rw [hn_0]; (try rw [z1]); omega)) v4_5 x_6 c_7 b_6.2) hm_5) (lv_sub hl [2, 3, 4, 5, 0] rfl)
                · refine lv_iload_n hx hb d_WM_over_53 rfl (lv_at hl 4 rfl) ?_
                  refine lv_aload_n hx hb d_WM_over_54 rfl (lv_at hl 1 rfl) ?_
                  refine lv_aload hx hb d_WM_over_55 (lv_at hl 0 rfl) ?_
                  refine lv_iload_n hx hb d_WM_over_57 rfl (lv_at hl 3 rfl) ?_
                  refine vp_callSi (va_Run.run (va_runV (As := [.ref q_8, .int p_1]) (rest := [.int v3_5]) ⟨hx, hb, hml, hown, htb⟩ (c_WM_overpaid_t l dC dI ct L f hO_0 q0 m0 q_8 m_8 p_1) (cwV 2 htb (gd_V tw_455 tw_456 tw_457 tw_25 tw_454) rfl rfl rfl (by decide +kernel) ⟨Nat.le_of_ble_eq_true rfl, Nat.le_of_ble_eq_true rfl⟩) ⟨pr_blind, tw_recv hK hP m0 rfl rfl, pr_pre hP hK hN⟩ rfl rfl hl.1 rfl (lv_room (Nat.le_of_ble_eq_true rfl)) d_WM_over_58 ⟨Nat.le_of_ble_eq_true rfl, Nat.le_of_ble_eq_true rfl⟩)) (fun r_11 er_11 => ?_)
                  clear er_11
                  refine lv_iadd hx hb d_WM_over_61 ?_
                  refine lv_istore_n (lv' := [(3, .int (v3_5 + r_11)), (5, .ref q_8), (0, .ref q0), (1, .int p_0), (2, .int p_1), (4, .int v4_5)]) hx hb d_WM_over_62 rfl hl (by decide) rfl (fun ls hl => ?_)
                  refine lv_iinc (v := (v4_5 + 1)) (lv' := [(4, .int (v4_5 + 1)), (3, .int (v3_5 + r_11)), (5, .ref q_8), (0, .ref q0), (1, .int p_0), (2, .int p_1)]) hx hb d_WM_over_63 hl (k := 5) rfl rfl (by decide) rfl (fun ls hl => ?_)
                  refine lv_goto (tgt := 22) hx hb d_WM_over_66 (by decide) ?_
                  exact ih_5 (n_5 - 1) (ms_1 ((fun (a_0 : Int32) (a_1 : Int32) (k_0 : ¬ (a_1 ≤ a_0)) (k_1 : ¬ (600 < a_1)) => (show 1 ≤ (600 : Int32).toInt - (a_0).toInt ∧ (600 : Int32).toInt - ((a_0) + (1 : Int32)).toInt + 1 ≤ (600 : Int32).toInt - (a_0).toInt from by have z0 : (1 : Int32).toInt = 1 := (by decide +kernel); have z1 : (600 : Int32).toInt = 600 := (by decide +kernel); have r0 := fb_rng (a_0); have r1 := fb_rng (a_1); have e0 := k_0; rw [Int32.le_iff_toInt_le] at e0; have e1 := k_1; rw [Int32.lt_iff_toInt_lt, z1] at e1; obtain ⟨n_0, hn_0, s0⟩ := nd_add (x := (a_0)) (y := (1 : Int32)) (by (try rw [z0]); omega) (by (try rw [z0]); omega); rw [z0] at s0; rw [hn_0]; (try rw [z1]); omega)) v4_5 x_6 c_7 b_6.2) hm_5) (v3_5 + r_11) (v4_5 + 1) _ (show ¬ ((v4_5 + 1) < 0) from by have e0 := iv0_5; rw [Int32.lt_iff_toInt_lt] at e0; have e1 := iv1_5; rw [Int32.lt_iff_toInt_lt] at e1; have z0 : (0 : Int32).toInt = 0 := (by decide +kernel); have z1 : (1 : Int32).toInt = 1 := (by decide +kernel); have z2 : (600 : Int32).toInt = 600 := (by decide +kernel); have ss := fb_addI (x := v4_5) (y := 1) (by omega) (by omega); rw [Int32.lt_iff_toInt_lt]; omega) (show ¬ (600 < (v4_5 + 1)) from ((fun (a_0 : Int32) (a_1 : Int32) (k_0 : ¬ (a_1 ≤ a_0)) (k_1 : ¬ (600 < a_1)) => (show ¬ (600 < (a_0 + 1)) from by have z0 : (1 : Int32).toInt = 1 := (by decide +kernel); have z1 : (600 : Int32).toInt = 600 := (by decide +kernel); have r0 := fb_rng (a_0); have r1 := fb_rng (a_1); have e0 := k_0; rw [Int32.le_iff_toInt_le] at e0; have e1 := k_1; rw [Int32.lt_iff_toInt_lt, z1] at e1; obtain ⟨n_0, hn_0, s0⟩ := nd_add (x := (a_0)) (y := (1 : Int32)) (by (try rw [z0]); omega) (by (try rw [z0]); omega); rw [z0] at s0; rw [hn_0, Int32.lt_iff_toInt_lt, z1]; omega)) v4_5 x_6 c_7 b_6.2)) (by exact ms_2 ((fun (a_0 : Int32) (a_1 : Int32) (k_0 : ¬ (a_1 ≤ a_0)) (k_1 : ¬ (600 < a_1)) => (show 1 ≤ (600 : Int32).toInt - (a_0).toInt ∧ (600 : Int32).toInt - ((a_0) + (1 : Int32)).toInt + 1 ≤ (600 : Int32).toInt - (a_0).toInt from by have z0 : (1 : Int32).toInt = 1 := (by decide +kernel); have z1 : (600 : Int32).toInt = 600 := (by decide +kernel); have r0 := fb_rng (a_0); have r1 := fb_rng (a_1); have e0 := k_0; rw [Int32.le_iff_toInt_le] at e0; have e1 := k_1; rw [Int32.lt_iff_toInt_lt, z1] at e1; obtain ⟨n_0, hn_0, s0⟩ := nd_add (x := (a_0)) (y := (1 : Int32)) (by (try rw [z0]); omega) (by (try rw [z0]); omega); rw [z0] at s0; rw [hn_0]; (try rw [z1]); omega)) v4_5 x_6 c_7 b_6.2) hm_5) (lv_sub hl [3, 4, 5, 1, 0] rfl)
        exact cut_5 4294967296 (0 : Int32) (0 : Int32) _ (by decide +kernel) (by decide +kernel) (by exact ms_0 _ _) (lv_sub hl [2, 3, 4, 1, 0] rfl)
def W_WM_pension_t : List (Nat × Nat) := [(12, 6), (14, 1000), (26, 0), (26, 1)]
set_option maxHeartbeats 4000000 in
set_option maxRecDepth 100000 in
theorem c_WM_pension_t (l : Launch) (dC : Nat → ClassId) (dI : Nat → Nat → Nat) (ct : Nat → ClassId) (L : List Nat) (f : TF) (hO_0 : Ok L f) (q0 : Nat) (m0 : q0 ∈ L ∧ tk f q0 = 0) (sz : Nat) (p_0 : Int32) (p_1 : Int32)   : Met l y_WM_pension (.code y_WM_pension b_WM_pension 3 (some .int) :: TB) ({ frames := 3, cells := 1, slots := 3, locals := 56 }) (va_Pc [.ref q0, .int p_0, .int p_1] (PC dC dI (TW ct L f) (TT ct) sz)) (va_Qi (fun r (u : TSt) => Ok u.1 u.2 ∧ Ext W_WM_pension_t L f u.1 u.2 ∧ (True)) (fun (u : TSt) t => va_P (dC, dI) vwCl (TW ct u.1 u.2) t.heap ∧ va_K (dC, dI) vwCl (TT ct) t ∧ va_D (va_A (TW ct L f) sz) (TW ct u.1 u.2)) (va_A (TW ct L f) sz)) 1 3 (va_A (TW ct L f) sz) := by
  refine Met.ofW (cc := b_WM_pension) (maxL := 3) (ret := (some .int)) (by decide) rfl ?_
  intro p e s m args below meth c s₁ B hml hv
  obtain ⟨rfl, hsz, hP, hK, hD0, hN⟩ := hv
  have hx := B.exec
  have hb := B.bytes
  have hr := B.returns
  have hts := atoms_spec (ws := (.code y_WM_pension b_WM_pension 3 (some .int) :: TB)) B.pre
  have htb := fun w (h : w ∈ TB) => hts w (List.mem_cons_of_mem _ h)
  have hown : s.vm.findClass R_WM = some m.cls := findClass_of_methodNamed B.named
  have hlocks := B.notSynchronized
  have hl := lv_entry ([.ref q0, .int p_0, .int p_1]) (n := 3) (Nat.le_of_ble_eq_true rfl)
  rw [lg_entry_eq]
  generalize (lg_sl ([.ref q0, .int p_0, .int p_1]) ++ List.replicate (3 - (lg_sl ([.ref q0, .int p_0, .int p_1])).length) Slot.unset).toArray = ls at hl ⊢
  have hl : lv_has ls 3 [(0, .ref q0), (1, .int p_0), (2, .int p_1)] := hl
  subst hsz
  have hD := hD0.self (sz := s.heap.size)
  obtain ⟨A, hAe⟩ : ∃ A, va_A (TW ct L f) s.heap.size = A := ⟨_, rfl⟩
  rw [hAe] at hD
  have hA : ∀ q : Nat, s.heap.size ≤ q → A q := fun q h => by rw [← hAe]; exact Or.inr h
  have hS : va_S A s.heap s.heap [] := va_S.rf
  have hA_0 : Ext [] L f L f := Ext.rf
  suffices hGo : ∀ (H : Heap) (locs : List Loc), va_P (dC, dI) vwCl (TW ct L f) H → va_S A s.heap H locs → W p l e (headSpec (.code y_WM_pension b_WM_pension 3 (some .int) :: TB) ({ frames := 3, cells := 1, slots := 3, locals := 56 })).room s m [.ref q0, .int p_0, .int p_1].toArray below meth c H locs 0 0 (MQ below (va_Qi (fun r (u : TSt) => Ok u.1 u.2 ∧ Ext W_WM_pension_t L f u.1 u.2 ∧ (True)) (fun (u : TSt) t => va_P (dC, dI) vwCl (TW ct u.1 u.2) t.heap ∧ va_K (dC, dI) vwCl (TT ct) t ∧ va_D (va_A (TW ct L f) s.heap.size) (TW ct u.1 u.2)) (va_A (TW ct L f) s.heap.size)) [.ref q0, .int p_0, .int p_1].toArray s 1 3 (va_A (TW ct L f) s.heap.size)) (F0 m 0 ls []) from hGo _ _ hP hS
  clear hP hS
  intro H locs hP hS
  refine lv_iload_n hx hb d_WM_pension_0 rfl (lv_at hl 1 rfl) ?_
  refine lv_iload_n hx hb d_WM_pension_1 rfl (lv_at hl 2 rfl) ?_
  refine vp_callSi (va_Run.run (va_runS (As := [.int p_0, .int p_1]) (rest := []) ⟨hx, hb, hml, hown, htb⟩ (c_WM_isPension l p_0 p_1) (cwS 2 htb (gd_S tw_432 tw_433 tw_25 tw_431) rfl rfl rfl (by decide +kernel) ⟨Nat.le_of_ble_eq_true rfl, Nat.le_of_ble_eq_true rfl⟩) ⟨fun _ _ _ _ h => h, fun U _ _ => ⟨rfl, trivial⟩⟩ rfl rfl hl.1 rfl (lv_room (Nat.le_of_ble_eq_true rfl)) d_WM_pension_2 ⟨Nat.le_of_ble_eq_true rfl, Nat.le_of_ble_eq_true rfl⟩)) (fun r er => ?_)
  subst er
  by_cases c_2 : p_0 < 1
  · refine hb_ti 0 (by unfold f_WM_isPension; rw [if_pos c_2]; first | done | rfl) ?_
    refine lv_if_ne (tgt := 10) hx hb d_WM_pension_5 (by decide) (fun h => absurd (by decide +kernel) h) (fun _ => ?_)
    refine lv_iconst (v := (-1)) hx hb d_WM_pension_8 (by decide +kernel) ?_
    refine W.widen (k := 1) (n := 3) (Nat.le_of_ble_eq_true rfl) (Nat.le_of_ble_eq_true rfl) ?_
    exact W.iret (v := (-1)) hx hb hr (fun t ht hW => ⟨⟨(-1), (L, f), rfl, ⟨hO_0, hA_0.mono (by decide +kernel), trivial⟩, by rw [ht]; exact hP, va_K.moved hW.alike hK, by rw [hAe]; exact hD⟩, by rw [hAe]; exact hS.F ht⟩) (by rw [hAe]; exact hS.2.2) d_WM_pension_9
  · by_cases c_3 : 10000 < p_0
    · refine hb_ti 0 (by unfold f_WM_isPension; rw [if_neg c_2, if_pos c_3]; first | done | rfl) ?_
      refine lv_if_ne (tgt := 10) hx hb d_WM_pension_5 (by decide) (fun h => absurd (by decide +kernel) h) (fun _ => ?_)
      refine lv_iconst (v := (-1)) hx hb d_WM_pension_8 (by decide +kernel) ?_
      refine W.widen (k := 1) (n := 3) (Nat.le_of_ble_eq_true rfl) (Nat.le_of_ble_eq_true rfl) ?_
      exact W.iret (v := (-1)) hx hb hr (fun t ht hW => ⟨⟨(-1), (L, f), rfl, ⟨hO_0, hA_0.mono (by decide +kernel), trivial⟩, by rw [ht]; exact hP, va_K.moved hW.alike hK, by rw [hAe]; exact hD⟩, by rw [hAe]; exact hS.F ht⟩) (by rw [hAe]; exact hS.2.2) d_WM_pension_9
    · by_cases c_4 : p_1 < 0
      · refine hb_ti 0 (by unfold f_WM_isPension; rw [if_neg c_2, if_neg c_3, if_pos c_4]; first | done | rfl) ?_
        refine lv_if_ne (tgt := 10) hx hb d_WM_pension_5 (by decide) (fun h => absurd (by decide +kernel) h) (fun _ => ?_)
        refine lv_iconst (v := (-1)) hx hb d_WM_pension_8 (by decide +kernel) ?_
        refine W.widen (k := 1) (n := 3) (Nat.le_of_ble_eq_true rfl) (Nat.le_of_ble_eq_true rfl) ?_
        exact W.iret (v := (-1)) hx hb hr (fun t ht hW => ⟨⟨(-1), (L, f), rfl, ⟨hO_0, hA_0.mono (by decide +kernel), trivial⟩, by rw [ht]; exact hP, va_K.moved hW.alike hK, by rw [hAe]; exact hD⟩, by rw [hAe]; exact hS.F ht⟩) (by rw [hAe]; exact hS.2.2) d_WM_pension_9
      · by_cases c_5 : 9999 < p_1
        · refine hb_ti 0 (by unfold f_WM_isPension; rw [if_neg c_2, if_neg c_3, if_neg c_4, if_pos c_5]; first | done | rfl) ?_
          refine lv_if_ne (tgt := 10) hx hb d_WM_pension_5 (by decide) (fun h => absurd (by decide +kernel) h) (fun _ => ?_)
          refine lv_iconst (v := (-1)) hx hb d_WM_pension_8 (by decide +kernel) ?_
          refine W.widen (k := 1) (n := 3) (Nat.le_of_ble_eq_true rfl) (Nat.le_of_ble_eq_true rfl) ?_
          exact W.iret (v := (-1)) hx hb hr (fun t ht hW => ⟨⟨(-1), (L, f), rfl, ⟨hO_0, hA_0.mono (by decide +kernel), trivial⟩, by rw [ht]; exact hP, va_K.moved hW.alike hK, by rw [hAe]; exact hD⟩, by rw [hAe]; exact hS.F ht⟩) (by rw [hAe]; exact hS.2.2) d_WM_pension_9
        · refine hb_ti 1 (by unfold f_WM_isPension; rw [if_neg c_2, if_neg c_3, if_neg c_4, if_neg c_5]; first | done | rfl) ?_
          refine lv_if_ne (tgt := 10) hx hb d_WM_pension_5 (by decide) (fun _ => ?_) (fun h => absurd h (by decide +kernel))
          refine lv_aload_n hx hb d_WM_pension_10 rfl (lv_at hl 0 rfl) ?_
          refine tw_getr (D := (dC, dI)) (C := R_WM) (T := F_WM) (N := 13) (ci := 0) (kd := 0) (ct := ct) hx hb htb i_WM hown hK hP hO_0 m0 rfl rfl 6 (by decide) (htb (.fieldLink R_WM 50 "WaterMen" "box" "LWaterMen$Box;") tw_410) (fun _ h9 => h9) rfl d_WM_pension_11 (fun q_6 e_6 m_6 => ?_)
          refine tw_geti (D := (dC, dI)) (C := R_Bx) (T := F_Bx) (N := 7) (ci := 5) (kd := 12) (ct := ct) hx hb htb i_Bx hown hK hP hO_0 m_6 rfl rfl 6 (by decide) (htb (.fieldLink R_WM 280 "WaterMen$Box" "pensionerCount" "I") tw_434) (fun _ h9 => h9) rfl d_WM_pension_14 (fun x_7 e_7 b_7 => ?_)
          refine lv_bipush (v := 30) hx hb d_WM_pension_17 (by decide +kernel) ?_
          refine lv_icmp_lt (tgt := 27) hx hb d_WM_pension_19 (by decide) (fun c_8 => ?_) (fun c_8 => ?_)
          · refine lv_aload_n hx hb d_WM_pension_27 rfl (lv_at hl 0 rfl) ?_
            refine tw_getR (D := (dC, dI)) (C := R_WM) (T := F_WM) (N := 13) (ci := 0) (kd := 0) (ct := ct) hx hb htb i_WM hown hK hP m0 rfl rfl 6 e_6 (by decide) (htb (.fieldLink R_WM 50 "WaterMen" "box" "LWaterMen$Box;") tw_410) (fun _ h9 => h9) rfl d_WM_pension_28 ?_
            refine hb_tv (.ref q_6) rfl ?_
            refine lv_iload_n hx hb d_WM_pension_31 rfl (lv_at hl 1 rfl) ?_
            refine lv_iload_n hx hb d_WM_pension_32 rfl (lv_at hl 2 rfl) ?_
            have hFc := hb_free hD hS hA
            refine va_calli (va_runV (As := [.int p_0, .int p_1]) (rest := []) ⟨hx, hb, hml, hown, htb⟩ (c_Bx_take_t l dC dI ct L f hO_0 q_6 m_6 _ p_0 p_1 (by rw [show ti f q_6 6 = x_7 from e_7]; first | done | exact (show ¬ (29 < x_7) from by have e0 := b_7.1; rw [Int32.lt_iff_toInt_lt] at e0; have e1 := c_8; rw [Int32.lt_iff_toInt_lt] at e1; have z0 : (0 : Int32).toInt = 0 := (by decide +kernel); have z1 : (29 : Int32).toInt = 29 := (by decide +kernel); have z2 : (30 : Int32).toInt = 30 := (by decide +kernel); rw [Int32.lt_iff_toInt_lt]; omega))) (cwV 2 htb (gd_V tw_442 tw_443 tw_444 tw_104 tw_441) rfl rfl rfl (by decide +kernel) ⟨Nat.le_of_ble_eq_true rfl, Nat.le_of_ble_eq_true rfl⟩) ⟨pc_blind, tw_recv hK hP m_6 rfl rfl, pc_pre hP hK hD hN⟩ rfl rfl hl.1 rfl (lv_room (Nat.le_of_ble_eq_true rfl)) d_WM_pension_33 ⟨Nat.le_of_ble_eq_true rfl, Nat.le_of_ble_eq_true rfl⟩) hS (fun q _ h => hFc q h) hFc (fun r_9 u t H locs ht hvm er hB hz1 hk1 hS => ?_)
            obtain ⟨L_1, f_1⟩ := u
            obtain ⟨hO_1, hE_1, er⟩ := er
            obtain ⟨hP, hK1, hD1⟩ := hB
            rw [ht] at hP
            have hP : va_P (dC, dI) vwCl (TW ct L_1 f_1) H := hP
            have hD : va_D A (TW ct L_1 f_1) := hD1.weaken (fun _ q _ h => hFc q.1 h)
            have hO_1 : Ok L_1 f_1 := hO_1
            have hE_1 : Ext W_Bx_take_t L f L_1 f_1 := hE_1
            clear hK1 hD1 ht hvm hz1 hk1
            have hA_1 := hA_0.trans hE_1
            clear er
            refine W.widen (k := 1) (n := 3) (Nat.le_of_ble_eq_true rfl) (Nat.le_of_ble_eq_true rfl) ?_
            exact W.iret (v := r_9) hx hb hr (fun t ht hW => ⟨⟨r_9, (L_1, f_1), rfl, ⟨hO_1, hA_1.mono (by decide +kernel), trivial⟩, by rw [ht]; exact hP, va_K.moved hW.alike hK, by rw [hAe]; exact hD⟩, by rw [hAe]; exact hS.F ht⟩) (by rw [hAe]; exact hS.2.2) d_WM_pension_36
          · refine lv_bipush (v := (-3)) hx hb d_WM_pension_22 (by decide +kernel) ?_
            refine lv_goto (tgt := 36) hx hb d_WM_pension_24 (by decide) ?_
            refine W.widen (k := 1) (n := 3) (Nat.le_of_ble_eq_true rfl) (Nat.le_of_ble_eq_true rfl) ?_
            exact W.iret (v := (-3)) hx hb hr (fun t ht hW => ⟨⟨(-3), (L, f), rfl, ⟨hO_0, hA_0.mono (by decide +kernel), trivial⟩, by rw [ht]; exact hP, va_K.moved hW.alike hK, by rw [hAe]; exact hD⟩, by rw [hAe]; exact hS.F ht⟩) (by rw [hAe]; exact hS.2.2) d_WM_pension_36
set_option maxHeartbeats 4000000 in
set_option maxRecDepth 100000 in
theorem c_WM_foretold_t (l : Launch) (dC : Nat → ClassId) (dI : Nat → Nat → Nat) (ct : Nat → ClassId) (L : List Nat) (f : TF) (hO_0 : Ok L f) (q0 : Nat) (m0 : q0 ∈ L ∧ tk f q0 = 0)    : Met l y_WM_foretold (.code y_WM_foretold b_WM_foretold 2 (some .int) :: TB) ({ frames := 3, cells := 0, slots := 0, locals := 72 }) (va_Pc [.ref q0] (PR dC dI (TW ct L f) (TT ct))) (vp_Si (fun r => True)) 0 0 (fun _ => False) := by
  refine Met.ofW (cc := b_WM_foretold) (maxL := 2) (ret := (some .int)) (by decide) rfl ?_
  intro p e s m args below meth c s₁ B hml hv
  obtain ⟨rfl, hP, hK, hN⟩ := hv
  have hx := B.exec
  have hb := B.bytes
  have hr := B.returns
  have hts := atoms_spec (ws := (.code y_WM_foretold b_WM_foretold 2 (some .int) :: TB)) B.pre
  have htb := fun w (h : w ∈ TB) => hts w (List.mem_cons_of_mem _ h)
  have hown : s.vm.findClass R_WM = some m.cls := findClass_of_methodNamed B.named
  have hlocks := B.notSynchronized
  have hl := lv_entry ([.ref q0]) (n := 2) (Nat.le_of_ble_eq_true rfl)
  rw [lg_entry_eq]
  generalize (lg_sl ([.ref q0]) ++ List.replicate (2 - (lg_sl ([.ref q0])).length) Slot.unset).toArray = ls at hl ⊢
  have hl : lv_has ls 2 [(0, .ref q0)] := hl
  refine lv_aload_n hx hb d_WM_foretold_0 rfl (lv_at hl 0 rfl) ?_
  refine tw_getr (D := (dC, dI)) (C := R_WM) (T := F_WM) (N := 13) (ci := 0) (kd := 0) (ct := ct) hx hb htb i_WM hown hK hP hO_0 m0 rfl rfl 6 (by decide) (htb (.fieldLink R_WM 50 "WaterMen" "box" "LWaterMen$Box;") tw_410) (fun _ h9 => h9) rfl d_WM_foretold_1 (fun q_1 e_1 m_1 => ?_)
  refine lv_aload_n hx hb d_WM_foretold_4 rfl (lv_at hl 0 rfl) ?_
  refine vp_callSi (va_Run.run (va_runV (As := []) (rest := [.ref q_1]) ⟨hx, hb, hml, hown, htb⟩ (c_WM_today_t l dC dI ct L f hO_0 q0 m0) (cwV 0 htb (gd_V tw_180 tw_181 tw_182 tw_25 tw_179) rfl rfl rfl (by decide +kernel) ⟨Nat.le_of_ble_eq_true rfl, Nat.le_of_ble_eq_true rfl⟩) ⟨pr_blind, tw_recv hK hP m0 rfl rfl, pr_pre hP hK hN⟩ rfl rfl hl.1 rfl (lv_room (Nat.le_of_ble_eq_true rfl)) d_WM_foretold_5 ⟨Nat.le_of_ble_eq_true rfl, Nat.le_of_ble_eq_true rfl⟩)) (fun r_2 er_2 => ?_)
  obtain ⟨po_3, po_4, -⟩ := er_2
  refine vp_callSi (va_Run.run (va_runV (As := [.int r_2]) (rest := []) ⟨hx, hb, hml, hown, htb⟩ (c_Bx_firstShortDay_t l dC dI ct L f hO_0 q_1 m_1 r_2 po_3 po_4) (cwV 1 htb (gd_V tw_459 tw_460 tw_461 tw_104 tw_458) rfl rfl rfl (by decide +kernel) ⟨Nat.le_of_ble_eq_true rfl, Nat.le_of_ble_eq_true rfl⟩) ⟨pr_blind, tw_recv hK hP m_1 rfl rfl, pr_pre hP hK hN⟩ rfl rfl hl.1 rfl (lv_room (Nat.le_of_ble_eq_true rfl)) d_WM_foretold_8 ⟨Nat.le_of_ble_eq_true rfl, Nat.le_of_ble_eq_true rfl⟩)) (fun r_5 er_5 => ?_)
  clear er_5
  refine lv_istore_n (lv' := [(1, .int r_5), (0, .ref q0)]) hx hb d_WM_foretold_11 rfl hl (by decide) rfl (fun ls hl => ?_)
  refine lv_iload_n hx hb d_WM_foretold_12 rfl (lv_at hl 0 rfl) ?_
  refine lv_iconst (v := (-1)) hx hb d_WM_foretold_13 (by decide +kernel) ?_
  refine lv_icmp_ne (tgt := 22) hx hb d_WM_foretold_14 (by decide) (fun c_6 => ?_) (fun c_6 => ?_)
  · refine lv_iload_n hx hb d_WM_foretold_22 rfl (lv_at hl 0 rfl) ?_
    exact W.iret (v := r_5) hx hb hr (fun t ht hW => ⟨r_5, rfl, trivial, ht⟩) t_nil d_WM_foretold_23
  · refine lv_bipush (v := (-2)) hx hb d_WM_foretold_17 (by decide +kernel) ?_
    refine lv_goto (tgt := 23) hx hb d_WM_foretold_19 (by decide) ?_
    exact W.iret (v := (-2)) hx hb hr (fun t ht hW => ⟨(-2), rfl, trivial, ht⟩) t_nil d_WM_foretold_23
