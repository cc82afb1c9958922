def wp_WM_priceOf_w (L : List Nat) (f : TF) (q0 : Nat) (pq_0 : Nat) (p_1 : Int32) (p_2 : Int32) (p_3 : Int32) (p_4 : Int32) (Q : Int32 → Prop) : Prop := ∀ y_1 : Int32, y_1 = p_3 / 12 → ∀ y_2 : Int32, y_2 = p_3 - p_3 / 12 * 12 → ∀ q_3 : Nat, tr f q0 0 = some q_3 → wp_Rv_drift_w L f q_3 p_1 p_2 y_1 y_2 (fun (r_4 : Int32) => wp_Rv_distance_w L f q_3 p_1 p_2 (fun (r_5 : Int32) => wp_Or_price_w L f pq_0 r_5 r_4 y_1 y_2 p_4 (fun (r_6 : Int32) => Q r_6)))
set_option maxHeartbeats 4000000 in
set_option maxRecDepth 100000 in
theorem c_WM_priceOf_w (l : Launch) (dC : Nat → ClassId) (dI : Nat → Nat → Nat) (ct : Nat → ClassId) (L : List Nat) (f : TF) (hO_0 : Ok L f) (q0 : Nat) (m0 : q0 ∈ L ∧ tk f q0 = 0) (pq_0 : Nat) (pm_0 : pq_0 ∈ L ∧ tk f pq_0 = 15) (p_1 : Int32) (p_2 : Int32) (p_3 : Int32) (p_4 : Int32)  (as_0 : ¬ (p_1 < 0)) (as_1 : ¬ (11 < p_1)) (as_2 : ¬ (p_2 < 0)) (as_3 : ¬ (11 < p_2)) (as_4 : ¬ (p_3 < 0)) (as_5 : ¬ (5999 < p_3)) (Q : Int32 → Prop) (hQ : wp_WM_priceOf_w L f q0 pq_0 p_1 p_2 p_3 p_4 Q) : Met l y_WM_priceOf (.code y_WM_priceOf b_WM_priceOf 9 (some .int) :: TB) ({ frames := 3, cells := 0, slots := 0, locals := 71 }) (va_Pc [.ref q0, .ref pq_0, .int p_1, .int p_2, .int p_3, .int p_4] (PR dC dI (TW ct L f) (TT ct))) (vp_Si (fun r => (True) ∧ Q r)) 0 0 (fun _ => False) := by
  refine Met.ofW (cc := b_WM_priceOf) (maxL := 9) (ret := (some .int)) (by decide) rfl ?_
  intro p e s m args below meth c s₁ B hml hv
  obtain ⟨rfl, hP, hK, hN⟩ := hv
  have hx := B.exec
  have hb := B.bytes
  have hr := B.returns
  have hts := atoms_spec (ws := (.code y_WM_priceOf b_WM_priceOf 9 (some .int) :: TB)) B.pre
  have htb := fun w (h : w ∈ TB) => hts w (List.mem_cons_of_mem _ h)
  have hown : s.vm.findClass R_WM = some m.cls := findClass_of_methodNamed B.named
  have hlocks := B.notSynchronized
  have hl := lv_entry ([.ref q0, .ref pq_0, .int p_1, .int p_2, .int p_3, .int p_4]) (n := 9) (Nat.le_of_ble_eq_true rfl)
  rw [lg_entry_eq]
  generalize (lg_sl ([.ref q0, .ref pq_0, .int p_1, .int p_2, .int p_3, .int p_4]) ++ List.replicate (9 - (lg_sl ([.ref q0, .ref pq_0, .int p_1, .int p_2, .int p_3, .int p_4])).length) Slot.unset).toArray = ls at hl ⊢
  have hl : lv_has ls 9 [(0, .ref q0), (1, .ref pq_0), (2, .int p_1), (3, .int p_2), (4, .int p_3), (5, .int p_4)] := hl
  unfold wp_WM_priceOf_w at hQ
  refine lv_iload hx hb d_WM_priceOf_0 (lv_at hl 4 rfl) ?_
  refine lv_bipush (v := 12) hx hb d_WM_priceOf_2 (by decide +kernel) ?_
  refine lv_idiv hx hb d_WM_priceOf_4 (by decide) ?_
  refine hb_divn (U := 5999) (Qm := 499) (c := 12) (C1 := 11) (K := 2147483635) (by decide +kernel) (by decide +kernel) (by decide +kernel) as_4 (show ¬ (2147483635 < p_3) from by have e0 := as_4; rw [Int32.lt_iff_toInt_lt] at e0; have e1 := as_5; rw [Int32.lt_iff_toInt_lt] at e1; have z0 : (0 : Int32).toInt = 0 := (by decide +kernel); have z1 : (5999 : Int32).toInt = 5999 := (by decide +kernel); have z2 : (2147483635 : Int32).toInt = 2147483635 := (by decide +kernel); rw [Int32.lt_iff_toInt_lt]; omega) as_5 (by decide +kernel) (fun y_1 g1_1 g2_1 g3_1 g4_1 g5_1 g9_1 => ?_)
  have hQ := hQ y_1 g9_1
  refine lv_istore (lv' := [(6, .int y_1), (0, .ref q0), (1, .ref pq_0), (2, .int p_1), (3, .int p_2), (4, .int p_3), (5, .int p_4)]) hx hb d_WM_priceOf_5 hl (by decide) rfl (fun ls hl => ?_)
  refine lv_iload hx hb d_WM_priceOf_7 (lv_at hl 5 rfl) ?_
  refine lv_bipush (v := 12) hx hb d_WM_priceOf_9 (by decide +kernel) ?_
  refine lv_irem hx hb d_WM_priceOf_11 (by decide) ?_
  refine hb_remn (c := 12) (C1 := 11) (K := 2147483635) (by decide +kernel) (by decide +kernel) (by decide +kernel) as_4 (show ¬ (2147483635 < p_3) from by have e0 := as_4; rw [Int32.lt_iff_toInt_lt] at e0; have e1 := as_5; rw [Int32.lt_iff_toInt_lt] at e1; have z0 : (0 : Int32).toInt = 0 := (by decide +kernel); have z1 : (5999 : Int32).toInt = 5999 := (by decide +kernel); have z2 : (2147483635 : Int32).toInt = 2147483635 := (by decide +kernel); rw [Int32.lt_iff_toInt_lt]; omega) (fun y_2 qu_2 g1_2 g2_2 g3_2 g4_2 g5_2 g9_2 => ?_)
  have hQ := hQ y_2 g9_2
  refine lv_istore (lv' := [(7, .int y_2), (6, .int y_1), (0, .ref q0), (1, .ref pq_0), (2, .int p_1), (3, .int p_2), (4, .int p_3), (5, .int p_4)]) hx hb d_WM_priceOf_12 hl (by decide) rfl (fun ls hl => ?_)
  refine lv_aload_n hx hb d_WM_priceOf_14 rfl (lv_at hl 2 rfl) ?_
  refine tw_getr (D := (dC, dI)) (C := R_WM) (T := F_WM) (N := 13) (ci := 0) (kd := 0) (ct := ct) hx hb htb i_WM hown hK hP hO_0 m0 rfl rfl 0 (by decide) (htb (.fieldLink R_WM 12 "WaterMen" "river" "LWaterMen$River;") tw_135) (fun _ h9 => h9) rfl d_WM_priceOf_15 (fun q_3 e_3 m_3 => ?_)
  have hQ := hQ q_3 e_3
  refine lv_iload_n hx hb d_WM_priceOf_18 rfl (lv_at hl 4 rfl) ?_
  refine lv_iload_n hx hb d_WM_priceOf_19 rfl (lv_at hl 5 rfl) ?_
  refine lv_iload hx hb d_WM_priceOf_20 (lv_at hl 1 rfl) ?_
  refine lv_iload hx hb d_WM_priceOf_22 (lv_at hl 0 rfl) ?_
  refine vp_callSi (va_Run.run (va_runV (As := [.int p_1, .int p_2, .int y_1, .int y_2]) (rest := []) ⟨hx, hb, hml, hown, htb⟩ (c_Rv_drift_w l dC dI ct L f hO_0 q_3 m_3 p_1 p_2 y_1 y_2 g1_1 g5_1 g1_2 g2_2 _ hQ) (cwV 4 htb (gd_V tw_406 tw_407 tw_408 tw_140 tw_405) rfl rfl rfl (by decide +kernel) ⟨Nat.le_of_ble_eq_true rfl, Nat.le_of_ble_eq_true rfl⟩) ⟨pr_blind, tw_recv hK hP m_3 rfl rfl, pr_pre hP hK hN⟩ rfl rfl hl.1 rfl (lv_room (Nat.le_of_ble_eq_true rfl)) d_WM_priceOf_24 ⟨Nat.le_of_ble_eq_true rfl, Nat.le_of_ble_eq_true rfl⟩)) (fun r_4 er_4 => ?_)
  obtain ⟨er_4, hQ⟩ := er_4
  clear er_4
  refine lv_istore (lv' := [(8, .int r_4), (7, .int y_2), (6, .int y_1), (0, .ref q0), (1, .ref pq_0), (2, .int p_1), (3, .int p_2), (4, .int p_3), (5, .int p_4)]) hx hb d_WM_priceOf_27 hl (by decide) rfl (fun ls hl => ?_)
  refine lv_aload_n hx hb d_WM_priceOf_29 rfl (lv_at hl 4 rfl) ?_
  refine lv_aload_n hx hb d_WM_priceOf_30 rfl (lv_at hl 3 rfl) ?_
  refine tw_getR (D := (dC, dI)) (C := R_WM) (T := F_WM) (N := 13) (ci := 0) (kd := 0) (ct := ct) hx hb htb i_WM hown hK hP m0 rfl rfl 0 e_3 (by decide) (htb (.fieldLink R_WM 12 "WaterMen" "river" "LWaterMen$River;") tw_135) (fun _ h9 => h9) rfl d_WM_priceOf_31 ?_
  refine hb_tv (.ref q_3) rfl ?_
  refine lv_iload_n hx hb d_WM_priceOf_34 rfl (lv_at hl 5 rfl) ?_
  refine lv_iload_n hx hb d_WM_priceOf_35 rfl (lv_at hl 6 rfl) ?_
  refine vp_callSi (va_Run.run (va_runV (As := [.int p_1, .int p_2]) (rest := [.ref pq_0]) ⟨hx, hb, hml, hown, htb⟩ (c_Rv_distance_w l dC dI ct L f hO_0 q_3 m_3 p_1 p_2 as_0 as_1 as_2 as_3 _ hQ) (cwV 2 htb (gd_V tw_413 tw_414 tw_415 tw_140 tw_412) rfl rfl rfl (by decide +kernel) ⟨Nat.le_of_ble_eq_true rfl, Nat.le_of_ble_eq_true rfl⟩) ⟨pr_blind, tw_recv hK hP m_3 rfl rfl, pr_pre hP hK hN⟩ rfl rfl hl.1 rfl (lv_room (Nat.le_of_ble_eq_true rfl)) d_WM_priceOf_36 ⟨Nat.le_of_ble_eq_true rfl, Nat.le_of_ble_eq_true rfl⟩)) (fun r_5 er_5 => ?_)
  obtain ⟨er_5, hQ⟩ := er_5
  clear er_5
  refine lv_iload hx hb d_WM_priceOf_39 (lv_at hl 0 rfl) ?_
  refine lv_iload hx hb d_WM_priceOf_41 (lv_at hl 2 rfl) ?_
  refine lv_iload hx hb d_WM_priceOf_43 (lv_at hl 1 rfl) ?_
  refine lv_iload hx hb d_WM_priceOf_45 (lv_at hl 8 rfl) ?_
  refine vp_callSi (va_Run.run (va_runV (As := [.int r_5, .int r_4, .int y_1, .int y_2, .int p_4]) (rest := []) ⟨hx, hb, hml, hown, htb⟩ (c_Or_price_w l dC dI ct L f hO_0 pq_0 pm_0 r_5 r_4 y_1 y_2 p_4 _ hQ) (cwV 5 htb (gd_V tw_431 tw_432 tw_433 tw_250 tw_430) rfl rfl rfl (by decide +kernel) ⟨Nat.le_of_ble_eq_true rfl, Nat.le_of_ble_eq_true rfl⟩) ⟨pr_blind, tw_recv hK hP pm_0 rfl rfl, pr_pre hP hK hN⟩ rfl rfl hl.1 rfl (lv_room (Nat.le_of_ble_eq_true rfl)) d_WM_priceOf_47 ⟨Nat.le_of_ble_eq_true rfl, Nat.le_of_ble_eq_true rfl⟩)) (fun r_6 er_6 => ?_)
  obtain ⟨er_6, hQ⟩ := er_6
  clear er_6
  exact W.iret (v := r_6) hx hb hr (fun t ht hW => ⟨r_6, rfl, ⟨trivial, hQ⟩, ht⟩) t_nil d_WM_priceOf_50
def wp_WM_fare_w (L : List Nat) (f : TF) (q0 : Nat) (p_0 : Int32) (p_1 : Int32) (p_2 : Int32) (p_3 : Int32) (p_4 : Int32) (Q : Int32 → Prop) : Prop := wp_WM_orderAt_w L f q0 p_0 (fun (r_1 : Option Nat) => ((r_1 = none → Q (-1)) ∧ (∀ q_1 : Nat, r_1 = some q_1 → ∀ q_2 : Nat, tr f q0 0 = some q_2 → wp_Rv_hasStairs_w L f q_2 p_1 (fun (r_3 : Int32) => ((r_3 = 0 → Q (-1)) ∧ (r_3 = 1 → wp_Rv_hasStairs_w L f q_2 p_2 (fun (r_6 : Int32) => ((r_6 = 0 → Q (-1)) ∧ (r_6 = 1 → ((p_1 = p_2 → Q (-1)) ∧ (¬ (p_1 = p_2) → ((p_3 < 0 → Q (-1)) ∧ (¬ (p_3 < 0) → ((6000 ≤ p_3 → Q (-1)) ∧ (¬ (6000 ≤ p_3) → ((p_4 = 1 → wp_WM_priceOf_w L f q0 q_1 p_1 p_2 p_3 p_4 (fun (r_14 : Int32) => ((r_14 = (-1) → Q (-2)) ∧ (¬ (r_14 = (-1)) → Q r_14)))) ∧ (¬ (p_4 = 1) → ((p_4 = 2 → wp_WM_priceOf_w L f q0 q_1 p_1 p_2 p_3 p_4 (fun (r_17 : Int32) => ((r_17 = (-1) → Q (-2)) ∧ (¬ (r_17 = (-1)) → Q r_17)))) ∧ (¬ (p_4 = 2) → Q (-1))))))))))))))))))))
set_option maxHeartbeats 4000000 in
set_option maxRecDepth 100000 in
theorem c_WM_fare_w (l : Launch) (dC : Nat → ClassId) (dI : Nat → Nat → Nat) (ct : Nat → ClassId) (L : List Nat) (f : TF) (hO_0 : Ok L f) (q0 : Nat) (m0 : q0 ∈ L ∧ tk f q0 = 0) (p_0 : Int32) (p_1 : Int32) (p_2 : Int32) (p_3 : Int32) (p_4 : Int32)   (Q : Int32 → Prop) (hQ : wp_WM_fare_w L f q0 p_0 p_1 p_2 p_3 p_4 Q) : Met l y_WM_fare (.code y_WM_fare b_WM_fare 8 (some .int) :: TB) ({ frames := 4, cells := 0, slots := 0, locals := 99 }) (va_Pc [.ref q0, .int p_0, .int p_1, .int p_2, .int p_3, .int p_4] (PR dC dI (TW ct L f) (TT ct))) (vp_Si (fun r => (True) ∧ Q r)) 0 0 (fun _ => False) := by
  refine Met.ofW (cc := b_WM_fare) (maxL := 8) (ret := (some .int)) (by decide) rfl ?_
  intro p e s m args below meth c s₁ B hml hv
  obtain ⟨rfl, hP, hK, hN⟩ := hv
  have hx := B.exec
  have hb := B.bytes
  have hr := B.returns
  have hts := atoms_spec (ws := (.code y_WM_fare b_WM_fare 8 (some .int) :: TB)) B.pre
  have htb := fun w (h : w ∈ TB) => hts w (List.mem_cons_of_mem _ h)
  have hown : s.vm.findClass R_WM = some m.cls := findClass_of_methodNamed B.named
  have hlocks := B.notSynchronized
  have hl := lv_entry ([.ref q0, .int p_0, .int p_1, .int p_2, .int p_3, .int p_4]) (n := 8) (Nat.le_of_ble_eq_true rfl)
  rw [lg_entry_eq]
  generalize (lg_sl ([.ref q0, .int p_0, .int p_1, .int p_2, .int p_3, .int p_4]) ++ List.replicate (8 - (lg_sl ([.ref q0, .int p_0, .int p_1, .int p_2, .int p_3, .int p_4])).length) Slot.unset).toArray = ls at hl ⊢
  have hl : lv_has ls 8 [(0, .ref q0), (1, .int p_0), (2, .int p_1), (3, .int p_2), (4, .int p_3), (5, .int p_4)] := hl
  unfold wp_WM_fare_w at hQ
  refine lv_aload_n hx hb d_WM_fare_0 rfl (lv_at hl 0 rfl) ?_
  refine lv_iload_n hx hb d_WM_fare_1 rfl (lv_at hl 1 rfl) ?_
  refine va_csq (va_Run.run (va_runV (As := [.int p_0]) (rest := []) ⟨hx, hb, hml, hown, htb⟩ (c_WM_orderAt_w l dC dI ct L f hO_0 q0 m0 p_0 _ hQ) (cwV 1 htb (gd_V tw_386 tw_387 tw_388 tw_26 tw_385) rfl rfl rfl (by decide +kernel) ⟨Nat.le_of_ble_eq_true rfl, Nat.le_of_ble_eq_true rfl⟩) ⟨pr_blind, tw_recv hK hP m0 rfl rfl, pr_pre hP hK hN⟩ rfl rfl hl.1 rfl (lv_room (Nat.le_of_ble_eq_true rfl)) d_WM_fare_2 ⟨Nat.le_of_ble_eq_true rfl, Nat.le_of_ble_eq_true rfl⟩)) (fun r_1 er_1 => ?_)
  obtain ⟨er_1, hQ⟩ := er_1
  rcases er_1 with rfl | ⟨q_1, rfl, m_1⟩
  · have hQ := hQ.1 rfl
    refine hb_tv .null rfl ?_
    refine lv_astoreN (lv' := [(6, .null), (0, .ref q0), (1, .int p_0), (2, .int p_1), (3, .int p_2), (4, .int p_3), (5, .int p_4)]) hx hb d_WM_fare_5 hl (by decide) rfl (fun ls hl => ?_)
    refine lv_aloadN hx hb d_WM_fare_7 (lv_at hl 0 rfl) ?_
    refine lv_ifnullN (tgt := 39) hx hb d_WM_fare_9 (by decide) ?_
    refine lv_iconst (v := (-1)) hx hb d_WM_fare_39 (by decide +kernel) ?_
    exact W.iret (v := (-1)) hx hb hr (fun t ht hW => ⟨(-1), rfl, ⟨trivial, hQ⟩, ht⟩) t_nil d_WM_fare_40
  · have hQ := hQ.2 q_1 rfl
    refine hb_tv (.ref q_1) rfl ?_
    refine lv_astore (lv' := [(6, .ref q_1), (0, .ref q0), (1, .int p_0), (2, .int p_1), (3, .int p_2), (4, .int p_3), (5, .int p_4)]) hx hb d_WM_fare_5 hl (by decide) rfl (fun ls hl => ?_)
    refine lv_aload hx hb d_WM_fare_7 (lv_at hl 0 rfl) ?_
    refine lv_ifnull hx hb d_WM_fare_9 ?_
    refine lv_aload_n hx hb d_WM_fare_12 rfl (lv_at hl 1 rfl) ?_
    refine tw_getr (D := (dC, dI)) (C := R_WM) (T := F_WM) (N := 13) (ci := 0) (kd := 0) (ct := ct) hx hb htb i_WM hown hK hP hO_0 m0 rfl rfl 0 (by decide) (htb (.fieldLink R_WM 12 "WaterMen" "river" "LWaterMen$River;") tw_135) (fun _ h9 => h9) rfl d_WM_fare_13 (fun q_2 e_2 m_2 => ?_)
    have hQ := hQ q_2 e_2
    refine lv_iload_n hx hb d_WM_fare_16 rfl (lv_at hl 3 rfl) ?_
    refine vp_callSi (va_Run.run (va_runV (As := [.int p_1]) (rest := []) ⟨hx, hb, hml, hown, htb⟩ (c_Rv_hasStairs_w l dC dI ct L f hO_0 q_2 m_2 p_1 _ hQ) (cwV 1 htb (gd_V tw_398 tw_399 tw_400 tw_140 tw_397) rfl rfl rfl (by decide +kernel) ⟨Nat.le_of_ble_eq_true rfl, Nat.le_of_ble_eq_true rfl⟩) ⟨pr_blind, tw_recv hK hP m_2 rfl rfl, pr_pre hP hK hN⟩ rfl rfl hl.1 rfl (lv_room (Nat.le_of_ble_eq_true rfl)) d_WM_fare_17 ⟨Nat.le_of_ble_eq_true rfl, Nat.le_of_ble_eq_true rfl⟩)) (fun r_3 er_3 => ?_)
    obtain ⟨er_3, hQ⟩ := er_3
    rcases er_3 with ⟨rfl, -⟩ | ⟨rfl, po_4, po_5, -⟩
    · have hQ := hQ.1 rfl
      refine lv_if_eq (tgt := 39) hx hb d_WM_fare_20 (by decide) (fun _ => ?_) (fun h => absurd (by decide +kernel) h)
      refine lv_iconst (v := (-1)) hx hb d_WM_fare_39 (by decide +kernel) ?_
      exact W.iret (v := (-1)) hx hb hr (fun t ht hW => ⟨(-1), rfl, ⟨trivial, hQ⟩, ht⟩) t_nil d_WM_fare_40
    · have hQ := hQ.2 rfl
      refine lv_if_eq (tgt := 39) hx hb d_WM_fare_20 (by decide) (fun h => absurd h (by decide +kernel)) (fun _ => ?_)
      refine lv_aload_n hx hb d_WM_fare_23 rfl (lv_at hl 1 rfl) ?_
      refine tw_getR (D := (dC, dI)) (C := R_WM) (T := F_WM) (N := 13) (ci := 0) (kd := 0) (ct := ct) hx hb htb i_WM hown hK hP m0 rfl rfl 0 e_2 (by decide) (htb (.fieldLink R_WM 12 "WaterMen" "river" "LWaterMen$River;") tw_135) (fun _ h9 => h9) rfl d_WM_fare_24 ?_
      refine hb_tv (.ref q_2) rfl ?_
      refine lv_iload_n hx hb d_WM_fare_27 rfl (lv_at hl 4 rfl) ?_
      refine vp_callSi (va_Run.run (va_runV (As := [.int p_2]) (rest := []) ⟨hx, hb, hml, hown, htb⟩ (c_Rv_hasStairs_w l dC dI ct L f hO_0 q_2 m_2 p_2 _ hQ) (cwV 1 htb (gd_V tw_398 tw_399 tw_400 tw_140 tw_397) rfl rfl rfl (by decide +kernel) ⟨Nat.le_of_ble_eq_true rfl, Nat.le_of_ble_eq_true rfl⟩) ⟨pr_blind, tw_recv hK hP m_2 rfl rfl, pr_pre hP hK hN⟩ rfl rfl hl.1 rfl (lv_room (Nat.le_of_ble_eq_true rfl)) d_WM_fare_28 ⟨Nat.le_of_ble_eq_true rfl, Nat.le_of_ble_eq_true rfl⟩)) (fun r_6 er_6 => ?_)
      obtain ⟨er_6, hQ⟩ := er_6
      rcases er_6 with ⟨rfl, -⟩ | ⟨rfl, po_7, po_8, -⟩
      · have hQ := hQ.1 rfl
        refine lv_if_eq (tgt := 39) hx hb d_WM_fare_31 (by decide) (fun _ => ?_) (fun h => absurd (by decide +kernel) h)
        refine lv_iconst (v := (-1)) hx hb d_WM_fare_39 (by decide +kernel) ?_
        exact W.iret (v := (-1)) hx hb hr (fun t ht hW => ⟨(-1), rfl, ⟨trivial, hQ⟩, ht⟩) t_nil d_WM_fare_40
      · have hQ := hQ.2 rfl
        refine lv_if_eq (tgt := 39) hx hb d_WM_fare_31 (by decide) (fun h => absurd h (by decide +kernel)) (fun _ => ?_)
        refine lv_iload_n hx hb d_WM_fare_34 rfl (lv_at hl 3 rfl) ?_
        refine lv_iload_n hx hb d_WM_fare_35 rfl (lv_at hl 4 rfl) ?_
        refine lv_icmp_ne (tgt := 41) hx hb d_WM_fare_36 (by decide) (fun c_9 => ?_) (fun c_9 => ?_)
        · have hQ := hQ.2 c_9
          refine lv_iload hx hb d_WM_fare_41 (lv_at hl 5 rfl) ?_
          refine lv_if_lt (tgt := 62) hx hb d_WM_fare_43 (by decide) (fun c_10 => ?_) (fun c_10 => ?_)
          · have hQ := hQ.1 c_10
            refine lv_iconst (v := (-1)) hx hb d_WM_fare_62 (by decide +kernel) ?_
            exact W.iret (v := (-1)) hx hb hr (fun t ht hW => ⟨(-1), rfl, ⟨trivial, hQ⟩, ht⟩) t_nil d_WM_fare_63
          · have hQ := hQ.2 c_10
            refine lv_iload hx hb d_WM_fare_46 (lv_at hl 5 rfl) ?_
            refine lv_sipush (v := 6000) hx hb d_WM_fare_48 (by decide +kernel) ?_
            refine lv_icmp_ge (tgt := 62) hx hb d_WM_fare_51 (by decide) (fun c_11 => ?_) (fun c_11 => ?_)
            · have hQ := hQ.1 c_11
              refine lv_iconst (v := (-1)) hx hb d_WM_fare_62 (by decide +kernel) ?_
              exact W.iret (v := (-1)) hx hb hr (fun t ht hW => ⟨(-1), rfl, ⟨trivial, hQ⟩, ht⟩) t_nil d_WM_fare_63
            · have hQ := hQ.2 c_11
              refine lv_iload hx hb d_WM_fare_54 (lv_at hl 6 rfl) ?_
              refine vp_callSi (va_Run.run (va_runS (As := [.int p_4]) (rest := []) ⟨hx, hb, hml, hown, htb⟩ (c_WM_isOars l p_4) (cwS 1 htb (gd_S tw_402 tw_403 tw_26 tw_401) rfl rfl rfl (by decide +kernel) ⟨Nat.le_of_ble_eq_true rfl, Nat.le_of_ble_eq_true rfl⟩) ⟨fun _ _ _ _ h => h, fun U _ _ => ⟨rfl, trivial⟩⟩ rfl rfl hl.1 rfl (lv_room (Nat.le_of_ble_eq_true rfl)) d_WM_fare_56 ⟨Nat.le_of_ble_eq_true rfl, Nat.le_of_ble_eq_true rfl⟩)) (fun r er => ?_)
              subst er
              by_cases c_13 : p_4 = 1
              · have hQ := hQ.1 c_13
                refine hb_ti 1 (by unfold f_WM_isOars; rw [if_pos c_13]; first | done | rfl) ?_
                refine lv_if_ne (tgt := 64) hx hb d_WM_fare_59 (by decide) (fun _ => ?_) (fun h => absurd h (by decide +kernel))
                refine lv_aload_n hx hb d_WM_fare_64 rfl (lv_at hl 1 rfl) ?_
                refine lv_aload hx hb d_WM_fare_65 (lv_at hl 0 rfl) ?_
                refine lv_iload_n hx hb d_WM_fare_67 rfl (lv_at hl 3 rfl) ?_
                refine lv_iload_n hx hb d_WM_fare_68 rfl (lv_at hl 4 rfl) ?_
                refine lv_iload hx hb d_WM_fare_69 (lv_at hl 5 rfl) ?_
                refine lv_iload hx hb d_WM_fare_71 (lv_at hl 6 rfl) ?_
                refine vp_callSi (va_Run.run (va_runV (As := [.ref q_1, .int p_1, .int p_2, .int p_3, .int p_4]) (rest := []) ⟨hx, hb, hml, hown, htb⟩ (c_WM_priceOf_w l dC dI ct L f hO_0 q0 m0 q_1 m_1 p_1 p_2 p_3 p_4 po_4 po_5 po_7 po_8 c_10 (show ¬ (5999 < p_3) from by have e0 := c_10; rw [Int32.lt_iff_toInt_lt] at e0; have e1 := c_11; rw [Int32.le_iff_toInt_le] at e1; have z0 : (0 : Int32).toInt = 0 := (by decide +kernel); have z1 : (5999 : Int32).toInt = 5999 := (by decide +kernel); have z2 : (6000 : Int32).toInt = 6000 := (by decide +kernel); rw [Int32.lt_iff_toInt_lt]; omega) _ hQ) (cwV 5 htb (gd_V tw_435 tw_436 tw_437 tw_26 tw_434) rfl rfl rfl (by decide +kernel) ⟨Nat.le_of_ble_eq_true rfl, Nat.le_of_ble_eq_true rfl⟩) ⟨pr_blind, tw_recv hK hP m0 rfl rfl, pr_pre hP hK hN⟩ rfl rfl hl.1 rfl (lv_room (Nat.le_of_ble_eq_true rfl)) d_WM_fare_73 ⟨Nat.le_of_ble_eq_true rfl, Nat.le_of_ble_eq_true rfl⟩)) (fun r_14 er_14 => ?_)
                obtain ⟨er_14, hQ⟩ := er_14
                clear er_14
                refine lv_istore (lv' := [(7, .int r_14), (6, .ref q_1), (0, .ref q0), (1, .int p_0), (2, .int p_1), (3, .int p_2), (4, .int p_3), (5, .int p_4)]) hx hb d_WM_fare_76 hl (by decide) rfl (fun ls hl => ?_)
                refine lv_iload hx hb d_WM_fare_78 (lv_at hl 0 rfl) ?_
                refine lv_iconst (v := (-1)) hx hb d_WM_fare_80 (by decide +kernel) ?_
                refine lv_icmp_ne (tgt := 89) hx hb d_WM_fare_81 (by decide) (fun c_15 => ?_) (fun c_15 => ?_)
                · have hQ := hQ.2 c_15
                  refine lv_iload hx hb d_WM_fare_89 (lv_at hl 0 rfl) ?_
                  exact W.iret (v := r_14) hx hb hr (fun t ht hW => ⟨r_14, rfl, ⟨trivial, hQ⟩, ht⟩) t_nil d_WM_fare_91
                · have hQ := hQ.1 c_15
                  refine lv_bipush (v := (-2)) hx hb d_WM_fare_84 (by decide +kernel) ?_
                  refine lv_goto (tgt := 91) hx hb d_WM_fare_86 (by decide) ?_
                  exact W.iret (v := (-2)) hx hb hr (fun t ht hW => ⟨(-2), rfl, ⟨trivial, hQ⟩, ht⟩) t_nil d_WM_fare_91
              · have hQ := hQ.2 c_13
                by_cases c_16 : p_4 = 2
                · have hQ := hQ.1 c_16
                  refine hb_ti 1 (by unfold f_WM_isOars; rw [if_neg c_13, if_pos c_16]; first | done | rfl) ?_
                  refine lv_if_ne (tgt := 64) hx hb d_WM_fare_59 (by decide) (fun _ => ?_) (fun h => absurd h (by decide +kernel))
                  refine lv_aload_n hx hb d_WM_fare_64 rfl (lv_at hl 1 rfl) ?_
                  refine lv_aload hx hb d_WM_fare_65 (lv_at hl 0 rfl) ?_
                  refine lv_iload_n hx hb d_WM_fare_67 rfl (lv_at hl 3 rfl) ?_
                  refine lv_iload_n hx hb d_WM_fare_68 rfl (lv_at hl 4 rfl) ?_
                  refine lv_iload hx hb d_WM_fare_69 (lv_at hl 5 rfl) ?_
                  refine lv_iload hx hb d_WM_fare_71 (lv_at hl 6 rfl) ?_
                  refine vp_callSi (va_Run.run (va_runV (As := [.ref q_1, .int p_1, .int p_2, .int p_3, .int p_4]) (rest := []) ⟨hx, hb, hml, hown, htb⟩ (c_WM_priceOf_w l dC dI ct L f hO_0 q0 m0 q_1 m_1 p_1 p_2 p_3 p_4 po_4 po_5 po_7 po_8 c_10 (show ¬ (5999 < p_3) from by have e0 := c_10; rw [Int32.lt_iff_toInt_lt] at e0; have e1 := c_11; rw [Int32.le_iff_toInt_le] at e1; have z0 : (0 : Int32).toInt = 0 := (by decide +kernel); have z1 : (5999 : Int32).toInt = 5999 := (by decide +kernel); have z2 : (6000 : Int32).toInt = 6000 := (by decide +kernel); rw [Int32.lt_iff_toInt_lt]; omega) _ hQ) (cwV 5 htb (gd_V tw_435 tw_436 tw_437 tw_26 tw_434) rfl rfl rfl (by decide +kernel) ⟨Nat.le_of_ble_eq_true rfl, Nat.le_of_ble_eq_true rfl⟩) ⟨pr_blind, tw_recv hK hP m0 rfl rfl, pr_pre hP hK hN⟩ rfl rfl hl.1 rfl (lv_room (Nat.le_of_ble_eq_true rfl)) d_WM_fare_73 ⟨Nat.le_of_ble_eq_true rfl, Nat.le_of_ble_eq_true rfl⟩)) (fun r_17 er_17 => ?_)
                  obtain ⟨er_17, hQ⟩ := er_17
                  clear er_17
                  refine lv_istore (lv' := [(7, .int r_17), (6, .ref q_1), (0, .ref q0), (1, .int p_0), (2, .int p_1), (3, .int p_2), (4, .int p_3), (5, .int p_4)]) hx hb d_WM_fare_76 hl (by decide) rfl (fun ls hl => ?_)
                  refine lv_iload hx hb d_WM_fare_78 (lv_at hl 0 rfl) ?_
                  refine lv_iconst (v := (-1)) hx hb d_WM_fare_80 (by decide +kernel) ?_
                  refine lv_icmp_ne (tgt := 89) hx hb d_WM_fare_81 (by decide) (fun c_18 => ?_) (fun c_18 => ?_)
                  · have hQ := hQ.2 c_18
                    refine lv_iload hx hb d_WM_fare_89 (lv_at hl 0 rfl) ?_
                    exact W.iret (v := r_17) hx hb hr (fun t ht hW => ⟨r_17, rfl, ⟨trivial, hQ⟩, ht⟩) t_nil d_WM_fare_91
                  · have hQ := hQ.1 c_18
                    refine lv_bipush (v := (-2)) hx hb d_WM_fare_84 (by decide +kernel) ?_
                    refine lv_goto (tgt := 91) hx hb d_WM_fare_86 (by decide) ?_
                    exact W.iret (v := (-2)) hx hb hr (fun t ht hW => ⟨(-2), rfl, ⟨trivial, hQ⟩, ht⟩) t_nil d_WM_fare_91
                · have hQ := hQ.2 c_16
                  refine hb_ti 0 (by unfold f_WM_isOars; rw [if_neg c_13, if_neg c_16]; first | done | rfl) ?_
                  refine lv_if_ne (tgt := 64) hx hb d_WM_fare_59 (by decide) (fun h => absurd (by decide +kernel) h) (fun _ => ?_)
                  refine lv_iconst (v := (-1)) hx hb d_WM_fare_62 (by decide +kernel) ?_
                  exact W.iret (v := (-1)) hx hb hr (fun t ht hW => ⟨(-1), rfl, ⟨trivial, hQ⟩, ht⟩) t_nil d_WM_fare_63
        · have hQ := hQ.1 c_9
          refine lv_iconst (v := (-1)) hx hb d_WM_fare_39 (by decide +kernel) ?_
          exact W.iret (v := (-1)) hx hb hr (fun t ht hW => ⟨(-1), rfl, ⟨trivial, hQ⟩, ht⟩) t_nil d_WM_fare_40
def wp_Md_isStairs_w (L : List Nat) (f : TF) (q0 : Nat) (p_0 : Int32) (Q : Int32 → Prop) : Prop := ((p_0 < 0 → Q 0) ∧ (¬ (p_0 < 0) → ((((ti f q0 2) - 1) < p_0 → Q 0) ∧ (¬ (((ti f q0 2) - 1) < p_0) → Q 1))))
set_option maxHeartbeats 4000000 in
set_option maxRecDepth 100000 in
theorem c_Md_isStairs_w (l : Launch) (dC : Nat → ClassId) (dI : Nat → Nat → Nat) (ct : Nat → ClassId) (L : List Nat) (f : TF) (hO_0 : Ok L f) (q0 : Nat) (m0 : q0 ∈ L ∧ tk f q0 = 27) (p_0 : Int32)   (Q : Int32 → Prop) (hQ : wp_Md_isStairs_w L f q0 p_0 Q) : Met l y_Md_isStairs (.code y_Md_isStairs b_Md_isStairs 2 (some .boolean) :: TB) ({ frames := 1, cells := 0, slots := 0, locals := 22 }) (va_Pc [.ref q0, .int p_0] (PR dC dI (TW ct L f) (TT ct))) (vp_Si (fun r => ((r = 0 ∧ True) ∨ (r = 1 ∧ ¬ (p_0 < 0) ∧ ¬ (11 < p_0) ∧ ¬ ((ti f q0 2) ≤ p_0) ∧ True)) ∧ Q r)) 0 0 (fun _ => False) := by
  refine Met.ofW (cc := b_Md_isStairs) (maxL := 2) (ret := (some .boolean)) (by decide) rfl ?_
  intro p e s m args below meth c s₁ B hml hv
  obtain ⟨rfl, hP, hK, hN⟩ := hv
  have hx := B.exec
  have hb := B.bytes
  have hr := B.returns
  have hts := atoms_spec (ws := (.code y_Md_isStairs b_Md_isStairs 2 (some .boolean) :: TB)) B.pre
  have htb := fun w (h : w ∈ TB) => hts w (List.mem_cons_of_mem _ h)
  have hown : s.vm.findClass R_Md = some m.cls := findClass_of_methodNamed B.named
  have hlocks := B.notSynchronized
  have hl := lv_entry ([.ref q0, .int p_0]) (n := 2) (Nat.le_of_ble_eq_true rfl)
  rw [lg_entry_eq]
  generalize (lg_sl ([.ref q0, .int p_0]) ++ List.replicate (2 - (lg_sl ([.ref q0, .int p_0])).length) Slot.unset).toArray = ls at hl ⊢
  have hl : lv_has ls 2 [(0, .ref q0), (1, .int p_0)] := hl
  unfold wp_Md_isStairs_w at hQ
  have bs_1 := hO_0.i m0 (show slotD 27 2 = some (.inl (0, 12)) from rfl)
  refine lv_iload_n hx hb d_Md_isStairs_0 rfl (lv_at hl 1 rfl) ?_
  refine lv_iconst (v := 0) hx hb d_Md_isStairs_1 (by decide +kernel) ?_
  refine lv_aload_n hx hb d_Md_isStairs_2 rfl (lv_at hl 0 rfl) ?_
  refine tw_getI (x := (ti f q0 2)) (D := (dC, dI)) (C := R_Md) (T := F_Md) (N := 64) (ci := 7) (kd := 27) (ct := ct) hx hb htb i_Md hown hK hP m0 rfl rfl 2 rfl (by decide) (htb (.fieldLink R_Md 14 "WaterMenModel" "stairs" "I") tw_97) (fun _ h9 => h9) rfl d_Md_isStairs_3 ?_
  refine lv_iconst (v := 1) hx hb d_Md_isStairs_6 (by decide +kernel) ?_
  refine lv_isub hx hb d_Md_isStairs_7 ?_
  refine vp_callSi (va_Run.run (va_runS (As := [.int p_0, .int 0, .int ((ti f q0 2) - 1)]) (rest := []) ⟨hx, hb, hml, hown, htb⟩ (c_Md_in l p_0 0 ((ti f q0 2) - 1)) (cwS 3 htb (gd_S tw_90 tw_91 tw_89 tw_88) rfl rfl rfl (by decide +kernel) ⟨Nat.le_of_ble_eq_true rfl, Nat.le_of_ble_eq_true rfl⟩) ⟨fun _ _ _ _ h => h, fun U _ _ => ⟨rfl, trivial⟩⟩ rfl rfl hl.1 rfl (lv_room (Nat.le_of_ble_eq_true rfl)) d_Md_isStairs_8 ⟨Nat.le_of_ble_eq_true rfl, Nat.le_of_ble_eq_true rfl⟩)) (fun r er => ?_)
  subst er
  by_cases c_3 : p_0 < 0
  · have hQ := hQ.1 c_3
    refine hb_ti 0 (by unfold f_Md_in; rw [if_pos c_3]; first | done | rfl) ?_
    exact W.zret (v := 0) hx hb hr (by decide +kernel) (fun t ht hW => ⟨0, rfl, ⟨(Or.inl ⟨rfl, trivial⟩), hQ⟩, ht⟩) t_nil d_Md_isStairs_11
  · have hQ := hQ.2 c_3
    by_cases c_4 : ((ti f q0 2) - 1) < p_0
    · have hQ := hQ.1 c_4
      refine hb_ti 0 (by unfold f_Md_in; rw [if_neg c_3, if_pos c_4]; first | done | rfl) ?_
      exact W.zret (v := 0) hx hb hr (by decide +kernel) (fun t ht hW => ⟨0, rfl, ⟨(Or.inl ⟨rfl, trivial⟩), hQ⟩, ht⟩) t_nil d_Md_isStairs_11
    · have hQ := hQ.2 c_4
      refine hb_ti 1 (by unfold f_Md_in; rw [if_neg c_3, if_neg c_4]; first | done | rfl) ?_
      exact W.zret (v := 1) hx hb hr (by decide +kernel) (fun t ht hW => ⟨1, rfl, ⟨(Or.inr ⟨rfl, c_3, (show ¬ (11 < p_0) from ((fun (a_0 : Int32) (a_1 : Int32) (k_0 : ¬ (a_1 < 0)) (k_1 : ¬ (12 < a_1)) (k_2 : ¬ ((a_1 - 1) < a_0)) => (show ¬ (11 < a_0) from by have z0 : (0 : Int32).toInt = 0 := (by decide +kernel); have z1 : (1 : Int32).toInt = 1 := (by decide +kernel); have z2 : (11 : Int32).toInt = 11 := (by decide +kernel); have z3 : (12 : Int32).toInt = 12 := (by decide +kernel); have r0 := fb_rng (a_0); have r1 := fb_rng (a_1); have e0 := k_0; rw [Int32.lt_iff_toInt_lt, z0] at e0; have e1 := k_1; rw [Int32.lt_iff_toInt_lt, z3] at e1; obtain ⟨n_0, hn_0, s0⟩ := nd_sub (x := a_1) (y := (1 : Int32)) (by (try rw [z1]); omega) (by (try rw [z1]); omega); rw [z1] at s0; have e2 := k_2; rw [hn_0, Int32.lt_iff_toInt_lt] at e2; rw [Int32.lt_iff_toInt_lt, z2]; omega)) p_0 (ti f q0 2) bs_1.1 bs_1.2 c_4)), (show ¬ ((ti f q0 2) ≤ p_0) from ((fun (a_0 : Int32) (a_1 : Int32) (k_0 : ¬ (a_1 < 0)) (k_1 : ¬ ((a_1 - 1) < a_0)) => (show ¬ (a_1 ≤ a_0) from by have z0 : (0 : Int32).toInt = 0 := (by decide +kernel); have z1 : (1 : Int32).toInt = 1 := (by decide +kernel); have r0 := fb_rng (a_0); have r1 := fb_rng (a_1); have e0 := k_0; rw [Int32.lt_iff_toInt_lt, z0] at e0; obtain ⟨n_0, hn_0, s0⟩ := nd_sub (x := a_1) (y := (1 : Int32)) (by (try rw [z1]); omega) (by (try rw [z1]); omega); rw [z1] at s0; have e1 := k_1; rw [hn_0, Int32.lt_iff_toInt_lt] at e1; rw [Int32.le_iff_toInt_le]; omega)) p_0 (ti f q0 2) bs_1.1 c_4)), trivial⟩), hQ⟩, ht⟩) t_nil d_Md_isStairs_11
def wp_Md_lineOf_w (L : List Nat) (f : TF) (q0 : Nat) (p_0 : Int32) (p_1 : Int32) (Q : Int32 → Prop) : Prop := ∀ q_1 : Nat, tr f q0 40 = some q_1 → ∀ x_2 : Int32, ti f q_1 ((((9 * p_0) + p_1) - 10) : Int32).toNatClampNeg = x_2 → Q x_2
set_option maxHeartbeats 4000000 in
set_option maxRecDepth 100000 in
theorem c_Md_lineOf_w (l : Launch) (dC : Nat → ClassId) (dI : Nat → Nat → Nat) (ct : Nat → ClassId) (L : List Nat) (f : TF) (hO_0 : Ok L f) (q0 : Nat) (m0 : q0 ∈ L ∧ tk f q0 = 27) (p_0 : Int32) (p_1 : Int32)  (as_0 : ¬ (p_0 < 0)) (as_1 : ¬ (19 < p_0)) (as_2 : ¬ (p_1 < 10)) (as_3 : ¬ (18 < p_1)) (Q : Int32 → Prop) (hQ : wp_Md_lineOf_w L f q0 p_0 p_1 Q) : Met l y_Md_lineOf (.code y_Md_lineOf b_Md_lineOf 3 (some .int) :: TB) ({ frames := 0, cells := 0, slots := 0, locals := 0 }) (va_Pc [.ref q0, .int p_0, .int p_1] (PR dC dI (TW ct L f) (TT ct))) (vp_Si (fun r => (True) ∧ Q r)) 0 0 (fun _ => False) := by
  refine Met.ofW (cc := b_Md_lineOf) (maxL := 3) (ret := (some .int)) (by decide) rfl ?_
  intro p e s m args below meth c s₁ B hml hv
  obtain ⟨rfl, hP, hK, hN⟩ := hv
  have hx := B.exec
  have hb := B.bytes
  have hr := B.returns
  have hts := atoms_spec (ws := (.code y_Md_lineOf b_Md_lineOf 3 (some .int) :: TB)) B.pre
  have htb := fun w (h : w ∈ TB) => hts w (List.mem_cons_of_mem _ h)
  have hown : s.vm.findClass R_Md = some m.cls := findClass_of_methodNamed B.named
  have hlocks := B.notSynchronized
  have hl := lv_entry ([.ref q0, .int p_0, .int p_1]) (n := 3) (Nat.le_of_ble_eq_true rfl)
  rw [lg_entry_eq]
  generalize (lg_sl ([.ref q0, .int p_0, .int p_1]) ++ List.replicate (3 - (lg_sl ([.ref q0, .int p_0, .int p_1])).length) Slot.unset).toArray = ls at hl ⊢
  have hl : lv_has ls 3 [(0, .ref q0), (1, .int p_0), (2, .int p_1)] := hl
  unfold wp_Md_lineOf_w at hQ
  refine lv_aload_n hx hb d_Md_lineOf_0 rfl (lv_at hl 0 rfl) ?_
  refine tw_getr (D := (dC, dI)) (C := R_Md) (T := F_Md) (N := 64) (ci := 7) (kd := 27) (ct := ct) hx hb htb i_Md hown hK hP hO_0 m0 rfl rfl 40 (by decide) (htb (.fieldLink R_Md 143 "WaterMenModel" "single" "[I") tw_368) (fun _ h9 => h9) rfl d_Md_lineOf_1 (fun q_1 e_1 m_1 => ?_)
  have hQ := hQ q_1 e_1
  refine lv_bipush (v := 9) hx hb d_Md_lineOf_4 (by decide +kernel) ?_
  refine lv_iload_n hx hb d_Md_lineOf_6 rfl (lv_at hl 1 rfl) ?_
  refine lv_imul hx hb d_Md_lineOf_7 ?_
  refine lv_iload_n hx hb d_Md_lineOf_8 rfl (lv_at hl 2 rfl) ?_
  refine lv_iadd hx hb d_Md_lineOf_9 ?_
  refine lv_bipush (v := 10) hx hb d_Md_lineOf_10 (by decide +kernel) ?_
  refine lv_isub hx hb d_Md_lineOf_12 ?_
  refine tw_aldI (ct := ct) hx hb hK hP hO_0 m_1 rfl ((fun (a_0 : Int32) (a_1 : Int32) (k_0 : ¬ (a_0 < 0)) (k_1 : ¬ (19 < a_0)) (k_2 : ¬ (a_1 < 10)) (k_3 : ¬ (18 < a_1)) => (show vp_in ((((9 * a_0) + a_1) - 10)) 180 from by have z0 : (0 : Int32).toInt = 0 := (by decide +kernel); have z1 : (9 : Int32).toInt = 9 := (by decide +kernel); have z2 : (10 : Int32).toInt = 10 := (by decide +kernel); have z3 : (18 : Int32).toInt = 18 := (by decide +kernel); have z4 : (19 : Int32).toInt = 19 := (by decide +kernel); have r0 := fb_rng (a_0); have r1 := fb_rng (a_1); have e0 := k_0; rw [Int32.lt_iff_toInt_lt, z0] at e0; have e1 := k_1; rw [Int32.lt_iff_toInt_lt, z4] at e1; have e2 := k_2; rw [Int32.lt_iff_toInt_lt, z2] at e2; have e3 := k_3; rw [Int32.lt_iff_toInt_lt, z3] at e3; obtain ⟨n_0, hn_0, s0⟩ := nd_mul (x := (9 : Int32)) (y := (a_0)) (by (try rw [z1]); omega) (by (try rw [z1]); omega); rw [z1] at s0; obtain ⟨n_1, hn_1, s1⟩ := nd_add (x := n_0) (y := (a_1)) (by omega) (by omega); obtain ⟨n_2, hn_2, s2⟩ := nd_sub (x := n_1) (y := (10 : Int32)) (by (try rw [z2]); omega) (by (try rw [z2]); omega); rw [z2] at s2; rw [hn_0, hn_1, hn_2, vp_in_iff]; omega)) p_0 p_1 as_0 as_1 as_2 as_3) d_Md_lineOf_13 (fun x_2 e_2 b_2 => ?_)
  have hQ := hQ x_2 e_2
  exact W.iret (v := x_2) hx hb hr (fun t ht hW => ⟨x_2, rfl, ⟨trivial, hQ⟩, ht⟩) t_nil d_Md_lineOf_14
def wp_Md_by_w (L : List Nat) (f : TF) (p_0 : Int32) (p_1 : Int32) (Q : Int32 → Prop) : Prop := ∀ y_1 : Int64, y_1 = ((p_0 : Int32).toInt64 : Int64) * ((p_1 : Int32).toInt64 : Int64) → ∀ y_2 : Int64, y_2 = (y_1 : Int64) / (100 : Int64) → ∀ y_3 : Int32, y_3 = lg_cmp (y_2 : Int64) (1000000 : Int64) → ((y_3 ≤ 0 → ∀ y_5 : Int32, y_5 = (y_2 : Int64).toInt32 → Q y_5) ∧ (¬ (y_3 ≤ 0) → Q 1000000))
set_option maxHeartbeats 4000000 in
set_option maxRecDepth 100000 in
theorem c_Md_by_w (l : Launch) (dC : Nat → ClassId) (dI : Nat → Nat → Nat) (ct : Nat → ClassId) (L : List Nat) (f : TF) (hO_0 : Ok L f) (p_0 : Int32) (p_1 : Int32)   (Q : Int32 → Prop) (hQ : wp_Md_by_w L f p_0 p_1 Q) : Met l y_Md_by (.code y_Md_by b_Md_by 4 (some .int) :: TB) ({ frames := 0, cells := 0, slots := 0, locals := 0 }) (va_Pc [.int p_0, .int p_1] (PR dC dI (TW ct L f) (TT ct))) (vp_Si (fun r => (True) ∧ Q r)) 0 0 (fun _ => False) := by
  refine Met.ofW (cc := b_Md_by) (maxL := 4) (ret := (some .int)) (by decide) rfl ?_
  intro p e s m args below meth c s₁ B hml hv
  obtain ⟨rfl, hP, hK, hN⟩ := hv
  have hx := B.exec
  have hb := B.bytes
  have hr := B.returns
  have hts := atoms_spec (ws := (.code y_Md_by b_Md_by 4 (some .int) :: TB)) B.pre
  have htb := fun w (h : w ∈ TB) => hts w (List.mem_cons_of_mem _ h)
  have hown : s.vm.findClass R_Md = some m.cls := findClass_of_methodNamed B.named
  have hlocks := B.notSynchronized
  have hl := lv_entry ([.int p_0, .int p_1]) (n := 4) (Nat.le_of_ble_eq_true rfl)
  rw [lg_entry_eq]
  generalize (lg_sl ([.int p_0, .int p_1]) ++ List.replicate (4 - (lg_sl ([.int p_0, .int p_1])).length) Slot.unset).toArray = ls at hl ⊢
  have hl : lv_has ls 4 [(0, .int p_0), (1, .int p_1)] := hl
  unfold wp_Md_by_w at hQ
  refine lv_iload_n hx hb d_Md_by_0 rfl (lv_at hl 0 rfl) ?_
  refine lv_i2l hx hb d_Md_by_1 rfl ?_
  refine lv_iload_n hx hb d_Md_by_2 rfl (lv_at hl 1 rfl) ?_
  refine lv_i2l hx hb d_Md_by_3 rfl ?_
  refine lv_lmul hx hb d_Md_by_4 ?_
  refine hb_eql (fun y_1 hy_1 => ?_)
  have hQ := hQ y_1 hy_1
  refine lv_ldc2 (v := 100) hx hb hown (htb (.constantLong R_Md 284 100) tw_446) d_Md_by_5 ?_
  refine lv_ldiv hx hb d_Md_by_8 (by decide) ?_
  refine hb_eql (fun y_2 hy_2 => ?_)
  have hQ := hQ y_2 hy_2
  refine lv_lstore_n (lv' := [(2, .long y_2), (0, .int p_0), (1, .int p_1)]) hx hb d_Md_by_9 rfl hl (by decide) rfl (fun ls hl => ?_)
  refine lv_lload_n hx hb d_Md_by_10 rfl (lv_at hl 0 rfl) ?_
  refine lv_ldc2 (v := 1000000) hx hb hown (htb (.constantLong R_Md 286 1000000) tw_447) d_Md_by_11 ?_
  refine W.lcmp hx hb d_Md_by_14 ?_
  refine hb_eqi (fun y_3 hy_3 => ?_)
  have hQ := hQ y_3 hy_3
  refine lv_if_le (tgt := 24) hx hb d_Md_by_15 (by decide) (fun c_4 => ?_) (fun c_4 => ?_)
  · have hQ := hQ.1 c_4
    refine lv_lload_n hx hb d_Md_by_24 rfl (lv_at hl 0 rfl) ?_
    refine lv_l2i hx hb d_Md_by_25 rfl ?_
    refine hb_eqi (fun y_5 hy_5 => ?_)
    have hQ := hQ y_5 hy_5
    exact W.iret (v := y_5) hx hb hr (fun t ht hW => ⟨y_5, rfl, ⟨trivial, hQ⟩, ht⟩) t_nil d_Md_by_26
  · have hQ := hQ.2 c_4
    refine lv_ldcw (v := 1000000) hx hb hown (htb (.constant R_Md 288 1000000) tw_448) d_Md_by_18 ?_
    refine lv_goto (tgt := 26) hx hb d_Md_by_21 (by decide) ?_
    exact W.iret (v := 1000000) hx hb hr (fun t ht hW => ⟨1000000, rfl, ⟨trivial, hQ⟩, ht⟩) t_nil d_Md_by_26
def wpB_Md_fareOf_w_199_5 (L : List Nat) (f : TF) (q0 : Nat) (p_0 : Int32) (p_1 : Int32) (p_2 : Int32) (p_3 : Int32) (p_4 : Int32) (p_5 : Int32) (v7_1 : Int32) (v8_1 : Int32) (v9_1 : Int32) (v10_1 : Int32) (rec_1 : Int32 → Int32 → Int32 → Int32 → Prop) (q_2 : Nat) (x_3 : Int32) (Q : Int32 → Prop) (rec_5 : Int32 → Int32 → Prop) (v9_5 : Int32) (v12_5 : Int32) : Prop := ∀ q_6 : Nat, tr f q0 36 = some q_6 → ∀ x_7 : Int32, ti f q_6 (p_0 : Int32).toNatClampNeg = x_7 → ((x_7 ≤ v12_5 → ∀ y_9 : Int32, y_9 = p_3 - p_3 / 7 * 7 → ((y_9 = 0 → wp_Md_lineOf_w L f q0 p_0 (14 : Int32) (fun (r_25 : Int32) => ((r_25 < 0 → ((p_5 = 2 → wp_Md_lineOf_w L f q0 p_0 (18 : Int32) (fun (r_31 : Int32) => ((r_31 < 0 → wp_Md_lineOf_w L f q0 p_0 (15 : Int32) (fun (r_33 : Int32) => ((r_33 ≤ v9_5 → Q v9_5) ∧ (¬ (r_33 ≤ v9_5) → wp_Md_lineOf_w L f q0 p_0 (15 : Int32) (fun (r_35 : Int32) => Q r_35))))) ∧ (¬ (r_31 < 0) → wp_Md_lineOf_w L f q0 p_0 (18 : Int32) (fun (r_36 : Int32) => wp_Md_by_w L f v9_5 r_36 (fun (r_37 : Int32) => wp_Md_lineOf_w L f q0 p_0 (15 : Int32) (fun (r_38 : Int32) => ((r_38 ≤ r_37 → Q r_37) ∧ (¬ (r_38 ≤ r_37) → wp_Md_lineOf_w L f q0 p_0 (15 : Int32) (fun (r_40 : Int32) => Q r_40)))))))))) ∧ (¬ (p_5 = 2) → wp_Md_lineOf_w L f q0 p_0 (15 : Int32) (fun (r_28 : Int32) => ((r_28 ≤ v9_5 → Q v9_5) ∧ (¬ (r_28 ≤ v9_5) → wp_Md_lineOf_w L f q0 p_0 (15 : Int32) (fun (r_30 : Int32) => Q r_30))))))) ∧ (¬ (r_25 < 0) → wp_Md_lineOf_w L f q0 p_0 (14 : Int32) (fun (r_41 : Int32) => wp_Md_by_w L f v9_5 r_41 (fun (r_42 : Int32) => ((p_5 = 2 → wp_Md_lineOf_w L f q0 p_0 (18 : Int32) (fun (r_47 : Int32) => ((r_47 < 0 → wp_Md_lineOf_w L f q0 p_0 (15 : Int32) (fun (r_49 : Int32) => ((r_49 ≤ r_42 → Q r_42) ∧ (¬ (r_49 ≤ r_42) → wp_Md_lineOf_w L f q0 p_0 (15 : Int32) (fun (r_51 : Int32) => Q r_51))))) ∧ (¬ (r_47 < 0) → wp_Md_lineOf_w L f q0 p_0 (18 : Int32) (fun (r_52 : Int32) => wp_Md_by_w L f r_42 r_52 (fun (r_53 : Int32) => wp_Md_lineOf_w L f q0 p_0 (15 : Int32) (fun (r_54 : Int32) => ((r_54 ≤ r_53 → Q r_53) ∧ (¬ (r_54 ≤ r_53) → wp_Md_lineOf_w L f q0 p_0 (15 : Int32) (fun (r_56 : Int32) => Q r_56)))))))))) ∧ (¬ (p_5 = 2) → wp_Md_lineOf_w L f q0 p_0 (15 : Int32) (fun (r_44 : Int32) => ((r_44 ≤ r_42 → Q r_42) ∧ (¬ (r_44 ≤ r_42) → wp_Md_lineOf_w L f q0 p_0 (15 : Int32) (fun (r_46 : Int32) => Q r_46)))))))))))) ∧ (¬ (y_9 = 0) → ((p_5 = 2 → wp_Md_lineOf_w L f q0 p_0 (18 : Int32) (fun (r_15 : Int32) => ((r_15 < 0 → wp_Md_lineOf_w L f q0 p_0 (15 : Int32) (fun (r_17 : Int32) => ((r_17 ≤ v9_5 → Q v9_5) ∧ (¬ (r_17 ≤ v9_5) → wp_Md_lineOf_w L f q0 p_0 (15 : Int32) (fun (r_19 : Int32) => Q r_19))))) ∧ (¬ (r_15 < 0) → wp_Md_lineOf_w L f q0 p_0 (18 : Int32) (fun (r_20 : Int32) => wp_Md_by_w L f v9_5 r_20 (fun (r_21 : Int32) => wp_Md_lineOf_w L f q0 p_0 (15 : Int32) (fun (r_22 : Int32) => ((r_22 ≤ r_21 → Q r_21) ∧ (¬ (r_22 ≤ r_21) → wp_Md_lineOf_w L f q0 p_0 (15 : Int32) (fun (r_24 : Int32) => Q r_24)))))))))) ∧ (¬ (p_5 = 2) → wp_Md_lineOf_w L f q0 p_0 (15 : Int32) (fun (r_12 : Int32) => ((r_12 ≤ v9_5 → Q v9_5) ∧ (¬ (r_12 ≤ v9_5) → wp_Md_lineOf_w L f q0 p_0 (15 : Int32) (fun (r_14 : Int32) => Q r_14))))))))) ∧ (¬ (x_7 ≤ v12_5) → ∀ q_57 : Nat, tr f q0 37 = some q_57 → ∀ x_58 : Int32, ti f q_57 (((12 * p_0) + v12_5) : Int32).toNatClampNeg = x_58 → ∀ q_59 : Nat, tr f q0 38 = some q_59 → ∀ x_60 : Int32, ti f q_59 (((12 * p_0) + v12_5) : Int32).toNatClampNeg = x_60 → ((p_4 < x_58 → rec_5 v9_5 (v12_5 + 1)) ∧ (¬ (p_4 < x_58) → ((x_60 < p_4 → rec_5 v9_5 (v12_5 + 1)) ∧ (¬ (x_60 < p_4) → ∀ q_64 : Nat, tr f q0 39 = some q_64 → ∀ x_65 : Int32, ti f q_64 (((12 * p_0) + v12_5) : Int32).toNatClampNeg = x_65 → wp_Md_by_w L f v9_5 x_65 (fun (r_66 : Int32) => rec_5 r_66 (v12_5 + 1))))))))
def wpL_Md_fareOf_w_199_5 (L : List Nat) (f : TF) (q0 : Nat) (p_0 : Int32) (p_1 : Int32) (p_2 : Int32) (p_3 : Int32) (p_4 : Int32) (p_5 : Int32) (v7_1 : Int32) (v8_1 : Int32) (v9_1 : Int32) (v10_1 : Int32) (rec_1 : Int32 → Int32 → Int32 → Int32 → Prop) (q_2 : Nat) (x_3 : Int32) (Q : Int32 → Prop) : Nat → Int32 → Int32 → Prop
  | 0 => fun v9_5 v12_5 => wpB_Md_fareOf_w_199_5 L f q0 p_0 p_1 p_2 p_3 p_4 p_5 v7_1 v8_1 v9_1 v10_1 rec_1 q_2 x_3 Q (fun _ _ => True) v9_5 v12_5
  | n + 1 => fun v9_5 v12_5 => wpB_Md_fareOf_w_199_5 L f q0 p_0 p_1 p_2 p_3 p_4 p_5 v7_1 v8_1 v9_1 v10_1 rec_1 q_2 x_3 Q (wpL_Md_fareOf_w_199_5 L f q0 p_0 p_1 p_2 p_3 p_4 p_5 v7_1 v8_1 v9_1 v10_1 rec_1 q_2 x_3 Q n) v9_5 v12_5
def wpR_Md_fareOf_w_199_5 (L : List Nat) (f : TF) (q0 : Nat) (p_0 : Int32) (p_1 : Int32) (p_2 : Int32) (p_3 : Int32) (p_4 : Int32) (p_5 : Int32) (v7_1 : Int32) (v8_1 : Int32) (v9_1 : Int32) (v10_1 : Int32) (rec_1 : Int32 → Int32 → Int32 → Int32 → Prop) (q_2 : Nat) (x_3 : Int32) (Q : Int32 → Prop) : Nat → Int32 → Int32 → Prop
  | 0 => fun _ _ => True
  | n + 1 => wpL_Md_fareOf_w_199_5 L f q0 p_0 p_1 p_2 p_3 p_4 p_5 v7_1 v8_1 v9_1 v10_1 rec_1 q_2 x_3 Q n
theorem wpL_Md_fareOf_w_199_5_eq {L : List Nat} {f : TF} {q0 : Nat} {p_0 : Int32} {p_1 : Int32} {p_2 : Int32} {p_3 : Int32} {p_4 : Int32} {p_5 : Int32} {v7_1 : Int32} {v8_1 : Int32} {v9_1 : Int32} {v10_1 : Int32} {rec_1 : Int32 → Int32 → Int32 → Int32 → Prop} {q_2 : Nat} {x_3 : Int32} {Q : Int32 → Prop} {n : Nat} : wpL_Md_fareOf_w_199_5 L f q0 p_0 p_1 p_2 p_3 p_4 p_5 v7_1 v8_1 v9_1 v10_1 rec_1 q_2 x_3 Q n = wpB_Md_fareOf_w_199_5 L f q0 p_0 p_1 p_2 p_3 p_4 p_5 v7_1 v8_1 v9_1 v10_1 rec_1 q_2 x_3 Q (wpR_Md_fareOf_w_199_5 L f q0 p_0 p_1 p_2 p_3 p_4 p_5 v7_1 v8_1 v9_1 v10_1 rec_1 q_2 x_3 Q n) := by cases n <;> rfl
theorem wpR_Md_fareOf_w_199_5_pos {L : List Nat} {f : TF} {q0 : Nat} {p_0 : Int32} {p_1 : Int32} {p_2 : Int32} {p_3 : Int32} {p_4 : Int32} {p_5 : Int32} {v7_1 : Int32} {v8_1 : Int32} {v9_1 : Int32} {v10_1 : Int32} {rec_1 : Int32 → Int32 → Int32 → Int32 → Prop} {q_2 : Nat} {x_3 : Int32} {Q : Int32 → Prop} {n : Nat} (h : 0 < n) : wpR_Md_fareOf_w_199_5 L f q0 p_0 p_1 p_2 p_3 p_4 p_5 v7_1 v8_1 v9_1 v10_1 rec_1 q_2 x_3 Q n = wpL_Md_fareOf_w_199_5 L f q0 p_0 p_1 p_2 p_3 p_4 p_5 v7_1 v8_1 v9_1 v10_1 rec_1 q_2 x_3 Q (n - 1) := by
  cases n with
  | zero => omega
  | succ n => rfl
def wpB_Md_fareOf_w_199_90 (L : List Nat) (f : TF) (q0 : Nat) (p_0 : Int32) (p_1 : Int32) (p_2 : Int32) (p_3 : Int32) (p_4 : Int32) (p_5 : Int32) (v7_1 : Int32) (v8_1 : Int32) (v9_1 : Int32) (v10_1 : Int32) (rec_1 : Int32 → Int32 → Int32 → Int32 → Prop) (q_2 : Nat) (x_3 : Int32) (Q : Int32 → Prop) (rec_90 : Int32 → Int32 → Prop) (v9_90 : Int32) (v12_90 : Int32) : Prop := ∀ q_91 : Nat, tr f q0 36 = some q_91 → ∀ x_92 : Int32, ti f q_91 (p_0 : Int32).toNatClampNeg = x_92 → ((x_92 ≤ v12_90 → ∀ y_94 : Int32, y_94 = p_3 - p_3 / 7 * 7 → ((y_94 = 0 → wp_Md_lineOf_w L f q0 p_0 (14 : Int32) (fun (r_110 : Int32) => ((r_110 < 0 → ((p_5 = 2 → wp_Md_lineOf_w L f q0 p_0 (18 : Int32) (fun (r_116 : Int32) => ((r_116 < 0 → wp_Md_lineOf_w L f q0 p_0 (15 : Int32) (fun (r_118 : Int32) => ((r_118 ≤ v9_90 → Q v9_90) ∧ (¬ (r_118 ≤ v9_90) → wp_Md_lineOf_w L f q0 p_0 (15 : Int32) (fun (r_120 : Int32) => Q r_120))))) ∧ (¬ (r_116 < 0) → wp_Md_lineOf_w L f q0 p_0 (18 : Int32) (fun (r_121 : Int32) => wp_Md_by_w L f v9_90 r_121 (fun (r_122 : Int32) => wp_Md_lineOf_w L f q0 p_0 (15 : Int32) (fun (r_123 : Int32) => ((r_123 ≤ r_122 → Q r_122) ∧ (¬ (r_123 ≤ r_122) → wp_Md_lineOf_w L f q0 p_0 (15 : Int32) (fun (r_125 : Int32) => Q r_125)))))))))) ∧ (¬ (p_5 = 2) → wp_Md_lineOf_w L f q0 p_0 (15 : Int32) (fun (r_113 : Int32) => ((r_113 ≤ v9_90 → Q v9_90) ∧ (¬ (r_113 ≤ v9_90) → wp_Md_lineOf_w L f q0 p_0 (15 : Int32) (fun (r_115 : Int32) => Q r_115))))))) ∧ (¬ (r_110 < 0) → wp_Md_lineOf_w L f q0 p_0 (14 : Int32) (fun (r_126 : Int32) => wp_Md_by_w L f v9_90 r_126 (fun (r_127 : Int32) => ((p_5 = 2 → wp_Md_lineOf_w L f q0 p_0 (18 : Int32) (fun (r_132 : Int32) => ((r_132 < 0 → wp_Md_lineOf_w L f q0 p_0 (15 : Int32) (fun (r_134 : Int32) => ((r_134 ≤ r_127 → Q r_127) ∧ (¬ (r_134 ≤ r_127) → wp_Md_lineOf_w L f q0 p_0 (15 : Int32) (fun (r_136 : Int32) => Q r_136))))) ∧ (¬ (r_132 < 0) → wp_Md_lineOf_w L f q0 p_0 (18 : Int32) (fun (r_137 : Int32) => wp_Md_by_w L f r_127 r_137 (fun (r_138 : Int32) => wp_Md_lineOf_w L f q0 p_0 (15 : Int32) (fun (r_139 : Int32) => ((r_139 ≤ r_138 → Q r_138) ∧ (¬ (r_139 ≤ r_138) → wp_Md_lineOf_w L f q0 p_0 (15 : Int32) (fun (r_141 : Int32) => Q r_141)))))))))) ∧ (¬ (p_5 = 2) → wp_Md_lineOf_w L f q0 p_0 (15 : Int32) (fun (r_129 : Int32) => ((r_129 ≤ r_127 → Q r_127) ∧ (¬ (r_129 ≤ r_127) → wp_Md_lineOf_w L f q0 p_0 (15 : Int32) (fun (r_131 : Int32) => Q r_131)))))))))))) ∧ (¬ (y_94 = 0) → ((p_5 = 2 → wp_Md_lineOf_w L f q0 p_0 (18 : Int32) (fun (r_100 : Int32) => ((r_100 < 0 → wp_Md_lineOf_w L f q0 p_0 (15 : Int32) (fun (r_102 : Int32) => ((r_102 ≤ v9_90 → Q v9_90) ∧ (¬ (r_102 ≤ v9_90) → wp_Md_lineOf_w L f q0 p_0 (15 : Int32) (fun (r_104 : Int32) => Q r_104))))) ∧ (¬ (r_100 < 0) → wp_Md_lineOf_w L f q0 p_0 (18 : Int32) (fun (r_105 : Int32) => wp_Md_by_w L f v9_90 r_105 (fun (r_106 : Int32) => wp_Md_lineOf_w L f q0 p_0 (15 : Int32) (fun (r_107 : Int32) => ((r_107 ≤ r_106 → Q r_106) ∧ (¬ (r_107 ≤ r_106) → wp_Md_lineOf_w L f q0 p_0 (15 : Int32) (fun (r_109 : Int32) => Q r_109)))))))))) ∧ (¬ (p_5 = 2) → wp_Md_lineOf_w L f q0 p_0 (15 : Int32) (fun (r_97 : Int32) => ((r_97 ≤ v9_90 → Q v9_90) ∧ (¬ (r_97 ≤ v9_90) → wp_Md_lineOf_w L f q0 p_0 (15 : Int32) (fun (r_99 : Int32) => Q r_99))))))))) ∧ (¬ (x_92 ≤ v12_90) → ∀ q_142 : Nat, tr f q0 37 = some q_142 → ∀ x_143 : Int32, ti f q_142 (((12 * p_0) + v12_90) : Int32).toNatClampNeg = x_143 → ∀ q_144 : Nat, tr f q0 38 = some q_144 → ∀ x_145 : Int32, ti f q_144 (((12 * p_0) + v12_90) : Int32).toNatClampNeg = x_145 → ((p_4 < x_143 → rec_90 v9_90 (v12_90 + 1)) ∧ (¬ (p_4 < x_143) → ((x_145 < p_4 → rec_90 v9_90 (v12_90 + 1)) ∧ (¬ (x_145 < p_4) → ∀ q_149 : Nat, tr f q0 39 = some q_149 → ∀ x_150 : Int32, ti f q_149 (((12 * p_0) + v12_90) : Int32).toNatClampNeg = x_150 → wp_Md_by_w L f v9_90 x_150 (fun (r_151 : Int32) => rec_90 r_151 (v12_90 + 1))))))))
def wpL_Md_fareOf_w_199_90 (L : List Nat) (f : TF) (q0 : Nat) (p_0 : Int32) (p_1 : Int32) (p_2 : Int32) (p_3 : Int32) (p_4 : Int32) (p_5 : Int32) (v7_1 : Int32) (v8_1 : Int32) (v9_1 : Int32) (v10_1 : Int32) (rec_1 : Int32 → Int32 → Int32 → Int32 → Prop) (q_2 : Nat) (x_3 : Int32) (Q : Int32 → Prop) : Nat → Int32 → Int32 → Prop
  | 0 => fun v9_90 v12_90 => wpB_Md_fareOf_w_199_90 L f q0 p_0 p_1 p_2 p_3 p_4 p_5 v7_1 v8_1 v9_1 v10_1 rec_1 q_2 x_3 Q (fun _ _ => True) v9_90 v12_90
  | n + 1 => fun v9_90 v12_90 => wpB_Md_fareOf_w_199_90 L f q0 p_0 p_1 p_2 p_3 p_4 p_5 v7_1 v8_1 v9_1 v10_1 rec_1 q_2 x_3 Q (wpL_Md_fareOf_w_199_90 L f q0 p_0 p_1 p_2 p_3 p_4 p_5 v7_1 v8_1 v9_1 v10_1 rec_1 q_2 x_3 Q n) v9_90 v12_90
def wpR_Md_fareOf_w_199_90 (L : List Nat) (f : TF) (q0 : Nat) (p_0 : Int32) (p_1 : Int32) (p_2 : Int32) (p_3 : Int32) (p_4 : Int32) (p_5 : Int32) (v7_1 : Int32) (v8_1 : Int32) (v9_1 : Int32) (v10_1 : Int32) (rec_1 : Int32 → Int32 → Int32 → Int32 → Prop) (q_2 : Nat) (x_3 : Int32) (Q : Int32 → Prop) : Nat → Int32 → Int32 → Prop
  | 0 => fun _ _ => True
  | n + 1 => wpL_Md_fareOf_w_199_90 L f q0 p_0 p_1 p_2 p_3 p_4 p_5 v7_1 v8_1 v9_1 v10_1 rec_1 q_2 x_3 Q n
theorem wpL_Md_fareOf_w_199_90_eq {L : List Nat} {f : TF} {q0 : Nat} {p_0 : Int32} {p_1 : Int32} {p_2 : Int32} {p_3 : Int32} {p_4 : Int32} {p_5 : Int32} {v7_1 : Int32} {v8_1 : Int32} {v9_1 : Int32} {v10_1 : Int32} {rec_1 : Int32 → Int32 → Int32 → Int32 → Prop} {q_2 : Nat} {x_3 : Int32} {Q : Int32 → Prop} {n : Nat} : wpL_Md_fareOf_w_199_90 L f q0 p_0 p_1 p_2 p_3 p_4 p_5 v7_1 v8_1 v9_1 v10_1 rec_1 q_2 x_3 Q n = wpB_Md_fareOf_w_199_90 L f q0 p_0 p_1 p_2 p_3 p_4 p_5 v7_1 v8_1 v9_1 v10_1 rec_1 q_2 x_3 Q (wpR_Md_fareOf_w_199_90 L f q0 p_0 p_1 p_2 p_3 p_4 p_5 v7_1 v8_1 v9_1 v10_1 rec_1 q_2 x_3 Q n) := by cases n <;> rfl
theorem wpR_Md_fareOf_w_199_90_pos {L : List Nat} {f : TF} {q0 : Nat} {p_0 : Int32} {p_1 : Int32} {p_2 : Int32} {p_3 : Int32} {p_4 : Int32} {p_5 : Int32} {v7_1 : Int32} {v8_1 : Int32} {v9_1 : Int32} {v10_1 : Int32} {rec_1 : Int32 → Int32 → Int32 → Int32 → Prop} {q_2 : Nat} {x_3 : Int32} {Q : Int32 → Prop} {n : Nat} (h : 0 < n) : wpR_Md_fareOf_w_199_90 L f q0 p_0 p_1 p_2 p_3 p_4 p_5 v7_1 v8_1 v9_1 v10_1 rec_1 q_2 x_3 Q n = wpL_Md_fareOf_w_199_90 L f q0 p_0 p_1 p_2 p_3 p_4 p_5 v7_1 v8_1 v9_1 v10_1 rec_1 q_2 x_3 Q (n - 1) := by
  cases n with
  | zero => omega
  | succ n => rfl
def wpB_Md_fareOf_w_48_1 (L : List Nat) (f : TF) (q0 : Nat) (p_0 : Int32) (p_1 : Int32) (p_2 : Int32) (p_3 : Int32) (p_4 : Int32) (p_5 : Int32) (Q : Int32 → Prop) (rec_1 : Int32 → Int32 → Int32 → Int32 → Prop) (v7_1 : Int32) (v8_1 : Int32) (v9_1 : Int32) (v10_1 : Int32) : Prop := ∀ q_2 : Nat, tr f q0 32 = some q_2 → ∀ x_3 : Int32, ti f q_2 (p_0 : Int32).toNatClampNeg = x_3 → ((x_3 ≤ v10_1 → ((0 ≤ v9_1 → wp_Md_flowOf_w L f q0 p_3 p_4 (fun (r_68 : Int32) => ((r_68 = 0 → wpL_Md_fareOf_w_199_5 L f q0 p_0 p_1 p_2 p_3 p_4 p_5 v7_1 v8_1 v9_1 v10_1 rec_1 q_2 x_3 Q (((12 : Int32).toInt - (0 : Int32).toInt).toNat) v9_1 (0 : Int32)) ∧ (¬ (r_68 = 0) → ((r_68 ≤ 0 → ((0 = v8_1 → wp_Md_lineOf_w L f q0 p_0 (12 : Int32) (fun (r_76 : Int32) => ((r_76 < 0 → wpL_Md_fareOf_w_199_5 L f q0 p_0 p_1 p_2 p_3 p_4 p_5 v7_1 v8_1 v9_1 v10_1 rec_1 q_2 x_3 Q (((12 : Int32).toInt - (0 : Int32).toInt).toNat) v9_1 (0 : Int32)) ∧ (¬ (r_76 < 0) → wp_Md_lineOf_w L f q0 p_0 (12 : Int32) (fun (r_78 : Int32) => wp_Md_by_w L f v9_1 r_78 (fun (r_79 : Int32) => wpL_Md_fareOf_w_199_5 L f q0 p_0 p_1 p_2 p_3 p_4 p_5 v7_1 v8_1 v9_1 v10_1 rec_1 q_2 x_3 Q (((12 : Int32).toInt - (0 : Int32).toInt).toNat) r_79 (0 : Int32))))))) ∧ (¬ (0 = v8_1) → wp_Md_lineOf_w L f q0 p_0 (13 : Int32) (fun (r_72 : Int32) => ((r_72 < 0 → wpL_Md_fareOf_w_199_5 L f q0 p_0 p_1 p_2 p_3 p_4 p_5 v7_1 v8_1 v9_1 v10_1 rec_1 q_2 x_3 Q (((12 : Int32).toInt - (0 : Int32).toInt).toNat) v9_1 (0 : Int32)) ∧ (¬ (r_72 < 0) → wp_Md_lineOf_w L f q0 p_0 (13 : Int32) (fun (r_74 : Int32) => wp_Md_by_w L f v9_1 r_74 (fun (r_75 : Int32) => wpL_Md_fareOf_w_199_5 L f q0 p_0 p_1 p_2 p_3 p_4 p_5 v7_1 v8_1 v9_1 v10_1 rec_1 q_2 x_3 Q (((12 : Int32).toInt - (0 : Int32).toInt).toNat) r_75 (0 : Int32))))))))) ∧ (¬ (r_68 ≤ 0) → ((1 = v8_1 → wp_Md_lineOf_w L f q0 p_0 (12 : Int32) (fun (r_85 : Int32) => ((r_85 < 0 → wpL_Md_fareOf_w_199_5 L f q0 p_0 p_1 p_2 p_3 p_4 p_5 v7_1 v8_1 v9_1 v10_1 rec_1 q_2 x_3 Q (((12 : Int32).toInt - (0 : Int32).toInt).toNat) v9_1 (0 : Int32)) ∧ (¬ (r_85 < 0) → wp_Md_lineOf_w L f q0 p_0 (12 : Int32) (fun (r_87 : Int32) => wp_Md_by_w L f v9_1 r_87 (fun (r_88 : Int32) => wpL_Md_fareOf_w_199_5 L f q0 p_0 p_1 p_2 p_3 p_4 p_5 v7_1 v8_1 v9_1 v10_1 rec_1 q_2 x_3 Q (((12 : Int32).toInt - (0 : Int32).toInt).toNat) r_88 (0 : Int32))))))) ∧ (¬ (1 = v8_1) → wp_Md_lineOf_w L f q0 p_0 (13 : Int32) (fun (r_81 : Int32) => ((r_81 < 0 → wpL_Md_fareOf_w_199_5 L f q0 p_0 p_1 p_2 p_3 p_4 p_5 v7_1 v8_1 v9_1 v10_1 rec_1 q_2 x_3 Q (((12 : Int32).toInt - (0 : Int32).toInt).toNat) v9_1 (0 : Int32)) ∧ (¬ (r_81 < 0) → wp_Md_lineOf_w L f q0 p_0 (13 : Int32) (fun (r_83 : Int32) => wp_Md_by_w L f v9_1 r_83 (fun (r_84 : Int32) => wpL_Md_fareOf_w_199_5 L f q0 p_0 p_1 p_2 p_3 p_4 p_5 v7_1 v8_1 v9_1 v10_1 rec_1 q_2 x_3 Q (((12 : Int32).toInt - (0 : Int32).toInt).toNat) r_84 (0 : Int32)))))))))))))) ∧ (¬ (0 ≤ v9_1) → Q (-2)))) ∧ (¬ (x_3 ≤ v10_1) → ((0 ≤ v9_1 → wp_Md_flowOf_w L f q0 p_3 p_4 (fun (r_152 : Int32) => ((r_152 = 0 → wpL_Md_fareOf_w_199_90 L f q0 p_0 p_1 p_2 p_3 p_4 p_5 v7_1 v8_1 v9_1 v10_1 rec_1 q_2 x_3 Q (((12 : Int32).toInt - (0 : Int32).toInt).toNat) v9_1 (0 : Int32)) ∧ (¬ (r_152 = 0) → ((r_152 ≤ 0 → ((0 = v8_1 → wp_Md_lineOf_w L f q0 p_0 (12 : Int32) (fun (r_160 : Int32) => ((r_160 < 0 → wpL_Md_fareOf_w_199_90 L f q0 p_0 p_1 p_2 p_3 p_4 p_5 v7_1 v8_1 v9_1 v10_1 rec_1 q_2 x_3 Q (((12 : Int32).toInt - (0 : Int32).toInt).toNat) v9_1 (0 : Int32)) ∧ (¬ (r_160 < 0) → wp_Md_lineOf_w L f q0 p_0 (12 : Int32) (fun (r_162 : Int32) => wp_Md_by_w L f v9_1 r_162 (fun (r_163 : Int32) => wpL_Md_fareOf_w_199_90 L f q0 p_0 p_1 p_2 p_3 p_4 p_5 v7_1 v8_1 v9_1 v10_1 rec_1 q_2 x_3 Q (((12 : Int32).toInt - (0 : Int32).toInt).toNat) r_163 (0 : Int32))))))) ∧ (¬ (0 = v8_1) → wp_Md_lineOf_w L f q0 p_0 (13 : Int32) (fun (r_156 : Int32) => ((r_156 < 0 → wpL_Md_fareOf_w_199_90 L f q0 p_0 p_1 p_2 p_3 p_4 p_5 v7_1 v8_1 v9_1 v10_1 rec_1 q_2 x_3 Q (((12 : Int32).toInt - (0 : Int32).toInt).toNat) v9_1 (0 : Int32)) ∧ (¬ (r_156 < 0) → wp_Md_lineOf_w L f q0 p_0 (13 : Int32) (fun (r_158 : Int32) => wp_Md_by_w L f v9_1 r_158 (fun (r_159 : Int32) => wpL_Md_fareOf_w_199_90 L f q0 p_0 p_1 p_2 p_3 p_4 p_5 v7_1 v8_1 v9_1 v10_1 rec_1 q_2 x_3 Q (((12 : Int32).toInt - (0 : Int32).toInt).toNat) r_159 (0 : Int32))))))))) ∧ (¬ (r_152 ≤ 0) → ((1 = v8_1 → wp_Md_lineOf_w L f q0 p_0 (12 : Int32) (fun (r_169 : Int32) => ((r_169 < 0 → wpL_Md_fareOf_w_199_90 L f q0 p_0 p_1 p_2 p_3 p_4 p_5 v7_1 v8_1 v9_1 v10_1 rec_1 q_2 x_3 Q (((12 : Int32).toInt - (0 : Int32).toInt).toNat) v9_1 (0 : Int32)) ∧ (¬ (r_169 < 0) → wp_Md_lineOf_w L f q0 p_0 (12 : Int32) (fun (r_171 : Int32) => wp_Md_by_w L f v9_1 r_171 (fun (r_172 : Int32) => wpL_Md_fareOf_w_199_90 L f q0 p_0 p_1 p_2 p_3 p_4 p_5 v7_1 v8_1 v9_1 v10_1 rec_1 q_2 x_3 Q (((12 : Int32).toInt - (0 : Int32).toInt).toNat) r_172 (0 : Int32))))))) ∧ (¬ (1 = v8_1) → wp_Md_lineOf_w L f q0 p_0 (13 : Int32) (fun (r_165 : Int32) => ((r_165 < 0 → wpL_Md_fareOf_w_199_90 L f q0 p_0 p_1 p_2 p_3 p_4 p_5 v7_1 v8_1 v9_1 v10_1 rec_1 q_2 x_3 Q (((12 : Int32).toInt - (0 : Int32).toInt).toNat) v9_1 (0 : Int32)) ∧ (¬ (r_165 < 0) → wp_Md_lineOf_w L f q0 p_0 (13 : Int32) (fun (r_167 : Int32) => wp_Md_by_w L f v9_1 r_167 (fun (r_168 : Int32) => wpL_Md_fareOf_w_199_90 L f q0 p_0 p_1 p_2 p_3 p_4 p_5 v7_1 v8_1 v9_1 v10_1 rec_1 q_2 x_3 Q (((12 : Int32).toInt - (0 : Int32).toInt).toNat) r_168 (0 : Int32)))))))))))))) ∧ (¬ (0 ≤ v9_1) → ∀ q_173 : Nat, tr f q0 33 = some q_173 → ∀ x_174 : Int32, ti f q_173 (((12 * p_0) + v10_1) : Int32).toNatClampNeg = x_174 → ∀ q_175 : Nat, tr f q0 34 = some q_175 → ∀ x_176 : Int32, ti f q_175 (((12 * p_0) + v10_1) : Int32).toNatClampNeg = x_176 → ((v7_1 < x_174 → rec_1 v7_1 v8_1 v9_1 (v10_1 + 1)) ∧ (¬ (v7_1 < x_174) → ((x_176 < v7_1 → rec_1 v7_1 v8_1 v9_1 (v10_1 + 1)) ∧ (¬ (x_176 < v7_1) → ∀ q_180 : Nat, tr f q0 35 = some q_180 → ∀ x_181 : Int32, ti f q_180 (((12 * p_0) + v10_1) : Int32).toNatClampNeg = x_181 → rec_1 v7_1 v8_1 x_181 (v10_1 + 1)))))))))
def wpL_Md_fareOf_w_48_1 (L : List Nat) (f : TF) (q0 : Nat) (p_0 : Int32) (p_1 : Int32) (p_2 : Int32) (p_3 : Int32) (p_4 : Int32) (p_5 : Int32) (Q : Int32 → Prop) : Nat → Int32 → Int32 → Int32 → Int32 → Prop
  | 0 => fun v7_1 v8_1 v9_1 v10_1 => wpB_Md_fareOf_w_48_1 L f q0 p_0 p_1 p_2 p_3 p_4 p_5 Q (fun _ _ _ _ => True) v7_1 v8_1 v9_1 v10_1
  | n + 1 => fun v7_1 v8_1 v9_1 v10_1 => wpB_Md_fareOf_w_48_1 L f q0 p_0 p_1 p_2 p_3 p_4 p_5 Q (wpL_Md_fareOf_w_48_1 L f q0 p_0 p_1 p_2 p_3 p_4 p_5 Q n) v7_1 v8_1 v9_1 v10_1
def wpR_Md_fareOf_w_48_1 (L : List Nat) (f : TF) (q0 : Nat) (p_0 : Int32) (p_1 : Int32) (p_2 : Int32) (p_3 : Int32) (p_4 : Int32) (p_5 : Int32) (Q : Int32 → Prop) : Nat → Int32 → Int32 → Int32 → Int32 → Prop
  | 0 => fun _ _ _ _ => True
  | n + 1 => wpL_Md_fareOf_w_48_1 L f q0 p_0 p_1 p_2 p_3 p_4 p_5 Q n
theorem wpL_Md_fareOf_w_48_1_eq {L : List Nat} {f : TF} {q0 : Nat} {p_0 : Int32} {p_1 : Int32} {p_2 : Int32} {p_3 : Int32} {p_4 : Int32} {p_5 : Int32} {Q : Int32 → Prop} {n : Nat} : wpL_Md_fareOf_w_48_1 L f q0 p_0 p_1 p_2 p_3 p_4 p_5 Q n = wpB_Md_fareOf_w_48_1 L f q0 p_0 p_1 p_2 p_3 p_4 p_5 Q (wpR_Md_fareOf_w_48_1 L f q0 p_0 p_1 p_2 p_3 p_4 p_5 Q n) := by cases n <;> rfl
theorem wpR_Md_fareOf_w_48_1_pos {L : List Nat} {f : TF} {q0 : Nat} {p_0 : Int32} {p_1 : Int32} {p_2 : Int32} {p_3 : Int32} {p_4 : Int32} {p_5 : Int32} {Q : Int32 → Prop} {n : Nat} (h : 0 < n) : wpR_Md_fareOf_w_48_1 L f q0 p_0 p_1 p_2 p_3 p_4 p_5 Q n = wpL_Md_fareOf_w_48_1 L f q0 p_0 p_1 p_2 p_3 p_4 p_5 Q (n - 1) := by
  cases n with
  | zero => omega
  | succ n => rfl
def wp_Md_fareOf_w (L : List Nat) (f : TF) (q0 : Nat) (p_0 : Int32) (p_1 : Int32) (p_2 : Int32) (p_3 : Int32) (p_4 : Int32) (p_5 : Int32) (Q : Int32 → Prop) : Prop := ∀ q_182 : Nat, tr f q0 3 = some q_182 → ∀ x_183 : Int32, ti f q_182 (p_2 : Int32).toNatClampNeg = x_183 → ∀ x_184 : Int32, ti f q_182 (p_1 : Int32).toNatClampNeg = x_184 → (((x_183 - x_184) ≤ 0 → wpL_Md_fareOf_w_48_1 L f q0 p_0 p_1 p_2 p_3 p_4 p_5 Q (((12 : Int32).toInt - (0 : Int32).toInt).toNat) (-(x_183 - x_184)) (0 : Int32) ((-1) : Int32) (0 : Int32)) ∧ (¬ ((x_183 - x_184) ≤ 0) → wpL_Md_fareOf_w_48_1 L f q0 p_0 p_1 p_2 p_3 p_4 p_5 Q (((12 : Int32).toInt - (0 : Int32).toInt).toNat) (x_183 - x_184) (1 : Int32) ((-1) : Int32) (0 : Int32)))
set_option maxHeartbeats 4000000 in
set_option maxRecDepth 100000 in
theorem c_Md_fareOf_w (l : Launch) (dC : Nat → ClassId) (dI : Nat → Nat → Nat) (ct : Nat → ClassId) (L : List Nat) (f : TF) (hO_0 : Ok L f) (q0 : Nat) (m0 : q0 ∈ L ∧ tk f q0 = 27) (p_0 : Int32) (p_1 : Int32) (p_2 : Int32) (p_3 : Int32) (p_4 : Int32) (p_5 : Int32)  (as_0 : ¬ (p_0 < 0)) (as_1 : ¬ (19 < p_0)) (as_2 : ¬ (p_1 < 0)) (as_3 : ¬ (11 < p_1)) (as_4 : ¬ (p_2 < 0)) (as_5 : ¬ (11 < p_2)) (as_6 : ¬ (p_3 < 0)) (as_7 : ¬ (499 < p_3)) (as_8 : ¬ (p_4 < 0)) (as_9 : ¬ (11 < p_4)) (Q : Int32 → Prop) (hQ : wp_Md_fareOf_w L f q0 p_0 p_1 p_2 p_3 p_4 p_5 Q) : Met l y_Md_fareOf (.code y_Md_fareOf b_Md_fareOf 13 (some .int) :: TB) ({ frames := 2, cells := 0, slots := 0, locals := 44 }) (va_Pc [.ref q0, .int p_0, .int p_1, .int p_2, .int p_3, .int p_4, .int p_5] (PR dC dI (TW ct L f) (TT ct))) (vp_Si (fun r => (True) ∧ Q r)) 0 0 (fun _ => False) := by
  refine Met.ofW (cc := b_Md_fareOf) (maxL := 13) (ret := (some .int)) (by decide) rfl ?_
  intro p e s m args below meth c s₁ B hml hv
  obtain ⟨rfl, hP, hK, hN⟩ := hv
  have hx := B.exec
  have hb := B.bytes
  have hr := B.returns
  have hts := atoms_spec (ws := (.code y_Md_fareOf b_Md_fareOf 13 (some .int) :: TB)) B.pre
  have htb := fun w (h : w ∈ TB) => hts w (List.mem_cons_of_mem _ h)
  have hown : s.vm.findClass R_Md = some m.cls := findClass_of_methodNamed B.named
  have hlocks := B.notSynchronized
  have hl := lv_entry ([.ref q0, .int p_0, .int p_1, .int p_2, .int p_3, .int p_4, .int p_5]) (n := 13) (Nat.le_of_ble_eq_true rfl)
  rw [lg_entry_eq]
  generalize (lg_sl ([.ref q0, .int p_0, .int p_1, .int p_2, .int p_3, .int p_4, .int p_5]) ++ List.replicate (13 - (lg_sl ([.ref q0, .int p_0, .int p_1, .int p_2, .int p_3, .int p_4, .int p_5])).length) Slot.unset).toArray = ls at hl ⊢
  have hl : lv_has ls 13 [(0, .ref q0), (1, .int p_0), (2, .int p_1), (3, .int p_2), (4, .int p_3), (5, .int p_4), (6, .int p_5)] := hl
  unfold wp_Md_fareOf_w at hQ
  have cut_1 : ∀ (n_1 : Nat) (v7_1 v8_1 v9_1 v10_1 : Int32) (ls : Array Slot), ¬ (v10_1 < 0) → ¬ (12 < v10_1) → (12 : Int32).toInt - (v10_1 : Int32).toInt ≤ (n_1 : Int) → wpL_Md_fareOf_w_48_1 L f q0 p_0 p_1 p_2 p_3 p_4 p_5 Q n_1 v7_1 v8_1 v9_1 v10_1 → lv_has ls 13 [(0, .ref q0), (1, .int p_0), (4, .int p_3), (5, .int p_4), (6, .int p_5), (7, .int v7_1), (8, .int v8_1), (9, .int v9_1), (10, .int v10_1)] → W p l e (headSpec (.code y_Md_fareOf b_Md_fareOf 13 (some .int) :: TB) ({ frames := 2, cells := 0, slots := 0, locals := 44 })).room s m [.ref q0, .int p_0, .int p_1, .int p_2, .int p_3, .int p_4, .int p_5].toArray below meth c s.heap [] 0 0 (MQ below (vp_Si (fun r => (True) ∧ Q r)) [.ref q0, .int p_0, .int p_1, .int p_2, .int p_3, .int p_4, .int p_5].toArray s 0 0 (fun _ => False)) (F0 m 48 ls []) := by
    intro n_1
    induction n_1 using Nat.strongRecOn with
    | _ n_1 ih_1 =>
      intro v7_1 v8_1 v9_1 v10_1 ls iv0_1 iv1_1 hm_1 hQ hl
      rw [wpL_Md_fareOf_w_48_1_eq] at hQ
      obtain ⟨rec_1, hrec_1⟩ : ∃ g, wpR_Md_fareOf_w_48_1 L f q0 p_0 p_1 p_2 p_3 p_4 p_5 Q n_1 = g := ⟨_, rfl⟩
      rw [hrec_1] at hQ
      unfold wpB_Md_fareOf_w_48_1 at hQ
      refine lv_iload hx hb d_Md_fareOf_48 (lv_at hl 8 rfl) ?_
      refine lv_aload_n hx hb d_Md_fareOf_50 rfl (lv_at hl 0 rfl) ?_
      refine tw_getr (D := (dC, dI)) (C := R_Md) (T := F_Md) (N := 64) (ci := 7) (kd := 27) (ct := ct) hx hb htb i_Md hown hK hP hO_0 m0 rfl rfl 32 (by decide) (htb (.fieldLink R_Md 119 "WaterMenModel" "fares" "[I") tw_334) (fun _ h9 => h9) rfl d_Md_fareOf_51 (fun q_2 e_2 m_2 => ?_)
      have hQ := hQ q_2 e_2
      refine lv_iload_n hx hb d_Md_fareOf_54 rfl (lv_at hl 1 rfl) ?_
      refine tw_aldI (ct := ct) hx hb hK hP hO_0 m_2 rfl (hb_inl as_0 as_1 (by decide +kernel)) d_Md_fareOf_55 (fun x_3 e_3 b_3 => ?_)
      have hQ := hQ x_3 e_3
      refine lv_icmp_ge (tgt := 116) hx hb d_Md_fareOf_56 (by decide) (fun c_4 => ?_) (fun c_4 => ?_)
      · have hQ := hQ.1 c_4
        have cut_5 : ∀ (n_5 : Nat) (v9_5 v12_5 : Int32) (ls : Array Slot), ¬ (v12_5 < 0) → ¬ (12 < v12_5) → (12 : Int32).toInt - (v12_5 : Int32).toInt ≤ (n_5 : Int) → wpL_Md_fareOf_w_199_5 L f q0 p_0 p_1 p_2 p_3 p_4 p_5 v7_1 v8_1 v9_1 v10_1 rec_1 q_2 x_3 Q n_5 v9_5 v12_5 → lv_has ls 13 [(0, .ref q0), (1, .int p_0), (4, .int p_3), (5, .int p_4), (6, .int p_5), (9, .int v9_5), (12, .int v12_5)] → W p l e (headSpec (.code y_Md_fareOf b_Md_fareOf 13 (some .int) :: TB) ({ frames := 2, cells := 0, slots := 0, locals := 44 })).room s m [.ref q0, .int p_0, .int p_1, .int p_2, .int p_3, .int p_4, .int p_5].toArray below meth c s.heap [] 0 0 (MQ below (vp_Si (fun r => (True) ∧ Q r)) [.ref q0, .int p_0, .int p_1, .int p_2, .int p_3, .int p_4, .int p_5].toArray s 0 0 (fun _ => False)) (F0 m 199 ls []) := by
          intro n_5
          induction n_5 using Nat.strongRecOn with
          | _ n_5 ih_5 =>
            intro v9_5 v12_5 ls iv0_5 iv1_5 hm_5 hQ hl
            rw [wpL_Md_fareOf_w_199_5_eq] at hQ
            obtain ⟨rec_5, hrec_5⟩ : ∃ g, wpR_Md_fareOf_w_199_5 L f q0 p_0 p_1 p_2 p_3 p_4 p_5 v7_1 v8_1 v9_1 v10_1 rec_1 q_2 x_3 Q n_5 = g := ⟨_, rfl⟩
            rw [hrec_5] at hQ
            unfold wpB_Md_fareOf_w_199_5 at hQ
            refine lv_iload hx hb d_Md_fareOf_199 (lv_at hl 6 rfl) ?_
            refine lv_aload_n hx hb d_Md_fareOf_201 rfl (lv_at hl 0 rfl) ?_
            refine tw_getr (D := (dC, dI)) (C := R_Md) (T := F_Md) (N := 64) (ci := 7) (kd := 27) (ct := ct) hx hb htb i_Md hown hK hP hO_0 m0 rfl rfl 36 (by decide) (htb (.fieldLink R_Md 131 "WaterMenModel" "hours" "[I") tw_335) (fun _ h9 => h9) rfl d_Md_fareOf_202 (fun q_6 e_6 m_6 => ?_)
            have hQ := hQ q_6 e_6
            refine lv_iload_n hx hb d_Md_fareOf_205 rfl (lv_at hl 1 rfl) ?_
            refine tw_aldI (ct := ct) hx hb hK hP hO_0 m_6 rfl (hb_inl as_0 as_1 (by decide +kernel)) d_Md_fareOf_206 (fun x_7 e_7 b_7 => ?_)
            have hQ := hQ x_7 e_7
            refine lv_icmp_ge (tgt := 267) hx hb d_Md_fareOf_207 (by decide) (fun c_8 => ?_) (fun c_8 => ?_)
            · have hQ := hQ.1 c_8
              refine lv_iload hx hb d_Md_fareOf_267 (lv_at hl 2 rfl) ?_
              refine lv_bipush (v := 7) hx hb d_Md_fareOf_269 (by decide +kernel) ?_
              refine lv_irem hx hb d_Md_fareOf_271 (by decide) ?_
              refine hb_remn (c := 7) (C1 := 6) (K := 2147483640) (by decide +kernel) (by decide +kernel) (by decide +kernel) as_6 (show ¬ (2147483640 < p_3) from by have e0 := as_6; rw [Int32.lt_iff_toInt_lt] at e0; have e1 := as_7; rw [Int32.lt_iff_toInt_lt] at e1; have z0 : (0 : Int32).toInt = 0 := (by decide +kernel); have z1 : (499 : Int32).toInt = 499 := (by decide +kernel); have z2 : (2147483640 : Int32).toInt = 2147483640 := (by decide +kernel); rw [Int32.lt_iff_toInt_lt]; omega) (fun y_9 qu_9 g1_9 g2_9 g3_9 g4_9 g5_9 g9_9 => ?_)
              have hQ := hQ y_9 g9_9
              refine lv_if_ne (tgt := 299) hx hb d_Md_fareOf_272 (by decide) (fun c_10 => ?_) (fun c_10 => ?_)
              · have hQ := hQ.2 c_10
                refine lv_iload hx hb d_Md_fareOf_299 (lv_at hl 4 rfl) ?_
                refine lv_iconst (v := 2) hx hb d_Md_fareOf_301 (by decide +kernel) ?_
                refine lv_icmp_ne (tgt := 329) hx hb d_Md_fareOf_302 (by decide) (fun c_11 => ?_) (fun c_11 => ?_)
                · have hQ := hQ.2 c_11
                  refine lv_aload_n hx hb d_Md_fareOf_329 rfl (lv_at hl 0 rfl) ?_
                  refine lv_iload_n hx hb d_Md_fareOf_330 rfl (lv_at hl 1 rfl) ?_
                  refine lv_bipush (v := 15) hx hb d_Md_fareOf_331 (by decide +kernel) ?_
                  refine vp_callSi (va_Run.run (va_runV (As := [.int p_0, .int 15]) (rest := []) ⟨hx, hb, hml, hown, htb⟩ (c_Md_lineOf_w l dC dI ct L f hO_0 q0 m0 p_0 (15 : Int32) as_0 as_1 (by decide +kernel) (by decide +kernel) _ hQ) (cwV 2 htb (gd_V tw_443 tw_444 tw_445 tw_89 tw_442) rfl rfl rfl (by decide +kernel) ⟨Nat.le_of_ble_eq_true rfl, Nat.le_of_ble_eq_true rfl⟩) ⟨pr_blind, tw_recv hK hP m0 rfl rfl, pr_pre hP hK hN⟩ rfl rfl hl.1 rfl (lv_room (Nat.le_of_ble_eq_true rfl)) d_Md_fareOf_333 ⟨Nat.le_of_ble_eq_true rfl, Nat.le_of_ble_eq_true rfl⟩)) (fun r_12 er_12 => ?_)
                  obtain ⟨er_12, hQ⟩ := er_12
                  clear er_12
                  refine lv_iload hx hb d_Md_fareOf_336 (lv_at hl 5 rfl) ?_
                  refine lv_icmp_le (tgt := 351) hx hb d_Md_fareOf_338 (by decide) (fun c_13 => ?_) (fun c_13 => ?_)
                  · have hQ := hQ.1 c_13
                    refine lv_iload hx hb d_Md_fareOf_351 (lv_at hl 5 rfl) ?_
                    exact W.iret (v := v9_5) hx hb hr (fun t ht hW => ⟨v9_5, rfl, ⟨trivial, hQ⟩, ht⟩) t_nil d_Md_fareOf_353
                  · have hQ := hQ.2 c_13
                    refine lv_aload_n hx hb d_Md_fareOf_341 rfl (lv_at hl 0 rfl) ?_
                    refine lv_iload_n hx hb d_Md_fareOf_342 rfl (lv_at hl 1 rfl) ?_
                    refine lv_bipush (v := 15) hx hb d_Md_fareOf_343 (by decide +kernel) ?_
                    refine vp_callSi (va_Run.run (va_runV (As := [.int p_0, .int 15]) (rest := []) ⟨hx, hb, hml, hown, htb⟩ (c_Md_lineOf_w l dC dI ct L f hO_0 q0 m0 p_0 (15 : Int32) as_0 as_1 (by decide +kernel) (by decide +kernel) _ hQ) (cwV 2 htb (gd_V tw_443 tw_444 tw_445 tw_89 tw_442) rfl rfl rfl (by decide +kernel) ⟨Nat.le_of_ble_eq_true rfl, Nat.le_of_ble_eq_true rfl⟩) ⟨pr_blind, tw_recv hK hP m0 rfl rfl, pr_pre hP hK hN⟩ rfl rfl hl.1 rfl (lv_room (Nat.le_of_ble_eq_true rfl)) d_Md_fareOf_345 ⟨Nat.le_of_ble_eq_true rfl, Nat.le_of_ble_eq_true rfl⟩)) (fun r_14 er_14 => ?_)
                    obtain ⟨er_14, hQ⟩ := er_14
                    clear er_14
                    refine lv_goto (tgt := 353) hx hb d_Md_fareOf_348 (by decide) ?_
                    exact W.iret (v := r_14) hx hb hr (fun t ht hW => ⟨r_14, rfl, ⟨trivial, hQ⟩, ht⟩) t_nil d_Md_fareOf_353
                · have hQ := hQ.1 c_11
                  refine lv_aload_n hx hb d_Md_fareOf_305 rfl (lv_at hl 0 rfl) ?_
                  refine lv_iload_n hx hb d_Md_fareOf_306 rfl (lv_at hl 1 rfl) ?_
                  refine lv_bipush (v := 18) hx hb d_Md_fareOf_307 (by decide +kernel) ?_
                  refine vp_callSi (va_Run.run (va_runV (As := [.int p_0, .int 18]) (rest := []) ⟨hx, hb, hml, hown, htb⟩ (c_Md_lineOf_w l dC dI ct L f hO_0 q0 m0 p_0 (18 : Int32) as_0 as_1 (by decide +kernel) (by decide +kernel) _ hQ) (cwV 2 htb (gd_V tw_443 tw_444 tw_445 tw_89 tw_442) rfl rfl rfl (by decide +kernel) ⟨Nat.le_of_ble_eq_true rfl, Nat.le_of_ble_eq_true rfl⟩) ⟨pr_blind, tw_recv hK hP m0 rfl rfl, pr_pre hP hK hN⟩ rfl rfl hl.1 rfl (lv_room (Nat.le_of_ble_eq_true rfl)) d_Md_fareOf_309 ⟨Nat.le_of_ble_eq_true rfl, Nat.le_of_ble_eq_true rfl⟩)) (fun r_15 er_15 => ?_)
                  obtain ⟨er_15, hQ⟩ := er_15
                  clear er_15
                  refine lv_if_lt (tgt := 329) hx hb d_Md_fareOf_312 (by decide) (fun c_16 => ?_) (fun c_16 => ?_)
                  · have hQ := hQ.1 c_16
                    refine lv_aload_n hx hb d_Md_fareOf_329 rfl (lv_at hl 0 rfl) ?_
                    refine lv_iload_n hx hb d_Md_fareOf_330 rfl (lv_at hl 1 rfl) ?_
                    refine lv_bipush (v := 15) hx hb d_Md_fareOf_331 (by decide +kernel) ?_
                    refine vp_callSi (va_Run.run (va_runV (As := [.int p_0, .int 15]) (rest := []) ⟨hx, hb, hml, hown, htb⟩ (c_Md_lineOf_w l dC dI ct L f hO_0 q0 m0 p_0 (15 : Int32) as_0 as_1 (by decide +kernel) (by decide +kernel) _ hQ) (cwV 2 htb (gd_V tw_443 tw_444 tw_445 tw_89 tw_442) rfl rfl rfl (by decide +kernel) ⟨Nat.le_of_ble_eq_true rfl, Nat.le_of_ble_eq_true rfl⟩) ⟨pr_blind, tw_recv hK hP m0 rfl rfl, pr_pre hP hK hN⟩ rfl rfl hl.1 rfl (lv_room (Nat.le_of_ble_eq_true rfl)) d_Md_fareOf_333 ⟨Nat.le_of_ble_eq_true rfl, Nat.le_of_ble_eq_true rfl⟩)) (fun r_17 er_17 => ?_)
                    obtain ⟨er_17, hQ⟩ := er_17
                    clear er_17
                    refine lv_iload hx hb d_Md_fareOf_336 (lv_at hl 5 rfl) ?_
                    refine lv_icmp_le (tgt := 351) hx hb d_Md_fareOf_338 (by decide) (fun c_18 => ?_) (fun c_18 => ?_)
                    · have hQ := hQ.1 c_18
                      refine lv_iload hx hb d_Md_fareOf_351 (lv_at hl 5 rfl) ?_
                      exact W.iret (v := v9_5) hx hb hr (fun t ht hW => ⟨v9_5, rfl, ⟨trivial, hQ⟩, ht⟩) t_nil d_Md_fareOf_353
                    · have hQ := hQ.2 c_18
                      refine lv_aload_n hx hb d_Md_fareOf_341 rfl (lv_at hl 0 rfl) ?_
                      refine lv_iload_n hx hb d_Md_fareOf_342 rfl (lv_at hl 1 rfl) ?_
                      refine lv_bipush (v := 15) hx hb d_Md_fareOf_343 (by decide +kernel) ?_
                      refine vp_callSi (va_Run.run (va_runV (As := [.int p_0, .int 15]) (rest := []) ⟨hx, hb, hml, hown, htb⟩ (c_Md_lineOf_w l dC dI ct L f hO_0 q0 m0 p_0 (15 : Int32) as_0 as_1 (by decide +kernel) (by decide +kernel) _ hQ) (cwV 2 htb (gd_V tw_443 tw_444 tw_445 tw_89 tw_442) rfl rfl rfl (by decide +kernel) ⟨Nat.le_of_ble_eq_true rfl, Nat.le_of_ble_eq_true rfl⟩) ⟨pr_blind, tw_recv hK hP m0 rfl rfl, pr_pre hP hK hN⟩ rfl rfl hl.1 rfl (lv_room (Nat.le_of_ble_eq_true rfl)) d_Md_fareOf_345 ⟨Nat.le_of_ble_eq_true rfl, Nat.le_of_ble_eq_true rfl⟩)) (fun r_19 er_19 => ?_)
                      obtain ⟨er_19, hQ⟩ := er_19
                      clear er_19
                      refine lv_goto (tgt := 353) hx hb d_Md_fareOf_348 (by decide) ?_
                      exact W.iret (v := r_19) hx hb hr (fun t ht hW => ⟨r_19, rfl, ⟨trivial, hQ⟩, ht⟩) t_nil d_Md_fareOf_353
                  · have hQ := hQ.2 c_16
                    refine lv_iload hx hb d_Md_fareOf_315 (lv_at hl 5 rfl) ?_
                    refine lv_aload_n hx hb d_Md_fareOf_317 rfl (lv_at hl 0 rfl) ?_
                    refine lv_iload_n hx hb d_Md_fareOf_318 rfl (lv_at hl 1 rfl) ?_
                    refine lv_bipush (v := 18) hx hb d_Md_fareOf_319 (by decide +kernel) ?_
                    refine vp_callSi (va_Run.run (va_runV (As := [.int p_0, .int 18]) (rest := [.int v9_5]) ⟨hx, hb, hml, hown, htb⟩ (c_Md_lineOf_w l dC dI ct L f hO_0 q0 m0 p_0 (18 : Int32) as_0 as_1 (by decide +kernel) (by decide +kernel) _ hQ) (cwV 2 htb (gd_V tw_443 tw_444 tw_445 tw_89 tw_442) rfl rfl rfl (by decide +kernel) ⟨Nat.le_of_ble_eq_true rfl, Nat.le_of_ble_eq_true rfl⟩) ⟨pr_blind, tw_recv hK hP m0 rfl rfl, pr_pre hP hK hN⟩ rfl rfl hl.1 rfl (lv_room (Nat.le_of_ble_eq_true rfl)) d_Md_fareOf_321 ⟨Nat.le_of_ble_eq_true rfl, Nat.le_of_ble_eq_true rfl⟩)) (fun r_20 er_20 => ?_)
                    obtain ⟨er_20, hQ⟩ := er_20
                    clear er_20
                    refine vp_callSi (va_Run.run (va_runS (As := [.int v9_5, .int r_20]) (rest := []) ⟨hx, hb, hml, hown, htb⟩ (c_Md_by_w l dC dI ct L f hO_0 v9_5 r_20 _ hQ) (cwS 2 htb (gd_S tw_450 tw_451 tw_89 tw_449) rfl rfl rfl (by decide +kernel) ⟨Nat.le_of_ble_eq_true rfl, Nat.le_of_ble_eq_true rfl⟩) ⟨pr_blind, pr_pre hP hK hN⟩ rfl rfl hl.1 rfl (lv_room (Nat.le_of_ble_eq_true rfl)) d_Md_fareOf_324 ⟨Nat.le_of_ble_eq_true rfl, Nat.le_of_ble_eq_true rfl⟩)) (fun r_21 er_21 => ?_)
                    obtain ⟨er_21, hQ⟩ := er_21
                    clear er_21
                    refine lv_istore (lv' := [(9, .int r_21), (0, .ref q0), (1, .int p_0), (4, .int p_3), (5, .int p_4), (6, .int p_5), (12, .int v12_5)]) hx hb d_Md_fareOf_327 hl (by decide) rfl (fun ls hl => ?_)
                    refine lv_aload_n hx hb d_Md_fareOf_329 rfl (lv_at hl 1 rfl) ?_
                    refine lv_iload_n hx hb d_Md_fareOf_330 rfl (lv_at hl 2 rfl) ?_
                    refine lv_bipush (v := 15) hx hb d_Md_fareOf_331 (by decide +kernel) ?_
                    refine vp_callSi (va_Run.run (va_runV (As := [.int p_0, .int 15]) (rest := []) ⟨hx, hb, hml, hown, htb⟩ (c_Md_lineOf_w l dC dI ct L f hO_0 q0 m0 p_0 (15 : Int32) as_0 as_1 (by decide +kernel) (by decide +kernel) _ hQ) (cwV 2 htb (gd_V tw_443 tw_444 tw_445 tw_89 tw_442) rfl rfl rfl (by decide +kernel) ⟨Nat.le_of_ble_eq_true rfl, Nat.le_of_ble_eq_true rfl⟩) ⟨pr_blind, tw_recv hK hP m0 rfl rfl, pr_pre hP hK hN⟩ rfl rfl hl.1 rfl (lv_room (Nat.le_of_ble_eq_true rfl)) d_Md_fareOf_333 ⟨Nat.le_of_ble_eq_true rfl, Nat.le_of_ble_eq_true rfl⟩)) (fun r_22 er_22 => ?_)
                    obtain ⟨er_22, hQ⟩ := er_22
                    clear er_22
                    refine lv_iload hx hb d_Md_fareOf_336 (lv_at hl 0 rfl) ?_
                    refine lv_icmp_le (tgt := 351) hx hb d_Md_fareOf_338 (by decide) (fun c_23 => ?_) (fun c_23 => ?_)
                    · have hQ := hQ.1 c_23
                      refine lv_iload hx hb d_Md_fareOf_351 (lv_at hl 0 rfl) ?_
                      exact W.iret (v := r_21) hx hb hr (fun t ht hW => ⟨r_21, rfl, ⟨trivial, hQ⟩, ht⟩) t_nil d_Md_fareOf_353
                    · have hQ := hQ.2 c_23
                      refine lv_aload_n hx hb d_Md_fareOf_341 rfl (lv_at hl 1 rfl) ?_
                      refine lv_iload_n hx hb d_Md_fareOf_342 rfl (lv_at hl 2 rfl) ?_
                      refine lv_bipush (v := 15) hx hb d_Md_fareOf_343 (by decide +kernel) ?_
                      refine vp_callSi (va_Run.run (va_runV (As := [.int p_0, .int 15]) (rest := []) ⟨hx, hb, hml, hown, htb⟩ (c_Md_lineOf_w l dC dI ct L f hO_0 q0 m0 p_0 (15 : Int32) as_0 as_1 (by decide +kernel) (by decide +kernel) _ hQ) (cwV 2 htb (gd_V tw_443 tw_444 tw_445 tw_89 tw_442) rfl rfl rfl (by decide +kernel) ⟨Nat.le_of_ble_eq_true rfl, Nat.le_of_ble_eq_true rfl⟩) ⟨pr_blind, tw_recv hK hP m0 rfl rfl, pr_pre hP hK hN⟩ rfl rfl hl.1 rfl (lv_room (Nat.le_of_ble_eq_true rfl)) d_Md_fareOf_345 ⟨Nat.le_of_ble_eq_true rfl, Nat.le_of_ble_eq_true rfl⟩)) (fun r_24 er_24 => ?_)
                      obtain ⟨er_24, hQ⟩ := er_24
                      clear er_24
                      refine lv_goto (tgt := 353) hx hb d_Md_fareOf_348 (by decide) ?_
                      exact W.iret (v := r_24) hx hb hr (fun t ht hW => ⟨r_24, rfl, ⟨trivial, hQ⟩, ht⟩) t_nil d_Md_fareOf_353
              · have hQ := hQ.1 c_10
                refine lv_aload_n hx hb d_Md_fareOf_275 rfl (lv_at hl 0 rfl) ?_
                refine lv_iload_n hx hb d_Md_fareOf_276 rfl (lv_at hl 1 rfl) ?_
                refine lv_bipush (v := 14) hx hb d_Md_fareOf_277 (by decide +kernel) ?_
                refine vp_callSi (va_Run.run (va_runV (As := [.int p_0, .int 14]) (rest := []) ⟨hx, hb, hml, hown, htb⟩ (c_Md_lineOf_w l dC dI ct L f hO_0 q0 m0 p_0 (14 : Int32) as_0 as_1 (by decide +kernel) (by decide +kernel) _ hQ) (cwV 2 htb (gd_V tw_443 tw_444 tw_445 tw_89 tw_442) rfl rfl rfl (by decide +kernel) ⟨Nat.le_of_ble_eq_true rfl, Nat.le_of_ble_eq_true rfl⟩) ⟨pr_blind, tw_recv hK hP m0 rfl rfl, pr_pre hP hK hN⟩ rfl rfl hl.1 rfl (lv_room (Nat.le_of_ble_eq_true rfl)) d_Md_fareOf_279 ⟨Nat.le_of_ble_eq_true rfl, Nat.le_of_ble_eq_true rfl⟩)) (fun r_25 er_25 => ?_)
                obtain ⟨er_25, hQ⟩ := er_25
                clear er_25
                refine lv_if_lt (tgt := 299) hx hb d_Md_fareOf_282 (by decide) (fun c_26 => ?_) (fun c_26 => ?_)
                · have hQ := hQ.1 c_26
                  refine lv_iload hx hb d_Md_fareOf_299 (lv_at hl 4 rfl) ?_
                  refine lv_iconst (v := 2) hx hb d_Md_fareOf_301 (by decide +kernel) ?_
                  refine lv_icmp_ne (tgt := 329) hx hb d_Md_fareOf_302 (by decide) (fun c_27 => ?_) (fun c_27 => ?_)
                  · have hQ := hQ.2 c_27
                    refine lv_aload_n hx hb d_Md_fareOf_329 rfl (lv_at hl 0 rfl) ?_
                    refine lv_iload_n hx hb d_Md_fareOf_330 rfl (lv_at hl 1 rfl) ?_
                    refine lv_bipush (v := 15) hx hb d_Md_fareOf_331 (by decide +kernel) ?_
                    refine vp_callSi (va_Run.run (va_runV (As := [.int p_0, .int 15]) (rest := []) ⟨hx, hb, hml, hown, htb⟩ (c_Md_lineOf_w l dC dI ct L f hO_0 q0 m0 p_0 (15 : Int32) as_0 as_1 (by decide +kernel) (by decide +kernel) _ hQ) (cwV 2 htb (gd_V tw_443 tw_444 tw_445 tw_89 tw_442) rfl rfl rfl (by decide +kernel) ⟨Nat.le_of_ble_eq_true rfl, Nat.le_of_ble_eq_true rfl⟩) ⟨pr_blind, tw_recv hK hP m0 rfl rfl, pr_pre hP hK hN⟩ rfl rfl hl.1 rfl (lv_room (Nat.le_of_ble_eq_true rfl)) d_Md_fareOf_333 ⟨Nat.le_of_ble_eq_true rfl, Nat.le_of_ble_eq_true rfl⟩)) (fun r_28 er_28 => ?_)
                    obtain ⟨er_28, hQ⟩ := er_28
                    clear er_28
                    refine lv_iload hx hb d_Md_fareOf_336 (lv_at hl 5 rfl) ?_
                    refine lv_icmp_le (tgt := 351) hx hb d_Md_fareOf_338 (by decide) (fun c_29 => ?_) (fun c_29 => ?_)
                    · have hQ := hQ.1 c_29
                      refine lv_iload hx hb d_Md_fareOf_351 (lv_at hl 5 rfl) ?_
                      exact W.iret (v := v9_5) hx hb hr (fun t ht hW => ⟨v9_5, rfl, ⟨trivial, hQ⟩, ht⟩) t_nil d_Md_fareOf_353
                    · have hQ := hQ.2 c_29
                      refine lv_aload_n hx hb d_Md_fareOf_341 rfl (lv_at hl 0 rfl) ?_
                      refine lv_iload_n hx hb d_Md_fareOf_342 rfl (lv_at hl 1 rfl) ?_
                      refine lv_bipush (v := 15) hx hb d_Md_fareOf_343 (by decide +kernel) ?_
                      refine vp_callSi (va_Run.run (va_runV (As := [.int p_0, .int 15]) (rest := []) ⟨hx, hb, hml, hown, htb⟩ (c_Md_lineOf_w l dC dI ct L f hO_0 q0 m0 p_0 (15 : Int32) as_0 as_1 (by decide +kernel) (by decide +kernel) _ hQ) (cwV 2 htb (gd_V tw_443 tw_444 tw_445 tw_89 tw_442) rfl rfl rfl (by decide +kernel) ⟨Nat.le_of_ble_eq_true rfl, Nat.le_of_ble_eq_true rfl⟩) ⟨pr_blind, tw_recv hK hP m0 rfl rfl, pr_pre hP hK hN⟩ rfl rfl hl.1 rfl (lv_room (Nat.le_of_ble_eq_true rfl)) d_Md_fareOf_345 ⟨Nat.le_of_ble_eq_true rfl, Nat.le_of_ble_eq_true rfl⟩)) (fun r_30 er_30 => ?_)
                      obtain ⟨er_30, hQ⟩ := er_30
                      clear er_30
                      refine lv_goto (tgt := 353) hx hb d_Md_fareOf_348 (by decide) ?_
                      exact W.iret (v := r_30) hx hb hr (fun t ht hW => ⟨r_30, rfl, ⟨trivial, hQ⟩, ht⟩) t_nil d_Md_fareOf_353
                  · have hQ := hQ.1 c_27
                    refine lv_aload_n hx hb d_Md_fareOf_305 rfl (lv_at hl 0 rfl) ?_
                    refine lv_iload_n hx hb d_Md_fareOf_306 rfl (lv_at hl 1 rfl) ?_
                    refine lv_bipush (v := 18) hx hb d_Md_fareOf_307 (by decide +kernel) ?_
                    refine vp_callSi (va_Run.run (va_runV (As := [.int p_0, .int 18]) (rest := []) ⟨hx, hb, hml, hown, htb⟩ (c_Md_lineOf_w l dC dI ct L f hO_0 q0 m0 p_0 (18 : Int32) as_0 as_1 (by decide +kernel) (by decide +kernel) _ hQ) (cwV 2 htb (gd_V tw_443 tw_444 tw_445 tw_89 tw_442) rfl rfl rfl (by decide +kernel) ⟨Nat.le_of_ble_eq_true rfl, Nat.le_of_ble_eq_true rfl⟩) ⟨pr_blind, tw_recv hK hP m0 rfl rfl, pr_pre hP hK hN⟩ rfl rfl hl.1 rfl (lv_room (Nat.le_of_ble_eq_true rfl)) d_Md_fareOf_309 ⟨Nat.le_of_ble_eq_true rfl, Nat.le_of_ble_eq_true rfl⟩)) (fun r_31 er_31 => ?_)
                    obtain ⟨er_31, hQ⟩ := er_31
                    clear er_31
                    refine lv_if_lt (tgt := 329) hx hb d_Md_fareOf_312 (by decide) (fun c_32 => ?_) (fun c_32 => ?_)
                    · have hQ := hQ.1 c_32
                      refine lv_aload_n hx hb d_Md_fareOf_329 rfl (lv_at hl 0 rfl) ?_
                      refine lv_iload_n hx hb d_Md_fareOf_330 rfl (lv_at hl 1 rfl) ?_
                      refine lv_bipush (v := 15) hx hb d_Md_fareOf_331 (by decide +kernel) ?_
                      refine vp_callSi (va_Run.run (va_runV (As := [.int p_0, .int 15]) (rest := []) ⟨hx, hb, hml, hown, htb⟩ (c_Md_lineOf_w l dC dI ct L f hO_0 q0 m0 p_0 (15 : Int32) as_0 as_1 (by decide +kernel) (by decide +kernel) _ hQ) (cwV 2 htb (gd_V tw_443 tw_444 tw_445 tw_89 tw_442) rfl rfl rfl (by decide +kernel) ⟨Nat.le_of_ble_eq_true rfl, Nat.le_of_ble_eq_true rfl⟩) ⟨pr_blind, tw_recv hK hP m0 rfl rfl, pr_pre hP hK hN⟩ rfl rfl hl.1 rfl (lv_room (Nat.le_of_ble_eq_true rfl)) d_Md_fareOf_333 ⟨Nat.le_of_ble_eq_true rfl, Nat.le_of_ble_eq_true rfl⟩)) (fun r_33 er_33 => ?_)
                      obtain ⟨er_33, hQ⟩ := er_33
                      clear er_33
                      refine lv_iload hx hb d_Md_fareOf_336 (lv_at hl 5 rfl) ?_
                      refine lv_icmp_le (tgt := 351) hx hb d_Md_fareOf_338 (by decide) (fun c_34 => ?_) (fun c_34 => ?_)
                      · have hQ := hQ.1 c_34
                        refine lv_iload hx hb d_Md_fareOf_351 (lv_at hl 5 rfl) ?_
                        exact W.iret (v := v9_5) hx hb hr (fun t ht hW => ⟨v9_5, rfl, ⟨trivial, hQ⟩, ht⟩) t_nil d_Md_fareOf_353
                      · have hQ := hQ.2 c_34
                        refine lv_aload_n hx hb d_Md_fareOf_341 rfl (lv_at hl 0 rfl) ?_
                        refine lv_iload_n hx hb d_Md_fareOf_342 rfl (lv_at hl 1 rfl) ?_
                        refine lv_bipush (v := 15) hx hb d_Md_fareOf_343 (by decide +kernel) ?_
                        refine vp_callSi (va_Run.run (va_runV (As := [.int p_0, .int 15]) (rest := []) ⟨hx, hb, hml, hown, htb⟩ (c_Md_lineOf_w l dC dI ct L f hO_0 q0 m0 p_0 (15 : Int32) as_0 as_1 (by decide +kernel) (by decide +kernel) _ hQ) (cwV 2 htb (gd_V tw_443 tw_444 tw_445 tw_89 tw_442) rfl rfl rfl (by decide +kernel) ⟨Nat.le_of_ble_eq_true rfl, Nat.le_of_ble_eq_true rfl⟩) ⟨pr_blind, tw_recv hK hP m0 rfl rfl, pr_pre hP hK hN⟩ rfl rfl hl.1 rfl (lv_room (Nat.le_of_ble_eq_true rfl)) d_Md_fareOf_345 ⟨Nat.le_of_ble_eq_true rfl, Nat.le_of_ble_eq_true rfl⟩)) (fun r_35 er_35 => ?_)
                        obtain ⟨er_35, hQ⟩ := er_35
                        clear er_35
                        refine lv_goto (tgt := 353) hx hb d_Md_fareOf_348 (by decide) ?_
                        exact W.iret (v := r_35) hx hb hr (fun t ht hW => ⟨r_35, rfl, ⟨trivial, hQ⟩, ht⟩) t_nil d_Md_fareOf_353
                    · have hQ := hQ.2 c_32
                      refine lv_iload hx hb d_Md_fareOf_315 (lv_at hl 5 rfl) ?_
                      refine lv_aload_n hx hb d_Md_fareOf_317 rfl (lv_at hl 0 rfl) ?_
                      refine lv_iload_n hx hb d_Md_fareOf_318 rfl (lv_at hl 1 rfl) ?_
                      refine lv_bipush (v := 18) hx hb d_Md_fareOf_319 (by decide +kernel) ?_
                      refine vp_callSi (va_Run.run (va_runV (As := [.int p_0, .int 18]) (rest := [.int v9_5]) ⟨hx, hb, hml, hown, htb⟩ (c_Md_lineOf_w l dC dI ct L f hO_0 q0 m0 p_0 (18 : Int32) as_0 as_1 (by decide +kernel) (by decide +kernel) _ hQ) (cwV 2 htb (gd_V tw_443 tw_444 tw_445 tw_89 tw_442) rfl rfl rfl (by decide +kernel) ⟨Nat.le_of_ble_eq_true rfl, Nat.le_of_ble_eq_true rfl⟩) ⟨pr_blind, tw_recv hK hP m0 rfl rfl, pr_pre hP hK hN⟩ rfl rfl hl.1 rfl (lv_room (Nat.le_of_ble_eq_true rfl)) d_Md_fareOf_321 ⟨Nat.le_of_ble_eq_true rfl, Nat.le_of_ble_eq_true rfl⟩)) (fun r_36 er_36 => ?_)
                      obtain ⟨er_36, hQ⟩ := er_36
                      clear er_36
                      refine vp_callSi (va_Run.run (va_runS (As := [.int v9_5, .int r_36]) (rest := []) ⟨hx, hb, hml, hown, htb⟩ (c_Md_by_w l dC dI ct L f hO_0 v9_5 r_36 _ hQ) (cwS 2 htb (gd_S tw_450 tw_451 tw_89 tw_449) rfl rfl rfl (by decide +kernel) ⟨Nat.le_of_ble_eq_true rfl, Nat.le_of_ble_eq_true rfl⟩) ⟨pr_blind, pr_pre hP hK hN⟩ rfl rfl hl.1 rfl (lv_room (Nat.le_of_ble_eq_true rfl)) d_Md_fareOf_324 ⟨Nat.le_of_ble_eq_true rfl, Nat.le_of_ble_eq_true rfl⟩)) (fun r_37 er_37 => ?_)
                      obtain ⟨er_37, hQ⟩ := er_37
                      clear er_37
                      refine lv_istore (lv' := [(9, .int r_37), (0, .ref q0), (1, .int p_0), (4, .int p_3), (5, .int p_4), (6, .int p_5), (12, .int v12_5)]) hx hb d_Md_fareOf_327 hl (by decide) rfl (fun ls hl => ?_)
                      refine lv_aload_n hx hb d_Md_fareOf_329 rfl (lv_at hl 1 rfl) ?_
                      refine lv_iload_n hx hb d_Md_fareOf_330 rfl (lv_at hl 2 rfl) ?_
                      refine lv_bipush (v := 15) hx hb d_Md_fareOf_331 (by decide +kernel) ?_
                      refine vp_callSi (va_Run.run (va_runV (As := [.int p_0, .int 15]) (rest := []) ⟨hx, hb, hml, hown, htb⟩ (c_Md_lineOf_w l dC dI ct L f hO_0 q0 m0 p_0 (15 : Int32) as_0 as_1 (by decide +kernel) (by decide +kernel) _ hQ) (cwV 2 htb (gd_V tw_443 tw_444 tw_445 tw_89 tw_442) rfl rfl rfl (by decide +kernel) ⟨Nat.le_of_ble_eq_true rfl, Nat.le_of_ble_eq_true rfl⟩) ⟨pr_blind, tw_recv hK hP m0 rfl rfl, pr_pre hP hK hN⟩ rfl rfl hl.1 rfl (lv_room (Nat.le_of_ble_eq_true rfl)) d_Md_fareOf_333 ⟨Nat.le_of_ble_eq_true rfl, Nat.le_of_ble_eq_true rfl⟩)) (fun r_38 er_38 => ?_)
                      obtain ⟨er_38, hQ⟩ := er_38
                      clear er_38
                      refine lv_iload hx hb d_Md_fareOf_336 (lv_at hl 0 rfl) ?_
                      refine lv_icmp_le (tgt := 351) hx hb d_Md_fareOf_338 (by decide) (fun c_39 => ?_) (fun c_39 => ?_)
                      · have hQ := hQ.1 c_39
                        refine lv_iload hx hb d_Md_fareOf_351 (lv_at hl 0 rfl) ?_
                        exact W.iret (v := r_37) hx hb hr (fun t ht hW => ⟨r_37, rfl, ⟨trivial, hQ⟩, ht⟩) t_nil d_Md_fareOf_353
                      · have hQ := hQ.2 c_39
                        refine lv_aload_n hx hb d_Md_fareOf_341 rfl (lv_at hl 1 rfl) ?_
                        refine lv_iload_n hx hb d_Md_fareOf_342 rfl (lv_at hl 2 rfl) ?_
                        refine lv_bipush (v := 15) hx hb d_Md_fareOf_343 (by decide +kernel) ?_
                        refine vp_callSi (va_Run.run (va_runV (As := [.int p_0, .int 15]) (rest := []) ⟨hx, hb, hml, hown, htb⟩ (c_Md_lineOf_w l dC dI ct L f hO_0 q0 m0 p_0 (15 : Int32) as_0 as_1 (by decide +kernel) (by decide +kernel) _ hQ) (cwV 2 htb (gd_V tw_443 tw_444 tw_445 tw_89 tw_442) rfl rfl rfl (by decide +kernel) ⟨Nat.le_of_ble_eq_true rfl, Nat.le_of_ble_eq_true rfl⟩) ⟨pr_blind, tw_recv hK hP m0 rfl rfl, pr_pre hP hK hN⟩ rfl rfl hl.1 rfl (lv_room (Nat.le_of_ble_eq_true rfl)) d_Md_fareOf_345 ⟨Nat.le_of_ble_eq_true rfl, Nat.le_of_ble_eq_true rfl⟩)) (fun r_40 er_40 => ?_)
                        obtain ⟨er_40, hQ⟩ := er_40
                        clear er_40
                        refine lv_goto (tgt := 353) hx hb d_Md_fareOf_348 (by decide) ?_
                        exact W.iret (v := r_40) hx hb hr (fun t ht hW => ⟨r_40, rfl, ⟨trivial, hQ⟩, ht⟩) t_nil d_Md_fareOf_353
                · have hQ := hQ.2 c_26
                  refine lv_iload hx hb d_Md_fareOf_285 (lv_at hl 5 rfl) ?_
                  refine lv_aload_n hx hb d_Md_fareOf_287 rfl (lv_at hl 0 rfl) ?_
                  refine lv_iload_n hx hb d_Md_fareOf_288 rfl (lv_at hl 1 rfl) ?_
                  refine lv_bipush (v := 14) hx hb d_Md_fareOf_289 (by decide +kernel) ?_
                  refine vp_callSi (va_Run.run (va_runV (As := [.int p_0, .int 14]) (rest := [.int v9_5]) ⟨hx, hb, hml, hown, htb⟩ (c_Md_lineOf_w l dC dI ct L f hO_0 q0 m0 p_0 (14 : Int32) as_0 as_1 (by decide +kernel) (by decide +kernel) _ hQ) (cwV 2 htb (gd_V tw_443 tw_444 tw_445 tw_89 tw_442) rfl rfl rfl (by decide +kernel) ⟨Nat.le_of_ble_eq_true rfl, Nat.le_of_ble_eq_true rfl⟩) ⟨pr_blind, tw_recv hK hP m0 rfl rfl, pr_pre hP hK hN⟩ rfl rfl hl.1 rfl (lv_room (Nat.le_of_ble_eq_true rfl)) d_Md_fareOf_291 ⟨Nat.le_of_ble_eq_true rfl, Nat.le_of_ble_eq_true rfl⟩)) (fun r_41 er_41 => ?_)
                  obtain ⟨er_41, hQ⟩ := er_41
                  clear er_41
                  refine vp_callSi (va_Run.run (va_runS (As := [.int v9_5, .int r_41]) (rest := []) ⟨hx, hb, hml, hown, htb⟩ (c_Md_by_w l dC dI ct L f hO_0 v9_5 r_41 _ hQ) (cwS 2 htb (gd_S tw_450 tw_451 tw_89 tw_449) rfl rfl rfl (by decide +kernel) ⟨Nat.le_of_ble_eq_true rfl, Nat.le_of_ble_eq_true rfl⟩) ⟨pr_blind, pr_pre hP hK hN⟩ rfl rfl hl.1 rfl (lv_room (Nat.le_of_ble_eq_true rfl)) d_Md_fareOf_294 ⟨Nat.le_of_ble_eq_true rfl, Nat.le_of_ble_eq_true rfl⟩)) (fun r_42 er_42 => ?_)
                  obtain ⟨er_42, hQ⟩ := er_42
                  clear er_42
                  refine lv_istore (lv' := [(9, .int r_42), (0, .ref q0), (1, .int p_0), (4, .int p_3), (5, .int p_4), (6, .int p_5), (12, .int v12_5)]) hx hb d_Md_fareOf_297 hl (by decide) rfl (fun ls hl => ?_)
                  refine lv_iload hx hb d_Md_fareOf_299 (lv_at hl 5 rfl) ?_
                  refine lv_iconst (v := 2) hx hb d_Md_fareOf_301 (by decide +kernel) ?_
                  refine lv_icmp_ne (tgt := 329) hx hb d_Md_fareOf_302 (by decide) (fun c_43 => ?_) (fun c_43 => ?_)
                  · have hQ := hQ.2 c_43
                    refine lv_aload_n hx hb d_Md_fareOf_329 rfl (lv_at hl 1 rfl) ?_
                    refine lv_iload_n hx hb d_Md_fareOf_330 rfl (lv_at hl 2 rfl) ?_
                    refine lv_bipush (v := 15) hx hb d_Md_fareOf_331 (by decide +kernel) ?_
                    refine vp_callSi (va_Run.run (va_runV (As := [.int p_0, .int 15]) (rest := []) ⟨hx, hb, hml, hown, htb⟩ (c_Md_lineOf_w l dC dI ct L f hO_0 q0 m0 p_0 (15 : Int32) as_0 as_1 (by decide +kernel) (by decide +kernel) _ hQ) (cwV 2 htb (gd_V tw_443 tw_444 tw_445 tw_89 tw_442) rfl rfl rfl (by decide +kernel) ⟨Nat.le_of_ble_eq_true rfl, Nat.le_of_ble_eq_true rfl⟩) ⟨pr_blind, tw_recv hK hP m0 rfl rfl, pr_pre hP hK hN⟩ rfl rfl hl.1 rfl (lv_room (Nat.le_of_ble_eq_true rfl)) d_Md_fareOf_333 ⟨Nat.le_of_ble_eq_true rfl, Nat.le_of_ble_eq_true rfl⟩)) (fun r_44 er_44 => ?_)
                    obtain ⟨er_44, hQ⟩ := er_44
                    clear er_44
                    refine lv_iload hx hb d_Md_fareOf_336 (lv_at hl 0 rfl) ?_
                    refine lv_icmp_le (tgt := 351) hx hb d_Md_fareOf_338 (by decide) (fun c_45 => ?_) (fun c_45 => ?_)
                    · have hQ := hQ.1 c_45
                      refine lv_iload hx hb d_Md_fareOf_351 (lv_at hl 0 rfl) ?_
                      exact W.iret (v := r_42) hx hb hr (fun t ht hW => ⟨r_42, rfl, ⟨trivial, hQ⟩, ht⟩) t_nil d_Md_fareOf_353
                    · have hQ := hQ.2 c_45
                      refine lv_aload_n hx hb d_Md_fareOf_341 rfl (lv_at hl 1 rfl) ?_
                      refine lv_iload_n hx hb d_Md_fareOf_342 rfl (lv_at hl 2 rfl) ?_
                      refine lv_bipush (v := 15) hx hb d_Md_fareOf_343 (by decide +kernel) ?_
                      refine vp_callSi (va_Run.run (va_runV (As := [.int p_0, .int 15]) (rest := []) ⟨hx, hb, hml, hown, htb⟩ (c_Md_lineOf_w l dC dI ct L f hO_0 q0 m0 p_0 (15 : Int32) as_0 as_1 (by decide +kernel) (by decide +kernel) _ hQ) (cwV 2 htb (gd_V tw_443 tw_444 tw_445 tw_89 tw_442) rfl rfl rfl (by decide +kernel) ⟨Nat.le_of_ble_eq_true rfl, Nat.le_of_ble_eq_true rfl⟩) ⟨pr_blind, tw_recv hK hP m0 rfl rfl, pr_pre hP hK hN⟩ rfl rfl hl.1 rfl (lv_room (Nat.le_of_ble_eq_true rfl)) d_Md_fareOf_345 ⟨Nat.le_of_ble_eq_true rfl, Nat.le_of_ble_eq_true rfl⟩)) (fun r_46 er_46 => ?_)
                      obtain ⟨er_46, hQ⟩ := er_46
                      clear er_46
                      refine lv_goto (tgt := 353) hx hb d_Md_fareOf_348 (by decide) ?_
                      exact W.iret (v := r_46) hx hb hr (fun t ht hW => ⟨r_46, rfl, ⟨trivial, hQ⟩, ht⟩) t_nil d_Md_fareOf_353
                  · have hQ := hQ.1 c_43
                    refine lv_aload_n hx hb d_Md_fareOf_305 rfl (lv_at hl 1 rfl) ?_
                    refine lv_iload_n hx hb d_Md_fareOf_306 rfl (lv_at hl 2 rfl) ?_
                    refine lv_bipush (v := 18) hx hb d_Md_fareOf_307 (by decide +kernel) ?_
                    refine vp_callSi (va_Run.run (va_runV (As := [.int p_0, .int 18]) (rest := []) ⟨hx, hb, hml, hown, htb⟩ (c_Md_lineOf_w l dC dI ct L f hO_0 q0 m0 p_0 (18 : Int32) as_0 as_1 (by decide +kernel) (by decide +kernel) _ hQ) (cwV 2 htb (gd_V tw_443 tw_444 tw_445 tw_89 tw_442) rfl rfl rfl (by decide +kernel) ⟨Nat.le_of_ble_eq_true rfl, Nat.le_of_ble_eq_true rfl⟩) ⟨pr_blind, tw_recv hK hP m0 rfl rfl, pr_pre hP hK hN⟩ rfl rfl hl.1 rfl (lv_room (Nat.le_of_ble_eq_true rfl)) d_Md_fareOf_309 ⟨Nat.le_of_ble_eq_true rfl, Nat.le_of_ble_eq_true rfl⟩)) (fun r_47 er_47 => ?_)
                    obtain ⟨er_47, hQ⟩ := er_47
                    clear er_47
                    refine lv_if_lt (tgt := 329) hx hb d_Md_fareOf_312 (by decide) (fun c_48 => ?_) (fun c_48 => ?_)
                    · have hQ := hQ.1 c_48
                      refine lv_aload_n hx hb d_Md_fareOf_329 rfl (lv_at hl 1 rfl) ?_
                      refine lv_iload_n hx hb d_Md_fareOf_330 rfl (lv_at hl 2 rfl) ?_
                      refine lv_bipush (v := 15) hx hb d_Md_fareOf_331 (by decide +kernel) ?_
                      refine vp_callSi (va_Run.run (va_runV (As := [.int p_0, .int 15]) (rest := []) ⟨hx, hb, hml, hown, htb⟩ (c_Md_lineOf_w l dC dI ct L f hO_0 q0 m0 p_0 (15 : Int32) as_0 as_1 (by decide +kernel) (by decide +kernel) _ hQ) (cwV 2 htb (gd_V tw_443 tw_444 tw_445 tw_89 tw_442) rfl rfl rfl (by decide +kernel) ⟨Nat.le_of_ble_eq_true rfl, Nat.le_of_ble_eq_true rfl⟩) ⟨pr_blind, tw_recv hK hP m0 rfl rfl, pr_pre hP hK hN⟩ rfl rfl hl.1 rfl (lv_room (Nat.le_of_ble_eq_true rfl)) d_Md_fareOf_333 ⟨Nat.le_of_ble_eq_true rfl, Nat.le_of_ble_eq_true rfl⟩)) (fun r_49 er_49 => ?_)
                      obtain ⟨er_49, hQ⟩ := er_49
                      clear er_49
                      refine lv_iload hx hb d_Md_fareOf_336 (lv_at hl 0 rfl) ?_
                      refine lv_icmp_le (tgt := 351) hx hb d_Md_fareOf_338 (by decide) (fun c_50 => ?_) (fun c_50 => ?_)
                      · have hQ := hQ.1 c_50
                        refine lv_iload hx hb d_Md_fareOf_351 (lv_at hl 0 rfl) ?_
                        exact W.iret (v := r_42) hx hb hr (fun t ht hW => ⟨r_42, rfl, ⟨trivial, hQ⟩, ht⟩) t_nil d_Md_fareOf_353
                      · have hQ := hQ.2 c_50
                        refine lv_aload_n hx hb d_Md_fareOf_341 rfl (lv_at hl 1 rfl) ?_
                        refine lv_iload_n hx hb d_Md_fareOf_342 rfl (lv_at hl 2 rfl) ?_
                        refine lv_bipush (v := 15) hx hb d_Md_fareOf_343 (by decide +kernel) ?_
                        refine vp_callSi (va_Run.run (va_runV (As := [.int p_0, .int 15]) (rest := []) ⟨hx, hb, hml, hown, htb⟩ (c_Md_lineOf_w l dC dI ct L f hO_0 q0 m0 p_0 (15 : Int32) as_0 as_1 (by decide +kernel) (by decide +kernel) _ hQ) (cwV 2 htb (gd_V tw_443 tw_444 tw_445 tw_89 tw_442) rfl rfl rfl (by decide +kernel) ⟨Nat.le_of_ble_eq_true rfl, Nat.le_of_ble_eq_true rfl⟩) ⟨pr_blind, tw_recv hK hP m0 rfl rfl, pr_pre hP hK hN⟩ rfl rfl hl.1 rfl (lv_room (Nat.le_of_ble_eq_true rfl)) d_Md_fareOf_345 ⟨Nat.le_of_ble_eq_true rfl, Nat.le_of_ble_eq_true rfl⟩)) (fun r_51 er_51 => ?_)
                        obtain ⟨er_51, hQ⟩ := er_51
                        clear er_51
                        refine lv_goto (tgt := 353) hx hb d_Md_fareOf_348 (by decide) ?_
                        exact W.iret (v := r_51) hx hb hr (fun t ht hW => ⟨r_51, rfl, ⟨trivial, hQ⟩, ht⟩) t_nil d_Md_fareOf_353
                    · have hQ := hQ.2 c_48
                      refine lv_iload hx hb d_Md_fareOf_315 (lv_at hl 0 rfl) ?_
                      refine lv_aload_n hx hb d_Md_fareOf_317 rfl (lv_at hl 1 rfl) ?_
                      refine lv_iload_n hx hb d_Md_fareOf_318 rfl (lv_at hl 2 rfl) ?_
                      refine lv_bipush (v := 18) hx hb d_Md_fareOf_319 (by decide +kernel) ?_
                      refine vp_callSi (va_Run.run (va_runV (As := [.int p_0, .int 18]) (rest := [.int r_42]) ⟨hx, hb, hml, hown, htb⟩ (c_Md_lineOf_w l dC dI ct L f hO_0 q0 m0 p_0 (18 : Int32) as_0 as_1 (by decide +kernel) (by decide +kernel) _ hQ) (cwV 2 htb (gd_V tw_443 tw_444 tw_445 tw_89 tw_442) rfl rfl rfl (by decide +kernel) ⟨Nat.le_of_ble_eq_true rfl, Nat.le_of_ble_eq_true rfl⟩) ⟨pr_blind, tw_recv hK hP m0 rfl rfl, pr_pre hP hK hN⟩ rfl rfl hl.1 rfl (lv_room (Nat.le_of_ble_eq_true rfl)) d_Md_fareOf_321 ⟨Nat.le_of_ble_eq_true rfl, Nat.le_of_ble_eq_true rfl⟩)) (fun r_52 er_52 => ?_)
                      obtain ⟨er_52, hQ⟩ := er_52
                      clear er_52
                      refine vp_callSi (va_Run.run (va_runS (As := [.int r_42, .int r_52]) (rest := []) ⟨hx, hb, hml, hown, htb⟩ (c_Md_by_w l dC dI ct L f hO_0 r_42 r_52 _ hQ) (cwS 2 htb (gd_S tw_450 tw_451 tw_89 tw_449) rfl rfl rfl (by decide +kernel) ⟨Nat.le_of_ble_eq_true rfl, Nat.le_of_ble_eq_true rfl⟩) ⟨pr_blind, pr_pre hP hK hN⟩ rfl rfl hl.1 rfl (lv_room (Nat.le_of_ble_eq_true rfl)) d_Md_fareOf_324 ⟨Nat.le_of_ble_eq_true rfl, Nat.le_of_ble_eq_true rfl⟩)) (fun r_53 er_53 => ?_)
                      obtain ⟨er_53, hQ⟩ := er_53
                      clear er_53
                      refine lv_istore (lv' := [(9, .int r_53), (0, .ref q0), (1, .int p_0), (4, .int p_3), (5, .int p_4), (6, .int p_5), (12, .int v12_5)]) hx hb d_Md_fareOf_327 hl (by decide) rfl (fun ls hl => ?_)
                      refine lv_aload_n hx hb d_Md_fareOf_329 rfl (lv_at hl 1 rfl) ?_
                      refine lv_iload_n hx hb d_Md_fareOf_330 rfl (lv_at hl 2 rfl) ?_
                      refine lv_bipush (v := 15) hx hb d_Md_fareOf_331 (by decide +kernel) ?_
                      refine vp_callSi (va_Run.run (va_runV (As := [.int p_0, .int 15]) (rest := []) ⟨hx, hb, hml, hown, htb⟩ (c_Md_lineOf_w l dC dI ct L f hO_0 q0 m0 p_0 (15 : Int32) as_0 as_1 (by decide +kernel) (by decide +kernel) _ hQ) (cwV 2 htb (gd_V tw_443 tw_444 tw_445 tw_89 tw_442) rfl rfl rfl (by decide +kernel) ⟨Nat.le_of_ble_eq_true rfl, Nat.le_of_ble_eq_true rfl⟩) ⟨pr_blind, tw_recv hK hP m0 rfl rfl, pr_pre hP hK hN⟩ rfl rfl hl.1 rfl (lv_room (Nat.le_of_ble_eq_true rfl)) d_Md_fareOf_333 ⟨Nat.le_of_ble_eq_true rfl, Nat.le_of_ble_eq_true rfl⟩)) (fun r_54 er_54 => ?_)
                      obtain ⟨er_54, hQ⟩ := er_54
                      clear er_54
                      refine lv_iload hx hb d_Md_fareOf_336 (lv_at hl 0 rfl) ?_
                      refine lv_icmp_le (tgt := 351) hx hb d_Md_fareOf_338 (by decide) (fun c_55 => ?_) (fun c_55 => ?_)
                      · have hQ := hQ.1 c_55
                        refine lv_iload hx hb d_Md_fareOf_351 (lv_at hl 0 rfl) ?_
                        exact W.iret (v := r_53) hx hb hr (fun t ht hW => ⟨r_53, rfl, ⟨trivial, hQ⟩, ht⟩) t_nil d_Md_fareOf_353
                      · have hQ := hQ.2 c_55
                        refine lv_aload_n hx hb d_Md_fareOf_341 rfl (lv_at hl 1 rfl) ?_
                        refine lv_iload_n hx hb d_Md_fareOf_342 rfl (lv_at hl 2 rfl) ?_
                        refine lv_bipush (v := 15) hx hb d_Md_fareOf_343 (by decide +kernel) ?_
                        refine vp_callSi (va_Run.run (va_runV (As := [.int p_0, .int 15]) (rest := []) ⟨hx, hb, hml, hown, htb⟩ (c_Md_lineOf_w l dC dI ct L f hO_0 q0 m0 p_0 (15 : Int32) as_0 as_1 (by decide +kernel) (by decide +kernel) _ hQ) (cwV 2 htb (gd_V tw_443 tw_444 tw_445 tw_89 tw_442) rfl rfl rfl (by decide +kernel) ⟨Nat.le_of_ble_eq_true rfl, Nat.le_of_ble_eq_true rfl⟩) ⟨pr_blind, tw_recv hK hP m0 rfl rfl, pr_pre hP hK hN⟩ rfl rfl hl.1 rfl (lv_room (Nat.le_of_ble_eq_true rfl)) d_Md_fareOf_345 ⟨Nat.le_of_ble_eq_true rfl, Nat.le_of_ble_eq_true rfl⟩)) (fun r_56 er_56 => ?_)
                        obtain ⟨er_56, hQ⟩ := er_56
                        clear er_56
                        refine lv_goto (tgt := 353) hx hb d_Md_fareOf_348 (by decide) ?_
                        exact W.iret (v := r_56) hx hb hr (fun t ht hW => ⟨r_56, rfl, ⟨trivial, hQ⟩, ht⟩) t_nil d_Md_fareOf_353
            · have hQ := hQ.2 c_8
              refine lv_iload hx hb d_Md_fareOf_210 (lv_at hl 3 rfl) ?_
              refine lv_aload_n hx hb d_Md_fareOf_212 rfl (lv_at hl 0 rfl) ?_
              refine tw_getr (D := (dC, dI)) (C := R_Md) (T := F_Md) (N := 64) (ci := 7) (kd := 27) (ct := ct) hx hb htb i_Md hown hK hP hO_0 m0 rfl rfl 37 (by decide) (htb (.fieldLink R_Md 134 "WaterMenModel" "hourLow" "[I") tw_375) (fun _ h9 => h9) rfl d_Md_fareOf_213 (fun q_57 e_57 m_57 => ?_)
              have hQ := hQ q_57 e_57
              refine lv_bipush (v := 12) hx hb d_Md_fareOf_216 (by decide +kernel) ?_
              refine lv_iload_n hx hb d_Md_fareOf_218 rfl (lv_at hl 1 rfl) ?_
              refine lv_imul hx hb d_Md_fareOf_219 ?_
              refine lv_iload hx hb d_Md_fareOf_220 (lv_at hl 6 rfl) ?_
              refine lv_iadd hx hb d_Md_fareOf_222 ?_
              refine tw_aldI (ct := ct) hx hb hK hP hO_0 m_57 rfl ((fun (a_0 : Int32) (a_1 : Int32) (a_2 : Int32) (k_0 : ¬ (a_0 < 0)) (k_1 : ¬ (19 < a_0)) (k_2 : ¬ (a_1 < 0)) (k_3 : ¬ (a_2 ≤ a_1)) (k_4 : ¬ (12 < a_2)) => (show vp_in (((12 * a_0) + a_1)) 240 from by have z0 : (0 : Int32).toInt = 0 := (by decide +kernel); have z1 : (12 : Int32).toInt = 12 := (by decide +kernel); have z2 : (19 : Int32).toInt = 19 := (by decide +kernel); have r0 := fb_rng (a_0); have r1 := fb_rng (a_1); have r2 := fb_rng (a_2); have e0 := k_0; rw [Int32.lt_iff_toInt_lt, z0] at e0; have e1 := k_1; rw [Int32.lt_iff_toInt_lt, z2] at e1; have e2 := k_2; rw [Int32.lt_iff_toInt_lt, z0] at e2; have e3 := k_3; rw [Int32.le_iff_toInt_le] at e3; have e4 := k_4; rw [Int32.lt_iff_toInt_lt, z1] at e4; obtain ⟨n_0, hn_0, s0⟩ := nd_mul (x := (12 : Int32)) (y := (a_0)) (by (try rw [z1]); omega) (by (try rw [z1]); omega); rw [z1] at s0; obtain ⟨n_1, hn_1, s1⟩ := nd_add (x := n_0) (y := (a_1)) (by omega) (by omega); rw [hn_0, hn_1, vp_in_iff]; omega)) p_0 v12_5 x_7 as_0 as_1 iv0_5 c_8 b_7.2) d_Md_fareOf_223 (fun x_58 e_58 b_58 => ?_)
              have hQ := hQ x_58 e_58
              refine lv_aload_n hx hb d_Md_fareOf_224 rfl (lv_at hl 0 rfl) ?_
              refine tw_getr (D := (dC, dI)) (C := R_Md) (T := F_Md) (N := 64) (ci := 7) (kd := 27) (ct := ct) hx hb htb i_Md hown hK hP hO_0 m0 rfl rfl 38 (by decide) (htb (.fieldLink R_Md 137 "WaterMenModel" "hourHigh" "[I") tw_376) (fun _ h9 => h9) rfl d_Md_fareOf_225 (fun q_59 e_59 m_59 => ?_)
              have hQ := hQ q_59 e_59
              refine lv_bipush (v := 12) hx hb d_Md_fareOf_228 (by decide +kernel) ?_
              refine lv_iload_n hx hb d_Md_fareOf_230 rfl (lv_at hl 1 rfl) ?_
              refine lv_imul hx hb d_Md_fareOf_231 ?_
              refine lv_iload hx hb d_Md_fareOf_232 (lv_at hl 6 rfl) ?_
              refine lv_iadd hx hb d_Md_fareOf_234 ?_
              refine tw_aldI (ct := ct) hx hb hK hP hO_0 m_59 rfl ((fun (a_0 : Int32) (a_1 : Int32) (a_2 : Int32) (k_0 : ¬ (a_0 < 0)) (k_1 : ¬ (19 < a_0)) (k_2 : ¬ (a_1 < 0)) (k_3 : ¬ (a_2 ≤ a_1)) (k_4 : ¬ (12 < a_2)) => (show vp_in (((12 * a_0) + a_1)) 240 from by have z0 : (0 : Int32).toInt = 0 := (by decide +kernel); have z1 : (12 : Int32).toInt = 12 := (by decide +kernel); have z2 : (19 : Int32).toInt = 19 := (by decide +kernel); have r0 := fb_rng (a_0); have r1 := fb_rng (a_1); have r2 := fb_rng (a_2); have e0 := k_0; rw [Int32.lt_iff_toInt_lt, z0] at e0; have e1 := k_1; rw [Int32.lt_iff_toInt_lt, z2] at e1; have e2 := k_2; rw [Int32.lt_iff_toInt_lt, z0] at e2; have e3 := k_3; rw [Int32.le_iff_toInt_le] at e3; have e4 := k_4; rw [Int32.lt_iff_toInt_lt, z1] at e4; obtain ⟨n_0, hn_0, s0⟩ := nd_mul (x := (12 : Int32)) (y := (a_0)) (by (try rw [z1]); omega) (by (try rw [z1]); omega); rw [z1] at s0; obtain ⟨n_1, hn_1, s1⟩ := nd_add (x := n_0) (y := (a_1)) (by omega) (by omega); rw [hn_0, hn_1, vp_in_iff]; omega)) p_0 v12_5 x_7 as_0 as_1 iv0_5 c_8 b_7.2) d_Md_fareOf_235 (fun x_60 e_60 b_60 => ?_)
              have hQ := hQ x_60 e_60
              refine vp_callSi (va_Run.run (va_runS (As := [.int p_4, .int x_58, .int x_60]) (rest := []) ⟨hx, hb, hml, hown, htb⟩ (c_Md_in l p_4 x_58 x_60) (cwS 3 htb (gd_S tw_90 tw_91 tw_89 tw_88) rfl rfl rfl (by decide +kernel) ⟨Nat.le_of_ble_eq_true rfl, Nat.le_of_ble_eq_true rfl⟩) ⟨fun _ _ _ _ h => h, fun U _ _ => ⟨rfl, trivial⟩⟩ rfl rfl hl.1 rfl (lv_room (Nat.le_of_ble_eq_true rfl)) d_Md_fareOf_236 ⟨Nat.le_of_ble_eq_true rfl, Nat.le_of_ble_eq_true rfl⟩)) (fun r er => ?_)
              subst er
              by_cases c_62 : p_4 < x_58
              · have hQ := hQ.1 c_62
                refine hb_ti 0 (by unfold f_Md_in; rw [if_pos c_62]; first | done | rfl) ?_
                refine lv_if_eq (tgt := 261) hx hb d_Md_fareOf_239 (by decide) (fun _ => ?_) (fun h => absurd (by decide +kernel) h)
                refine lv_iinc (v := (v12_5 + 1)) (lv' := [(12, .int (v12_5 + 1)), (0, .ref q0), (1, .int p_0), (4, .int p_3), (5, .int p_4), (6, .int p_5), (9, .int v9_5)]) hx hb d_Md_fareOf_261 hl (k := 6) rfl rfl (by decide) rfl (fun ls hl => ?_)
                refine lv_goto (tgt := 199) hx hb d_Md_fareOf_264 (by decide) ?_
                exact ih_5 (n_5 - 1) (ms_1 ((fun (a_0 : Int32) (a_1 : Int32) (k_0 : ¬ (a_1 ≤ a_0)) (k_1 : ¬ (12 < a_1)) => (show 1 ≤ (12 : Int32).toInt - (a_0).toInt ∧ (12 : Int32).toInt - ((a_0) + (1 : Int32)).toInt + 1 ≤ (12 : Int32).toInt - (a_0).toInt from by have z0 : (1 : Int32).toInt = 1 := (by decide +kernel); have z1 : (12 : Int32).toInt = 12 := (by decide +kernel); have r0 := fb_rng (a_0); have r1 := fb_rng (a_1); have e0 := k_0; rw [Int32.le_iff_toInt_le] at e0; have e1 := k_1; rw [Int32.lt_iff_toInt_lt, z1] at e1; obtain ⟨n_0, hn_0, s0⟩ := nd_add (x := (a_0)) (y := (1 : Int32)) (by (try rw [z0]); omega) (by (try rw [z0]); omega); rw [z0] at s0; rw [hn_0]; (try rw [z1]); omega)) v12_5 x_7 c_8 b_7.2) hm_5) v9_5 (v12_5 + 1) _ (show ¬ ((v12_5 + 1) < 0) from by have e0 := iv0_5; rw [Int32.lt_iff_toInt_lt] at e0; have e1 := iv1_5; rw [Int32.lt_iff_toInt_lt] at e1; have z0 : (0 : Int32).toInt = 0 := (by decide +kernel); have z1 : (1 : Int32).toInt = 1 := (by decide +kernel); have z2 : (12 : Int32).toInt = 12 := (by decide +kernel); have ss := fb_addI (x := v12_5) (y := 1) (by omega) (by omega); rw [Int32.lt_iff_toInt_lt]; omega) (show ¬ (12 < (v12_5 + 1)) from ((fun (a_0 : Int32) (a_1 : Int32) (k_0 : ¬ (a_1 ≤ a_0)) (k_1 : ¬ (12 < a_1)) => (show ¬ (12 < (a_0 + 1)) from by have z0 : (1 : Int32).toInt = 1 := (by decide +kernel); have z1 : (12 : Int32).toInt = 12 := (by decide +kernel); have r0 := fb_rng (a_0); have r1 := fb_rng (a_1); have e0 := k_0; rw [Int32.le_iff_toInt_le] at e0; have e1 := k_1; rw [Int32.lt_iff_toInt_lt, z1] at e1; obtain ⟨n_0, hn_0, s0⟩ := nd_add (x := (a_0)) (y := (1 : Int32)) (by (try rw [z0]); omega) (by (try rw [z0]); omega); rw [z0] at s0; rw [hn_0, Int32.lt_iff_toInt_lt, z1]; omega)) v12_5 x_7 c_8 b_7.2)) (by exact ms_2 ((fun (a_0 : Int32) (a_1 : Int32) (k_0 : ¬ (a_1 ≤ a_0)) (k_1 : ¬ (12 < a_1)) => (show 1 ≤ (12 : Int32).toInt - (a_0).toInt ∧ (12 : Int32).toInt - ((a_0) + (1 : Int32)).toInt + 1 ≤ (12 : Int32).toInt - (a_0).toInt from by have z0 : (1 : Int32).toInt = 1 := (by decide +kernel); have z1 : (12 : Int32).toInt = 12 := (by decide +kernel); have r0 := fb_rng (a_0); have r1 := fb_rng (a_1); have e0 := k_0; rw [Int32.le_iff_toInt_le] at e0; have e1 := k_1; rw [Int32.lt_iff_toInt_lt, z1] at e1; obtain ⟨n_0, hn_0, s0⟩ := nd_add (x := (a_0)) (y := (1 : Int32)) (by (try rw [z0]); omega) (by (try rw [z0]); omega); rw [z0] at s0; rw [hn_0]; (try rw [z1]); omega)) v12_5 x_7 c_8 b_7.2) hm_5) (by rw [← hrec_5, wpR_Md_fareOf_w_199_5_pos (ms_3 ((fun (a_0 : Int32) (a_1 : Int32) (k_0 : ¬ (a_1 ≤ a_0)) (k_1 : ¬ (12 < a_1)) => (show 1 ≤ (12 : Int32).toInt - (a_0).toInt ∧ (12 : Int32).toInt - ((a_0) + (1 : Int32)).toInt + 1 ≤ (12 : Int32).toInt - (a_0).toInt from by have z0 : (1 : Int32).toInt = 1 := (by decide +kernel); have z1 : (12 : Int32).toInt = 12 := (by decide +kernel); have r0 := fb_rng (a_0); have r1 := fb_rng (a_1); have e0 := k_0; rw [Int32.le_iff_toInt_le] at e0; have e1 := k_1; rw [Int32.lt_iff_toInt_lt, z1] at e1; obtain ⟨n_0, hn_0, s0⟩ := nd_add (x := (a_0)) (y := (1 : Int32)) (by (try rw [z0]); omega) (by (try rw [z0]); omega); rw [z0] at s0; rw [hn_0]; (try rw [z1]); omega)) v12_5 x_7 c_8 b_7.2) hm_5)] at hQ; exact hQ) (lv_sub hl [1, 2, 3, 4, 5, 6, 0] rfl)
              · have hQ := hQ.2 c_62
                by_cases c_63 : x_60 < p_4
                · have hQ := hQ.1 c_63
                  refine hb_ti 0 (by unfold f_Md_in; rw [if_neg c_62, if_pos c_63]; first | done | rfl) ?_
                  refine lv_if_eq (tgt := 261) hx hb d_Md_fareOf_239 (by decide) (fun _ => ?_) (fun h => absurd (by decide +kernel) h)
                  refine lv_iinc (v := (v12_5 + 1)) (lv' := [(12, .int (v12_5 + 1)), (0, .ref q0), (1, .int p_0), (4, .int p_3), (5, .int p_4), (6, .int p_5), (9, .int v9_5)]) hx hb d_Md_fareOf_261 hl (k := 6) rfl rfl (by decide) rfl (fun ls hl => ?_)
                  refine lv_goto (tgt := 199) hx hb d_Md_fareOf_264 (by decide) ?_
                  exact ih_5 (n_5 - 1) (ms_1 ((fun (a_0 : Int32) (a_1 : Int32) (k_0 : ¬ (a_1 ≤ a_0)) (k_1 : ¬ (12 < a_1)) => (show 1 ≤ (12 : Int32).toInt - (a_0).toInt ∧ (12 : Int32).toInt - ((a_0) + (1 : Int32)).toInt + 1 ≤ (12 : Int32).toInt - (a_0).toInt from by have z0 : (1 : Int32).toInt = 1 := (by decide +kernel); have z1 : (12 : Int32).toInt = 12 := (by decide +kernel); have r0 := fb_rng (a_0); have r1 := fb_rng (a_1); have e0 := k_0; rw [Int32.le_iff_toInt_le] at e0; have e1 := k_1; rw [Int32.lt_iff_toInt_lt, z1] at e1; obtain ⟨n_0, hn_0, s0⟩ := nd_add (x := (a_0)) (y := (1 : Int32)) (by (try rw [z0]); omega) (by (try rw [z0]); omega); rw [z0] at s0; rw [hn_0]; (try rw [z1]); omega)) v12_5 x_7 c_8 b_7.2) hm_5) v9_5 (v12_5 + 1) _ (show ¬ ((v12_5 + 1) < 0) from by have e0 := iv0_5; rw [Int32.lt_iff_toInt_lt] at e0; have e1 := iv1_5; rw [Int32.lt_iff_toInt_lt] at e1; have z0 : (0 : Int32).toInt = 0 := (by decide +kernel); have z1 : (1 : Int32).toInt = 1 := (by decide +kernel); have z2 : (12 : Int32).toInt = 12 := (by decide +kernel); have ss := fb_addI (x := v12_5) (y := 1) (by omega) (by omega); rw [Int32.lt_iff_toInt_lt]; omega) (show ¬ (12 < (v12_5 + 1)) from ((fun (a_0 : Int32) (a_1 : Int32) (k_0 : ¬ (a_1 ≤ a_0)) (k_1 : ¬ (12 < a_1)) => (show ¬ (12 < (a_0 + 1)) from by have z0 : (1 : Int32).toInt = 1 := (by decide +kernel); have z1 : (12 : Int32).toInt = 12 := (by decide +kernel); have r0 := fb_rng (a_0); have r1 := fb_rng (a_1); have e0 := k_0; rw [Int32.le_iff_toInt_le] at e0; have e1 := k_1; rw [Int32.lt_iff_toInt_lt, z1] at e1; obtain ⟨n_0, hn_0, s0⟩ := nd_add (x := (a_0)) (y := (1 : Int32)) (by (try rw [z0]); omega) (by (try rw [z0]); omega); rw [z0] at s0; rw [hn_0, Int32.lt_iff_toInt_lt, z1]; omega)) v12_5 x_7 c_8 b_7.2)) (by exact ms_2 ((fun (a_0 : Int32) (a_1 : Int32) (k_0 : ¬ (a_1 ≤ a_0)) (k_1 : ¬ (12 < a_1)) => (show 1 ≤ (12 : Int32).toInt - (a_0).toInt ∧ (12 : Int32).toInt - ((a_0) + (1 : Int32)).toInt + 1 ≤ (12 : Int32).toInt - (a_0).toInt from by have z0 : (1 : Int32).toInt = 1 := (by decide +kernel); have z1 : (12 : Int32).toInt = 12 := (by decide +kernel); have r0 := fb_rng (a_0); have r1 := fb_rng (a_1); have e0 := k_0; rw [Int32.le_iff_toInt_le] at e0; have e1 := k_1; rw [Int32.lt_iff_toInt_lt, z1] at e1; obtain ⟨n_0, hn_0, s0⟩ := nd_add (x := (a_0)) (y := (1 : Int32)) (by (try rw [z0]); omega) (by (try rw [z0]); omega); rw [z0] at s0; rw [hn_0]; (try rw [z1]); omega)) v12_5 x_7 c_8 b_7.2) hm_5) (by rw [← hrec_5, wpR_Md_fareOf_w_199_5_pos (ms_3 ((fun (a_0 : Int32) (a_1 : Int32) (k_0 : ¬ (a_1 ≤ a_0)) (k_1 : ¬ (12 < a_1)) => (show 1 ≤ (12 : Int32).toInt - (a_0).toInt ∧ (12 : Int32).toInt - ((a_0) + (1 : Int32)).toInt + 1 ≤ (12 : Int32).toInt - (a_0).toInt from by have z0 : (1 : Int32).toInt = 1 := (by decide +kernel); have z1 : (12 : Int32).toInt = 12 := (by decide +kernel); have r0 := fb_rng (a_0); have r1 := fb_rng (a_1); have e0 := k_0; rw [Int32.le_iff_toInt_le] at e0; have e1 := k_1; rw [Int32.lt_iff_toInt_lt, z1] at e1; obtain ⟨n_0, hn_0, s0⟩ := nd_add (x := (a_0)) (y := (1 : Int32)) (by (try rw [z0]); omega) (by (try rw [z0]); omega); rw [z0] at s0; rw [hn_0]; (try rw [z1]); omega)) v12_5 x_7 c_8 b_7.2) hm_5)] at hQ; exact hQ) (lv_sub hl [1, 2, 3, 4, 5, 6, 0] rfl)
                · have hQ := hQ.2 c_63
                  refine hb_ti 1 (by unfold f_Md_in; rw [if_neg c_62, if_neg c_63]; first | done | rfl) ?_
                  refine lv_if_eq (tgt := 261) hx hb d_Md_fareOf_239 (by decide) (fun h => absurd h (by decide +kernel)) (fun _ => ?_)
                  refine lv_iload hx hb d_Md_fareOf_242 (lv_at hl 5 rfl) ?_
                  refine lv_aload_n hx hb d_Md_fareOf_244 rfl (lv_at hl 0 rfl) ?_
                  refine tw_getr (D := (dC, dI)) (C := R_Md) (T := F_Md) (N := 64) (ci := 7) (kd := 27) (ct := ct) hx hb htb i_Md hown hK hP hO_0 m0 rfl rfl 39 (by decide) (htb (.fieldLink R_Md 140 "WaterMenModel" "hourIs" "[I") tw_377) (fun _ h9 => h9) rfl d_Md_fareOf_245 (fun q_64 e_64 m_64 => ?_)
                  have hQ := hQ q_64 e_64
                  refine lv_bipush (v := 12) hx hb d_Md_fareOf_248 (by decide +kernel) ?_
                  refine lv_iload_n hx hb d_Md_fareOf_250 rfl (lv_at hl 1 rfl) ?_
                  refine lv_imul hx hb d_Md_fareOf_251 ?_
                  refine lv_iload hx hb d_Md_fareOf_252 (lv_at hl 6 rfl) ?_
                  refine lv_iadd hx hb d_Md_fareOf_254 ?_
                  refine tw_aldI (ct := ct) hx hb hK hP hO_0 m_64 rfl ((fun (a_0 : Int32) (a_1 : Int32) (a_2 : Int32) (k_0 : ¬ (a_0 < 0)) (k_1 : ¬ (19 < a_0)) (k_2 : ¬ (a_1 < 0)) (k_3 : ¬ (a_2 ≤ a_1)) (k_4 : ¬ (12 < a_2)) => (show vp_in (((12 * a_0) + a_1)) 240 from by have z0 : (0 : Int32).toInt = 0 := (by decide +kernel); have z1 : (12 : Int32).toInt = 12 := (by decide +kernel); have z2 : (19 : Int32).toInt = 19 := (by decide +kernel); have r0 := fb_rng (a_0); have r1 := fb_rng (a_1); have r2 := fb_rng (a_2); have e0 := k_0; rw [Int32.lt_iff_toInt_lt, z0] at e0; have e1 := k_1; rw [Int32.lt_iff_toInt_lt, z2] at e1; have e2 := k_2; rw [Int32.lt_iff_toInt_lt, z0] at e2; have e3 := k_3; rw [Int32.le_iff_toInt_le] at e3; have e4 := k_4; rw [Int32.lt_iff_toInt_lt, z1] at e4; obtain ⟨n_0, hn_0, s0⟩ := nd_mul (x := (12 : Int32)) (y := (a_0)) (by (try rw [z1]); omega) (by (try rw [z1]); omega); rw [z1] at s0; obtain ⟨n_1, hn_1, s1⟩ := nd_add (x := n_0) (y := (a_1)) (by omega) (by omega); rw [hn_0, hn_1, vp_in_iff]; omega)) p_0 v12_5 x_7 as_0 as_1 iv0_5 c_8 b_7.2) d_Md_fareOf_255 (fun x_65 e_65 b_65 => ?_)
                  have hQ := hQ x_65 e_65
                  refine vp_callSi (va_Run.run (va_runS (As := [.int v9_5, .int x_65]) (rest := []) ⟨hx, hb, hml, hown, htb⟩ (c_Md_by_w l dC dI ct L f hO_0 v9_5 x_65 _ hQ) (cwS 2 htb (gd_S tw_450 tw_451 tw_89 tw_449) rfl rfl rfl (by decide +kernel) ⟨Nat.le_of_ble_eq_true rfl, Nat.le_of_ble_eq_true rfl⟩) ⟨pr_blind, pr_pre hP hK hN⟩ rfl rfl hl.1 rfl (lv_room (Nat.le_of_ble_eq_true rfl)) d_Md_fareOf_256 ⟨Nat.le_of_ble_eq_true rfl, Nat.le_of_ble_eq_true rfl⟩)) (fun r_66 er_66 => ?_)
                  obtain ⟨er_66, hQ⟩ := er_66
                  clear er_66
                  refine lv_istore (lv' := [(9, .int r_66), (0, .ref q0), (1, .int p_0), (4, .int p_3), (5, .int p_4), (6, .int p_5), (12, .int v12_5)]) hx hb d_Md_fareOf_259 hl (by decide) rfl (fun ls hl => ?_)
                  refine lv_iinc (v := (v12_5 + 1)) (lv' := [(12, .int (v12_5 + 1)), (9, .int r_66), (0, .ref q0), (1, .int p_0), (4, .int p_3), (5, .int p_4), (6, .int p_5)]) hx hb d_Md_fareOf_261 hl (k := 6) rfl rfl (by decide) rfl (fun ls hl => ?_)
                  refine lv_goto (tgt := 199) hx hb d_Md_fareOf_264 (by decide) ?_
                  exact ih_5 (n_5 - 1) (ms_1 ((fun (a_0 : Int32) (a_1 : Int32) (k_0 : ¬ (a_1 ≤ a_0)) (k_1 : ¬ (12 < a_1)) => (show 1 ≤ (12 : Int32).toInt - (a_0).toInt ∧ (12 : Int32).toInt - ((a_0) + (1 : Int32)).toInt + 1 ≤ (12 : Int32).toInt - (a_0).toInt from by have z0 : (1 : Int32).toInt = 1 := (by decide +kernel); have z1 : (12 : Int32).toInt = 12 := (by decide +kernel); have r0 := fb_rng (a_0); have r1 := fb_rng (a_1); have e0 := k_0; rw [Int32.le_iff_toInt_le] at e0; have e1 := k_1; rw [Int32.lt_iff_toInt_lt, z1] at e1; obtain ⟨n_0, hn_0, s0⟩ := nd_add (x := (a_0)) (y := (1 : Int32)) (by (try rw [z0]); omega) (by (try rw [z0]); omega); rw [z0] at s0; rw [hn_0]; (try rw [z1]); omega)) v12_5 x_7 c_8 b_7.2) hm_5) r_66 (v12_5 + 1) _ (show ¬ ((v12_5 + 1) < 0) from by have e0 := iv0_5; rw [Int32.lt_iff_toInt_lt] at e0; have e1 := iv1_5; rw [Int32.lt_iff_toInt_lt] at e1; have z0 : (0 : Int32).toInt = 0 := (by decide +kernel); have z1 : (1 : Int32).toInt = 1 := (by decide +kernel); have z2 : (12 : Int32).toInt = 12 := (by decide +kernel); have ss := fb_addI (x := v12_5) (y := 1) (by omega) (by omega); rw [Int32.lt_iff_toInt_lt]; omega) (show ¬ (12 < (v12_5 + 1)) from ((fun (a_0 : Int32) (a_1 : Int32) (k_0 : ¬ (a_1 ≤ a_0)) (k_1 : ¬ (12 < a_1)) => (show ¬ (12 < (a_0 + 1)) from by have z0 : (1 : Int32).toInt = 1 := (by decide +kernel); have z1 : (12 : Int32).toInt = 12 := (by decide +kernel); have r0 := fb_rng (a_0); have r1 := fb_rng (a_1); have e0 := k_0; rw [Int32.le_iff_toInt_le] at e0; have e1 := k_1; rw [Int32.lt_iff_toInt_lt, z1] at e1; obtain ⟨n_0, hn_0, s0⟩ := nd_add (x := (a_0)) (y := (1 : Int32)) (by (try rw [z0]); omega) (by (try rw [z0]); omega); rw [z0] at s0; rw [hn_0, Int32.lt_iff_toInt_lt, z1]; omega)) v12_5 x_7 c_8 b_7.2)) (by exact ms_2 ((fun (a_0 : Int32) (a_1 : Int32) (k_0 : ¬ (a_1 ≤ a_0)) (k_1 : ¬ (12 < a_1)) => (show 1 ≤ (12 : Int32).toInt - (a_0).toInt ∧ (12 : Int32).toInt - ((a_0) + (1 : Int32)).toInt + 1 ≤ (12 : Int32).toInt - (a_0).toInt from by have z0 : (1 : Int32).toInt = 1 := (by decide +kernel); have z1 : (12 : Int32).toInt = 12 := (by decide +kernel); have r0 := fb_rng (a_0); have r1 := fb_rng (a_1); have e0 := k_0; rw [Int32.le_iff_toInt_le] at e0; have e1 := k_1; rw [Int32.lt_iff_toInt_lt, z1] at e1; obtain ⟨n_0, hn_0, s0⟩ := nd_add (x := (a_0)) (y := (1 : Int32)) (by (try rw [z0]); omega) (by (try rw [z0]); omega); rw [z0] at s0; rw [hn_0]; (try rw [z1]); omega)) v12_5 x_7 c_8 b_7.2) hm_5) (by rw [← hrec_5, wpR_Md_fareOf_w_199_5_pos (ms_3 ((fun (a_0 : Int32) (a_1 : Int32) (k_0 : ¬ (a_1 ≤ a_0)) (k_1 : ¬ (12 < a_1)) => (show 1 ≤ (12 : Int32).toInt - (a_0).toInt ∧ (12 : Int32).toInt - ((a_0) + (1 : Int32)).toInt + 1 ≤ (12 : Int32).toInt - (a_0).toInt from by have z0 : (1 : Int32).toInt = 1 := (by decide +kernel); have z1 : (12 : Int32).toInt = 12 := (by decide +kernel); have r0 := fb_rng (a_0); have r1 := fb_rng (a_1); have e0 := k_0; rw [Int32.le_iff_toInt_le] at e0; have e1 := k_1; rw [Int32.lt_iff_toInt_lt, z1] at e1; obtain ⟨n_0, hn_0, s0⟩ := nd_add (x := (a_0)) (y := (1 : Int32)) (by (try rw [z0]); omega) (by (try rw [z0]); omega); rw [z0] at s0; rw [hn_0]; (try rw [z1]); omega)) v12_5 x_7 c_8 b_7.2) hm_5)] at hQ; exact hQ) (lv_sub hl [2, 3, 4, 5, 6, 1, 0] rfl)
        refine lv_iload hx hb d_Md_fareOf_116 (lv_at hl 7 rfl) ?_
        refine lv_if_ge (tgt := 124) hx hb d_Md_fareOf_118 (by decide) (fun c_67 => ?_) (fun c_67 => ?_)
        · have hQ := hQ.1 c_67
          refine lv_aload_n hx hb d_Md_fareOf_124 rfl (lv_at hl 0 rfl) ?_
          refine lv_iload hx hb d_Md_fareOf_125 (lv_at hl 2 rfl) ?_
          refine lv_iload hx hb d_Md_fareOf_127 (lv_at hl 3 rfl) ?_
          refine vp_callSi (va_Run.run (va_runV (As := [.int p_3, .int p_4]) (rest := []) ⟨hx, hb, hml, hown, htb⟩ (c_Md_flowOf_w l dC dI ct L f hO_0 q0 m0 p_3 p_4 as_6 as_7 as_8 as_9 _ hQ) (cwV 2 htb (gd_V tw_164 tw_165 tw_166 tw_89 tw_163) rfl rfl rfl (by decide +kernel) ⟨Nat.le_of_ble_eq_true rfl, Nat.le_of_ble_eq_true rfl⟩) ⟨pr_blind, tw_recv hK hP m0 rfl rfl, pr_pre hP hK hN⟩ rfl rfl hl.1 rfl (lv_room (Nat.le_of_ble_eq_true rfl)) d_Md_fareOf_129 ⟨Nat.le_of_ble_eq_true rfl, Nat.le_of_ble_eq_true rfl⟩)) (fun r_68 er_68 => ?_)
          obtain ⟨er_68, hQ⟩ := er_68
          clear er_68
          refine lv_istore (lv' := [(10, .int r_68), (0, .ref q0), (1, .int p_0), (4, .int p_3), (5, .int p_4), (6, .int p_5), (7, .int v7_1), (8, .int v8_1), (9, .int v9_1)]) hx hb d_Md_fareOf_132 hl (by decide) rfl (fun ls hl => ?_)
          refine lv_iload hx hb d_Md_fareOf_134 (lv_at hl 0 rfl) ?_
          refine lv_if_ne (tgt := 143) hx hb d_Md_fareOf_136 (by decide) (fun c_69 => ?_) (fun c_69 => ?_)
          · have hQ := hQ.2 c_69
            refine lv_iload hx hb d_Md_fareOf_143 (lv_at hl 0 rfl) ?_
            refine lv_if_le (tgt := 152) hx hb d_Md_fareOf_145 (by decide) (fun c_70 => ?_) (fun c_70 => ?_)
            · have hQ := hQ.1 c_70
              refine lv_iconst (v := 0) hx hb d_Md_fareOf_152 (by decide +kernel) ?_
              refine lv_iload hx hb d_Md_fareOf_153 (lv_at hl 7 rfl) ?_
              refine lv_icmp_ne (tgt := 163) hx hb d_Md_fareOf_155 (by decide) (fun c_71 => ?_) (fun c_71 => ?_)
              · have hQ := hQ.2 c_71
                refine lv_bipush (v := 13) hx hb d_Md_fareOf_163 (by decide +kernel) ?_
                refine lv_istore (lv' := [(11, .int 13), (10, .int r_68), (0, .ref q0), (1, .int p_0), (4, .int p_3), (5, .int p_4), (6, .int p_5), (7, .int v7_1), (8, .int v8_1), (9, .int v9_1)]) hx hb d_Md_fareOf_165 hl (by decide) rfl (fun ls hl => ?_)
                refine lv_iload hx hb d_Md_fareOf_167 (lv_at hl 0 rfl) ?_
                refine lv_if_le (tgt := 196) hx hb d_Md_fareOf_169 (by decide) (fun h => absurd h (by decide +kernel)) (fun _ => ?_)
                refine lv_aload_n hx hb d_Md_fareOf_172 rfl (lv_at hl 2 rfl) ?_
                refine lv_iload_n hx hb d_Md_fareOf_173 rfl (lv_at hl 3 rfl) ?_
                refine lv_iload hx hb d_Md_fareOf_174 (lv_at hl 0 rfl) ?_
                refine vp_callSi (va_Run.run (va_runV (As := [.int p_0, .int 13]) (rest := []) ⟨hx, hb, hml, hown, htb⟩ (c_Md_lineOf_w l dC dI ct L f hO_0 q0 m0 p_0 (13 : Int32) as_0 as_1 (by decide +kernel) (by decide +kernel) _ hQ) (cwV 2 htb (gd_V tw_443 tw_444 tw_445 tw_89 tw_442) rfl rfl rfl (by decide +kernel) ⟨Nat.le_of_ble_eq_true rfl, Nat.le_of_ble_eq_true rfl⟩) ⟨pr_blind, tw_recv hK hP m0 rfl rfl, pr_pre hP hK hN⟩ rfl rfl hl.1 rfl (lv_room (Nat.le_of_ble_eq_true rfl)) d_Md_fareOf_176 ⟨Nat.le_of_ble_eq_true rfl, Nat.le_of_ble_eq_true rfl⟩)) (fun r_72 er_72 => ?_)
                obtain ⟨er_72, hQ⟩ := er_72
                clear er_72
                refine lv_if_lt (tgt := 196) hx hb d_Md_fareOf_179 (by decide) (fun c_73 => ?_) (fun c_73 => ?_)
                · have hQ := hQ.1 c_73
                  refine lv_iconst (v := 0) hx hb d_Md_fareOf_196 (by decide +kernel) ?_
                  refine lv_istore (lv' := [(12, .int 0), (11, .int 13), (10, .int r_68), (0, .ref q0), (1, .int p_0), (4, .int p_3), (5, .int p_4), (6, .int p_5), (7, .int v7_1), (8, .int v8_1), (9, .int v9_1)]) hx hb d_Md_fareOf_197 hl (by decide) rfl (fun ls hl => ?_)
                  exact cut_5 ((12 : Int32).toInt - (0 : Int32).toInt).toNat v9_1 (0 : Int32) _ (by decide +kernel) (by decide +kernel) (by exact ms_e _ _) hQ (lv_sub hl [3, 4, 5, 6, 7, 10, 0] rfl)
                · have hQ := hQ.2 c_73
                  refine lv_iload hx hb d_Md_fareOf_182 (lv_at hl 9 rfl) ?_
                  refine lv_aload_n hx hb d_Md_fareOf_184 rfl (lv_at hl 2 rfl) ?_
                  refine lv_iload_n hx hb d_Md_fareOf_185 rfl (lv_at hl 3 rfl) ?_
                  refine lv_iload hx hb d_Md_fareOf_186 (lv_at hl 0 rfl) ?_
                  refine vp_callSi (va_Run.run (va_runV (As := [.int p_0, .int 13]) (rest := [.int v9_1]) ⟨hx, hb, hml, hown, htb⟩ (c_Md_lineOf_w l dC dI ct L f hO_0 q0 m0 p_0 (13 : Int32) as_0 as_1 (by decide +kernel) (by decide +kernel) _ hQ) (cwV 2 htb (gd_V tw_443 tw_444 tw_445 tw_89 tw_442) rfl rfl rfl (by decide +kernel) ⟨Nat.le_of_ble_eq_true rfl, Nat.le_of_ble_eq_true rfl⟩) ⟨pr_blind, tw_recv hK hP m0 rfl rfl, pr_pre hP hK hN⟩ rfl rfl hl.1 rfl (lv_room (Nat.le_of_ble_eq_true rfl)) d_Md_fareOf_188 ⟨Nat.le_of_ble_eq_true rfl, Nat.le_of_ble_eq_true rfl⟩)) (fun r_74 er_74 => ?_)
                  obtain ⟨er_74, hQ⟩ := er_74
                  clear er_74
                  refine vp_callSi (va_Run.run (va_runS (As := [.int v9_1, .int r_74]) (rest := []) ⟨hx, hb, hml, hown, htb⟩ (c_Md_by_w l dC dI ct L f hO_0 v9_1 r_74 _ hQ) (cwS 2 htb (gd_S tw_450 tw_451 tw_89 tw_449) rfl rfl rfl (by decide +kernel) ⟨Nat.le_of_ble_eq_true rfl, Nat.le_of_ble_eq_true rfl⟩) ⟨pr_blind, pr_pre hP hK hN⟩ rfl rfl hl.1 rfl (lv_room (Nat.le_of_ble_eq_true rfl)) d_Md_fareOf_191 ⟨Nat.le_of_ble_eq_true rfl, Nat.le_of_ble_eq_true rfl⟩)) (fun r_75 er_75 => ?_)
                  obtain ⟨er_75, hQ⟩ := er_75
                  clear er_75
                  refine lv_istore (lv' := [(9, .int r_75), (11, .int 13), (10, .int r_68), (0, .ref q0), (1, .int p_0), (4, .int p_3), (5, .int p_4), (6, .int p_5), (7, .int v7_1), (8, .int v8_1)]) hx hb d_Md_fareOf_194 hl (by decide) rfl (fun ls hl => ?_)
                  refine lv_iconst (v := 0) hx hb d_Md_fareOf_196 (by decide +kernel) ?_
                  refine lv_istore (lv' := [(12, .int 0), (9, .int r_75), (11, .int 13), (10, .int r_68), (0, .ref q0), (1, .int p_0), (4, .int p_3), (5, .int p_4), (6, .int p_5), (7, .int v7_1), (8, .int v8_1)]) hx hb d_Md_fareOf_197 hl (by decide) rfl (fun ls hl => ?_)
                  exact cut_5 ((12 : Int32).toInt - (0 : Int32).toInt).toNat r_75 (0 : Int32) _ (by decide +kernel) (by decide +kernel) (by exact ms_e _ _) hQ (lv_sub hl [4, 5, 6, 7, 8, 1, 0] rfl)
              · have hQ := hQ.1 c_71
                refine lv_bipush (v := 12) hx hb d_Md_fareOf_158 (by decide +kernel) ?_
                refine lv_goto (tgt := 165) hx hb d_Md_fareOf_160 (by decide) ?_
                refine lv_istore (lv' := [(11, .int 12), (10, .int r_68), (0, .ref q0), (1, .int p_0), (4, .int p_3), (5, .int p_4), (6, .int p_5), (7, .int v7_1), (8, .int v8_1), (9, .int v9_1)]) hx hb d_Md_fareOf_165 hl (by decide) rfl (fun ls hl => ?_)
                refine lv_iload hx hb d_Md_fareOf_167 (lv_at hl 0 rfl) ?_
                refine lv_if_le (tgt := 196) hx hb d_Md_fareOf_169 (by decide) (fun h => absurd h (by decide +kernel)) (fun _ => ?_)
                refine lv_aload_n hx hb d_Md_fareOf_172 rfl (lv_at hl 2 rfl) ?_
                refine lv_iload_n hx hb d_Md_fareOf_173 rfl (lv_at hl 3 rfl) ?_
                refine lv_iload hx hb d_Md_fareOf_174 (lv_at hl 0 rfl) ?_
                refine vp_callSi (va_Run.run (va_runV (As := [.int p_0, .int 12]) (rest := []) ⟨hx, hb, hml, hown, htb⟩ (c_Md_lineOf_w l dC dI ct L f hO_0 q0 m0 p_0 (12 : Int32) as_0 as_1 (by decide +kernel) (by decide +kernel) _ hQ) (cwV 2 htb (gd_V tw_443 tw_444 tw_445 tw_89 tw_442) rfl rfl rfl (by decide +kernel) ⟨Nat.le_of_ble_eq_true rfl, Nat.le_of_ble_eq_true rfl⟩) ⟨pr_blind, tw_recv hK hP m0 rfl rfl, pr_pre hP hK hN⟩ rfl rfl hl.1 rfl (lv_room (Nat.le_of_ble_eq_true rfl)) d_Md_fareOf_176 ⟨Nat.le_of_ble_eq_true rfl, Nat.le_of_ble_eq_true rfl⟩)) (fun r_76 er_76 => ?_)
                obtain ⟨er_76, hQ⟩ := er_76
                clear er_76
                refine lv_if_lt (tgt := 196) hx hb d_Md_fareOf_179 (by decide) (fun c_77 => ?_) (fun c_77 => ?_)
                · have hQ := hQ.1 c_77
                  refine lv_iconst (v := 0) hx hb d_Md_fareOf_196 (by decide +kernel) ?_
                  refine lv_istore (lv' := [(12, .int 0), (11, .int 12), (10, .int r_68), (0, .ref q0), (1, .int p_0), (4, .int p_3), (5, .int p_4), (6, .int p_5), (7, .int v7_1), (8, .int v8_1), (9, .int v9_1)]) hx hb d_Md_fareOf_197 hl (by decide) rfl (fun ls hl => ?_)
                  exact cut_5 ((12 : Int32).toInt - (0 : Int32).toInt).toNat v9_1 (0 : Int32) _ (by decide +kernel) (by decide +kernel) (by exact ms_e _ _) hQ (lv_sub hl [3, 4, 5, 6, 7, 10, 0] rfl)
                · have hQ := hQ.2 c_77
                  refine lv_iload hx hb d_Md_fareOf_182 (lv_at hl 9 rfl) ?_
                  refine lv_aload_n hx hb d_Md_fareOf_184 rfl (lv_at hl 2 rfl) ?_
                  refine lv_iload_n hx hb d_Md_fareOf_185 rfl (lv_at hl 3 rfl) ?_
                  refine lv_iload hx hb d_Md_fareOf_186 (lv_at hl 0 rfl) ?_
                  refine vp_callSi (va_Run.run (va_runV (As := [.int p_0, .int 12]) (rest := [.int v9_1]) ⟨hx, hb, hml, hown, htb⟩ (c_Md_lineOf_w l dC dI ct L f hO_0 q0 m0 p_0 (12 : Int32) as_0 as_1 (by decide +kernel) (by decide +kernel) _ hQ) (cwV 2 htb (gd_V tw_443 tw_444 tw_445 tw_89 tw_442) rfl rfl rfl (by decide +kernel) ⟨Nat.le_of_ble_eq_true rfl, Nat.le_of_ble_eq_true rfl⟩) ⟨pr_blind, tw_recv hK hP m0 rfl rfl, pr_pre hP hK hN⟩ rfl rfl hl.1 rfl (lv_room (Nat.le_of_ble_eq_true rfl)) d_Md_fareOf_188 ⟨Nat.le_of_ble_eq_true rfl, Nat.le_of_ble_eq_true rfl⟩)) (fun r_78 er_78 => ?_)
                  obtain ⟨er_78, hQ⟩ := er_78
                  clear er_78
                  refine vp_callSi (va_Run.run (va_runS (As := [.int v9_1, .int r_78]) (rest := []) ⟨hx, hb, hml, hown, htb⟩ (c_Md_by_w l dC dI ct L f hO_0 v9_1 r_78 _ hQ) (cwS 2 htb (gd_S tw_450 tw_451 tw_89 tw_449) rfl rfl rfl (by decide +kernel) ⟨Nat.le_of_ble_eq_true rfl, Nat.le_of_ble_eq_true rfl⟩) ⟨pr_blind, pr_pre hP hK hN⟩ rfl rfl hl.1 rfl (lv_room (Nat.le_of_ble_eq_true rfl)) d_Md_fareOf_191 ⟨Nat.le_of_ble_eq_true rfl, Nat.le_of_ble_eq_true rfl⟩)) (fun r_79 er_79 => ?_)
                  obtain ⟨er_79, hQ⟩ := er_79
                  clear er_79
                  refine lv_istore (lv' := [(9, .int r_79), (11, .int 12), (10, .int r_68), (0, .ref q0), (1, .int p_0), (4, .int p_3), (5, .int p_4), (6, .int p_5), (7, .int v7_1), (8, .int v8_1)]) hx hb d_Md_fareOf_194 hl (by decide) rfl (fun ls hl => ?_)
                  refine lv_iconst (v := 0) hx hb d_Md_fareOf_196 (by decide +kernel) ?_
                  refine lv_istore (lv' := [(12, .int 0), (9, .int r_79), (11, .int 12), (10, .int r_68), (0, .ref q0), (1, .int p_0), (4, .int p_3), (5, .int p_4), (6, .int p_5), (7, .int v7_1), (8, .int v8_1)]) hx hb d_Md_fareOf_197 hl (by decide) rfl (fun ls hl => ?_)
                  exact cut_5 ((12 : Int32).toInt - (0 : Int32).toInt).toNat r_79 (0 : Int32) _ (by decide +kernel) (by decide +kernel) (by exact ms_e _ _) hQ (lv_sub hl [4, 5, 6, 7, 8, 1, 0] rfl)
            · have hQ := hQ.2 c_70
              refine lv_iconst (v := 1) hx hb d_Md_fareOf_148 (by decide +kernel) ?_
              refine lv_goto (tgt := 153) hx hb d_Md_fareOf_149 (by decide) ?_
              refine lv_iload hx hb d_Md_fareOf_153 (lv_at hl 7 rfl) ?_
              refine lv_icmp_ne (tgt := 163) hx hb d_Md_fareOf_155 (by decide) (fun c_80 => ?_) (fun c_80 => ?_)
              · have hQ := hQ.2 c_80
                refine lv_bipush (v := 13) hx hb d_Md_fareOf_163 (by decide +kernel) ?_
                refine lv_istore (lv' := [(11, .int 13), (10, .int r_68), (0, .ref q0), (1, .int p_0), (4, .int p_3), (5, .int p_4), (6, .int p_5), (7, .int v7_1), (8, .int v8_1), (9, .int v9_1)]) hx hb d_Md_fareOf_165 hl (by decide) rfl (fun ls hl => ?_)
                refine lv_iload hx hb d_Md_fareOf_167 (lv_at hl 0 rfl) ?_
                refine lv_if_le (tgt := 196) hx hb d_Md_fareOf_169 (by decide) (fun h => absurd h (by decide +kernel)) (fun _ => ?_)
                refine lv_aload_n hx hb d_Md_fareOf_172 rfl (lv_at hl 2 rfl) ?_
                refine lv_iload_n hx hb d_Md_fareOf_173 rfl (lv_at hl 3 rfl) ?_
                refine lv_iload hx hb d_Md_fareOf_174 (lv_at hl 0 rfl) ?_
                refine vp_callSi (va_Run.run (va_runV (As := [.int p_0, .int 13]) (rest := []) ⟨hx, hb, hml, hown, htb⟩ (c_Md_lineOf_w l dC dI ct L f hO_0 q0 m0 p_0 (13 : Int32) as_0 as_1 (by decide +kernel) (by decide +kernel) _ hQ) (cwV 2 htb (gd_V tw_443 tw_444 tw_445 tw_89 tw_442) rfl rfl rfl (by decide +kernel) ⟨Nat.le_of_ble_eq_true rfl, Nat.le_of_ble_eq_true rfl⟩) ⟨pr_blind, tw_recv hK hP m0 rfl rfl, pr_pre hP hK hN⟩ rfl rfl hl.1 rfl (lv_room (Nat.le_of_ble_eq_true rfl)) d_Md_fareOf_176 ⟨Nat.le_of_ble_eq_true rfl, Nat.le_of_ble_eq_true rfl⟩)) (fun r_81 er_81 => ?_)
                obtain ⟨er_81, hQ⟩ := er_81
                clear er_81
                refine lv_if_lt (tgt := 196) hx hb d_Md_fareOf_179 (by decide) (fun c_82 => ?_) (fun c_82 => ?_)
                · have hQ := hQ.1 c_82
                  refine lv_iconst (v := 0) hx hb d_Md_fareOf_196 (by decide +kernel) ?_
                  refine lv_istore (lv' := [(12, .int 0), (11, .int 13), (10, .int r_68), (0, .ref q0), (1, .int p_0), (4, .int p_3), (5, .int p_4), (6, .int p_5), (7, .int v7_1), (8, .int v8_1), (9, .int v9_1)]) hx hb d_Md_fareOf_197 hl (by decide) rfl (fun ls hl => ?_)
                  exact cut_5 ((12 : Int32).toInt - (0 : Int32).toInt).toNat v9_1 (0 : Int32) _ (by decide +kernel) (by decide +kernel) (by exact ms_e _ _) hQ (lv_sub hl [3, 4, 5, 6, 7, 10, 0] rfl)
                · have hQ := hQ.2 c_82
                  refine lv_iload hx hb d_Md_fareOf_182 (lv_at hl 9 rfl) ?_
                  refine lv_aload_n hx hb d_Md_fareOf_184 rfl (lv_at hl 2 rfl) ?_
                  refine lv_iload_n hx hb d_Md_fareOf_185 rfl (lv_at hl 3 rfl) ?_
                  refine lv_iload hx hb d_Md_fareOf_186 (lv_at hl 0 rfl) ?_
                  refine vp_callSi (va_Run.run (va_runV (As := [.int p_0, .int 13]) (rest := [.int v9_1]) ⟨hx, hb, hml, hown, htb⟩ (c_Md_lineOf_w l dC dI ct L f hO_0 q0 m0 p_0 (13 : Int32) as_0 as_1 (by decide +kernel) (by decide +kernel) _ hQ) (cwV 2 htb (gd_V tw_443 tw_444 tw_445 tw_89 tw_442) rfl rfl rfl (by decide +kernel) ⟨Nat.le_of_ble_eq_true rfl, Nat.le_of_ble_eq_true rfl⟩) ⟨pr_blind, tw_recv hK hP m0 rfl rfl, pr_pre hP hK hN⟩ rfl rfl hl.1 rfl (lv_room (Nat.le_of_ble_eq_true rfl)) d_Md_fareOf_188 ⟨Nat.le_of_ble_eq_true rfl, Nat.le_of_ble_eq_true rfl⟩)) (fun r_83 er_83 => ?_)
                  obtain ⟨er_83, hQ⟩ := er_83
                  clear er_83
                  refine vp_callSi (va_Run.run (va_runS (As := [.int v9_1, .int r_83]) (rest := []) ⟨hx, hb, hml, hown, htb⟩ (c_Md_by_w l dC dI ct L f hO_0 v9_1 r_83 _ hQ) (cwS 2 htb (gd_S tw_450 tw_451 tw_89 tw_449) rfl rfl rfl (by decide +kernel) ⟨Nat.le_of_ble_eq_true rfl, Nat.le_of_ble_eq_true rfl⟩) ⟨pr_blind, pr_pre hP hK hN⟩ rfl rfl hl.1 rfl (lv_room (Nat.le_of_ble_eq_true rfl)) d_Md_fareOf_191 ⟨Nat.le_of_ble_eq_true rfl, Nat.le_of_ble_eq_true rfl⟩)) (fun r_84 er_84 => ?_)
                  obtain ⟨er_84, hQ⟩ := er_84
                  clear er_84
                  refine lv_istore (lv' := [(9, .int r_84), (11, .int 13), (10, .int r_68), (0, .ref q0), (1, .int p_0), (4, .int p_3), (5, .int p_4), (6, .int p_5), (7, .int v7_1), (8, .int v8_1)]) hx hb d_Md_fareOf_194 hl (by decide) rfl (fun ls hl => ?_)
                  refine lv_iconst (v := 0) hx hb d_Md_fareOf_196 (by decide +kernel) ?_
                  refine lv_istore (lv' := [(12, .int 0), (9, .int r_84), (11, .int 13), (10, .int r_68), (0, .ref q0), (1, .int p_0), (4, .int p_3), (5, .int p_4), (6, .int p_5), (7, .int v7_1), (8, .int v8_1)]) hx hb d_Md_fareOf_197 hl (by decide) rfl (fun ls hl => ?_)
                  exact cut_5 ((12 : Int32).toInt - (0 : Int32).toInt).toNat r_84 (0 : Int32) _ (by decide +kernel) (by decide +kernel) (by exact ms_e _ _) hQ (lv_sub hl [4, 5, 6, 7, 8, 1, 0] rfl)
              · have hQ := hQ.1 c_80
                refine lv_bipush (v := 12) hx hb d_Md_fareOf_158 (by decide +kernel) ?_
                refine lv_goto (tgt := 165) hx hb d_Md_fareOf_160 (by decide) ?_
                refine lv_istore (lv' := [(11, .int 12), (10, .int r_68), (0, .ref q0), (1, .int p_0), (4, .int p_3), (5, .int p_4), (6, .int p_5), (7, .int v7_1), (8, .int v8_1), (9, .int v9_1)]) hx hb d_Md_fareOf_165 hl (by decide) rfl (fun ls hl => ?_)
                refine lv_iload hx hb d_Md_fareOf_167 (lv_at hl 0 rfl) ?_
                refine lv_if_le (tgt := 196) hx hb d_Md_fareOf_169 (by decide) (fun h => absurd h (by decide +kernel)) (fun _ => ?_)
                refine lv_aload_n hx hb d_Md_fareOf_172 rfl (lv_at hl 2 rfl) ?_
                refine lv_iload_n hx hb d_Md_fareOf_173 rfl (lv_at hl 3 rfl) ?_
                refine lv_iload hx hb d_Md_fareOf_174 (lv_at hl 0 rfl) ?_
                refine vp_callSi (va_Run.run (va_runV (As := [.int p_0, .int 12]) (rest := []) ⟨hx, hb, hml, hown, htb⟩ (c_Md_lineOf_w l dC dI ct L f hO_0 q0 m0 p_0 (12 : Int32) as_0 as_1 (by decide +kernel) (by decide +kernel) _ hQ) (cwV 2 htb (gd_V tw_443 tw_444 tw_445 tw_89 tw_442) rfl rfl rfl (by decide +kernel) ⟨Nat.le_of_ble_eq_true rfl, Nat.le_of_ble_eq_true rfl⟩) ⟨pr_blind, tw_recv hK hP m0 rfl rfl, pr_pre hP hK hN⟩ rfl rfl hl.1 rfl (lv_room (Nat.le_of_ble_eq_true rfl)) d_Md_fareOf_176 ⟨Nat.le_of_ble_eq_true rfl, Nat.le_of_ble_eq_true rfl⟩)) (fun r_85 er_85 => ?_)
                obtain ⟨er_85, hQ⟩ := er_85
                clear er_85
                refine lv_if_lt (tgt := 196) hx hb d_Md_fareOf_179 (by decide) (fun c_86 => ?_) (fun c_86 => ?_)
                · have hQ := hQ.1 c_86
                  refine lv_iconst (v := 0) hx hb d_Md_fareOf_196 (by decide +kernel) ?_
                  refine lv_istore (lv' := [(12, .int 0), (11, .int 12), (10, .int r_68), (0, .ref q0), (1, .int p_0), (4, .int p_3), (5, .int p_4), (6, .int p_5), (7, .int v7_1), (8, .int v8_1), (9, .int v9_1)]) hx hb d_Md_fareOf_197 hl (by decide) rfl (fun ls hl => ?_)
                  exact cut_5 ((12 : Int32).toInt - (0 : Int32).toInt).toNat v9_1 (0 : Int32) _ (by decide +kernel) (by decide +kernel) (by exact ms_e _ _) hQ (lv_sub hl [3, 4, 5, 6, 7, 10, 0] rfl)
                · have hQ := hQ.2 c_86
                  refine lv_iload hx hb d_Md_fareOf_182 (lv_at hl 9 rfl) ?_
                  refine lv_aload_n hx hb d_Md_fareOf_184 rfl (lv_at hl 2 rfl) ?_
                  refine lv_iload_n hx hb d_Md_fareOf_185 rfl (lv_at hl 3 rfl) ?_
                  refine lv_iload hx hb d_Md_fareOf_186 (lv_at hl 0 rfl) ?_
                  refine vp_callSi (va_Run.run (va_runV (As := [.int p_0, .int 12]) (rest := [.int v9_1]) ⟨hx, hb, hml, hown, htb⟩ (c_Md_lineOf_w l dC dI ct L f hO_0 q0 m0 p_0 (12 : Int32) as_0 as_1 (by decide +kernel) (by decide +kernel) _ hQ) (cwV 2 htb (gd_V tw_443 tw_444 tw_445 tw_89 tw_442) rfl rfl rfl (by decide +kernel) ⟨Nat.le_of_ble_eq_true rfl, Nat.le_of_ble_eq_true rfl⟩) ⟨pr_blind, tw_recv hK hP m0 rfl rfl, pr_pre hP hK hN⟩ rfl rfl hl.1 rfl (lv_room (Nat.le_of_ble_eq_true rfl)) d_Md_fareOf_188 ⟨Nat.le_of_ble_eq_true rfl, Nat.le_of_ble_eq_true rfl⟩)) (fun r_87 er_87 => ?_)
                  obtain ⟨er_87, hQ⟩ := er_87
                  clear er_87
                  refine vp_callSi (va_Run.run (va_runS (As := [.int v9_1, .int r_87]) (rest := []) ⟨hx, hb, hml, hown, htb⟩ (c_Md_by_w l dC dI ct L f hO_0 v9_1 r_87 _ hQ) (cwS 2 htb (gd_S tw_450 tw_451 tw_89 tw_449) rfl rfl rfl (by decide +kernel) ⟨Nat.le_of_ble_eq_true rfl, Nat.le_of_ble_eq_true rfl⟩) ⟨pr_blind, pr_pre hP hK hN⟩ rfl rfl hl.1 rfl (lv_room (Nat.le_of_ble_eq_true rfl)) d_Md_fareOf_191 ⟨Nat.le_of_ble_eq_true rfl, Nat.le_of_ble_eq_true rfl⟩)) (fun r_88 er_88 => ?_)
                  obtain ⟨er_88, hQ⟩ := er_88
                  clear er_88
                  refine lv_istore (lv' := [(9, .int r_88), (11, .int 12), (10, .int r_68), (0, .ref q0), (1, .int p_0), (4, .int p_3), (5, .int p_4), (6, .int p_5), (7, .int v7_1), (8, .int v8_1)]) hx hb d_Md_fareOf_194 hl (by decide) rfl (fun ls hl => ?_)
                  refine lv_iconst (v := 0) hx hb d_Md_fareOf_196 (by decide +kernel) ?_
                  refine lv_istore (lv' := [(12, .int 0), (9, .int r_88), (11, .int 12), (10, .int r_68), (0, .ref q0), (1, .int p_0), (4, .int p_3), (5, .int p_4), (6, .int p_5), (7, .int v7_1), (8, .int v8_1)]) hx hb d_Md_fareOf_197 hl (by decide) rfl (fun ls hl => ?_)
                  exact cut_5 ((12 : Int32).toInt - (0 : Int32).toInt).toNat r_88 (0 : Int32) _ (by decide +kernel) (by decide +kernel) (by exact ms_e _ _) hQ (lv_sub hl [4, 5, 6, 7, 8, 1, 0] rfl)
          · have hQ := hQ.1 c_69
            refine lv_iconst (v := 0) hx hb d_Md_fareOf_139 (by decide +kernel) ?_
            refine lv_goto (tgt := 165) hx hb d_Md_fareOf_140 (by decide) ?_
            refine lv_istore (lv' := [(11, .int 0), (10, .int r_68), (0, .ref q0), (1, .int p_0), (4, .int p_3), (5, .int p_4), (6, .int p_5), (7, .int v7_1), (8, .int v8_1), (9, .int v9_1)]) hx hb d_Md_fareOf_165 hl (by decide) rfl (fun ls hl => ?_)
            refine lv_iload hx hb d_Md_fareOf_167 (lv_at hl 0 rfl) ?_
            refine lv_if_le (tgt := 196) hx hb d_Md_fareOf_169 (by decide) (fun _ => ?_) (fun h => absurd (by decide +kernel) h)
            refine lv_iconst (v := 0) hx hb d_Md_fareOf_196 (by decide +kernel) ?_
            refine lv_istore (lv' := [(12, .int 0), (11, .int 0), (10, .int r_68), (0, .ref q0), (1, .int p_0), (4, .int p_3), (5, .int p_4), (6, .int p_5), (7, .int v7_1), (8, .int v8_1), (9, .int v9_1)]) hx hb d_Md_fareOf_197 hl (by decide) rfl (fun ls hl => ?_)
            exact cut_5 ((12 : Int32).toInt - (0 : Int32).toInt).toNat v9_1 (0 : Int32) _ (by decide +kernel) (by decide +kernel) (by exact ms_e _ _) hQ (lv_sub hl [3, 4, 5, 6, 7, 10, 0] rfl)
        · have hQ := hQ.2 c_67
          refine lv_bipush (v := (-2)) hx hb d_Md_fareOf_121 (by decide +kernel) ?_
          exact W.iret (v := (-2)) hx hb hr (fun t ht hW => ⟨(-2), rfl, ⟨trivial, hQ⟩, ht⟩) t_nil d_Md_fareOf_123
      · have hQ := hQ.2 c_4
        refine lv_iload hx hb d_Md_fareOf_59 (lv_at hl 7 rfl) ?_
        refine lv_if_ge (tgt := 116) hx hb d_Md_fareOf_61 (by decide) (fun c_89 => ?_) (fun c_89 => ?_)
        · have hQ := hQ.1 c_89
          have cut_90 : ∀ (n_90 : Nat) (v9_90 v12_90 : Int32) (ls : Array Slot), ¬ (v12_90 < 0) → ¬ (12 < v12_90) → (12 : Int32).toInt - (v12_90 : Int32).toInt ≤ (n_90 : Int) → wpL_Md_fareOf_w_199_90 L f q0 p_0 p_1 p_2 p_3 p_4 p_5 v7_1 v8_1 v9_1 v10_1 rec_1 q_2 x_3 Q n_90 v9_90 v12_90 → lv_has ls 13 [(0, .ref q0), (1, .int p_0), (4, .int p_3), (5, .int p_4), (6, .int p_5), (9, .int v9_90), (12, .int v12_90)] → W p l e (headSpec (.code y_Md_fareOf b_Md_fareOf 13 (some .int) :: TB) ({ frames := 2, cells := 0, slots := 0, locals := 44 })).room s m [.ref q0, .int p_0, .int p_1, .int p_2, .int p_3, .int p_4, .int p_5].toArray below meth c s.heap [] 0 0 (MQ below (vp_Si (fun r => (True) ∧ Q r)) [.ref q0, .int p_0, .int p_1, .int p_2, .int p_3, .int p_4, .int p_5].toArray s 0 0 (fun _ => False)) (F0 m 199 ls []) := by
            intro n_90
            induction n_90 using Nat.strongRecOn with
            | _ n_90 ih_90 =>
              intro v9_90 v12_90 ls iv0_90 iv1_90 hm_90 hQ hl
              rw [wpL_Md_fareOf_w_199_90_eq] at hQ
              obtain ⟨rec_90, hrec_90⟩ : ∃ g, wpR_Md_fareOf_w_199_90 L f q0 p_0 p_1 p_2 p_3 p_4 p_5 v7_1 v8_1 v9_1 v10_1 rec_1 q_2 x_3 Q n_90 = g := ⟨_, rfl⟩
              rw [hrec_90] at hQ
              unfold wpB_Md_fareOf_w_199_90 at hQ
              refine lv_iload hx hb d_Md_fareOf_199 (lv_at hl 6 rfl) ?_
              refine lv_aload_n hx hb d_Md_fareOf_201 rfl (lv_at hl 0 rfl) ?_
              refine tw_getr (D := (dC, dI)) (C := R_Md) (T := F_Md) (N := 64) (ci := 7) (kd := 27) (ct := ct) hx hb htb i_Md hown hK hP hO_0 m0 rfl rfl 36 (by decide) (htb (.fieldLink R_Md 131 "WaterMenModel" "hours" "[I") tw_335) (fun _ h9 => h9) rfl d_Md_fareOf_202 (fun q_91 e_91 m_91 => ?_)
              have hQ := hQ q_91 e_91
              refine lv_iload_n hx hb d_Md_fareOf_205 rfl (lv_at hl 1 rfl) ?_
              refine tw_aldI (ct := ct) hx hb hK hP hO_0 m_91 rfl (hb_inl as_0 as_1 (by decide +kernel)) d_Md_fareOf_206 (fun x_92 e_92 b_92 => ?_)
              have hQ := hQ x_92 e_92
              refine lv_icmp_ge (tgt := 267) hx hb d_Md_fareOf_207 (by decide) (fun c_93 => ?_) (fun c_93 => ?_)
              · have hQ := hQ.1 c_93
                refine lv_iload hx hb d_Md_fareOf_267 (lv_at hl 2 rfl) ?_
                refine lv_bipush (v := 7) hx hb d_Md_fareOf_269 (by decide +kernel) ?_
                refine lv_irem hx hb d_Md_fareOf_271 (by decide) ?_
                refine hb_remn (c := 7) (C1 := 6) (K := 2147483640) (by decide +kernel) (by decide +kernel) (by decide +kernel) as_6 (show ¬ (2147483640 < p_3) from by have e0 := as_6; rw [Int32.lt_iff_toInt_lt] at e0; have e1 := as_7; rw [Int32.lt_iff_toInt_lt] at e1; have z0 : (0 : Int32).toInt = 0 := (by decide +kernel); have z1 : (499 : Int32).toInt = 499 := (by decide +kernel); have z2 : (2147483640 : Int32).toInt = 2147483640 := (by decide +kernel); rw [Int32.lt_iff_toInt_lt]; omega) (fun y_94 qu_94 g1_94 g2_94 g3_94 g4_94 g5_94 g9_94 => ?_)
                have hQ := hQ y_94 g9_94
                refine lv_if_ne (tgt := 299) hx hb d_Md_fareOf_272 (by decide) (fun c_95 => ?_) (fun c_95 => ?_)
                · have hQ := hQ.2 c_95
                  refine lv_iload hx hb d_Md_fareOf_299 (lv_at hl 4 rfl) ?_
                  refine lv_iconst (v := 2) hx hb d_Md_fareOf_301 (by decide +kernel) ?_
                  refine lv_icmp_ne (tgt := 329) hx hb d_Md_fareOf_302 (by decide) (fun c_96 => ?_) (fun c_96 => ?_)
                  · have hQ := hQ.2 c_96
                    refine lv_aload_n hx hb d_Md_fareOf_329 rfl (lv_at hl 0 rfl) ?_
                    refine lv_iload_n hx hb d_Md_fareOf_330 rfl (lv_at hl 1 rfl) ?_
                    refine lv_bipush (v := 15) hx hb d_Md_fareOf_331 (by decide +kernel) ?_
                    refine vp_callSi (va_Run.run (va_runV (As := [.int p_0, .int 15]) (rest := []) ⟨hx, hb, hml, hown, htb⟩ (c_Md_lineOf_w l dC dI ct L f hO_0 q0 m0 p_0 (15 : Int32) as_0 as_1 (by decide +kernel) (by decide +kernel) _ hQ) (cwV 2 htb (gd_V tw_443 tw_444 tw_445 tw_89 tw_442) rfl rfl rfl (by decide +kernel) ⟨Nat.le_of_ble_eq_true rfl, Nat.le_of_ble_eq_true rfl⟩) ⟨pr_blind, tw_recv hK hP m0 rfl rfl, pr_pre hP hK hN⟩ rfl rfl hl.1 rfl (lv_room (Nat.le_of_ble_eq_true rfl)) d_Md_fareOf_333 ⟨Nat.le_of_ble_eq_true rfl, Nat.le_of_ble_eq_true rfl⟩)) (fun r_97 er_97 => ?_)
                    obtain ⟨er_97, hQ⟩ := er_97
                    clear er_97
                    refine lv_iload hx hb d_Md_fareOf_336 (lv_at hl 5 rfl) ?_
                    refine lv_icmp_le (tgt := 351) hx hb d_Md_fareOf_338 (by decide) (fun c_98 => ?_) (fun c_98 => ?_)
                    · have hQ := hQ.1 c_98
                      refine lv_iload hx hb d_Md_fareOf_351 (lv_at hl 5 rfl) ?_
                      exact W.iret (v := v9_90) hx hb hr (fun t ht hW => ⟨v9_90, rfl, ⟨trivial, hQ⟩, ht⟩) t_nil d_Md_fareOf_353
                    · have hQ := hQ.2 c_98
                      refine lv_aload_n hx hb d_Md_fareOf_341 rfl (lv_at hl 0 rfl) ?_
                      refine lv_iload_n hx hb d_Md_fareOf_342 rfl (lv_at hl 1 rfl) ?_
                      refine lv_bipush (v := 15) hx hb d_Md_fareOf_343 (by decide +kernel) ?_
                      refine vp_callSi (va_Run.run (va_runV (As := [.int p_0, .int 15]) (rest := []) ⟨hx, hb, hml, hown, htb⟩ (c_Md_lineOf_w l dC dI ct L f hO_0 q0 m0 p_0 (15 : Int32) as_0 as_1 (by decide +kernel) (by decide +kernel) _ hQ) (cwV 2 htb (gd_V tw_443 tw_444 tw_445 tw_89 tw_442) rfl rfl rfl (by decide +kernel) ⟨Nat.le_of_ble_eq_true rfl, Nat.le_of_ble_eq_true rfl⟩) ⟨pr_blind, tw_recv hK hP m0 rfl rfl, pr_pre hP hK hN⟩ rfl rfl hl.1 rfl (lv_room (Nat.le_of_ble_eq_true rfl)) d_Md_fareOf_345 ⟨Nat.le_of_ble_eq_true rfl, Nat.le_of_ble_eq_true rfl⟩)) (fun r_99 er_99 => ?_)
                      obtain ⟨er_99, hQ⟩ := er_99
                      clear er_99
                      refine lv_goto (tgt := 353) hx hb d_Md_fareOf_348 (by decide) ?_
                      exact W.iret (v := r_99) hx hb hr (fun t ht hW => ⟨r_99, rfl, ⟨trivial, hQ⟩, ht⟩) t_nil d_Md_fareOf_353
                  · have hQ := hQ.1 c_96
                    refine lv_aload_n hx hb d_Md_fareOf_305 rfl (lv_at hl 0 rfl) ?_
                    refine lv_iload_n hx hb d_Md_fareOf_306 rfl (lv_at hl 1 rfl) ?_
                    refine lv_bipush (v := 18) hx hb d_Md_fareOf_307 (by decide +kernel) ?_
                    refine vp_callSi (va_Run.run (va_runV (As := [.int p_0, .int 18]) (rest := []) ⟨hx, hb, hml, hown, htb⟩ (c_Md_lineOf_w l dC dI ct L f hO_0 q0 m0 p_0 (18 : Int32) as_0 as_1 (by decide +kernel) (by decide +kernel) _ hQ) (cwV 2 htb (gd_V tw_443 tw_444 tw_445 tw_89 tw_442) rfl rfl rfl (by decide +kernel) ⟨Nat.le_of_ble_eq_true rfl, Nat.le_of_ble_eq_true rfl⟩) ⟨pr_blind, tw_recv hK hP m0 rfl rfl, pr_pre hP hK hN⟩ rfl rfl hl.1 rfl (lv_room (Nat.le_of_ble_eq_true rfl)) d_Md_fareOf_309 ⟨Nat.le_of_ble_eq_true rfl, Nat.le_of_ble_eq_true rfl⟩)) (fun r_100 er_100 => ?_)
                    obtain ⟨er_100, hQ⟩ := er_100
                    clear er_100
                    refine lv_if_lt (tgt := 329) hx hb d_Md_fareOf_312 (by decide) (fun c_101 => ?_) (fun c_101 => ?_)
                    · have hQ := hQ.1 c_101
                      refine lv_aload_n hx hb d_Md_fareOf_329 rfl (lv_at hl 0 rfl) ?_
                      refine lv_iload_n hx hb d_Md_fareOf_330 rfl (lv_at hl 1 rfl) ?_
                      refine lv_bipush (v := 15) hx hb d_Md_fareOf_331 (by decide +kernel) ?_
                      refine vp_callSi (va_Run.run (va_runV (As := [.int p_0, .int 15]) (rest := []) ⟨hx, hb, hml, hown, htb⟩ (c_Md_lineOf_w l dC dI ct L f hO_0 q0 m0 p_0 (15 : Int32) as_0 as_1 (by decide +kernel) (by decide +kernel) _ hQ) (cwV 2 htb (gd_V tw_443 tw_444 tw_445 tw_89 tw_442) rfl rfl rfl (by decide +kernel) ⟨Nat.le_of_ble_eq_true rfl, Nat.le_of_ble_eq_true rfl⟩) ⟨pr_blind, tw_recv hK hP m0 rfl rfl, pr_pre hP hK hN⟩ rfl rfl hl.1 rfl (lv_room (Nat.le_of_ble_eq_true rfl)) d_Md_fareOf_333 ⟨Nat.le_of_ble_eq_true rfl, Nat.le_of_ble_eq_true rfl⟩)) (fun r_102 er_102 => ?_)
                      obtain ⟨er_102, hQ⟩ := er_102
                      clear er_102
                      refine lv_iload hx hb d_Md_fareOf_336 (lv_at hl 5 rfl) ?_
                      refine lv_icmp_le (tgt := 351) hx hb d_Md_fareOf_338 (by decide) (fun c_103 => ?_) (fun c_103 => ?_)
                      · have hQ := hQ.1 c_103
                        refine lv_iload hx hb d_Md_fareOf_351 (lv_at hl 5 rfl) ?_
                        exact W.iret (v := v9_90) hx hb hr (fun t ht hW => ⟨v9_90, rfl, ⟨trivial, hQ⟩, ht⟩) t_nil d_Md_fareOf_353
                      · have hQ := hQ.2 c_103
                        refine lv_aload_n hx hb d_Md_fareOf_341 rfl (lv_at hl 0 rfl) ?_
                        refine lv_iload_n hx hb d_Md_fareOf_342 rfl (lv_at hl 1 rfl) ?_
                        refine lv_bipush (v := 15) hx hb d_Md_fareOf_343 (by decide +kernel) ?_
                        refine vp_callSi (va_Run.run (va_runV (As := [.int p_0, .int 15]) (rest := []) ⟨hx, hb, hml, hown, htb⟩ (c_Md_lineOf_w l dC dI ct L f hO_0 q0 m0 p_0 (15 : Int32) as_0 as_1 (by decide +kernel) (by decide +kernel) _ hQ) (cwV 2 htb (gd_V tw_443 tw_444 tw_445 tw_89 tw_442) rfl rfl rfl (by decide +kernel) ⟨Nat.le_of_ble_eq_true rfl, Nat.le_of_ble_eq_true rfl⟩) ⟨pr_blind, tw_recv hK hP m0 rfl rfl, pr_pre hP hK hN⟩ rfl rfl hl.1 rfl (lv_room (Nat.le_of_ble_eq_true rfl)) d_Md_fareOf_345 ⟨Nat.le_of_ble_eq_true rfl, Nat.le_of_ble_eq_true rfl⟩)) (fun r_104 er_104 => ?_)
                        obtain ⟨er_104, hQ⟩ := er_104
                        clear er_104
                        refine lv_goto (tgt := 353) hx hb d_Md_fareOf_348 (by decide) ?_
                        exact W.iret (v := r_104) hx hb hr (fun t ht hW => ⟨r_104, rfl, ⟨trivial, hQ⟩, ht⟩) t_nil d_Md_fareOf_353
                    · have hQ := hQ.2 c_101
                      refine lv_iload hx hb d_Md_fareOf_315 (lv_at hl 5 rfl) ?_
                      refine lv_aload_n hx hb d_Md_fareOf_317 rfl (lv_at hl 0 rfl) ?_
                      refine lv_iload_n hx hb d_Md_fareOf_318 rfl (lv_at hl 1 rfl) ?_
                      refine lv_bipush (v := 18) hx hb d_Md_fareOf_319 (by decide +kernel) ?_
                      refine vp_callSi (va_Run.run (va_runV (As := [.int p_0, .int 18]) (rest := [.int v9_90]) ⟨hx, hb, hml, hown, htb⟩ (c_Md_lineOf_w l dC dI ct L f hO_0 q0 m0 p_0 (18 : Int32) as_0 as_1 (by decide +kernel) (by decide +kernel) _ hQ) (cwV 2 htb (gd_V tw_443 tw_444 tw_445 tw_89 tw_442) rfl rfl rfl (by decide +kernel) ⟨Nat.le_of_ble_eq_true rfl, Nat.le_of_ble_eq_true rfl⟩) ⟨pr_blind, tw_recv hK hP m0 rfl rfl, pr_pre hP hK hN⟩ rfl rfl hl.1 rfl (lv_room (Nat.le_of_ble_eq_true rfl)) d_Md_fareOf_321 ⟨Nat.le_of_ble_eq_true rfl, Nat.le_of_ble_eq_true rfl⟩)) (fun r_105 er_105 => ?_)
                      obtain ⟨er_105, hQ⟩ := er_105
                      clear er_105
                      refine vp_callSi (va_Run.run (va_runS (As := [.int v9_90, .int r_105]) (rest := []) ⟨hx, hb, hml, hown, htb⟩ (c_Md_by_w l dC dI ct L f hO_0 v9_90 r_105 _ hQ) (cwS 2 htb (gd_S tw_450 tw_451 tw_89 tw_449) rfl rfl rfl (by decide +kernel) ⟨Nat.le_of_ble_eq_true rfl, Nat.le_of_ble_eq_true rfl⟩) ⟨pr_blind, pr_pre hP hK hN⟩ rfl rfl hl.1 rfl (lv_room (Nat.le_of_ble_eq_true rfl)) d_Md_fareOf_324 ⟨Nat.le_of_ble_eq_true rfl, Nat.le_of_ble_eq_true rfl⟩)) (fun r_106 er_106 => ?_)
                      obtain ⟨er_106, hQ⟩ := er_106
                      clear er_106
                      refine lv_istore (lv' := [(9, .int r_106), (0, .ref q0), (1, .int p_0), (4, .int p_3), (5, .int p_4), (6, .int p_5), (12, .int v12_90)]) hx hb d_Md_fareOf_327 hl (by decide) rfl (fun ls hl => ?_)
                      refine lv_aload_n hx hb d_Md_fareOf_329 rfl (lv_at hl 1 rfl) ?_
                      refine lv_iload_n hx hb d_Md_fareOf_330 rfl (lv_at hl 2 rfl) ?_
                      refine lv_bipush (v := 15) hx hb d_Md_fareOf_331 (by decide +kernel) ?_
                      refine vp_callSi (va_Run.run (va_runV (As := [.int p_0, .int 15]) (rest := []) ⟨hx, hb, hml, hown, htb⟩ (c_Md_lineOf_w l dC dI ct L f hO_0 q0 m0 p_0 (15 : Int32) as_0 as_1 (by decide +kernel) (by decide +kernel) _ hQ) (cwV 2 htb (gd_V tw_443 tw_444 tw_445 tw_89 tw_442) rfl rfl rfl (by decide +kernel) ⟨Nat.le_of_ble_eq_true rfl, Nat.le_of_ble_eq_true rfl⟩) ⟨pr_blind, tw_recv hK hP m0 rfl rfl, pr_pre hP hK hN⟩ rfl rfl hl.1 rfl (lv_room (Nat.le_of_ble_eq_true rfl)) d_Md_fareOf_333 ⟨Nat.le_of_ble_eq_true rfl, Nat.le_of_ble_eq_true rfl⟩)) (fun r_107 er_107 => ?_)
                      obtain ⟨er_107, hQ⟩ := er_107
                      clear er_107
                      refine lv_iload hx hb d_Md_fareOf_336 (lv_at hl 0 rfl) ?_
                      refine lv_icmp_le (tgt := 351) hx hb d_Md_fareOf_338 (by decide) (fun c_108 => ?_) (fun c_108 => ?_)
                      · have hQ := hQ.1 c_108
                        refine lv_iload hx hb d_Md_fareOf_351 (lv_at hl 0 rfl) ?_
                        exact W.iret (v := r_106) hx hb hr (fun t ht hW => ⟨r_106, rfl, ⟨trivial, hQ⟩, ht⟩) t_nil d_Md_fareOf_353
                      · have hQ := hQ.2 c_108
                        refine lv_aload_n hx hb d_Md_fareOf_341 rfl (lv_at hl 1 rfl) ?_
                        refine lv_iload_n hx hb d_Md_fareOf_342 rfl (lv_at hl 2 rfl) ?_
                        refine lv_bipush (v := 15) hx hb d_Md_fareOf_343 (by decide +kernel) ?_
                        refine vp_callSi (va_Run.run (va_runV (As := [.int p_0, .int 15]) (rest := []) ⟨hx, hb, hml, hown, htb⟩ (c_Md_lineOf_w l dC dI ct L f hO_0 q0 m0 p_0 (15 : Int32) as_0 as_1 (by decide +kernel) (by decide +kernel) _ hQ) (cwV 2 htb (gd_V tw_443 tw_444 tw_445 tw_89 tw_442) rfl rfl rfl (by decide +kernel) ⟨Nat.le_of_ble_eq_true rfl, Nat.le_of_ble_eq_true rfl⟩) ⟨pr_blind, tw_recv hK hP m0 rfl rfl, pr_pre hP hK hN⟩ rfl rfl hl.1 rfl (lv_room (Nat.le_of_ble_eq_true rfl)) d_Md_fareOf_345 ⟨Nat.le_of_ble_eq_true rfl, Nat.le_of_ble_eq_true rfl⟩)) (fun r_109 er_109 => ?_)
                        obtain ⟨er_109, hQ⟩ := er_109
                        clear er_109
                        refine lv_goto (tgt := 353) hx hb d_Md_fareOf_348 (by decide) ?_
                        exact W.iret (v := r_109) hx hb hr (fun t ht hW => ⟨r_109, rfl, ⟨trivial, hQ⟩, ht⟩) t_nil d_Md_fareOf_353
                · have hQ := hQ.1 c_95
                  refine lv_aload_n hx hb d_Md_fareOf_275 rfl (lv_at hl 0 rfl) ?_
                  refine lv_iload_n hx hb d_Md_fareOf_276 rfl (lv_at hl 1 rfl) ?_
                  refine lv_bipush (v := 14) hx hb d_Md_fareOf_277 (by decide +kernel) ?_
                  refine vp_callSi (va_Run.run (va_runV (As := [.int p_0, .int 14]) (rest := []) ⟨hx, hb, hml, hown, htb⟩ (c_Md_lineOf_w l dC dI ct L f hO_0 q0 m0 p_0 (14 : Int32) as_0 as_1 (by decide +kernel) (by decide +kernel) _ hQ) (cwV 2 htb (gd_V tw_443 tw_444 tw_445 tw_89 tw_442) rfl rfl rfl (by decide +kernel) ⟨Nat.le_of_ble_eq_true rfl, Nat.le_of_ble_eq_true rfl⟩) ⟨pr_blind, tw_recv hK hP m0 rfl rfl, pr_pre hP hK hN⟩ rfl rfl hl.1 rfl (lv_room (Nat.le_of_ble_eq_true rfl)) d_Md_fareOf_279 ⟨Nat.le_of_ble_eq_true rfl, Nat.le_of_ble_eq_true rfl⟩)) (fun r_110 er_110 => ?_)
                  obtain ⟨er_110, hQ⟩ := er_110
                  clear er_110
                  refine lv_if_lt (tgt := 299) hx hb d_Md_fareOf_282 (by decide) (fun c_111 => ?_) (fun c_111 => ?_)
                  · have hQ := hQ.1 c_111
                    refine lv_iload hx hb d_Md_fareOf_299 (lv_at hl 4 rfl) ?_
                    refine lv_iconst (v := 2) hx hb d_Md_fareOf_301 (by decide +kernel) ?_
                    refine lv_icmp_ne (tgt := 329) hx hb d_Md_fareOf_302 (by decide) (fun c_112 => ?_) (fun c_112 => ?_)
                    · have hQ := hQ.2 c_112
                      refine lv_aload_n hx hb d_Md_fareOf_329 rfl (lv_at hl 0 rfl) ?_
                      refine lv_iload_n hx hb d_Md_fareOf_330 rfl (lv_at hl 1 rfl) ?_
                      refine lv_bipush (v := 15) hx hb d_Md_fareOf_331 (by decide +kernel) ?_
                      refine vp_callSi (va_Run.run (va_runV (As := [.int p_0, .int 15]) (rest := []) ⟨hx, hb, hml, hown, htb⟩ (c_Md_lineOf_w l dC dI ct L f hO_0 q0 m0 p_0 (15 : Int32) as_0 as_1 (by decide +kernel) (by decide +kernel) _ hQ) (cwV 2 htb (gd_V tw_443 tw_444 tw_445 tw_89 tw_442) rfl rfl rfl (by decide +kernel) ⟨Nat.le_of_ble_eq_true rfl, Nat.le_of_ble_eq_true rfl⟩) ⟨pr_blind, tw_recv hK hP m0 rfl rfl, pr_pre hP hK hN⟩ rfl rfl hl.1 rfl (lv_room (Nat.le_of_ble_eq_true rfl)) d_Md_fareOf_333 ⟨Nat.le_of_ble_eq_true rfl, Nat.le_of_ble_eq_true rfl⟩)) (fun r_113 er_113 => ?_)
                      obtain ⟨er_113, hQ⟩ := er_113
                      clear er_113
                      refine lv_iload hx hb d_Md_fareOf_336 (lv_at hl 5 rfl) ?_
                      refine lv_icmp_le (tgt := 351) hx hb d_Md_fareOf_338 (by decide) (fun c_114 => ?_) (fun c_114 => ?_)
                      · have hQ := hQ.1 c_114
                        refine lv_iload hx hb d_Md_fareOf_351 (lv_at hl 5 rfl) ?_
                        exact W.iret (v := v9_90) hx hb hr (fun t ht hW => ⟨v9_90, rfl, ⟨trivial, hQ⟩, ht⟩) t_nil d_Md_fareOf_353
                      · have hQ := hQ.2 c_114
                        refine lv_aload_n hx hb d_Md_fareOf_341 rfl (lv_at hl 0 rfl) ?_
                        refine lv_iload_n hx hb d_Md_fareOf_342 rfl (lv_at hl 1 rfl) ?_
                        refine lv_bipush (v := 15) hx hb d_Md_fareOf_343 (by decide +kernel) ?_
                        refine vp_callSi (va_Run.run (va_runV (As := [.int p_0, .int 15]) (rest := []) ⟨hx, hb, hml, hown, htb⟩ (c_Md_lineOf_w l dC dI ct L f hO_0 q0 m0 p_0 (15 : Int32) as_0 as_1 (by decide +kernel) (by decide +kernel) _ hQ) (cwV 2 htb (gd_V tw_443 tw_444 tw_445 tw_89 tw_442) rfl rfl rfl (by decide +kernel) ⟨Nat.le_of_ble_eq_true rfl, Nat.le_of_ble_eq_true rfl⟩) ⟨pr_blind, tw_recv hK hP m0 rfl rfl, pr_pre hP hK hN⟩ rfl rfl hl.1 rfl (lv_room (Nat.le_of_ble_eq_true rfl)) d_Md_fareOf_345 ⟨Nat.le_of_ble_eq_true rfl, Nat.le_of_ble_eq_true rfl⟩)) (fun r_115 er_115 => ?_)
                        obtain ⟨er_115, hQ⟩ := er_115
                        clear er_115
                        refine lv_goto (tgt := 353) hx hb d_Md_fareOf_348 (by decide) ?_
                        exact W.iret (v := r_115) hx hb hr (fun t ht hW => ⟨r_115, rfl, ⟨trivial, hQ⟩, ht⟩) t_nil d_Md_fareOf_353
                    · have hQ := hQ.1 c_112
                      refine lv_aload_n hx hb d_Md_fareOf_305 rfl (lv_at hl 0 rfl) ?_
                      refine lv_iload_n hx hb d_Md_fareOf_306 rfl (lv_at hl 1 rfl) ?_
                      refine lv_bipush (v := 18) hx hb d_Md_fareOf_307 (by decide +kernel) ?_
                      refine vp_callSi (va_Run.run (va_runV (As := [.int p_0, .int 18]) (rest := []) ⟨hx, hb, hml, hown, htb⟩ (c_Md_lineOf_w l dC dI ct L f hO_0 q0 m0 p_0 (18 : Int32) as_0 as_1 (by decide +kernel) (by decide +kernel) _ hQ) (cwV 2 htb (gd_V tw_443 tw_444 tw_445 tw_89 tw_442) rfl rfl rfl (by decide +kernel) ⟨Nat.le_of_ble_eq_true rfl, Nat.le_of_ble_eq_true rfl⟩) ⟨pr_blind, tw_recv hK hP m0 rfl rfl, pr_pre hP hK hN⟩ rfl rfl hl.1 rfl (lv_room (Nat.le_of_ble_eq_true rfl)) d_Md_fareOf_309 ⟨Nat.le_of_ble_eq_true rfl, Nat.le_of_ble_eq_true rfl⟩)) (fun r_116 er_116 => ?_)
                      obtain ⟨er_116, hQ⟩ := er_116
                      clear er_116
                      refine lv_if_lt (tgt := 329) hx hb d_Md_fareOf_312 (by decide) (fun c_117 => ?_) (fun c_117 => ?_)
                      · have hQ := hQ.1 c_117
                        refine lv_aload_n hx hb d_Md_fareOf_329 rfl (lv_at hl 0 rfl) ?_
                        refine lv_iload_n hx hb d_Md_fareOf_330 rfl (lv_at hl 1 rfl) ?_
                        refine lv_bipush (v := 15) hx hb d_Md_fareOf_331 (by decide +kernel) ?_
                        refine vp_callSi (va_Run.run (va_runV (As := [.int p_0, .int 15]) (rest := []) ⟨hx, hb, hml, hown, htb⟩ (c_Md_lineOf_w l dC dI ct L f hO_0 q0 m0 p_0 (15 : Int32) as_0 as_1 (by decide +kernel) (by decide +kernel) _ hQ) (cwV 2 htb (gd_V tw_443 tw_444 tw_445 tw_89 tw_442) rfl rfl rfl (by decide +kernel) ⟨Nat.le_of_ble_eq_true rfl, Nat.le_of_ble_eq_true rfl⟩) ⟨pr_blind, tw_recv hK hP m0 rfl rfl, pr_pre hP hK hN⟩ rfl rfl hl.1 rfl (lv_room (Nat.le_of_ble_eq_true rfl)) d_Md_fareOf_333 ⟨Nat.le_of_ble_eq_true rfl, Nat.le_of_ble_eq_true rfl⟩)) (fun r_118 er_118 => ?_)
                        obtain ⟨er_118, hQ⟩ := er_118
                        clear er_118
                        refine lv_iload hx hb d_Md_fareOf_336 (lv_at hl 5 rfl) ?_
                        refine lv_icmp_le (tgt := 351) hx hb d_Md_fareOf_338 (by decide) (fun c_119 => ?_) (fun c_119 => ?_)
                        · have hQ := hQ.1 c_119
                          refine lv_iload hx hb d_Md_fareOf_351 (lv_at hl 5 rfl) ?_
                          exact W.iret (v := v9_90) hx hb hr (fun t ht hW => ⟨v9_90, rfl, ⟨trivial, hQ⟩, ht⟩) t_nil d_Md_fareOf_353
                        · have hQ := hQ.2 c_119
                          refine lv_aload_n hx hb d_Md_fareOf_341 rfl (lv_at hl 0 rfl) ?_
                          refine lv_iload_n hx hb d_Md_fareOf_342 rfl (lv_at hl 1 rfl) ?_
                          refine lv_bipush (v := 15) hx hb d_Md_fareOf_343 (by decide +kernel) ?_
                          refine vp_callSi (va_Run.run (va_runV (As := [.int p_0, .int 15]) (rest := []) ⟨hx, hb, hml, hown, htb⟩ (c_Md_lineOf_w l dC dI ct L f hO_0 q0 m0 p_0 (15 : Int32) as_0 as_1 (by decide +kernel) (by decide +kernel) _ hQ) (cwV 2 htb (gd_V tw_443 tw_444 tw_445 tw_89 tw_442) rfl rfl rfl (by decide +kernel) ⟨Nat.le_of_ble_eq_true rfl, Nat.le_of_ble_eq_true rfl⟩) ⟨pr_blind, tw_recv hK hP m0 rfl rfl, pr_pre hP hK hN⟩ rfl rfl hl.1 rfl (lv_room (Nat.le_of_ble_eq_true rfl)) d_Md_fareOf_345 ⟨Nat.le_of_ble_eq_true rfl, Nat.le_of_ble_eq_true rfl⟩)) (fun r_120 er_120 => ?_)
                          obtain ⟨er_120, hQ⟩ := er_120
                          clear er_120
                          refine lv_goto (tgt := 353) hx hb d_Md_fareOf_348 (by decide) ?_
                          exact W.iret (v := r_120) hx hb hr (fun t ht hW => ⟨r_120, rfl, ⟨trivial, hQ⟩, ht⟩) t_nil d_Md_fareOf_353
                      · have hQ := hQ.2 c_117
                        refine lv_iload hx hb d_Md_fareOf_315 (lv_at hl 5 rfl) ?_
                        refine lv_aload_n hx hb d_Md_fareOf_317 rfl (lv_at hl 0 rfl) ?_
                        refine lv_iload_n hx hb d_Md_fareOf_318 rfl (lv_at hl 1 rfl) ?_
                        refine lv_bipush (v := 18) hx hb d_Md_fareOf_319 (by decide +kernel) ?_
                        refine vp_callSi (va_Run.run (va_runV (As := [.int p_0, .int 18]) (rest := [.int v9_90]) ⟨hx, hb, hml, hown, htb⟩ (c_Md_lineOf_w l dC dI ct L f hO_0 q0 m0 p_0 (18 : Int32) as_0 as_1 (by decide +kernel) (by decide +kernel) _ hQ) (cwV 2 htb (gd_V tw_443 tw_444 tw_445 tw_89 tw_442) rfl rfl rfl (by decide +kernel) ⟨Nat.le_of_ble_eq_true rfl, Nat.le_of_ble_eq_true rfl⟩) ⟨pr_blind, tw_recv hK hP m0 rfl rfl, pr_pre hP hK hN⟩ rfl rfl hl.1 rfl (lv_room (Nat.le_of_ble_eq_true rfl)) d_Md_fareOf_321 ⟨Nat.le_of_ble_eq_true rfl, Nat.le_of_ble_eq_true rfl⟩)) (fun r_121 er_121 => ?_)
                        obtain ⟨er_121, hQ⟩ := er_121
                        clear er_121
                        refine vp_callSi (va_Run.run (va_runS (As := [.int v9_90, .int r_121]) (rest := []) ⟨hx, hb, hml, hown, htb⟩ (c_Md_by_w l dC dI ct L f hO_0 v9_90 r_121 _ hQ) (cwS 2 htb (gd_S tw_450 tw_451 tw_89 tw_449) rfl rfl rfl (by decide +kernel) ⟨Nat.le_of_ble_eq_true rfl, Nat.le_of_ble_eq_true rfl⟩) ⟨pr_blind, pr_pre hP hK hN⟩ rfl rfl hl.1 rfl (lv_room (Nat.le_of_ble_eq_true rfl)) d_Md_fareOf_324 ⟨Nat.le_of_ble_eq_true rfl, Nat.le_of_ble_eq_true rfl⟩)) (fun r_122 er_122 => ?_)
                        obtain ⟨er_122, hQ⟩ := er_122
                        clear er_122
                        refine lv_istore (lv' := [(9, .int r_122), (0, .ref q0), (1, .int p_0), (4, .int p_3), (5, .int p_4), (6, .int p_5), (12, .int v12_90)]) hx hb d_Md_fareOf_327 hl (by decide) rfl (fun ls hl => ?_)
                        refine lv_aload_n hx hb d_Md_fareOf_329 rfl (lv_at hl 1 rfl) ?_
                        refine lv_iload_n hx hb d_Md_fareOf_330 rfl (lv_at hl 2 rfl) ?_
                        refine lv_bipush (v := 15) hx hb d_Md_fareOf_331 (by decide +kernel) ?_
                        refine vp_callSi (va_Run.run (va_runV (As := [.int p_0, .int 15]) (rest := []) ⟨hx, hb, hml, hown, htb⟩ (c_Md_lineOf_w l dC dI ct L f hO_0 q0 m0 p_0 (15 : Int32) as_0 as_1 (by decide +kernel) (by decide +kernel) _ hQ) (cwV 2 htb (gd_V tw_443 tw_444 tw_445 tw_89 tw_442) rfl rfl rfl (by decide +kernel) ⟨Nat.le_of_ble_eq_true rfl, Nat.le_of_ble_eq_true rfl⟩) ⟨pr_blind, tw_recv hK hP m0 rfl rfl, pr_pre hP hK hN⟩ rfl rfl hl.1 rfl (lv_room (Nat.le_of_ble_eq_true rfl)) d_Md_fareOf_333 ⟨Nat.le_of_ble_eq_true rfl, Nat.le_of_ble_eq_true rfl⟩)) (fun r_123 er_123 => ?_)
                        obtain ⟨er_123, hQ⟩ := er_123
                        clear er_123
                        refine lv_iload hx hb d_Md_fareOf_336 (lv_at hl 0 rfl) ?_
                        refine lv_icmp_le (tgt := 351) hx hb d_Md_fareOf_338 (by decide) (fun c_124 => ?_) (fun c_124 => ?_)
                        · have hQ := hQ.1 c_124
                          refine lv_iload hx hb d_Md_fareOf_351 (lv_at hl 0 rfl) ?_
                          exact W.iret (v := r_122) hx hb hr (fun t ht hW => ⟨r_122, rfl, ⟨trivial, hQ⟩, ht⟩) t_nil d_Md_fareOf_353
                        · have hQ := hQ.2 c_124
                          refine lv_aload_n hx hb d_Md_fareOf_341 rfl (lv_at hl 1 rfl) ?_
                          refine lv_iload_n hx hb d_Md_fareOf_342 rfl (lv_at hl 2 rfl) ?_
                          refine lv_bipush (v := 15) hx hb d_Md_fareOf_343 (by decide +kernel) ?_
                          refine vp_callSi (va_Run.run (va_runV (As := [.int p_0, .int 15]) (rest := []) ⟨hx, hb, hml, hown, htb⟩ (c_Md_lineOf_w l dC dI ct L f hO_0 q0 m0 p_0 (15 : Int32) as_0 as_1 (by decide +kernel) (by decide +kernel) _ hQ) (cwV 2 htb (gd_V tw_443 tw_444 tw_445 tw_89 tw_442) rfl rfl rfl (by decide +kernel) ⟨Nat.le_of_ble_eq_true rfl, Nat.le_of_ble_eq_true rfl⟩) ⟨pr_blind, tw_recv hK hP m0 rfl rfl, pr_pre hP hK hN⟩ rfl rfl hl.1 rfl (lv_room (Nat.le_of_ble_eq_true rfl)) d_Md_fareOf_345 ⟨Nat.le_of_ble_eq_true rfl, Nat.le_of_ble_eq_true rfl⟩)) (fun r_125 er_125 => ?_)
                          obtain ⟨er_125, hQ⟩ := er_125
                          clear er_125
                          refine lv_goto (tgt := 353) hx hb d_Md_fareOf_348 (by decide) ?_
                          exact W.iret (v := r_125) hx hb hr (fun t ht hW => ⟨r_125, rfl, ⟨trivial, hQ⟩, ht⟩) t_nil d_Md_fareOf_353
                  · have hQ := hQ.2 c_111
                    refine lv_iload hx hb d_Md_fareOf_285 (lv_at hl 5 rfl) ?_
                    refine lv_aload_n hx hb d_Md_fareOf_287 rfl (lv_at hl 0 rfl) ?_
                    refine lv_iload_n hx hb d_Md_fareOf_288 rfl (lv_at hl 1 rfl) ?_
                    refine lv_bipush (v := 14) hx hb d_Md_fareOf_289 (by decide +kernel) ?_
                    refine vp_callSi (va_Run.run (va_runV (As := [.int p_0, .int 14]) (rest := [.int v9_90]) ⟨hx, hb, hml, hown, htb⟩ (c_Md_lineOf_w l dC dI ct L f hO_0 q0 m0 p_0 (14 : Int32) as_0 as_1 (by decide +kernel) (by decide +kernel) _ hQ) (cwV 2 htb (gd_V tw_443 tw_444 tw_445 tw_89 tw_442) rfl rfl rfl (by decide +kernel) ⟨Nat.le_of_ble_eq_true rfl, Nat.le_of_ble_eq_true rfl⟩) ⟨pr_blind, tw_recv hK hP m0 rfl rfl, pr_pre hP hK hN⟩ rfl rfl hl.1 rfl (lv_room (Nat.le_of_ble_eq_true rfl)) d_Md_fareOf_291 ⟨Nat.le_of_ble_eq_true rfl, Nat.le_of_ble_eq_true rfl⟩)) (fun r_126 er_126 => ?_)
                    obtain ⟨er_126, hQ⟩ := er_126
                    clear er_126
                    refine vp_callSi (va_Run.run (va_runS (As := [.int v9_90, .int r_126]) (rest := []) ⟨hx, hb, hml, hown, htb⟩ (c_Md_by_w l dC dI ct L f hO_0 v9_90 r_126 _ hQ) (cwS 2 htb (gd_S tw_450 tw_451 tw_89 tw_449) rfl rfl rfl (by decide +kernel) ⟨Nat.le_of_ble_eq_true rfl, Nat.le_of_ble_eq_true rfl⟩) ⟨pr_blind, pr_pre hP hK hN⟩ rfl rfl hl.1 rfl (lv_room (Nat.le_of_ble_eq_true rfl)) d_Md_fareOf_294 ⟨Nat.le_of_ble_eq_true rfl, Nat.le_of_ble_eq_true rfl⟩)) (fun r_127 er_127 => ?_)
                    obtain ⟨er_127, hQ⟩ := er_127
                    clear er_127
                    refine lv_istore (lv' := [(9, .int r_127), (0, .ref q0), (1, .int p_0), (4, .int p_3), (5, .int p_4), (6, .int p_5), (12, .int v12_90)]) hx hb d_Md_fareOf_297 hl (by decide) rfl (fun ls hl => ?_)
                    refine lv_iload hx hb d_Md_fareOf_299 (lv_at hl 5 rfl) ?_
                    refine lv_iconst (v := 2) hx hb d_Md_fareOf_301 (by decide +kernel) ?_
                    refine lv_icmp_ne (tgt := 329) hx hb d_Md_fareOf_302 (by decide) (fun c_128 => ?_) (fun c_128 => ?_)
                    · have hQ := hQ.2 c_128
                      refine lv_aload_n hx hb d_Md_fareOf_329 rfl (lv_at hl 1 rfl) ?_
                      refine lv_iload_n hx hb d_Md_fareOf_330 rfl (lv_at hl 2 rfl) ?_
                      refine lv_bipush (v := 15) hx hb d_Md_fareOf_331 (by decide +kernel) ?_
                      refine vp_callSi (va_Run.run (va_runV (As := [.int p_0, .int 15]) (rest := []) ⟨hx, hb, hml, hown, htb⟩ (c_Md_lineOf_w l dC dI ct L f hO_0 q0 m0 p_0 (15 : Int32) as_0 as_1 (by decide +kernel) (by decide +kernel) _ hQ) (cwV 2 htb (gd_V tw_443 tw_444 tw_445 tw_89 tw_442) rfl rfl rfl (by decide +kernel) ⟨Nat.le_of_ble_eq_true rfl, Nat.le_of_ble_eq_true rfl⟩) ⟨pr_blind, tw_recv hK hP m0 rfl rfl, pr_pre hP hK hN⟩ rfl rfl hl.1 rfl (lv_room (Nat.le_of_ble_eq_true rfl)) d_Md_fareOf_333 ⟨Nat.le_of_ble_eq_true rfl, Nat.le_of_ble_eq_true rfl⟩)) (fun r_129 er_129 => ?_)
                      obtain ⟨er_129, hQ⟩ := er_129
                      clear er_129
                      refine lv_iload hx hb d_Md_fareOf_336 (lv_at hl 0 rfl) ?_
                      refine lv_icmp_le (tgt := 351) hx hb d_Md_fareOf_338 (by decide) (fun c_130 => ?_) (fun c_130 => ?_)
                      · have hQ := hQ.1 c_130
                        refine lv_iload hx hb d_Md_fareOf_351 (lv_at hl 0 rfl) ?_
                        exact W.iret (v := r_127) hx hb hr (fun t ht hW => ⟨r_127, rfl, ⟨trivial, hQ⟩, ht⟩) t_nil d_Md_fareOf_353
                      · have hQ := hQ.2 c_130
                        refine lv_aload_n hx hb d_Md_fareOf_341 rfl (lv_at hl 1 rfl) ?_
                        refine lv_iload_n hx hb d_Md_fareOf_342 rfl (lv_at hl 2 rfl) ?_
                        refine lv_bipush (v := 15) hx hb d_Md_fareOf_343 (by decide +kernel) ?_
                        refine vp_callSi (va_Run.run (va_runV (As := [.int p_0, .int 15]) (rest := []) ⟨hx, hb, hml, hown, htb⟩ (c_Md_lineOf_w l dC dI ct L f hO_0 q0 m0 p_0 (15 : Int32) as_0 as_1 (by decide +kernel) (by decide +kernel) _ hQ) (cwV 2 htb (gd_V tw_443 tw_444 tw_445 tw_89 tw_442) rfl rfl rfl (by decide +kernel) ⟨Nat.le_of_ble_eq_true rfl, Nat.le_of_ble_eq_true rfl⟩) ⟨pr_blind, tw_recv hK hP m0 rfl rfl, pr_pre hP hK hN⟩ rfl rfl hl.1 rfl (lv_room (Nat.le_of_ble_eq_true rfl)) d_Md_fareOf_345 ⟨Nat.le_of_ble_eq_true rfl, Nat.le_of_ble_eq_true rfl⟩)) (fun r_131 er_131 => ?_)
                        obtain ⟨er_131, hQ⟩ := er_131
                        clear er_131
                        refine lv_goto (tgt := 353) hx hb d_Md_fareOf_348 (by decide) ?_
                        exact W.iret (v := r_131) hx hb hr (fun t ht hW => ⟨r_131, rfl, ⟨trivial, hQ⟩, ht⟩) t_nil d_Md_fareOf_353
                    · have hQ := hQ.1 c_128
                      refine lv_aload_n hx hb d_Md_fareOf_305 rfl (lv_at hl 1 rfl) ?_
                      refine lv_iload_n hx hb d_Md_fareOf_306 rfl (lv_at hl 2 rfl) ?_
                      refine lv_bipush (v := 18) hx hb d_Md_fareOf_307 (by decide +kernel) ?_
                      refine vp_callSi (va_Run.run (va_runV (As := [.int p_0, .int 18]) (rest := []) ⟨hx, hb, hml, hown, htb⟩ (c_Md_lineOf_w l dC dI ct L f hO_0 q0 m0 p_0 (18 : Int32) as_0 as_1 (by decide +kernel) (by decide +kernel) _ hQ) (cwV 2 htb (gd_V tw_443 tw_444 tw_445 tw_89 tw_442) rfl rfl rfl (by decide +kernel) ⟨Nat.le_of_ble_eq_true rfl, Nat.le_of_ble_eq_true rfl⟩) ⟨pr_blind, tw_recv hK hP m0 rfl rfl, pr_pre hP hK hN⟩ rfl rfl hl.1 rfl (lv_room (Nat.le_of_ble_eq_true rfl)) d_Md_fareOf_309 ⟨Nat.le_of_ble_eq_true rfl, Nat.le_of_ble_eq_true rfl⟩)) (fun r_132 er_132 => ?_)
                      obtain ⟨er_132, hQ⟩ := er_132
                      clear er_132
                      refine lv_if_lt (tgt := 329) hx hb d_Md_fareOf_312 (by decide) (fun c_133 => ?_) (fun c_133 => ?_)
                      · have hQ := hQ.1 c_133
                        refine lv_aload_n hx hb d_Md_fareOf_329 rfl (lv_at hl 1 rfl) ?_
                        refine lv_iload_n hx hb d_Md_fareOf_330 rfl (lv_at hl 2 rfl) ?_
                        refine lv_bipush (v := 15) hx hb d_Md_fareOf_331 (by decide +kernel) ?_
                        refine vp_callSi (va_Run.run (va_runV (As := [.int p_0, .int 15]) (rest := []) ⟨hx, hb, hml, hown, htb⟩ (c_Md_lineOf_w l dC dI ct L f hO_0 q0 m0 p_0 (15 : Int32) as_0 as_1 (by decide +kernel) (by decide +kernel) _ hQ) (cwV 2 htb (gd_V tw_443 tw_444 tw_445 tw_89 tw_442) rfl rfl rfl (by decide +kernel) ⟨Nat.le_of_ble_eq_true rfl, Nat.le_of_ble_eq_true rfl⟩) ⟨pr_blind, tw_recv hK hP m0 rfl rfl, pr_pre hP hK hN⟩ rfl rfl hl.1 rfl (lv_room (Nat.le_of_ble_eq_true rfl)) d_Md_fareOf_333 ⟨Nat.le_of_ble_eq_true rfl, Nat.le_of_ble_eq_true rfl⟩)) (fun r_134 er_134 => ?_)
                        obtain ⟨er_134, hQ⟩ := er_134
                        clear er_134
                        refine lv_iload hx hb d_Md_fareOf_336 (lv_at hl 0 rfl) ?_
                        refine lv_icmp_le (tgt := 351) hx hb d_Md_fareOf_338 (by decide) (fun c_135 => ?_) (fun c_135 => ?_)
                        · have hQ := hQ.1 c_135
                          refine lv_iload hx hb d_Md_fareOf_351 (lv_at hl 0 rfl) ?_
                          exact W.iret (v := r_127) hx hb hr (fun t ht hW => ⟨r_127, rfl, ⟨trivial, hQ⟩, ht⟩) t_nil d_Md_fareOf_353
                        · have hQ := hQ.2 c_135
                          refine lv_aload_n hx hb d_Md_fareOf_341 rfl (lv_at hl 1 rfl) ?_
                          refine lv_iload_n hx hb d_Md_fareOf_342 rfl (lv_at hl 2 rfl) ?_
                          refine lv_bipush (v := 15) hx hb d_Md_fareOf_343 (by decide +kernel) ?_
                          refine vp_callSi (va_Run.run (va_runV (As := [.int p_0, .int 15]) (rest := []) ⟨hx, hb, hml, hown, htb⟩ (c_Md_lineOf_w l dC dI ct L f hO_0 q0 m0 p_0 (15 : Int32) as_0 as_1 (by decide +kernel) (by decide +kernel) _ hQ) (cwV 2 htb (gd_V tw_443 tw_444 tw_445 tw_89 tw_442) rfl rfl rfl (by decide +kernel) ⟨Nat.le_of_ble_eq_true rfl, Nat.le_of_ble_eq_true rfl⟩) ⟨pr_blind, tw_recv hK hP m0 rfl rfl, pr_pre hP hK hN⟩ rfl rfl hl.1 rfl (lv_room (Nat.le_of_ble_eq_true rfl)) d_Md_fareOf_345 ⟨Nat.le_of_ble_eq_true rfl, Nat.le_of_ble_eq_true rfl⟩)) (fun r_136 er_136 => ?_)
                          obtain ⟨er_136, hQ⟩ := er_136
                          clear er_136
                          refine lv_goto (tgt := 353) hx hb d_Md_fareOf_348 (by decide) ?_
                          exact W.iret (v := r_136) hx hb hr (fun t ht hW => ⟨r_136, rfl, ⟨trivial, hQ⟩, ht⟩) t_nil d_Md_fareOf_353
                      · have hQ := hQ.2 c_133
                        refine lv_iload hx hb d_Md_fareOf_315 (lv_at hl 0 rfl) ?_
                        refine lv_aload_n hx hb d_Md_fareOf_317 rfl (lv_at hl 1 rfl) ?_
                        refine lv_iload_n hx hb d_Md_fareOf_318 rfl (lv_at hl 2 rfl) ?_
                        refine lv_bipush (v := 18) hx hb d_Md_fareOf_319 (by decide +kernel) ?_
                        refine vp_callSi (va_Run.run (va_runV (As := [.int p_0, .int 18]) (rest := [.int r_127]) ⟨hx, hb, hml, hown, htb⟩ (c_Md_lineOf_w l dC dI ct L f hO_0 q0 m0 p_0 (18 : Int32) as_0 as_1 (by decide +kernel) (by decide +kernel) _ hQ) (cwV 2 htb (gd_V tw_443 tw_444 tw_445 tw_89 tw_442) rfl rfl rfl (by decide +kernel) ⟨Nat.le_of_ble_eq_true rfl, Nat.le_of_ble_eq_true rfl⟩) ⟨pr_blind, tw_recv hK hP m0 rfl rfl, pr_pre hP hK hN⟩ rfl rfl hl.1 rfl (lv_room (Nat.le_of_ble_eq_true rfl)) d_Md_fareOf_321 ⟨Nat.le_of_ble_eq_true rfl, Nat.le_of_ble_eq_true rfl⟩)) (fun r_137 er_137 => ?_)
                        obtain ⟨er_137, hQ⟩ := er_137
                        clear er_137
                        refine vp_callSi (va_Run.run (va_runS (As := [.int r_127, .int r_137]) (rest := []) ⟨hx, hb, hml, hown, htb⟩ (c_Md_by_w l dC dI ct L f hO_0 r_127 r_137 _ hQ) (cwS 2 htb (gd_S tw_450 tw_451 tw_89 tw_449) rfl rfl rfl (by decide +kernel) ⟨Nat.le_of_ble_eq_true rfl, Nat.le_of_ble_eq_true rfl⟩) ⟨pr_blind, pr_pre hP hK hN⟩ rfl rfl hl.1 rfl (lv_room (Nat.le_of_ble_eq_true rfl)) d_Md_fareOf_324 ⟨Nat.le_of_ble_eq_true rfl, Nat.le_of_ble_eq_true rfl⟩)) (fun r_138 er_138 => ?_)
                        obtain ⟨er_138, hQ⟩ := er_138
                        clear er_138
                        refine lv_istore (lv' := [(9, .int r_138), (0, .ref q0), (1, .int p_0), (4, .int p_3), (5, .int p_4), (6, .int p_5), (12, .int v12_90)]) hx hb d_Md_fareOf_327 hl (by decide) rfl (fun ls hl => ?_)
                        refine lv_aload_n hx hb d_Md_fareOf_329 rfl (lv_at hl 1 rfl) ?_
                        refine lv_iload_n hx hb d_Md_fareOf_330 rfl (lv_at hl 2 rfl) ?_
                        refine lv_bipush (v := 15) hx hb d_Md_fareOf_331 (by decide +kernel) ?_
                        refine vp_callSi (va_Run.run (va_runV (As := [.int p_0, .int 15]) (rest := []) ⟨hx, hb, hml, hown, htb⟩ (c_Md_lineOf_w l dC dI ct L f hO_0 q0 m0 p_0 (15 : Int32) as_0 as_1 (by decide +kernel) (by decide +kernel) _ hQ) (cwV 2 htb (gd_V tw_443 tw_444 tw_445 tw_89 tw_442) rfl rfl rfl (by decide +kernel) ⟨Nat.le_of_ble_eq_true rfl, Nat.le_of_ble_eq_true rfl⟩) ⟨pr_blind, tw_recv hK hP m0 rfl rfl, pr_pre hP hK hN⟩ rfl rfl hl.1 rfl (lv_room (Nat.le_of_ble_eq_true rfl)) d_Md_fareOf_333 ⟨Nat.le_of_ble_eq_true rfl, Nat.le_of_ble_eq_true rfl⟩)) (fun r_139 er_139 => ?_)
                        obtain ⟨er_139, hQ⟩ := er_139
                        clear er_139
                        refine lv_iload hx hb d_Md_fareOf_336 (lv_at hl 0 rfl) ?_
                        refine lv_icmp_le (tgt := 351) hx hb d_Md_fareOf_338 (by decide) (fun c_140 => ?_) (fun c_140 => ?_)
                        · have hQ := hQ.1 c_140
                          refine lv_iload hx hb d_Md_fareOf_351 (lv_at hl 0 rfl) ?_
                          exact W.iret (v := r_138) hx hb hr (fun t ht hW => ⟨r_138, rfl, ⟨trivial, hQ⟩, ht⟩) t_nil d_Md_fareOf_353
                        · have hQ := hQ.2 c_140
                          refine lv_aload_n hx hb d_Md_fareOf_341 rfl (lv_at hl 1 rfl) ?_
                          refine lv_iload_n hx hb d_Md_fareOf_342 rfl (lv_at hl 2 rfl) ?_
                          refine lv_bipush (v := 15) hx hb d_Md_fareOf_343 (by decide +kernel) ?_
                          refine vp_callSi (va_Run.run (va_runV (As := [.int p_0, .int 15]) (rest := []) ⟨hx, hb, hml, hown, htb⟩ (c_Md_lineOf_w l dC dI ct L f hO_0 q0 m0 p_0 (15 : Int32) as_0 as_1 (by decide +kernel) (by decide +kernel) _ hQ) (cwV 2 htb (gd_V tw_443 tw_444 tw_445 tw_89 tw_442) rfl rfl rfl (by decide +kernel) ⟨Nat.le_of_ble_eq_true rfl, Nat.le_of_ble_eq_true rfl⟩) ⟨pr_blind, tw_recv hK hP m0 rfl rfl, pr_pre hP hK hN⟩ rfl rfl hl.1 rfl (lv_room (Nat.le_of_ble_eq_true rfl)) d_Md_fareOf_345 ⟨Nat.le_of_ble_eq_true rfl, Nat.le_of_ble_eq_true rfl⟩)) (fun r_141 er_141 => ?_)
                          obtain ⟨er_141, hQ⟩ := er_141
                          clear er_141
                          refine lv_goto (tgt := 353) hx hb d_Md_fareOf_348 (by decide) ?_
                          exact W.iret (v := r_141) hx hb hr (fun t ht hW => ⟨r_141, rfl, ⟨trivial, hQ⟩, ht⟩) t_nil d_Md_fareOf_353
              · have hQ := hQ.2 c_93
                refine lv_iload hx hb d_Md_fareOf_210 (lv_at hl 3 rfl) ?_
                refine lv_aload_n hx hb d_Md_fareOf_212 rfl (lv_at hl 0 rfl) ?_
                refine tw_getr (D := (dC, dI)) (C := R_Md) (T := F_Md) (N := 64) (ci := 7) (kd := 27) (ct := ct) hx hb htb i_Md hown hK hP hO_0 m0 rfl rfl 37 (by decide) (htb (.fieldLink R_Md 134 "WaterMenModel" "hourLow" "[I") tw_375) (fun _ h9 => h9) rfl d_Md_fareOf_213 (fun q_142 e_142 m_142 => ?_)
                have hQ := hQ q_142 e_142
                refine lv_bipush (v := 12) hx hb d_Md_fareOf_216 (by decide +kernel) ?_
                refine lv_iload_n hx hb d_Md_fareOf_218 rfl (lv_at hl 1 rfl) ?_
                refine lv_imul hx hb d_Md_fareOf_219 ?_
                refine lv_iload hx hb d_Md_fareOf_220 (lv_at hl 6 rfl) ?_
                refine lv_iadd hx hb d_Md_fareOf_222 ?_
                refine tw_aldI (ct := ct) hx hb hK hP hO_0 m_142 rfl ((fun (a_0 : Int32) (a_1 : Int32) (a_2 : Int32) (k_0 : ¬ (a_0 < 0)) (k_1 : ¬ (19 < a_0)) (k_2 : ¬ (a_1 < 0)) (k_3 : ¬ (a_2 ≤ a_1)) (k_4 : ¬ (12 < a_2)) => (show vp_in (((12 * a_0) + a_1)) 240 from by have z0 : (0 : Int32).toInt = 0 := (by decide +kernel); have z1 : (12 : Int32).toInt = 12 := (by decide +kernel); have z2 : (19 : Int32).toInt = 19 := (by decide +kernel); have r0 := fb_rng (a_0); have r1 := fb_rng (a_1); have r2 := fb_rng (a_2); have e0 := k_0; rw [Int32.lt_iff_toInt_lt, z0] at e0; have e1 := k_1; rw [Int32.lt_iff_toInt_lt, z2] at e1; have e2 := k_2; rw [Int32.lt_iff_toInt_lt, z0] at e2; have e3 := k_3; rw [Int32.le_iff_toInt_le] at e3; have e4 := k_4; rw [Int32.lt_iff_toInt_lt, z1] at e4; obtain ⟨n_0, hn_0, s0⟩ := nd_mul (x := (12 : Int32)) (y := (a_0)) (by (try rw [z1]); omega) (by (try rw [z1]); omega); rw [z1] at s0; obtain ⟨n_1, hn_1, s1⟩ := nd_add (x := n_0) (y := (a_1)) (by omega) (by omega); rw [hn_0, hn_1, vp_in_iff]; omega)) p_0 v12_90 x_92 as_0 as_1 iv0_90 c_93 b_92.2) d_Md_fareOf_223 (fun x_143 e_143 b_143 => ?_)
                have hQ := hQ x_143 e_143
                refine lv_aload_n hx hb d_Md_fareOf_224 rfl (lv_at hl 0 rfl) ?_
                refine tw_getr (D := (dC, dI)) (C := R_Md) (T := F_Md) (N := 64) (ci := 7) (kd := 27) (ct := ct) hx hb htb i_Md hown hK hP hO_0 m0 rfl rfl 38 (by decide) (htb (.fieldLink R_Md 137 "WaterMenModel" "hourHigh" "[I") tw_376) (fun _ h9 => h9) rfl d_Md_fareOf_225 (fun q_144 e_144 m_144 => ?_)
                have hQ := hQ q_144 e_144
                refine lv_bipush (v := 12) hx hb d_Md_fareOf_228 (by decide +kernel) ?_
                refine lv_iload_n hx hb d_Md_fareOf_230 rfl (lv_at hl 1 rfl) ?_
                refine lv_imul hx hb d_Md_fareOf_231 ?_
                refine lv_iload hx hb d_Md_fareOf_232 (lv_at hl 6 rfl) ?_
                refine lv_iadd hx hb d_Md_fareOf_234 ?_
                refine tw_aldI (ct := ct) hx hb hK hP hO_0 m_144 rfl ((fun (a_0 : Int32) (a_1 : Int32) (a_2 : Int32) (k_0 : ¬ (a_0 < 0)) (k_1 : ¬ (19 < a_0)) (k_2 : ¬ (a_1 < 0)) (k_3 : ¬ (a_2 ≤ a_1)) (k_4 : ¬ (12 < a_2)) => (show vp_in (((12 * a_0) + a_1)) 240 from by have z0 : (0 : Int32).toInt = 0 := (by decide +kernel); have z1 : (12 : Int32).toInt = 12 := (by decide +kernel); have z2 : (19 : Int32).toInt = 19 := (by decide +kernel); have r0 := fb_rng (a_0); have r1 := fb_rng (a_1); have r2 := fb_rng (a_2); have e0 := k_0; rw [Int32.lt_iff_toInt_lt, z0] at e0; have e1 := k_1; rw [Int32.lt_iff_toInt_lt, z2] at e1; have e2 := k_2; rw [Int32.lt_iff_toInt_lt, z0] at e2; have e3 := k_3; rw [Int32.le_iff_toInt_le] at e3; have e4 := k_4; rw [Int32.lt_iff_toInt_lt, z1] at e4; obtain ⟨n_0, hn_0, s0⟩ := nd_mul (x := (12 : Int32)) (y := (a_0)) (by (try rw [z1]); omega) (by (try rw [z1]); omega); rw [z1] at s0; obtain ⟨n_1, hn_1, s1⟩ := nd_add (x := n_0) (y := (a_1)) (by omega) (by omega); rw [hn_0, hn_1, vp_in_iff]; omega)) p_0 v12_90 x_92 as_0 as_1 iv0_90 c_93 b_92.2) d_Md_fareOf_235 (fun x_145 e_145 b_145 => ?_)
                have hQ := hQ x_145 e_145
                refine vp_callSi (va_Run.run (va_runS (As := [.int p_4, .int x_143, .int x_145]) (rest := []) ⟨hx, hb, hml, hown, htb⟩ (c_Md_in l p_4 x_143 x_145) (cwS 3 htb (gd_S tw_90 tw_91 tw_89 tw_88) rfl rfl rfl (by decide +kernel) ⟨Nat.le_of_ble_eq_true rfl, Nat.le_of_ble_eq_true rfl⟩) ⟨fun _ _ _ _ h => h, fun U _ _ => ⟨rfl, trivial⟩⟩ rfl rfl hl.1 rfl (lv_room (Nat.le_of_ble_eq_true rfl)) d_Md_fareOf_236 ⟨Nat.le_of_ble_eq_true rfl, Nat.le_of_ble_eq_true rfl⟩)) (fun r er => ?_)
                subst er
                by_cases c_147 : p_4 < x_143
                · have hQ := hQ.1 c_147
                  refine hb_ti 0 (by unfold f_Md_in; rw [if_pos c_147]; first | done | rfl) ?_
                  refine lv_if_eq (tgt := 261) hx hb d_Md_fareOf_239 (by decide) (fun _ => ?_) (fun h => absurd (by decide +kernel) h)
                  refine lv_iinc (v := (v12_90 + 1)) (lv' := [(12, .int (v12_90 + 1)), (0, .ref q0), (1, .int p_0), (4, .int p_3), (5, .int p_4), (6, .int p_5), (9, .int v9_90)]) hx hb d_Md_fareOf_261 hl (k := 6) rfl rfl (by decide) rfl (fun ls hl => ?_)
                  refine lv_goto (tgt := 199) hx hb d_Md_fareOf_264 (by decide) ?_
                  exact ih_90 (n_90 - 1) (ms_1 ((fun (a_0 : Int32) (a_1 : Int32) (k_0 : ¬ (a_1 ≤ a_0)) (k_1 : ¬ (12 < a_1)) => (show 1 ≤ (12 : Int32).toInt - (a_0).toInt ∧ (12 : Int32).toInt - ((a_0) + (1 : Int32)).toInt + 1 ≤ (12 : Int32).toInt - (a_0).toInt from by have z0 : (1 : Int32).toInt = 1 := (by decide +kernel); have z1 : (12 : Int32).toInt = 12 := (by decide +kernel); have r0 := fb_rng (a_0); have r1 := fb_rng (a_1); have e0 := k_0; rw [Int32.le_iff_toInt_le] at e0; have e1 := k_1; rw [Int32.lt_iff_toInt_lt, z1] at e1; obtain ⟨n_0, hn_0, s0⟩ := nd_add (x := (a_0)) (y := (1 : Int32)) (by (try rw [z0]); omega) (by (try rw [z0]); omega); rw [z0] at s0; rw [hn_0]; (try rw [z1]); omega)) v12_90 x_92 c_93 b_92.2) hm_90) v9_90 (v12_90 + 1) _ (show ¬ ((v12_90 + 1) < 0) from by have e0 := iv0_90; rw [Int32.lt_iff_toInt_lt] at e0; have e1 := iv1_90; rw [Int32.lt_iff_toInt_lt] at e1; have z0 : (0 : Int32).toInt = 0 := (by decide +kernel); have z1 : (1 : Int32).toInt = 1 := (by decide +kernel); have z2 : (12 : Int32).toInt = 12 := (by decide +kernel); have ss := fb_addI (x := v12_90) (y := 1) (by omega) (by omega); rw [Int32.lt_iff_toInt_lt]; omega) (show ¬ (12 < (v12_90 + 1)) from ((fun (a_0 : Int32) (a_1 : Int32) (k_0 : ¬ (a_1 ≤ a_0)) (k_1 : ¬ (12 < a_1)) => (show ¬ (12 < (a_0 + 1)) from by have z0 : (1 : Int32).toInt = 1 := (by decide +kernel); have z1 : (12 : Int32).toInt = 12 := (by decide +kernel); have r0 := fb_rng (a_0); have r1 := fb_rng (a_1); have e0 := k_0; rw [Int32.le_iff_toInt_le] at e0; have e1 := k_1; rw [Int32.lt_iff_toInt_lt, z1] at e1; obtain ⟨n_0, hn_0, s0⟩ := nd_add (x := (a_0)) (y := (1 : Int32)) (by (try rw [z0]); omega) (by (try rw [z0]); omega); rw [z0] at s0; rw [hn_0, Int32.lt_iff_toInt_lt, z1]; omega)) v12_90 x_92 c_93 b_92.2)) (by exact ms_2 ((fun (a_0 : Int32) (a_1 : Int32) (k_0 : ¬ (a_1 ≤ a_0)) (k_1 : ¬ (12 < a_1)) => (show 1 ≤ (12 : Int32).toInt - (a_0).toInt ∧ (12 : Int32).toInt - ((a_0) + (1 : Int32)).toInt + 1 ≤ (12 : Int32).toInt - (a_0).toInt from by have z0 : (1 : Int32).toInt = 1 := (by decide +kernel); have z1 : (12 : Int32).toInt = 12 := (by decide +kernel); have r0 := fb_rng (a_0); have r1 := fb_rng (a_1); have e0 := k_0; rw [Int32.le_iff_toInt_le] at e0; have e1 := k_1; rw [Int32.lt_iff_toInt_lt, z1] at e1; obtain ⟨n_0, hn_0, s0⟩ := nd_add (x := (a_0)) (y := (1 : Int32)) (by (try rw [z0]); omega) (by (try rw [z0]); omega); rw [z0] at s0; rw [hn_0]; (try rw [z1]); omega)) v12_90 x_92 c_93 b_92.2) hm_90) (by rw [← hrec_90, wpR_Md_fareOf_w_199_90_pos (ms_3 ((fun (a_0 : Int32) (a_1 : Int32) (k_0 : ¬ (a_1 ≤ a_0)) (k_1 : ¬ (12 < a_1)) => (show 1 ≤ (12 : Int32).toInt - (a_0).toInt ∧ (12 : Int32).toInt - ((a_0) + (1 : Int32)).toInt + 1 ≤ (12 : Int32).toInt - (a_0).toInt from by have z0 : (1 : Int32).toInt = 1 := (by decide +kernel); have z1 : (12 : Int32).toInt = 12 := (by decide +kernel); have r0 := fb_rng (a_0); have r1 := fb_rng (a_1); have e0 := k_0; rw [Int32.le_iff_toInt_le] at e0; have e1 := k_1; rw [Int32.lt_iff_toInt_lt, z1] at e1; obtain ⟨n_0, hn_0, s0⟩ := nd_add (x := (a_0)) (y := (1 : Int32)) (by (try rw [z0]); omega) (by (try rw [z0]); omega); rw [z0] at s0; rw [hn_0]; (try rw [z1]); omega)) v12_90 x_92 c_93 b_92.2) hm_90)] at hQ; exact hQ) (lv_sub hl [1, 2, 3, 4, 5, 6, 0] rfl)
                · have hQ := hQ.2 c_147
                  by_cases c_148 : x_145 < p_4
                  · have hQ := hQ.1 c_148
                    refine hb_ti 0 (by unfold f_Md_in; rw [if_neg c_147, if_pos c_148]; first | done | rfl) ?_
                    refine lv_if_eq (tgt := 261) hx hb d_Md_fareOf_239 (by decide) (fun _ => ?_) (fun h => absurd (by decide +kernel) h)
                    refine lv_iinc (v := (v12_90 + 1)) (lv' := [(12, .int (v12_90 + 1)), (0, .ref q0), (1, .int p_0), (4, .int p_3), (5, .int p_4), (6, .int p_5), (9, .int v9_90)]) hx hb d_Md_fareOf_261 hl (k := 6) rfl rfl (by decide) rfl (fun ls hl => ?_)
                    refine lv_goto (tgt := 199) hx hb d_Md_fareOf_264 (by decide) ?_
                    exact ih_90 (n_90 - 1) (ms_1 ((fun (a_0 : Int32) (a_1 : Int32) (k_0 : ¬ (a_1 ≤ a_0)) (k_1 : ¬ (12 < a_1)) => (show 1 ≤ (12 : Int32).toInt - (a_0).toInt ∧ (12 : Int32).toInt - ((a_0) + (1 : Int32)).toInt + 1 ≤ (12 : Int32).toInt - (a_0).toInt from by have z0 : (1 : Int32).toInt = 1 := (by decide +kernel); have z1 : (12 : Int32).toInt = 12 := (by decide +kernel); have r0 := fb_rng (a_0); have r1 := fb_rng (a_1); have e0 := k_0; rw [Int32.le_iff_toInt_le] at e0; have e1 := k_1; rw [Int32.lt_iff_toInt_lt, z1] at e1; obtain ⟨n_0, hn_0, s0⟩ := nd_add (x := (a_0)) (y := (1 : Int32)) (by (try rw [z0]); omega) (by (try rw [z0]); omega); rw [z0] at s0; rw [hn_0]; (try rw [z1]); omega)) v12_90 x_92 c_93 b_92.2) hm_90) v9_90 (v12_90 + 1) _ (show ¬ ((v12_90 + 1) < 0) from by have e0 := iv0_90; rw [Int32.lt_iff_toInt_lt] at e0; have e1 := iv1_90; rw [Int32.lt_iff_toInt_lt] at e1; have z0 : (0 : Int32).toInt = 0 := (by decide +kernel); have z1 : (1 : Int32).toInt = 1 := (by decide +kernel); have z2 : (12 : Int32).toInt = 12 := (by decide +kernel); have ss := fb_addI (x := v12_90) (y := 1) (by omega) (by omega); rw [Int32.lt_iff_toInt_lt]; omega) (show ¬ (12 < (v12_90 + 1)) from ((fun (a_0 : Int32) (a_1 : Int32) (k_0 : ¬ (a_1 ≤ a_0)) (k_1 : ¬ (12 < a_1)) => (show ¬ (12 < (a_0 + 1)) from by have z0 : (1 : Int32).toInt = 1 := (by decide +kernel); have z1 : (12 : Int32).toInt = 12 := (by decide +kernel); have r0 := fb_rng (a_0); have r1 := fb_rng (a_1); have e0 := k_0; rw [Int32.le_iff_toInt_le] at e0; have e1 := k_1; rw [Int32.lt_iff_toInt_lt, z1] at e1; obtain ⟨n_0, hn_0, s0⟩ := nd_add (x := (a_0)) (y := (1 : Int32)) (by (try rw [z0]); omega) (by (try rw [z0]); omega); rw [z0] at s0; rw [hn_0, Int32.lt_iff_toInt_lt, z1]; omega)) v12_90 x_92 c_93 b_92.2)) (by exact ms_2 ((fun (a_0 : Int32) (a_1 : Int32) (k_0 : ¬ (a_1 ≤ a_0)) (k_1 : ¬ (12 < a_1)) => (show 1 ≤ (12 : Int32).toInt - (a_0).toInt ∧ (12 : Int32).toInt - ((a_0) + (1 : Int32)).toInt + 1 ≤ (12 : Int32).toInt - (a_0).toInt from by have z0 : (1 : Int32).toInt = 1 := (by decide +kernel); have z1 : (12 : Int32).toInt = 12 := (by decide +kernel); have r0 := fb_rng (a_0); have r1 := fb_rng (a_1); have e0 := k_0; rw [Int32.le_iff_toInt_le] at e0; have e1 := k_1; rw [Int32.lt_iff_toInt_lt, z1] at e1; obtain ⟨n_0, hn_0, s0⟩ := nd_add (x := (a_0)) (y := (1 : Int32)) (by (try rw [z0]); omega) (by (try rw [z0]); omega); rw [z0] at s0; rw [hn_0]; (try rw [z1]); omega)) v12_90 x_92 c_93 b_92.2) hm_90) (by rw [← hrec_90, wpR_Md_fareOf_w_199_90_pos (ms_3 ((fun (a_0 : Int32) (a_1 : Int32) (k_0 : ¬ (a_1 ≤ a_0)) (k_1 : ¬ (12 < a_1)) => (show 1 ≤ (12 : Int32).toInt - (a_0).toInt ∧ (12 : Int32).toInt - ((a_0) + (1 : Int32)).toInt + 1 ≤ (12 : Int32).toInt - (a_0).toInt from by have z0 : (1 : Int32).toInt = 1 := (by decide +kernel); have z1 : (12 : Int32).toInt = 12 := (by decide +kernel); have r0 := fb_rng (a_0); have r1 := fb_rng (a_1); have e0 := k_0; rw [Int32.le_iff_toInt_le] at e0; have e1 := k_1; rw [Int32.lt_iff_toInt_lt, z1] at e1; obtain ⟨n_0, hn_0, s0⟩ := nd_add (x := (a_0)) (y := (1 : Int32)) (by (try rw [z0]); omega) (by (try rw [z0]); omega); rw [z0] at s0; rw [hn_0]; (try rw [z1]); omega)) v12_90 x_92 c_93 b_92.2) hm_90)] at hQ; exact hQ) (lv_sub hl [1, 2, 3, 4, 5, 6, 0] rfl)
                  · have hQ := hQ.2 c_148
                    refine hb_ti 1 (by unfold f_Md_in; rw [if_neg c_147, if_neg c_148]; first | done | rfl) ?_
                    refine lv_if_eq (tgt := 261) hx hb d_Md_fareOf_239 (by decide) (fun h => absurd h (by decide +kernel)) (fun _ => ?_)
                    refine lv_iload hx hb d_Md_fareOf_242 (lv_at hl 5 rfl) ?_
                    refine lv_aload_n hx hb d_Md_fareOf_244 rfl (lv_at hl 0 rfl) ?_
                    refine tw_getr (D := (dC, dI)) (C := R_Md) (T := F_Md) (N := 64) (ci := 7) (kd := 27) (ct := ct) hx hb htb i_Md hown hK hP hO_0 m0 rfl rfl 39 (by decide) (htb (.fieldLink R_Md 140 "WaterMenModel" "hourIs" "[I") tw_377) (fun _ h9 => h9) rfl d_Md_fareOf_245 (fun q_149 e_149 m_149 => ?_)
                    have hQ := hQ q_149 e_149
                    refine lv_bipush (v := 12) hx hb d_Md_fareOf_248 (by decide +kernel) ?_
                    refine lv_iload_n hx hb d_Md_fareOf_250 rfl (lv_at hl 1 rfl) ?_
                    refine lv_imul hx hb d_Md_fareOf_251 ?_
                    refine lv_iload hx hb d_Md_fareOf_252 (lv_at hl 6 rfl) ?_
                    refine lv_iadd hx hb d_Md_fareOf_254 ?_
                    refine tw_aldI (ct := ct) hx hb hK hP hO_0 m_149 rfl ((fun (a_0 : Int32) (a_1 : Int32) (a_2 : Int32) (k_0 : ¬ (a_0 < 0)) (k_1 : ¬ (19 < a_0)) (k_2 : ¬ (a_1 < 0)) (k_3 : ¬ (a_2 ≤ a_1)) (k_4 : ¬ (12 < a_2)) => (show vp_in (((12 * a_0) + a_1)) 240 from by have z0 : (0 : Int32).toInt = 0 := (by decide +kernel); have z1 : (12 : Int32).toInt = 12 := (by decide +kernel); have z2 : (19 : Int32).toInt = 19 := (by decide +kernel); have r0 := fb_rng (a_0); have r1 := fb_rng (a_1); have r2 := fb_rng (a_2); have e0 := k_0; rw [Int32.lt_iff_toInt_lt, z0] at e0; have e1 := k_1; rw [Int32.lt_iff_toInt_lt, z2] at e1; have e2 := k_2; rw [Int32.lt_iff_toInt_lt, z0] at e2; have e3 := k_3; rw [Int32.le_iff_toInt_le] at e3; have e4 := k_4; rw [Int32.lt_iff_toInt_lt, z1] at e4; obtain ⟨n_0, hn_0, s0⟩ := nd_mul (x := (12 : Int32)) (y := (a_0)) (by (try rw [z1]); omega) (by (try rw [z1]); omega); rw [z1] at s0; obtain ⟨n_1, hn_1, s1⟩ := nd_add (x := n_0) (y := (a_1)) (by omega) (by omega); rw [hn_0, hn_1, vp_in_iff]; omega)) p_0 v12_90 x_92 as_0 as_1 iv0_90 c_93 b_92.2) d_Md_fareOf_255 (fun x_150 e_150 b_150 => ?_)
                    have hQ := hQ x_150 e_150
                    refine vp_callSi (va_Run.run (va_runS (As := [.int v9_90, .int x_150]) (rest := []) ⟨hx, hb, hml, hown, htb⟩ (c_Md_by_w l dC dI ct L f hO_0 v9_90 x_150 _ hQ) (cwS 2 htb (gd_S tw_450 tw_451 tw_89 tw_449) rfl rfl rfl (by decide +kernel) ⟨Nat.le_of_ble_eq_true rfl, Nat.le_of_ble_eq_true rfl⟩) ⟨pr_blind, pr_pre hP hK hN⟩ rfl rfl hl.1 rfl (lv_room (Nat.le_of_ble_eq_true rfl)) d_Md_fareOf_256 ⟨Nat.le_of_ble_eq_true rfl, Nat.le_of_ble_eq_true rfl⟩)) (fun r_151 er_151 => ?_)
                    obtain ⟨er_151, hQ⟩ := er_151
                    clear er_151
                    refine lv_istore (lv' := [(9, .int r_151), (0, .ref q0), (1, .int p_0), (4, .int p_3), (5, .int p_4), (6, .int p_5), (12, .int v12_90)]) hx hb d_Md_fareOf_259 hl (by decide) rfl (fun ls hl => ?_)
                    refine lv_iinc (v := (v12_90 + 1)) (lv' := [(12, .int (v12_90 + 1)), (9, .int r_151), (0, .ref q0), (1, .int p_0), (4, .int p_3), (5, .int p_4), (6, .int p_5)]) hx hb d_Md_fareOf_261 hl (k := 6) rfl rfl (by decide) rfl (fun ls hl => ?_)
                    refine lv_goto (tgt := 199) hx hb d_Md_fareOf_264 (by decide) ?_
                    exact ih_90 (n_90 - 1) (ms_1 ((fun (a_0 : Int32) (a_1 : Int32) (k_0 : ¬ (a_1 ≤ a_0)) (k_1 : ¬ (12 < a_1)) => (show 1 ≤ (12 : Int32).toInt - (a_0).toInt ∧ (12 : Int32).toInt - ((a_0) + (1 : Int32)).toInt + 1 ≤ (12 : Int32).toInt - (a_0).toInt from by have z0 : (1 : Int32).toInt = 1 := (by decide +kernel); have z1 : (12 : Int32).toInt = 12 := (by decide +kernel); have r0 := fb_rng (a_0); have r1 := fb_rng (a_1); have e0 := k_0; rw [Int32.le_iff_toInt_le] at e0; have e1 := k_1; rw [Int32.lt_iff_toInt_lt, z1] at e1; obtain ⟨n_0, hn_0, s0⟩ := nd_add (x := (a_0)) (y := (1 : Int32)) (by (try rw [z0]); omega) (by (try rw [z0]); omega); rw [z0] at s0; rw [hn_0]; (try rw [z1]); omega)) v12_90 x_92 c_93 b_92.2) hm_90) r_151 (v12_90 + 1) _ (show ¬ ((v12_90 + 1) < 0) from by have e0 := iv0_90; rw [Int32.lt_iff_toInt_lt] at e0; have e1 := iv1_90; rw [Int32.lt_iff_toInt_lt] at e1; have z0 : (0 : Int32).toInt = 0 := (by decide +kernel); have z1 : (1 : Int32).toInt = 1 := (by decide +kernel); have z2 : (12 : Int32).toInt = 12 := (by decide +kernel); have ss := fb_addI (x := v12_90) (y := 1) (by omega) (by omega); rw [Int32.lt_iff_toInt_lt]; omega) (show ¬ (12 < (v12_90 + 1)) from ((fun (a_0 : Int32) (a_1 : Int32) (k_0 : ¬ (a_1 ≤ a_0)) (k_1 : ¬ (12 < a_1)) => (show ¬ (12 < (a_0 + 1)) from by have z0 : (1 : Int32).toInt = 1 := (by decide +kernel); have z1 : (12 : Int32).toInt = 12 := (by decide +kernel); have r0 := fb_rng (a_0); have r1 := fb_rng (a_1); have e0 := k_0; rw [Int32.le_iff_toInt_le] at e0; have e1 := k_1; rw [Int32.lt_iff_toInt_lt, z1] at e1; obtain ⟨n_0, hn_0, s0⟩ := nd_add (x := (a_0)) (y := (1 : Int32)) (by (try rw [z0]); omega) (by (try rw [z0]); omega); rw [z0] at s0; rw [hn_0, Int32.lt_iff_toInt_lt, z1]; omega)) v12_90 x_92 c_93 b_92.2)) (by exact ms_2 ((fun (a_0 : Int32) (a_1 : Int32) (k_0 : ¬ (a_1 ≤ a_0)) (k_1 : ¬ (12 < a_1)) => (show 1 ≤ (12 : Int32).toInt - (a_0).toInt ∧ (12 : Int32).toInt - ((a_0) + (1 : Int32)).toInt + 1 ≤ (12 : Int32).toInt - (a_0).toInt from by have z0 : (1 : Int32).toInt = 1 := (by decide +kernel); have z1 : (12 : Int32).toInt = 12 := (by decide +kernel); have r0 := fb_rng (a_0); have r1 := fb_rng (a_1); have e0 := k_0; rw [Int32.le_iff_toInt_le] at e0; have e1 := k_1; rw [Int32.lt_iff_toInt_lt, z1] at e1; obtain ⟨n_0, hn_0, s0⟩ := nd_add (x := (a_0)) (y := (1 : Int32)) (by (try rw [z0]); omega) (by (try rw [z0]); omega); rw [z0] at s0; rw [hn_0]; (try rw [z1]); omega)) v12_90 x_92 c_93 b_92.2) hm_90) (by rw [← hrec_90, wpR_Md_fareOf_w_199_90_pos (ms_3 ((fun (a_0 : Int32) (a_1 : Int32) (k_0 : ¬ (a_1 ≤ a_0)) (k_1 : ¬ (12 < a_1)) => (show 1 ≤ (12 : Int32).toInt - (a_0).toInt ∧ (12 : Int32).toInt - ((a_0) + (1 : Int32)).toInt + 1 ≤ (12 : Int32).toInt - (a_0).toInt from by have z0 : (1 : Int32).toInt = 1 := (by decide +kernel); have z1 : (12 : Int32).toInt = 12 := (by decide +kernel); have r0 := fb_rng (a_0); have r1 := fb_rng (a_1); have e0 := k_0; rw [Int32.le_iff_toInt_le] at e0; have e1 := k_1; rw [Int32.lt_iff_toInt_lt, z1] at e1; obtain ⟨n_0, hn_0, s0⟩ := nd_add (x := (a_0)) (y := (1 : Int32)) (by (try rw [z0]); omega) (by (try rw [z0]); omega); rw [z0] at s0; rw [hn_0]; (try rw [z1]); omega)) v12_90 x_92 c_93 b_92.2) hm_90)] at hQ; exact hQ) (lv_sub hl [2, 3, 4, 5, 6, 1, 0] rfl)
          refine lv_iload hx hb d_Md_fareOf_116 (lv_at hl 7 rfl) ?_
          refine lv_if_ge (tgt := 124) hx hb d_Md_fareOf_118 (by decide) (fun _ => ?_) (fun h => absurd c_89 h)
          refine lv_aload_n hx hb d_Md_fareOf_124 rfl (lv_at hl 0 rfl) ?_
          refine lv_iload hx hb d_Md_fareOf_125 (lv_at hl 2 rfl) ?_
          refine lv_iload hx hb d_Md_fareOf_127 (lv_at hl 3 rfl) ?_
          refine vp_callSi (va_Run.run (va_runV (As := [.int p_3, .int p_4]) (rest := []) ⟨hx, hb, hml, hown, htb⟩ (c_Md_flowOf_w l dC dI ct L f hO_0 q0 m0 p_3 p_4 as_6 as_7 as_8 as_9 _ hQ) (cwV 2 htb (gd_V tw_164 tw_165 tw_166 tw_89 tw_163) rfl rfl rfl (by decide +kernel) ⟨Nat.le_of_ble_eq_true rfl, Nat.le_of_ble_eq_true rfl⟩) ⟨pr_blind, tw_recv hK hP m0 rfl rfl, pr_pre hP hK hN⟩ rfl rfl hl.1 rfl (lv_room (Nat.le_of_ble_eq_true rfl)) d_Md_fareOf_129 ⟨Nat.le_of_ble_eq_true rfl, Nat.le_of_ble_eq_true rfl⟩)) (fun r_152 er_152 => ?_)
          obtain ⟨er_152, hQ⟩ := er_152
          clear er_152
          refine lv_istore (lv' := [(10, .int r_152), (0, .ref q0), (1, .int p_0), (4, .int p_3), (5, .int p_4), (6, .int p_5), (7, .int v7_1), (8, .int v8_1), (9, .int v9_1)]) hx hb d_Md_fareOf_132 hl (by decide) rfl (fun ls hl => ?_)
          refine lv_iload hx hb d_Md_fareOf_134 (lv_at hl 0 rfl) ?_
          refine lv_if_ne (tgt := 143) hx hb d_Md_fareOf_136 (by decide) (fun c_153 => ?_) (fun c_153 => ?_)
          · have hQ := hQ.2 c_153
            refine lv_iload hx hb d_Md_fareOf_143 (lv_at hl 0 rfl) ?_
            refine lv_if_le (tgt := 152) hx hb d_Md_fareOf_145 (by decide) (fun c_154 => ?_) (fun c_154 => ?_)
            · have hQ := hQ.1 c_154
              refine lv_iconst (v := 0) hx hb d_Md_fareOf_152 (by decide +kernel) ?_
              refine lv_iload hx hb d_Md_fareOf_153 (lv_at hl 7 rfl) ?_
              refine lv_icmp_ne (tgt := 163) hx hb d_Md_fareOf_155 (by decide) (fun c_155 => ?_) (fun c_155 => ?_)
              · have hQ := hQ.2 c_155
                refine lv_bipush (v := 13) hx hb d_Md_fareOf_163 (by decide +kernel) ?_
                refine lv_istore (lv' := [(11, .int 13), (10, .int r_152), (0, .ref q0), (1, .int p_0), (4, .int p_3), (5, .int p_4), (6, .int p_5), (7, .int v7_1), (8, .int v8_1), (9, .int v9_1)]) hx hb d_Md_fareOf_165 hl (by decide) rfl (fun ls hl => ?_)
                refine lv_iload hx hb d_Md_fareOf_167 (lv_at hl 0 rfl) ?_
                refine lv_if_le (tgt := 196) hx hb d_Md_fareOf_169 (by decide) (fun h => absurd h (by decide +kernel)) (fun _ => ?_)
                refine lv_aload_n hx hb d_Md_fareOf_172 rfl (lv_at hl 2 rfl) ?_
                refine lv_iload_n hx hb d_Md_fareOf_173 rfl (lv_at hl 3 rfl) ?_
                refine lv_iload hx hb d_Md_fareOf_174 (lv_at hl 0 rfl) ?_
                refine vp_callSi (va_Run.run (va_runV (As := [.int p_0, .int 13]) (rest := []) ⟨hx, hb, hml, hown, htb⟩ (c_Md_lineOf_w l dC dI ct L f hO_0 q0 m0 p_0 (13 : Int32) as_0 as_1 (by decide +kernel) (by decide +kernel) _ hQ) (cwV 2 htb (gd_V tw_443 tw_444 tw_445 tw_89 tw_442) rfl rfl rfl (by decide +kernel) ⟨Nat.le_of_ble_eq_true rfl, Nat.le_of_ble_eq_true rfl⟩) ⟨pr_blind, tw_recv hK hP m0 rfl rfl, pr_pre hP hK hN⟩ rfl rfl hl.1 rfl (lv_room (Nat.le_of_ble_eq_true rfl)) d_Md_fareOf_176 ⟨Nat.le_of_ble_eq_true rfl, Nat.le_of_ble_eq_true rfl⟩)) (fun r_156 er_156 => ?_)
                obtain ⟨er_156, hQ⟩ := er_156
                clear er_156
                refine lv_if_lt (tgt := 196) hx hb d_Md_fareOf_179 (by decide) (fun c_157 => ?_) (fun c_157 => ?_)
                · have hQ := hQ.1 c_157
                  refine lv_iconst (v := 0) hx hb d_Md_fareOf_196 (by decide +kernel) ?_
                  refine lv_istore (lv' := [(12, .int 0), (11, .int 13), (10, .int r_152), (0, .ref q0), (1, .int p_0), (4, .int p_3), (5, .int p_4), (6, .int p_5), (7, .int v7_1), (8, .int v8_1), (9, .int v9_1)]) hx hb d_Md_fareOf_197 hl (by decide) rfl (fun ls hl => ?_)
                  exact cut_90 ((12 : Int32).toInt - (0 : Int32).toInt).toNat v9_1 (0 : Int32) _ (by decide +kernel) (by decide +kernel) (by exact ms_e _ _) hQ (lv_sub hl [3, 4, 5, 6, 7, 10, 0] rfl)
                · have hQ := hQ.2 c_157
                  refine lv_iload hx hb d_Md_fareOf_182 (lv_at hl 9 rfl) ?_
                  refine lv_aload_n hx hb d_Md_fareOf_184 rfl (lv_at hl 2 rfl) ?_
                  refine lv_iload_n hx hb d_Md_fareOf_185 rfl (lv_at hl 3 rfl) ?_
                  refine lv_iload hx hb d_Md_fareOf_186 (lv_at hl 0 rfl) ?_
                  refine vp_callSi (va_Run.run (va_runV (As := [.int p_0, .int 13]) (rest := [.int v9_1]) ⟨hx, hb, hml, hown, htb⟩ (c_Md_lineOf_w l dC dI ct L f hO_0 q0 m0 p_0 (13 : Int32) as_0 as_1 (by decide +kernel) (by decide +kernel) _ hQ) (cwV 2 htb (gd_V tw_443 tw_444 tw_445 tw_89 tw_442) rfl rfl rfl (by decide +kernel) ⟨Nat.le_of_ble_eq_true rfl, Nat.le_of_ble_eq_true rfl⟩) ⟨pr_blind, tw_recv hK hP m0 rfl rfl, pr_pre hP hK hN⟩ rfl rfl hl.1 rfl (lv_room (Nat.le_of_ble_eq_true rfl)) d_Md_fareOf_188 ⟨Nat.le_of_ble_eq_true rfl, Nat.le_of_ble_eq_true rfl⟩)) (fun r_158 er_158 => ?_)
                  obtain ⟨er_158, hQ⟩ := er_158
                  clear er_158
                  refine vp_callSi (va_Run.run (va_runS (As := [.int v9_1, .int r_158]) (rest := []) ⟨hx, hb, hml, hown, htb⟩ (c_Md_by_w l dC dI ct L f hO_0 v9_1 r_158 _ hQ) (cwS 2 htb (gd_S tw_450 tw_451 tw_89 tw_449) rfl rfl rfl (by decide +kernel) ⟨Nat.le_of_ble_eq_true rfl, Nat.le_of_ble_eq_true rfl⟩) ⟨pr_blind, pr_pre hP hK hN⟩ rfl rfl hl.1 rfl (lv_room (Nat.le_of_ble_eq_true rfl)) d_Md_fareOf_191 ⟨Nat.le_of_ble_eq_true rfl, Nat.le_of_ble_eq_true rfl⟩)) (fun r_159 er_159 => ?_)
                  obtain ⟨er_159, hQ⟩ := er_159
                  clear er_159
                  refine lv_istore (lv' := [(9, .int r_159), (11, .int 13), (10, .int r_152), (0, .ref q0), (1, .int p_0), (4, .int p_3), (5, .int p_4), (6, .int p_5), (7, .int v7_1), (8, .int v8_1)]) hx hb d_Md_fareOf_194 hl (by decide) rfl (fun ls hl => ?_)
                  refine lv_iconst (v := 0) hx hb d_Md_fareOf_196 (by decide +kernel) ?_
                  refine lv_istore (lv' := [(12, .int 0), (9, .int r_159), (11, .int 13), (10, .int r_152), (0, .ref q0), (1, .int p_0), (4, .int p_3), (5, .int p_4), (6, .int p_5), (7, .int v7_1), (8, .int v8_1)]) hx hb d_Md_fareOf_197 hl (by decide) rfl (fun ls hl => ?_)
                  exact cut_90 ((12 : Int32).toInt - (0 : Int32).toInt).toNat r_159 (0 : Int32) _ (by decide +kernel) (by decide +kernel) (by exact ms_e _ _) hQ (lv_sub hl [4, 5, 6, 7, 8, 1, 0] rfl)
              · have hQ := hQ.1 c_155
                refine lv_bipush (v := 12) hx hb d_Md_fareOf_158 (by decide +kernel) ?_
                refine lv_goto (tgt := 165) hx hb d_Md_fareOf_160 (by decide) ?_
                refine lv_istore (lv' := [(11, .int 12), (10, .int r_152), (0, .ref q0), (1, .int p_0), (4, .int p_3), (5, .int p_4), (6, .int p_5), (7, .int v7_1), (8, .int v8_1), (9, .int v9_1)]) hx hb d_Md_fareOf_165 hl (by decide) rfl (fun ls hl => ?_)
                refine lv_iload hx hb d_Md_fareOf_167 (lv_at hl 0 rfl) ?_
                refine lv_if_le (tgt := 196) hx hb d_Md_fareOf_169 (by decide) (fun h => absurd h (by decide +kernel)) (fun _ => ?_)
                refine lv_aload_n hx hb d_Md_fareOf_172 rfl (lv_at hl 2 rfl) ?_
                refine lv_iload_n hx hb d_Md_fareOf_173 rfl (lv_at hl 3 rfl) ?_
                refine lv_iload hx hb d_Md_fareOf_174 (lv_at hl 0 rfl) ?_
                refine vp_callSi (va_Run.run (va_runV (As := [.int p_0, .int 12]) (rest := []) ⟨hx, hb, hml, hown, htb⟩ (c_Md_lineOf_w l dC dI ct L f hO_0 q0 m0 p_0 (12 : Int32) as_0 as_1 (by decide +kernel) (by decide +kernel) _ hQ) (cwV 2 htb (gd_V tw_443 tw_444 tw_445 tw_89 tw_442) rfl rfl rfl (by decide +kernel) ⟨Nat.le_of_ble_eq_true rfl, Nat.le_of_ble_eq_true rfl⟩) ⟨pr_blind, tw_recv hK hP m0 rfl rfl, pr_pre hP hK hN⟩ rfl rfl hl.1 rfl (lv_room (Nat.le_of_ble_eq_true rfl)) d_Md_fareOf_176 ⟨Nat.le_of_ble_eq_true rfl, Nat.le_of_ble_eq_true rfl⟩)) (fun r_160 er_160 => ?_)
                obtain ⟨er_160, hQ⟩ := er_160
                clear er_160
                refine lv_if_lt (tgt := 196) hx hb d_Md_fareOf_179 (by decide) (fun c_161 => ?_) (fun c_161 => ?_)
                · have hQ := hQ.1 c_161
                  refine lv_iconst (v := 0) hx hb d_Md_fareOf_196 (by decide +kernel) ?_
                  refine lv_istore (lv' := [(12, .int 0), (11, .int 12), (10, .int r_152), (0, .ref q0), (1, .int p_0), (4, .int p_3), (5, .int p_4), (6, .int p_5), (7, .int v7_1), (8, .int v8_1), (9, .int v9_1)]) hx hb d_Md_fareOf_197 hl (by decide) rfl (fun ls hl => ?_)
                  exact cut_90 ((12 : Int32).toInt - (0 : Int32).toInt).toNat v9_1 (0 : Int32) _ (by decide +kernel) (by decide +kernel) (by exact ms_e _ _) hQ (lv_sub hl [3, 4, 5, 6, 7, 10, 0] rfl)
                · have hQ := hQ.2 c_161
                  refine lv_iload hx hb d_Md_fareOf_182 (lv_at hl 9 rfl) ?_
                  refine lv_aload_n hx hb d_Md_fareOf_184 rfl (lv_at hl 2 rfl) ?_
                  refine lv_iload_n hx hb d_Md_fareOf_185 rfl (lv_at hl 3 rfl) ?_
                  refine lv_iload hx hb d_Md_fareOf_186 (lv_at hl 0 rfl) ?_
                  refine vp_callSi (va_Run.run (va_runV (As := [.int p_0, .int 12]) (rest := [.int v9_1]) ⟨hx, hb, hml, hown, htb⟩ (c_Md_lineOf_w l dC dI ct L f hO_0 q0 m0 p_0 (12 : Int32) as_0 as_1 (by decide +kernel) (by decide +kernel) _ hQ) (cwV 2 htb (gd_V tw_443 tw_444 tw_445 tw_89 tw_442) rfl rfl rfl (by decide +kernel) ⟨Nat.le_of_ble_eq_true rfl, Nat.le_of_ble_eq_true rfl⟩) ⟨pr_blind, tw_recv hK hP m0 rfl rfl, pr_pre hP hK hN⟩ rfl rfl hl.1 rfl (lv_room (Nat.le_of_ble_eq_true rfl)) d_Md_fareOf_188 ⟨Nat.le_of_ble_eq_true rfl, Nat.le_of_ble_eq_true rfl⟩)) (fun r_162 er_162 => ?_)
                  obtain ⟨er_162, hQ⟩ := er_162
                  clear er_162
                  refine vp_callSi (va_Run.run (va_runS (As := [.int v9_1, .int r_162]) (rest := []) ⟨hx, hb, hml, hown, htb⟩ (c_Md_by_w l dC dI ct L f hO_0 v9_1 r_162 _ hQ) (cwS 2 htb (gd_S tw_450 tw_451 tw_89 tw_449) rfl rfl rfl (by decide +kernel) ⟨Nat.le_of_ble_eq_true rfl, Nat.le_of_ble_eq_true rfl⟩) ⟨pr_blind, pr_pre hP hK hN⟩ rfl rfl hl.1 rfl (lv_room (Nat.le_of_ble_eq_true rfl)) d_Md_fareOf_191 ⟨Nat.le_of_ble_eq_true rfl, Nat.le_of_ble_eq_true rfl⟩)) (fun r_163 er_163 => ?_)
                  obtain ⟨er_163, hQ⟩ := er_163
                  clear er_163
                  refine lv_istore (lv' := [(9, .int r_163), (11, .int 12), (10, .int r_152), (0, .ref q0), (1, .int p_0), (4, .int p_3), (5, .int p_4), (6, .int p_5), (7, .int v7_1), (8, .int v8_1)]) hx hb d_Md_fareOf_194 hl (by decide) rfl (fun ls hl => ?_)
                  refine lv_iconst (v := 0) hx hb d_Md_fareOf_196 (by decide +kernel) ?_
                  refine lv_istore (lv' := [(12, .int 0), (9, .int r_163), (11, .int 12), (10, .int r_152), (0, .ref q0), (1, .int p_0), (4, .int p_3), (5, .int p_4), (6, .int p_5), (7, .int v7_1), (8, .int v8_1)]) hx hb d_Md_fareOf_197 hl (by decide) rfl (fun ls hl => ?_)
                  exact cut_90 ((12 : Int32).toInt - (0 : Int32).toInt).toNat r_163 (0 : Int32) _ (by decide +kernel) (by decide +kernel) (by exact ms_e _ _) hQ (lv_sub hl [4, 5, 6, 7, 8, 1, 0] rfl)
            · have hQ := hQ.2 c_154
              refine lv_iconst (v := 1) hx hb d_Md_fareOf_148 (by decide +kernel) ?_
              refine lv_goto (tgt := 153) hx hb d_Md_fareOf_149 (by decide) ?_
              refine lv_iload hx hb d_Md_fareOf_153 (lv_at hl 7 rfl) ?_
              refine lv_icmp_ne (tgt := 163) hx hb d_Md_fareOf_155 (by decide) (fun c_164 => ?_) (fun c_164 => ?_)
              · have hQ := hQ.2 c_164
                refine lv_bipush (v := 13) hx hb d_Md_fareOf_163 (by decide +kernel) ?_
                refine lv_istore (lv' := [(11, .int 13), (10, .int r_152), (0, .ref q0), (1, .int p_0), (4, .int p_3), (5, .int p_4), (6, .int p_5), (7, .int v7_1), (8, .int v8_1), (9, .int v9_1)]) hx hb d_Md_fareOf_165 hl (by decide) rfl (fun ls hl => ?_)
                refine lv_iload hx hb d_Md_fareOf_167 (lv_at hl 0 rfl) ?_
                refine lv_if_le (tgt := 196) hx hb d_Md_fareOf_169 (by decide) (fun h => absurd h (by decide +kernel)) (fun _ => ?_)
                refine lv_aload_n hx hb d_Md_fareOf_172 rfl (lv_at hl 2 rfl) ?_
                refine lv_iload_n hx hb d_Md_fareOf_173 rfl (lv_at hl 3 rfl) ?_
                refine lv_iload hx hb d_Md_fareOf_174 (lv_at hl 0 rfl) ?_
                refine vp_callSi (va_Run.run (va_runV (As := [.int p_0, .int 13]) (rest := []) ⟨hx, hb, hml, hown, htb⟩ (c_Md_lineOf_w l dC dI ct L f hO_0 q0 m0 p_0 (13 : Int32) as_0 as_1 (by decide +kernel) (by decide +kernel) _ hQ) (cwV 2 htb (gd_V tw_443 tw_444 tw_445 tw_89 tw_442) rfl rfl rfl (by decide +kernel) ⟨Nat.le_of_ble_eq_true rfl, Nat.le_of_ble_eq_true rfl⟩) ⟨pr_blind, tw_recv hK hP m0 rfl rfl, pr_pre hP hK hN⟩ rfl rfl hl.1 rfl (lv_room (Nat.le_of_ble_eq_true rfl)) d_Md_fareOf_176 ⟨Nat.le_of_ble_eq_true rfl, Nat.le_of_ble_eq_true rfl⟩)) (fun r_165 er_165 => ?_)
                obtain ⟨er_165, hQ⟩ := er_165
                clear er_165
                refine lv_if_lt (tgt := 196) hx hb d_Md_fareOf_179 (by decide) (fun c_166 => ?_) (fun c_166 => ?_)
                · have hQ := hQ.1 c_166
                  refine lv_iconst (v := 0) hx hb d_Md_fareOf_196 (by decide +kernel) ?_
                  refine lv_istore (lv' := [(12, .int 0), (11, .int 13), (10, .int r_152), (0, .ref q0), (1, .int p_0), (4, .int p_3), (5, .int p_4), (6, .int p_5), (7, .int v7_1), (8, .int v8_1), (9, .int v9_1)]) hx hb d_Md_fareOf_197 hl (by decide) rfl (fun ls hl => ?_)
                  exact cut_90 ((12 : Int32).toInt - (0 : Int32).toInt).toNat v9_1 (0 : Int32) _ (by decide +kernel) (by decide +kernel) (by exact ms_e _ _) hQ (lv_sub hl [3, 4, 5, 6, 7, 10, 0] rfl)
                · have hQ := hQ.2 c_166
                  refine lv_iload hx hb d_Md_fareOf_182 (lv_at hl 9 rfl) ?_
                  refine lv_aload_n hx hb d_Md_fareOf_184 rfl (lv_at hl 2 rfl) ?_
                  refine lv_iload_n hx hb d_Md_fareOf_185 rfl (lv_at hl 3 rfl) ?_
                  refine lv_iload hx hb d_Md_fareOf_186 (lv_at hl 0 rfl) ?_
                  refine vp_callSi (va_Run.run (va_runV (As := [.int p_0, .int 13]) (rest := [.int v9_1]) ⟨hx, hb, hml, hown, htb⟩ (c_Md_lineOf_w l dC dI ct L f hO_0 q0 m0 p_0 (13 : Int32) as_0 as_1 (by decide +kernel) (by decide +kernel) _ hQ) (cwV 2 htb (gd_V tw_443 tw_444 tw_445 tw_89 tw_442) rfl rfl rfl (by decide +kernel) ⟨Nat.le_of_ble_eq_true rfl, Nat.le_of_ble_eq_true rfl⟩) ⟨pr_blind, tw_recv hK hP m0 rfl rfl, pr_pre hP hK hN⟩ rfl rfl hl.1 rfl (lv_room (Nat.le_of_ble_eq_true rfl)) d_Md_fareOf_188 ⟨Nat.le_of_ble_eq_true rfl, Nat.le_of_ble_eq_true rfl⟩)) (fun r_167 er_167 => ?_)
                  obtain ⟨er_167, hQ⟩ := er_167
                  clear er_167
                  refine vp_callSi (va_Run.run (va_runS (As := [.int v9_1, .int r_167]) (rest := []) ⟨hx, hb, hml, hown, htb⟩ (c_Md_by_w l dC dI ct L f hO_0 v9_1 r_167 _ hQ) (cwS 2 htb (gd_S tw_450 tw_451 tw_89 tw_449) rfl rfl rfl (by decide +kernel) ⟨Nat.le_of_ble_eq_true rfl, Nat.le_of_ble_eq_true rfl⟩) ⟨pr_blind, pr_pre hP hK hN⟩ rfl rfl hl.1 rfl (lv_room (Nat.le_of_ble_eq_true rfl)) d_Md_fareOf_191 ⟨Nat.le_of_ble_eq_true rfl, Nat.le_of_ble_eq_true rfl⟩)) (fun r_168 er_168 => ?_)
                  obtain ⟨er_168, hQ⟩ := er_168
                  clear er_168
                  refine lv_istore (lv' := [(9, .int r_168), (11, .int 13), (10, .int r_152), (0, .ref q0), (1, .int p_0), (4, .int p_3), (5, .int p_4), (6, .int p_5), (7, .int v7_1), (8, .int v8_1)]) hx hb d_Md_fareOf_194 hl (by decide) rfl (fun ls hl => ?_)
                  refine lv_iconst (v := 0) hx hb d_Md_fareOf_196 (by decide +kernel) ?_
                  refine lv_istore (lv' := [(12, .int 0), (9, .int r_168), (11, .int 13), (10, .int r_152), (0, .ref q0), (1, .int p_0), (4, .int p_3), (5, .int p_4), (6, .int p_5), (7, .int v7_1), (8, .int v8_1)]) hx hb d_Md_fareOf_197 hl (by decide) rfl (fun ls hl => ?_)
                  exact cut_90 ((12 : Int32).toInt - (0 : Int32).toInt).toNat r_168 (0 : Int32) _ (by decide +kernel) (by decide +kernel) (by exact ms_e _ _) hQ (lv_sub hl [4, 5, 6, 7, 8, 1, 0] rfl)
              · have hQ := hQ.1 c_164
                refine lv_bipush (v := 12) hx hb d_Md_fareOf_158 (by decide +kernel) ?_
                refine lv_goto (tgt := 165) hx hb d_Md_fareOf_160 (by decide) ?_
                refine lv_istore (lv' := [(11, .int 12), (10, .int r_152), (0, .ref q0), (1, .int p_0), (4, .int p_3), (5, .int p_4), (6, .int p_5), (7, .int v7_1), (8, .int v8_1), (9, .int v9_1)]) hx hb d_Md_fareOf_165 hl (by decide) rfl (fun ls hl => ?_)
                refine lv_iload hx hb d_Md_fareOf_167 (lv_at hl 0 rfl) ?_
                refine lv_if_le (tgt := 196) hx hb d_Md_fareOf_169 (by decide) (fun h => absurd h (by decide +kernel)) (fun _ => ?_)
                refine lv_aload_n hx hb d_Md_fareOf_172 rfl (lv_at hl 2 rfl) ?_
                refine lv_iload_n hx hb d_Md_fareOf_173 rfl (lv_at hl 3 rfl) ?_
                refine lv_iload hx hb d_Md_fareOf_174 (lv_at hl 0 rfl) ?_
                refine vp_callSi (va_Run.run (va_runV (As := [.int p_0, .int 12]) (rest := []) ⟨hx, hb, hml, hown, htb⟩ (c_Md_lineOf_w l dC dI ct L f hO_0 q0 m0 p_0 (12 : Int32) as_0 as_1 (by decide +kernel) (by decide +kernel) _ hQ) (cwV 2 htb (gd_V tw_443 tw_444 tw_445 tw_89 tw_442) rfl rfl rfl (by decide +kernel) ⟨Nat.le_of_ble_eq_true rfl, Nat.le_of_ble_eq_true rfl⟩) ⟨pr_blind, tw_recv hK hP m0 rfl rfl, pr_pre hP hK hN⟩ rfl rfl hl.1 rfl (lv_room (Nat.le_of_ble_eq_true rfl)) d_Md_fareOf_176 ⟨Nat.le_of_ble_eq_true rfl, Nat.le_of_ble_eq_true rfl⟩)) (fun r_169 er_169 => ?_)
                obtain ⟨er_169, hQ⟩ := er_169
                clear er_169
                refine lv_if_lt (tgt := 196) hx hb d_Md_fareOf_179 (by decide) (fun c_170 => ?_) (fun c_170 => ?_)
                · have hQ := hQ.1 c_170
                  refine lv_iconst (v := 0) hx hb d_Md_fareOf_196 (by decide +kernel) ?_
                  refine lv_istore (lv' := [(12, .int 0), (11, .int 12), (10, .int r_152), (0, .ref q0), (1, .int p_0), (4, .int p_3), (5, .int p_4), (6, .int p_5), (7, .int v7_1), (8, .int v8_1), (9, .int v9_1)]) hx hb d_Md_fareOf_197 hl (by decide) rfl (fun ls hl => ?_)
                  exact cut_90 ((12 : Int32).toInt - (0 : Int32).toInt).toNat v9_1 (0 : Int32) _ (by decide +kernel) (by decide +kernel) (by exact ms_e _ _) hQ (lv_sub hl [3, 4, 5, 6, 7, 10, 0] rfl)
                · have hQ := hQ.2 c_170
                  refine lv_iload hx hb d_Md_fareOf_182 (lv_at hl 9 rfl) ?_
                  refine lv_aload_n hx hb d_Md_fareOf_184 rfl (lv_at hl 2 rfl) ?_
                  refine lv_iload_n hx hb d_Md_fareOf_185 rfl (lv_at hl 3 rfl) ?_
                  refine lv_iload hx hb d_Md_fareOf_186 (lv_at hl 0 rfl) ?_
                  refine vp_callSi (va_Run.run (va_runV (As := [.int p_0, .int 12]) (rest := [.int v9_1]) ⟨hx, hb, hml, hown, htb⟩ (c_Md_lineOf_w l dC dI ct L f hO_0 q0 m0 p_0 (12 : Int32) as_0 as_1 (by decide +kernel) (by decide +kernel) _ hQ) (cwV 2 htb (gd_V tw_443 tw_444 tw_445 tw_89 tw_442) rfl rfl rfl (by decide +kernel) ⟨Nat.le_of_ble_eq_true rfl, Nat.le_of_ble_eq_true rfl⟩) ⟨pr_blind, tw_recv hK hP m0 rfl rfl, pr_pre hP hK hN⟩ rfl rfl hl.1 rfl (lv_room (Nat.le_of_ble_eq_true rfl)) d_Md_fareOf_188 ⟨Nat.le_of_ble_eq_true rfl, Nat.le_of_ble_eq_true rfl⟩)) (fun r_171 er_171 => ?_)
                  obtain ⟨er_171, hQ⟩ := er_171
                  clear er_171
                  refine vp_callSi (va_Run.run (va_runS (As := [.int v9_1, .int r_171]) (rest := []) ⟨hx, hb, hml, hown, htb⟩ (c_Md_by_w l dC dI ct L f hO_0 v9_1 r_171 _ hQ) (cwS 2 htb (gd_S tw_450 tw_451 tw_89 tw_449) rfl rfl rfl (by decide +kernel) ⟨Nat.le_of_ble_eq_true rfl, Nat.le_of_ble_eq_true rfl⟩) ⟨pr_blind, pr_pre hP hK hN⟩ rfl rfl hl.1 rfl (lv_room (Nat.le_of_ble_eq_true rfl)) d_Md_fareOf_191 ⟨Nat.le_of_ble_eq_true rfl, Nat.le_of_ble_eq_true rfl⟩)) (fun r_172 er_172 => ?_)
                  obtain ⟨er_172, hQ⟩ := er_172
                  clear er_172
                  refine lv_istore (lv' := [(9, .int r_172), (11, .int 12), (10, .int r_152), (0, .ref q0), (1, .int p_0), (4, .int p_3), (5, .int p_4), (6, .int p_5), (7, .int v7_1), (8, .int v8_1)]) hx hb d_Md_fareOf_194 hl (by decide) rfl (fun ls hl => ?_)
                  refine lv_iconst (v := 0) hx hb d_Md_fareOf_196 (by decide +kernel) ?_
                  refine lv_istore (lv' := [(12, .int 0), (9, .int r_172), (11, .int 12), (10, .int r_152), (0, .ref q0), (1, .int p_0), (4, .int p_3), (5, .int p_4), (6, .int p_5), (7, .int v7_1), (8, .int v8_1)]) hx hb d_Md_fareOf_197 hl (by decide) rfl (fun ls hl => ?_)
                  exact cut_90 ((12 : Int32).toInt - (0 : Int32).toInt).toNat r_172 (0 : Int32) _ (by decide +kernel) (by decide +kernel) (by exact ms_e _ _) hQ (lv_sub hl [4, 5, 6, 7, 8, 1, 0] rfl)
          · have hQ := hQ.1 c_153
            refine lv_iconst (v := 0) hx hb d_Md_fareOf_139 (by decide +kernel) ?_
            refine lv_goto (tgt := 165) hx hb d_Md_fareOf_140 (by decide) ?_
            refine lv_istore (lv' := [(11, .int 0), (10, .int r_152), (0, .ref q0), (1, .int p_0), (4, .int p_3), (5, .int p_4), (6, .int p_5), (7, .int v7_1), (8, .int v8_1), (9, .int v9_1)]) hx hb d_Md_fareOf_165 hl (by decide) rfl (fun ls hl => ?_)
            refine lv_iload hx hb d_Md_fareOf_167 (lv_at hl 0 rfl) ?_
            refine lv_if_le (tgt := 196) hx hb d_Md_fareOf_169 (by decide) (fun _ => ?_) (fun h => absurd (by decide +kernel) h)
            refine lv_iconst (v := 0) hx hb d_Md_fareOf_196 (by decide +kernel) ?_
            refine lv_istore (lv' := [(12, .int 0), (11, .int 0), (10, .int r_152), (0, .ref q0), (1, .int p_0), (4, .int p_3), (5, .int p_4), (6, .int p_5), (7, .int v7_1), (8, .int v8_1), (9, .int v9_1)]) hx hb d_Md_fareOf_197 hl (by decide) rfl (fun ls hl => ?_)
            exact cut_90 ((12 : Int32).toInt - (0 : Int32).toInt).toNat v9_1 (0 : Int32) _ (by decide +kernel) (by decide +kernel) (by exact ms_e _ _) hQ (lv_sub hl [3, 4, 5, 6, 7, 10, 0] rfl)
        · have hQ := hQ.2 c_89
          refine lv_iload hx hb d_Md_fareOf_64 (lv_at hl 5 rfl) ?_
          refine lv_aload_n hx hb d_Md_fareOf_66 rfl (lv_at hl 0 rfl) ?_
          refine tw_getr (D := (dC, dI)) (C := R_Md) (T := F_Md) (N := 64) (ci := 7) (kd := 27) (ct := ct) hx hb htb i_Md hown hK hP hO_0 m0 rfl rfl 33 (by decide) (htb (.fieldLink R_Md 122 "WaterMenModel" "fareLow" "[I") tw_378) (fun _ h9 => h9) rfl d_Md_fareOf_67 (fun q_173 e_173 m_173 => ?_)
          have hQ := hQ q_173 e_173
          refine lv_bipush (v := 12) hx hb d_Md_fareOf_70 (by decide +kernel) ?_
          refine lv_iload_n hx hb d_Md_fareOf_72 rfl (lv_at hl 1 rfl) ?_
          refine lv_imul hx hb d_Md_fareOf_73 ?_
          refine lv_iload hx hb d_Md_fareOf_74 (lv_at hl 8 rfl) ?_
          refine lv_iadd hx hb d_Md_fareOf_76 ?_
          refine tw_aldI (ct := ct) hx hb hK hP hO_0 m_173 rfl ((fun (a_0 : Int32) (a_1 : Int32) (a_2 : Int32) (k_0 : ¬ (a_0 < 0)) (k_1 : ¬ (19 < a_0)) (k_2 : ¬ (a_1 < 0)) (k_3 : ¬ (a_2 ≤ a_1)) (k_4 : ¬ (12 < a_2)) => (show vp_in (((12 * a_0) + a_1)) 240 from by have z0 : (0 : Int32).toInt = 0 := (by decide +kernel); have z1 : (12 : Int32).toInt = 12 := (by decide +kernel); have z2 : (19 : Int32).toInt = 19 := (by decide +kernel); have r0 := fb_rng (a_0); have r1 := fb_rng (a_1); have r2 := fb_rng (a_2); have e0 := k_0; rw [Int32.lt_iff_toInt_lt, z0] at e0; have e1 := k_1; rw [Int32.lt_iff_toInt_lt, z2] at e1; have e2 := k_2; rw [Int32.lt_iff_toInt_lt, z0] at e2; have e3 := k_3; rw [Int32.le_iff_toInt_le] at e3; have e4 := k_4; rw [Int32.lt_iff_toInt_lt, z1] at e4; obtain ⟨n_0, hn_0, s0⟩ := nd_mul (x := (12 : Int32)) (y := (a_0)) (by (try rw [z1]); omega) (by (try rw [z1]); omega); rw [z1] at s0; obtain ⟨n_1, hn_1, s1⟩ := nd_add (x := n_0) (y := (a_1)) (by omega) (by omega); rw [hn_0, hn_1, vp_in_iff]; omega)) p_0 v10_1 x_3 as_0 as_1 iv0_1 c_4 b_3.2) d_Md_fareOf_77 (fun x_174 e_174 b_174 => ?_)
          have hQ := hQ x_174 e_174
          refine lv_aload_n hx hb d_Md_fareOf_78 rfl (lv_at hl 0 rfl) ?_
          refine tw_getr (D := (dC, dI)) (C := R_Md) (T := F_Md) (N := 64) (ci := 7) (kd := 27) (ct := ct) hx hb htb i_Md hown hK hP hO_0 m0 rfl rfl 34 (by decide) (htb (.fieldLink R_Md 125 "WaterMenModel" "fareHigh" "[I") tw_379) (fun _ h9 => h9) rfl d_Md_fareOf_79 (fun q_175 e_175 m_175 => ?_)
          have hQ := hQ q_175 e_175
          refine lv_bipush (v := 12) hx hb d_Md_fareOf_82 (by decide +kernel) ?_
          refine lv_iload_n hx hb d_Md_fareOf_84 rfl (lv_at hl 1 rfl) ?_
          refine lv_imul hx hb d_Md_fareOf_85 ?_
          refine lv_iload hx hb d_Md_fareOf_86 (lv_at hl 8 rfl) ?_
          refine lv_iadd hx hb d_Md_fareOf_88 ?_
          refine tw_aldI (ct := ct) hx hb hK hP hO_0 m_175 rfl ((fun (a_0 : Int32) (a_1 : Int32) (a_2 : Int32) (k_0 : ¬ (a_0 < 0)) (k_1 : ¬ (19 < a_0)) (k_2 : ¬ (a_1 < 0)) (k_3 : ¬ (a_2 ≤ a_1)) (k_4 : ¬ (12 < a_2)) => (show vp_in (((12 * a_0) + a_1)) 240 from by have z0 : (0 : Int32).toInt = 0 := (by decide +kernel); have z1 : (12 : Int32).toInt = 12 := (by decide +kernel); have z2 : (19 : Int32).toInt = 19 := (by decide +kernel); have r0 := fb_rng (a_0); have r1 := fb_rng (a_1); have r2 := fb_rng (a_2); have e0 := k_0; rw [Int32.lt_iff_toInt_lt, z0] at e0; have e1 := k_1; rw [Int32.lt_iff_toInt_lt, z2] at e1; have e2 := k_2; rw [Int32.lt_iff_toInt_lt, z0] at e2; have e3 := k_3; rw [Int32.le_iff_toInt_le] at e3; have e4 := k_4; rw [Int32.lt_iff_toInt_lt, z1] at e4; obtain ⟨n_0, hn_0, s0⟩ := nd_mul (x := (12 : Int32)) (y := (a_0)) (by (try rw [z1]); omega) (by (try rw [z1]); omega); rw [z1] at s0; obtain ⟨n_1, hn_1, s1⟩ := nd_add (x := n_0) (y := (a_1)) (by omega) (by omega); rw [hn_0, hn_1, vp_in_iff]; omega)) p_0 v10_1 x_3 as_0 as_1 iv0_1 c_4 b_3.2) d_Md_fareOf_89 (fun x_176 e_176 b_176 => ?_)
          have hQ := hQ x_176 e_176
          refine vp_callSi (va_Run.run (va_runS (As := [.int v7_1, .int x_174, .int x_176]) (rest := []) ⟨hx, hb, hml, hown, htb⟩ (c_Md_in l v7_1 x_174 x_176) (cwS 3 htb (gd_S tw_90 tw_91 tw_89 tw_88) rfl rfl rfl (by decide +kernel) ⟨Nat.le_of_ble_eq_true rfl, Nat.le_of_ble_eq_true rfl⟩) ⟨fun _ _ _ _ h => h, fun U _ _ => ⟨rfl, trivial⟩⟩ rfl rfl hl.1 rfl (lv_room (Nat.le_of_ble_eq_true rfl)) d_Md_fareOf_90 ⟨Nat.le_of_ble_eq_true rfl, Nat.le_of_ble_eq_true rfl⟩)) (fun r er => ?_)
          subst er
          by_cases c_178 : v7_1 < x_174
          · have hQ := hQ.1 c_178
            refine hb_ti 0 (by unfold f_Md_in; rw [if_pos c_178]; first | done | rfl) ?_
            refine lv_if_eq (tgt := 110) hx hb d_Md_fareOf_93 (by decide) (fun _ => ?_) (fun h => absurd (by decide +kernel) h)
            refine lv_iinc (v := (v10_1 + 1)) (lv' := [(10, .int (v10_1 + 1)), (0, .ref q0), (1, .int p_0), (4, .int p_3), (5, .int p_4), (6, .int p_5), (7, .int v7_1), (8, .int v8_1), (9, .int v9_1)]) hx hb d_Md_fareOf_110 hl (k := 8) rfl rfl (by decide) rfl (fun ls hl => ?_)
            refine lv_goto (tgt := 48) hx hb d_Md_fareOf_113 (by decide) ?_
            exact ih_1 (n_1 - 1) (ms_1 ((fun (a_0 : Int32) (a_1 : Int32) (k_0 : ¬ (a_1 ≤ a_0)) (k_1 : ¬ (12 < a_1)) => (show 1 ≤ (12 : Int32).toInt - (a_0).toInt ∧ (12 : Int32).toInt - ((a_0) + (1 : Int32)).toInt + 1 ≤ (12 : Int32).toInt - (a_0).toInt from by have z0 : (1 : Int32).toInt = 1 := (by decide +kernel); have z1 : (12 : Int32).toInt = 12 := (by decide +kernel); have r0 := fb_rng (a_0); have r1 := fb_rng (a_1); have e0 := k_0; rw [Int32.le_iff_toInt_le] at e0; have e1 := k_1; rw [Int32.lt_iff_toInt_lt, z1] at e1; obtain ⟨n_0, hn_0, s0⟩ := nd_add (x := (a_0)) (y := (1 : Int32)) (by (try rw [z0]); omega) (by (try rw [z0]); omega); rw [z0] at s0; rw [hn_0]; (try rw [z1]); omega)) v10_1 x_3 c_4 b_3.2) hm_1) v7_1 v8_1 v9_1 (v10_1 + 1) _ (show ¬ ((v10_1 + 1) < 0) from by have e0 := iv0_1; rw [Int32.lt_iff_toInt_lt] at e0; have e1 := iv1_1; rw [Int32.lt_iff_toInt_lt] at e1; have z0 : (0 : Int32).toInt = 0 := (by decide +kernel); have z1 : (1 : Int32).toInt = 1 := (by decide +kernel); have z2 : (12 : Int32).toInt = 12 := (by decide +kernel); have ss := fb_addI (x := v10_1) (y := 1) (by omega) (by omega); rw [Int32.lt_iff_toInt_lt]; omega) (show ¬ (12 < (v10_1 + 1)) from ((fun (a_0 : Int32) (a_1 : Int32) (k_0 : ¬ (a_1 ≤ a_0)) (k_1 : ¬ (12 < a_1)) => (show ¬ (12 < (a_0 + 1)) from by have z0 : (1 : Int32).toInt = 1 := (by decide +kernel); have z1 : (12 : Int32).toInt = 12 := (by decide +kernel); have r0 := fb_rng (a_0); have r1 := fb_rng (a_1); have e0 := k_0; rw [Int32.le_iff_toInt_le] at e0; have e1 := k_1; rw [Int32.lt_iff_toInt_lt, z1] at e1; obtain ⟨n_0, hn_0, s0⟩ := nd_add (x := (a_0)) (y := (1 : Int32)) (by (try rw [z0]); omega) (by (try rw [z0]); omega); rw [z0] at s0; rw [hn_0, Int32.lt_iff_toInt_lt, z1]; omega)) v10_1 x_3 c_4 b_3.2)) (by exact ms_2 ((fun (a_0 : Int32) (a_1 : Int32) (k_0 : ¬ (a_1 ≤ a_0)) (k_1 : ¬ (12 < a_1)) => (show 1 ≤ (12 : Int32).toInt - (a_0).toInt ∧ (12 : Int32).toInt - ((a_0) + (1 : Int32)).toInt + 1 ≤ (12 : Int32).toInt - (a_0).toInt from by have z0 : (1 : Int32).toInt = 1 := (by decide +kernel); have z1 : (12 : Int32).toInt = 12 := (by decide +kernel); have r0 := fb_rng (a_0); have r1 := fb_rng (a_1); have e0 := k_0; rw [Int32.le_iff_toInt_le] at e0; have e1 := k_1; rw [Int32.lt_iff_toInt_lt, z1] at e1; obtain ⟨n_0, hn_0, s0⟩ := nd_add (x := (a_0)) (y := (1 : Int32)) (by (try rw [z0]); omega) (by (try rw [z0]); omega); rw [z0] at s0; rw [hn_0]; (try rw [z1]); omega)) v10_1 x_3 c_4 b_3.2) hm_1) (by rw [← hrec_1, wpR_Md_fareOf_w_48_1_pos (ms_3 ((fun (a_0 : Int32) (a_1 : Int32) (k_0 : ¬ (a_1 ≤ a_0)) (k_1 : ¬ (12 < a_1)) => (show 1 ≤ (12 : Int32).toInt - (a_0).toInt ∧ (12 : Int32).toInt - ((a_0) + (1 : Int32)).toInt + 1 ≤ (12 : Int32).toInt - (a_0).toInt from by have z0 : (1 : Int32).toInt = 1 := (by decide +kernel); have z1 : (12 : Int32).toInt = 12 := (by decide +kernel); have r0 := fb_rng (a_0); have r1 := fb_rng (a_1); have e0 := k_0; rw [Int32.le_iff_toInt_le] at e0; have e1 := k_1; rw [Int32.lt_iff_toInt_lt, z1] at e1; obtain ⟨n_0, hn_0, s0⟩ := nd_add (x := (a_0)) (y := (1 : Int32)) (by (try rw [z0]); omega) (by (try rw [z0]); omega); rw [z0] at s0; rw [hn_0]; (try rw [z1]); omega)) v10_1 x_3 c_4 b_3.2) hm_1)] at hQ; exact hQ) (lv_sub hl [1, 2, 3, 4, 5, 6, 7, 8, 0] rfl)
          · have hQ := hQ.2 c_178
            by_cases c_179 : x_176 < v7_1
            · have hQ := hQ.1 c_179
              refine hb_ti 0 (by unfold f_Md_in; rw [if_neg c_178, if_pos c_179]; first | done | rfl) ?_
              refine lv_if_eq (tgt := 110) hx hb d_Md_fareOf_93 (by decide) (fun _ => ?_) (fun h => absurd (by decide +kernel) h)
              refine lv_iinc (v := (v10_1 + 1)) (lv' := [(10, .int (v10_1 + 1)), (0, .ref q0), (1, .int p_0), (4, .int p_3), (5, .int p_4), (6, .int p_5), (7, .int v7_1), (8, .int v8_1), (9, .int v9_1)]) hx hb d_Md_fareOf_110 hl (k := 8) rfl rfl (by decide) rfl (fun ls hl => ?_)
              refine lv_goto (tgt := 48) hx hb d_Md_fareOf_113 (by decide) ?_
              exact ih_1 (n_1 - 1) (ms_1 ((fun (a_0 : Int32) (a_1 : Int32) (k_0 : ¬ (a_1 ≤ a_0)) (k_1 : ¬ (12 < a_1)) => (show 1 ≤ (12 : Int32).toInt - (a_0).toInt ∧ (12 : Int32).toInt - ((a_0) + (1 : Int32)).toInt + 1 ≤ (12 : Int32).toInt - (a_0).toInt from by have z0 : (1 : Int32).toInt = 1 := (by decide +kernel); have z1 : (12 : Int32).toInt = 12 := (by decide +kernel); have r0 := fb_rng (a_0); have r1 := fb_rng (a_1); have e0 := k_0; rw [Int32.le_iff_toInt_le] at e0; have e1 := k_1; rw [Int32.lt_iff_toInt_lt, z1] at e1; obtain ⟨n_0, hn_0, s0⟩ := nd_add (x := (a_0)) (y := (1 : Int32)) (by (try rw [z0]); omega) (by (try rw [z0]); omega); rw [z0] at s0; rw [hn_0]; (try rw [z1]); omega)) v10_1 x_3 c_4 b_3.2) hm_1) v7_1 v8_1 v9_1 (v10_1 + 1) _ (show ¬ ((v10_1 + 1) < 0) from by have e0 := iv0_1; rw [Int32.lt_iff_toInt_lt] at e0; have e1 := iv1_1; rw [Int32.lt_iff_toInt_lt] at e1; have z0 : (0 : Int32).toInt = 0 := (by decide +kernel); have z1 : (1 : Int32).toInt = 1 := (by decide +kernel); have z2 : (12 : Int32).toInt = 12 := (by decide +kernel); have ss := fb_addI (x := v10_1) (y := 1) (by omega) (by omega); rw [Int32.lt_iff_toInt_lt]; omega) (show ¬ (12 < (v10_1 + 1)) from ((fun (a_0 : Int32) (a_1 : Int32) (k_0 : ¬ (a_1 ≤ a_0)) (k_1 : ¬ (12 < a_1)) => (show ¬ (12 < (a_0 + 1)) from by have z0 : (1 : Int32).toInt = 1 := (by decide +kernel); have z1 : (12 : Int32).toInt = 12 := (by decide +kernel); have r0 := fb_rng (a_0); have r1 := fb_rng (a_1); have e0 := k_0; rw [Int32.le_iff_toInt_le] at e0; have e1 := k_1; rw [Int32.lt_iff_toInt_lt, z1] at e1; obtain ⟨n_0, hn_0, s0⟩ := nd_add (x := (a_0)) (y := (1 : Int32)) (by (try rw [z0]); omega) (by (try rw [z0]); omega); rw [z0] at s0; rw [hn_0, Int32.lt_iff_toInt_lt, z1]; omega)) v10_1 x_3 c_4 b_3.2)) (by exact ms_2 ((fun (a_0 : Int32) (a_1 : Int32) (k_0 : ¬ (a_1 ≤ a_0)) (k_1 : ¬ (12 < a_1)) => (show 1 ≤ (12 : Int32).toInt - (a_0).toInt ∧ (12 : Int32).toInt - ((a_0) + (1 : Int32)).toInt + 1 ≤ (12 : Int32).toInt - (a_0).toInt from by have z0 : (1 : Int32).toInt = 1 := (by decide +kernel); have z1 : (12 : Int32).toInt = 12 := (by decide +kernel); have r0 := fb_rng (a_0); have r1 := fb_rng (a_1); have e0 := k_0; rw [Int32.le_iff_toInt_le] at e0; have e1 := k_1; rw [Int32.lt_iff_toInt_lt, z1] at e1; obtain ⟨n_0, hn_0, s0⟩ := nd_add (x := (a_0)) (y := (1 : Int32)) (by (try rw [z0]); omega) (by (try rw [z0]); omega); rw [z0] at s0; rw [hn_0]; (try rw [z1]); omega)) v10_1 x_3 c_4 b_3.2) hm_1) (by rw [← hrec_1, wpR_Md_fareOf_w_48_1_pos (ms_3 ((fun (a_0 : Int32) (a_1 : Int32) (k_0 : ¬ (a_1 ≤ a_0)) (k_1 : ¬ (12 < a_1)) => (show 1 ≤ (12 : Int32).toInt - (a_0).toInt ∧ (12 : Int32).toInt - ((a_0) + (1 : Int32)).toInt + 1 ≤ (12 : Int32).toInt - (a_0).toInt from by have z0 : (1 : Int32).toInt = 1 := (by decide +kernel); have z1 : (12 : Int32).toInt = 12 := (by decide +kernel); have r0 := fb_rng (a_0); have r1 := fb_rng (a_1); have e0 := k_0; rw [Int32.le_iff_toInt_le] at e0; have e1 := k_1; rw [Int32.lt_iff_toInt_lt, z1] at e1; obtain ⟨n_0, hn_0, s0⟩ := nd_add (x := (a_0)) (y := (1 : Int32)) (by (try rw [z0]); omega) (by (try rw [z0]); omega); rw [z0] at s0; rw [hn_0]; (try rw [z1]); omega)) v10_1 x_3 c_4 b_3.2) hm_1)] at hQ; exact hQ) (lv_sub hl [1, 2, 3, 4, 5, 6, 7, 8, 0] rfl)
            · have hQ := hQ.2 c_179
              refine hb_ti 1 (by unfold f_Md_in; rw [if_neg c_178, if_neg c_179]; first | done | rfl) ?_
              refine lv_if_eq (tgt := 110) hx hb d_Md_fareOf_93 (by decide) (fun h => absurd h (by decide +kernel)) (fun _ => ?_)
              refine lv_aload_n hx hb d_Md_fareOf_96 rfl (lv_at hl 0 rfl) ?_
              refine tw_getr (D := (dC, dI)) (C := R_Md) (T := F_Md) (N := 64) (ci := 7) (kd := 27) (ct := ct) hx hb htb i_Md hown hK hP hO_0 m0 rfl rfl 35 (by decide) (htb (.fieldLink R_Md 128 "WaterMenModel" "fareIs" "[I") tw_380) (fun _ h9 => h9) rfl d_Md_fareOf_97 (fun q_180 e_180 m_180 => ?_)
              have hQ := hQ q_180 e_180
              refine lv_bipush (v := 12) hx hb d_Md_fareOf_100 (by decide +kernel) ?_
              refine lv_iload_n hx hb d_Md_fareOf_102 rfl (lv_at hl 1 rfl) ?_
              refine lv_imul hx hb d_Md_fareOf_103 ?_
              refine lv_iload hx hb d_Md_fareOf_104 (lv_at hl 8 rfl) ?_
              refine lv_iadd hx hb d_Md_fareOf_106 ?_
              refine tw_aldI (ct := ct) hx hb hK hP hO_0 m_180 rfl ((fun (a_0 : Int32) (a_1 : Int32) (a_2 : Int32) (k_0 : ¬ (a_0 < 0)) (k_1 : ¬ (19 < a_0)) (k_2 : ¬ (a_1 < 0)) (k_3 : ¬ (a_2 ≤ a_1)) (k_4 : ¬ (12 < a_2)) => (show vp_in (((12 * a_0) + a_1)) 240 from by have z0 : (0 : Int32).toInt = 0 := (by decide +kernel); have z1 : (12 : Int32).toInt = 12 := (by decide +kernel); have z2 : (19 : Int32).toInt = 19 := (by decide +kernel); have r0 := fb_rng (a_0); have r1 := fb_rng (a_1); have r2 := fb_rng (a_2); have e0 := k_0; rw [Int32.lt_iff_toInt_lt, z0] at e0; have e1 := k_1; rw [Int32.lt_iff_toInt_lt, z2] at e1; have e2 := k_2; rw [Int32.lt_iff_toInt_lt, z0] at e2; have e3 := k_3; rw [Int32.le_iff_toInt_le] at e3; have e4 := k_4; rw [Int32.lt_iff_toInt_lt, z1] at e4; obtain ⟨n_0, hn_0, s0⟩ := nd_mul (x := (12 : Int32)) (y := (a_0)) (by (try rw [z1]); omega) (by (try rw [z1]); omega); rw [z1] at s0; obtain ⟨n_1, hn_1, s1⟩ := nd_add (x := n_0) (y := (a_1)) (by omega) (by omega); rw [hn_0, hn_1, vp_in_iff]; omega)) p_0 v10_1 x_3 as_0 as_1 iv0_1 c_4 b_3.2) d_Md_fareOf_107 (fun x_181 e_181 b_181 => ?_)
              have hQ := hQ x_181 e_181
              refine lv_istore (lv' := [(9, .int x_181), (0, .ref q0), (1, .int p_0), (4, .int p_3), (5, .int p_4), (6, .int p_5), (7, .int v7_1), (8, .int v8_1), (10, .int v10_1)]) hx hb d_Md_fareOf_108 hl (by decide) rfl (fun ls hl => ?_)
              refine lv_iinc (v := (v10_1 + 1)) (lv' := [(10, .int (v10_1 + 1)), (9, .int x_181), (0, .ref q0), (1, .int p_0), (4, .int p_3), (5, .int p_4), (6, .int p_5), (7, .int v7_1), (8, .int v8_1)]) hx hb d_Md_fareOf_110 hl (k := 8) rfl rfl (by decide) rfl (fun ls hl => ?_)
              refine lv_goto (tgt := 48) hx hb d_Md_fareOf_113 (by decide) ?_
              exact ih_1 (n_1 - 1) (ms_1 ((fun (a_0 : Int32) (a_1 : Int32) (k_0 : ¬ (a_1 ≤ a_0)) (k_1 : ¬ (12 < a_1)) => (show 1 ≤ (12 : Int32).toInt - (a_0).toInt ∧ (12 : Int32).toInt - ((a_0) + (1 : Int32)).toInt + 1 ≤ (12 : Int32).toInt - (a_0).toInt from by have z0 : (1 : Int32).toInt = 1 := (by decide +kernel); have z1 : (12 : Int32).toInt = 12 := (by decide +kernel); have r0 := fb_rng (a_0); have r1 := fb_rng (a_1); have e0 := k_0; rw [Int32.le_iff_toInt_le] at e0; have e1 := k_1; rw [Int32.lt_iff_toInt_lt, z1] at e1; obtain ⟨n_0, hn_0, s0⟩ := nd_add (x := (a_0)) (y := (1 : Int32)) (by (try rw [z0]); omega) (by (try rw [z0]); omega); rw [z0] at s0; rw [hn_0]; (try rw [z1]); omega)) v10_1 x_3 c_4 b_3.2) hm_1) v7_1 v8_1 x_181 (v10_1 + 1) _ (show ¬ ((v10_1 + 1) < 0) from by have e0 := iv0_1; rw [Int32.lt_iff_toInt_lt] at e0; have e1 := iv1_1; rw [Int32.lt_iff_toInt_lt] at e1; have z0 : (0 : Int32).toInt = 0 := (by decide +kernel); have z1 : (1 : Int32).toInt = 1 := (by decide +kernel); have z2 : (12 : Int32).toInt = 12 := (by decide +kernel); have ss := fb_addI (x := v10_1) (y := 1) (by omega) (by omega); rw [Int32.lt_iff_toInt_lt]; omega) (show ¬ (12 < (v10_1 + 1)) from ((fun (a_0 : Int32) (a_1 : Int32) (k_0 : ¬ (a_1 ≤ a_0)) (k_1 : ¬ (12 < a_1)) => (show ¬ (12 < (a_0 + 1)) from by have z0 : (1 : Int32).toInt = 1 := (by decide +kernel); have z1 : (12 : Int32).toInt = 12 := (by decide +kernel); have r0 := fb_rng (a_0); have r1 := fb_rng (a_1); have e0 := k_0; rw [Int32.le_iff_toInt_le] at e0; have e1 := k_1; rw [Int32.lt_iff_toInt_lt, z1] at e1; obtain ⟨n_0, hn_0, s0⟩ := nd_add (x := (a_0)) (y := (1 : Int32)) (by (try rw [z0]); omega) (by (try rw [z0]); omega); rw [z0] at s0; rw [hn_0, Int32.lt_iff_toInt_lt, z1]; omega)) v10_1 x_3 c_4 b_3.2)) (by exact ms_2 ((fun (a_0 : Int32) (a_1 : Int32) (k_0 : ¬ (a_1 ≤ a_0)) (k_1 : ¬ (12 < a_1)) => (show 1 ≤ (12 : Int32).toInt - (a_0).toInt ∧ (12 : Int32).toInt - ((a_0) + (1 : Int32)).toInt + 1 ≤ (12 : Int32).toInt - (a_0).toInt from by have z0 : (1 : Int32).toInt = 1 := (by decide +kernel); have z1 : (12 : Int32).toInt = 12 := (by decide +kernel); have r0 := fb_rng (a_0); have r1 := fb_rng (a_1); have e0 := k_0; rw [Int32.le_iff_toInt_le] at e0; have e1 := k_1; rw [Int32.lt_iff_toInt_lt, z1] at e1; obtain ⟨n_0, hn_0, s0⟩ := nd_add (x := (a_0)) (y := (1 : Int32)) (by (try rw [z0]); omega) (by (try rw [z0]); omega); rw [z0] at s0; rw [hn_0]; (try rw [z1]); omega)) v10_1 x_3 c_4 b_3.2) hm_1) (by rw [← hrec_1, wpR_Md_fareOf_w_48_1_pos (ms_3 ((fun (a_0 : Int32) (a_1 : Int32) (k_0 : ¬ (a_1 ≤ a_0)) (k_1 : ¬ (12 < a_1)) => (show 1 ≤ (12 : Int32).toInt - (a_0).toInt ∧ (12 : Int32).toInt - ((a_0) + (1 : Int32)).toInt + 1 ≤ (12 : Int32).toInt - (a_0).toInt from by have z0 : (1 : Int32).toInt = 1 := (by decide +kernel); have z1 : (12 : Int32).toInt = 12 := (by decide +kernel); have r0 := fb_rng (a_0); have r1 := fb_rng (a_1); have e0 := k_0; rw [Int32.le_iff_toInt_le] at e0; have e1 := k_1; rw [Int32.lt_iff_toInt_lt, z1] at e1; obtain ⟨n_0, hn_0, s0⟩ := nd_add (x := (a_0)) (y := (1 : Int32)) (by (try rw [z0]); omega) (by (try rw [z0]); omega); rw [z0] at s0; rw [hn_0]; (try rw [z1]); omega)) v10_1 x_3 c_4 b_3.2) hm_1)] at hQ; exact hQ) (lv_sub hl [2, 3, 4, 5, 6, 7, 8, 1, 0] rfl)
  refine lv_aload_n hx hb d_Md_fareOf_0 rfl (lv_at hl 0 rfl) ?_
  refine tw_getr (D := (dC, dI)) (C := R_Md) (T := F_Md) (N := 64) (ci := 7) (kd := 27) (ct := ct) hx hb htb i_Md hown hK hP hO_0 m0 rfl rfl 3 (by decide) (htb (.fieldLink R_Md 32 "WaterMenModel" "miles" "[I") tw_204) (fun _ h9 => h9) rfl d_Md_fareOf_1 (fun q_182 e_182 m_182 => ?_)
  have hQ := hQ q_182 e_182
  refine lv_iload_n hx hb d_Md_fareOf_4 rfl (lv_at hl 3 rfl) ?_
  refine tw_aldI (ct := ct) hx hb hK hP hO_0 m_182 rfl (hb_inl as_4 as_5 (by decide +kernel)) d_Md_fareOf_5 (fun x_183 e_183 b_183 => ?_)
  have hQ := hQ x_183 e_183
  refine lv_aload_n hx hb d_Md_fareOf_6 rfl (lv_at hl 0 rfl) ?_
  refine tw_getR (D := (dC, dI)) (C := R_Md) (T := F_Md) (N := 64) (ci := 7) (kd := 27) (ct := ct) hx hb htb i_Md hown hK hP m0 rfl rfl 3 e_182 (by decide) (htb (.fieldLink R_Md 32 "WaterMenModel" "miles" "[I") tw_204) (fun _ h9 => h9) rfl d_Md_fareOf_7 ?_
  refine hb_tv (.ref q_182) rfl ?_
  refine lv_iload_n hx hb d_Md_fareOf_10 rfl (lv_at hl 2 rfl) ?_
  refine tw_aldI (ct := ct) hx hb hK hP hO_0 m_182 rfl (hb_inl as_2 as_3 (by decide +kernel)) d_Md_fareOf_11 (fun x_184 e_184 b_184 => ?_)
  have hQ := hQ x_184 e_184
  refine lv_isub hx hb d_Md_fareOf_12 ?_
  refine lv_istore (lv' := [(7, .int (x_183 - x_184)), (0, .ref q0), (1, .int p_0), (2, .int p_1), (3, .int p_2), (4, .int p_3), (5, .int p_4), (6, .int p_5)]) hx hb d_Md_fareOf_13 hl (by decide) rfl (fun ls hl => ?_)
  refine lv_iload hx hb d_Md_fareOf_15 (lv_at hl 0 rfl) ?_
  refine lv_if_le (tgt := 24) hx hb d_Md_fareOf_17 (by decide) (fun c_185 => ?_) (fun c_185 => ?_)
  · have hQ := hQ.1 c_185
    refine lv_iconst (v := 0) hx hb d_Md_fareOf_24 (by decide +kernel) ?_
    refine lv_istore (lv' := [(8, .int 0), (7, .int (x_183 - x_184)), (0, .ref q0), (1, .int p_0), (2, .int p_1), (3, .int p_2), (4, .int p_3), (5, .int p_4), (6, .int p_5)]) hx hb d_Md_fareOf_25 hl (by decide) rfl (fun ls hl => ?_)
    refine lv_iload hx hb d_Md_fareOf_27 (lv_at hl 0 rfl) ?_
    refine lv_if_eq (tgt := 37) hx hb d_Md_fareOf_29 (by decide) (fun _ => ?_) (fun h => absurd (by decide +kernel) h)
    refine lv_iload hx hb d_Md_fareOf_37 (lv_at hl 1 rfl) ?_
    refine lv_ineg hx hb d_Md_fareOf_39 ?_
    refine lv_istore (lv' := [(7, .int (-(x_183 - x_184))), (8, .int 0), (0, .ref q0), (1, .int p_0), (2, .int p_1), (3, .int p_2), (4, .int p_3), (5, .int p_4), (6, .int p_5)]) hx hb d_Md_fareOf_40 hl (by decide) rfl (fun ls hl => ?_)
    refine lv_iconst (v := (-1)) hx hb d_Md_fareOf_42 (by decide +kernel) ?_
    refine lv_istore (lv' := [(9, .int (-1)), (7, .int (-(x_183 - x_184))), (8, .int 0), (0, .ref q0), (1, .int p_0), (2, .int p_1), (3, .int p_2), (4, .int p_3), (5, .int p_4), (6, .int p_5)]) hx hb d_Md_fareOf_43 hl (by decide) rfl (fun ls hl => ?_)
    refine lv_iconst (v := 0) hx hb d_Md_fareOf_45 (by decide +kernel) ?_
    refine lv_istore (lv' := [(10, .int 0), (9, .int (-1)), (7, .int (-(x_183 - x_184))), (8, .int 0), (0, .ref q0), (1, .int p_0), (2, .int p_1), (3, .int p_2), (4, .int p_3), (5, .int p_4), (6, .int p_5)]) hx hb d_Md_fareOf_46 hl (by decide) rfl (fun ls hl => ?_)
    exact cut_1 ((12 : Int32).toInt - (0 : Int32).toInt).toNat (-(x_183 - x_184)) (0 : Int32) ((-1) : Int32) (0 : Int32) _ (by decide +kernel) (by decide +kernel) (by exact ms_e _ _) hQ (lv_sub hl [4, 5, 8, 9, 10, 2, 3, 1, 0] rfl)
  · have hQ := hQ.2 c_185
    refine lv_iconst (v := 1) hx hb d_Md_fareOf_20 (by decide +kernel) ?_
    refine lv_goto (tgt := 25) hx hb d_Md_fareOf_21 (by decide) ?_
    refine lv_istore (lv' := [(8, .int 1), (7, .int (x_183 - x_184)), (0, .ref q0), (1, .int p_0), (2, .int p_1), (3, .int p_2), (4, .int p_3), (5, .int p_4), (6, .int p_5)]) hx hb d_Md_fareOf_25 hl (by decide) rfl (fun ls hl => ?_)
    refine lv_iload hx hb d_Md_fareOf_27 (lv_at hl 0 rfl) ?_
    refine lv_if_eq (tgt := 37) hx hb d_Md_fareOf_29 (by decide) (fun h => absurd h (by decide +kernel)) (fun _ => ?_)
    refine lv_iload hx hb d_Md_fareOf_32 (lv_at hl 1 rfl) ?_
    refine lv_goto (tgt := 40) hx hb d_Md_fareOf_34 (by decide) ?_
    refine lv_istore (lv' := [(7, .int (x_183 - x_184)), (8, .int 1), (0, .ref q0), (1, .int p_0), (2, .int p_1), (3, .int p_2), (4, .int p_3), (5, .int p_4), (6, .int p_5)]) hx hb d_Md_fareOf_40 hl (by decide) rfl (fun ls hl => ?_)
    refine lv_iconst (v := (-1)) hx hb d_Md_fareOf_42 (by decide +kernel) ?_
    refine lv_istore (lv' := [(9, .int (-1)), (7, .int (x_183 - x_184)), (8, .int 1), (0, .ref q0), (1, .int p_0), (2, .int p_1), (3, .int p_2), (4, .int p_3), (5, .int p_4), (6, .int p_5)]) hx hb d_Md_fareOf_43 hl (by decide) rfl (fun ls hl => ?_)
    refine lv_iconst (v := 0) hx hb d_Md_fareOf_45 (by decide +kernel) ?_
    refine lv_istore (lv' := [(10, .int 0), (9, .int (-1)), (7, .int (x_183 - x_184)), (8, .int 1), (0, .ref q0), (1, .int p_0), (2, .int p_1), (3, .int p_2), (4, .int p_3), (5, .int p_4), (6, .int p_5)]) hx hb d_Md_fareOf_46 hl (by decide) rfl (fun ls hl => ?_)
    exact cut_1 ((12 : Int32).toInt - (0 : Int32).toInt).toNat (x_183 - x_184) (1 : Int32) ((-1) : Int32) (0 : Int32) _ (by decide +kernel) (by decide +kernel) (by exact ms_e _ _) hQ (lv_sub hl [4, 5, 8, 9, 10, 2, 3, 1, 0] rfl)
