def wp_Or_shutsBridge_w (L : List Nat) (f : TF) (q0 : Nat) (p_0 : Int32) (p_1 : Int32) (Q : Int32 → Prop) : Prop := ∀ q_1 : Nat, tr f q0 4 = some q_1 → ∀ x_2 : Int32, ti f q_1 (6 : Int32).toNatClampNeg = x_2 → ((x_2 = (-1) → ∀ x_4 : Int32, ti f q_1 (7 : Int32).toNatClampNeg = x_4 → ((x_4 = (-1) → Q 0) ∧ (¬ (x_4 = (-1)) → ∀ y_6 : Int32, y_6 = (if 0 ≤ p_1 then p_1 else 0 - p_1) → ((y_6 ≤ x_4 → Q 0) ∧ (¬ (y_6 ≤ x_4) → Q 1))))) ∧ (¬ (x_2 = (-1)) → ∀ x_8 : Int32, ti f q0 7 = x_8 → ((p_0 < x_8 → Q 1) ∧ (¬ (p_0 < x_8) → ∀ x_10 : Int32, ti f q0 8 = x_10 → ((p_0 ≤ x_10 → ∀ x_12 : Int32, ti f q_1 (7 : Int32).toNatClampNeg = x_12 → ((x_12 = (-1) → Q 0) ∧ (¬ (x_12 = (-1)) → ∀ y_14 : Int32, y_14 = (if 0 ≤ p_1 then p_1 else 0 - p_1) → ((y_14 ≤ x_12 → Q 0) ∧ (¬ (y_14 ≤ x_12) → Q 1))))) ∧ (¬ (p_0 ≤ x_10) → Q 1))))))
set_option maxHeartbeats 4000000 in
set_option maxRecDepth 100000 in
theorem c_Or_shutsBridge_w (l : Launch) (dC : Nat → ClassId) (dI : Nat → Nat → Nat) (ct : Nat → ClassId) (L : List Nat) (f : TF) (hO_0 : Ok L f) (q0 : Nat) (m0 : q0 ∈ L ∧ tk f q0 = 15) (p_0 : Int32) (p_1 : Int32)   (Q : Int32 → Prop) (hQ : wp_Or_shutsBridge_w L f q0 p_0 p_1 Q) : Met l y_Or_shutsBridge (.code y_Or_shutsBridge b_Or_shutsBridge 4 (some .boolean) :: TB) ({ frames := 1, cells := 0, slots := 0, locals := 21 }) (va_Pc [.ref q0, .int p_0, .int p_1] (PR dC dI (TW ct L f) (TT ct))) (vp_Si (fun r => ((r = 0 ∧ True) ∨ (r = 1 ∧ True)) ∧ Q r)) 0 0 (fun _ => False) := by
  refine Met.ofW (cc := b_Or_shutsBridge) (maxL := 4) (ret := (some .boolean)) (by decide) rfl ?_
  intro p e s m args below meth c s₁ B hml hv
  obtain ⟨rfl, hP, hK, hN⟩ := hv
  have hx := B.exec
  have hb := B.bytes
  have hr := B.returns
  have hts := atoms_spec (ws := (.code y_Or_shutsBridge b_Or_shutsBridge 4 (some .boolean) :: TB)) B.pre
  have htb := fun w (h : w ∈ TB) => hts w (List.mem_cons_of_mem _ h)
  have hown : s.vm.findClass R_Or = some m.cls := findClass_of_methodNamed B.named
  have hlocks := B.notSynchronized
  have hl := lv_entry ([.ref q0, .int p_0, .int p_1]) (n := 4) (Nat.le_of_ble_eq_true rfl)
  rw [lg_entry_eq]
  generalize (lg_sl ([.ref q0, .int p_0, .int p_1]) ++ List.replicate (4 - (lg_sl ([.ref q0, .int p_0, .int p_1])).length) Slot.unset).toArray = ls at hl ⊢
  have hl : lv_has ls 4 [(0, .ref q0), (1, .int p_0), (2, .int p_1)] := hl
  unfold wp_Or_shutsBridge_w at hQ
  refine lv_aload_n hx hb d_Or_shutsBridge_0 rfl (lv_at hl 0 rfl) ?_
  refine tw_getr (D := (dC, dI)) (C := R_Or) (T := F_Or) (N := 9) (ci := 3) (kd := 15) (ct := ct) hx hb htb i_Or hown hK hP hO_0 m0 rfl rfl 4 (by decide) (htb (.fieldLink R_Or 20 "WaterMen$Order" "single" "[I") tw_248) (fun _ h9 => h9) rfl d_Or_shutsBridge_1 (fun q_1 e_1 m_1 => ?_)
  have hQ := hQ q_1 e_1
  refine lv_bipush (v := 6) hx hb d_Or_shutsBridge_4 (by decide +kernel) ?_
  refine tw_aldI (ct := ct) hx hb hK hP hO_0 m_1 rfl (by unfold vp_in; decide +kernel) d_Or_shutsBridge_6 (fun x_2 e_2 b_2 => ?_)
  have hQ := hQ x_2 e_2
  refine lv_iconst (v := (-1)) hx hb d_Or_shutsBridge_7 (by decide +kernel) ?_
  refine lv_icmp_eq (tgt := 29) hx hb d_Or_shutsBridge_8 (by decide) (fun c_3 => ?_) (fun c_3 => ?_)
  · have hQ := hQ.1 c_3
    refine lv_aload_n hx hb d_Or_shutsBridge_29 rfl (lv_at hl 0 rfl) ?_
    refine tw_getR (D := (dC, dI)) (C := R_Or) (T := F_Or) (N := 9) (ci := 3) (kd := 15) (ct := ct) hx hb htb i_Or hown hK hP m0 rfl rfl 4 e_1 (by decide) (htb (.fieldLink R_Or 20 "WaterMen$Order" "single" "[I") tw_248) (fun _ h9 => h9) rfl d_Or_shutsBridge_30 ?_
    refine hb_tv (.ref q_1) rfl ?_
    refine lv_bipush (v := 7) hx hb d_Or_shutsBridge_33 (by decide +kernel) ?_
    refine tw_aldI (ct := ct) hx hb hK hP hO_0 m_1 rfl (by unfold vp_in; decide +kernel) d_Or_shutsBridge_35 (fun x_4 e_4 b_4 => ?_)
    have hQ := hQ x_4 e_4
    refine lv_istore_n (lv' := [(3, .int x_4), (0, .ref q0), (1, .int p_0), (2, .int p_1)]) hx hb d_Or_shutsBridge_36 rfl hl (by decide) rfl (fun ls hl => ?_)
    refine lv_iload_n hx hb d_Or_shutsBridge_37 rfl (lv_at hl 0 rfl) ?_
    refine lv_iconst (v := (-1)) hx hb d_Or_shutsBridge_38 (by decide +kernel) ?_
    refine lv_icmp_eq (tgt := 54) hx hb d_Or_shutsBridge_39 (by decide) (fun c_5 => ?_) (fun c_5 => ?_)
    · have hQ := hQ.1 c_5
      refine lv_iconst (v := 0) hx hb d_Or_shutsBridge_54 (by decide +kernel) ?_
      exact W.zret (v := 0) hx hb hr (by decide +kernel) (fun t ht hW => ⟨0, rfl, ⟨(Or.inl ⟨rfl, trivial⟩), hQ⟩, ht⟩) t_nil d_Or_shutsBridge_55
    · have hQ := hQ.2 c_5
      refine lv_iload_n hx hb d_Or_shutsBridge_42 rfl (lv_at hl 3 rfl) ?_
      refine va_mabs hx hb (hml.trans hl.1.symm) hown (htb (.methodLink R_Or 66 Lib.Math.abs.name) tw_566) (htb (.static Lib.Math.abs.name) tw_410) (htb (.initialized "java/lang/Math") tw_55) (htb (.code Lib.Math.abs.name Lib.Math.abs.code 1 (some .int)) tw_411) (Nat.le_of_ble_eq_true rfl) (Nat.le_of_ble_eq_true rfl) (Nat.le_of_ble_eq_true rfl) (Nat.le_of_ble_eq_true rfl) d_Or_shutsBridge_43 ?_
      refine hb_eqi (fun y_6 hy_6 => ?_)
      have hQ := hQ y_6 hy_6
      refine lv_iload_n hx hb d_Or_shutsBridge_46 rfl (lv_at hl 0 rfl) ?_
      refine lv_icmp_le (tgt := 54) hx hb d_Or_shutsBridge_47 (by decide) (fun c_7 => ?_) (fun c_7 => ?_)
      · have hQ := hQ.1 c_7
        refine lv_iconst (v := 0) hx hb d_Or_shutsBridge_54 (by decide +kernel) ?_
        exact W.zret (v := 0) hx hb hr (by decide +kernel) (fun t ht hW => ⟨0, rfl, ⟨(Or.inl ⟨rfl, trivial⟩), hQ⟩, ht⟩) t_nil d_Or_shutsBridge_55
      · have hQ := hQ.2 c_7
        refine lv_iconst (v := 1) hx hb d_Or_shutsBridge_50 (by decide +kernel) ?_
        refine lv_goto (tgt := 55) hx hb d_Or_shutsBridge_51 (by decide) ?_
        exact W.zret (v := 1) hx hb hr (by decide +kernel) (fun t ht hW => ⟨1, rfl, ⟨(Or.inr ⟨rfl, trivial⟩), hQ⟩, ht⟩) t_nil d_Or_shutsBridge_55
  · have hQ := hQ.2 c_3
    refine lv_iload_n hx hb d_Or_shutsBridge_11 rfl (lv_at hl 1 rfl) ?_
    refine lv_aload_n hx hb d_Or_shutsBridge_12 rfl (lv_at hl 0 rfl) ?_
    refine tw_geti (D := (dC, dI)) (C := R_Or) (T := F_Or) (N := 9) (ci := 3) (kd := 15) (ct := ct) hx hb htb i_Or hown hK hP hO_0 m0 rfl rfl 7 (by decide) (htb (.fieldLink R_Or 34 "WaterMen$Order" "bridgeOpens" "I") tw_313) (fun _ h9 => h9) rfl d_Or_shutsBridge_13 (fun x_8 e_8 b_8 => ?_)
    have hQ := hQ x_8 e_8
    refine lv_icmp_lt (tgt := 27) hx hb d_Or_shutsBridge_16 (by decide) (fun c_9 => ?_) (fun c_9 => ?_)
    · have hQ := hQ.1 c_9
      refine lv_iconst (v := 1) hx hb d_Or_shutsBridge_27 (by decide +kernel) ?_
      exact W.zret (v := 1) hx hb hr (by decide +kernel) (fun t ht hW => ⟨1, rfl, ⟨(Or.inr ⟨rfl, trivial⟩), hQ⟩, ht⟩) t_nil d_Or_shutsBridge_28
    · have hQ := hQ.2 c_9
      refine lv_iload_n hx hb d_Or_shutsBridge_19 rfl (lv_at hl 1 rfl) ?_
      refine lv_aload_n hx hb d_Or_shutsBridge_20 rfl (lv_at hl 0 rfl) ?_
      refine tw_geti (D := (dC, dI)) (C := R_Or) (T := F_Or) (N := 9) (ci := 3) (kd := 15) (ct := ct) hx hb htb i_Or hown hK hP hO_0 m0 rfl rfl 8 (by decide) (htb (.fieldLink R_Or 37 "WaterMen$Order" "bridgeShuts" "I") tw_314) (fun _ h9 => h9) rfl d_Or_shutsBridge_21 (fun x_10 e_10 b_10 => ?_)
      have hQ := hQ x_10 e_10
      refine lv_icmp_le (tgt := 29) hx hb d_Or_shutsBridge_24 (by decide) (fun c_11 => ?_) (fun c_11 => ?_)
      · have hQ := hQ.1 c_11
        refine lv_aload_n hx hb d_Or_shutsBridge_29 rfl (lv_at hl 0 rfl) ?_
        refine tw_getR (D := (dC, dI)) (C := R_Or) (T := F_Or) (N := 9) (ci := 3) (kd := 15) (ct := ct) hx hb htb i_Or hown hK hP m0 rfl rfl 4 e_1 (by decide) (htb (.fieldLink R_Or 20 "WaterMen$Order" "single" "[I") tw_248) (fun _ h9 => h9) rfl d_Or_shutsBridge_30 ?_
        refine hb_tv (.ref q_1) rfl ?_
        refine lv_bipush (v := 7) hx hb d_Or_shutsBridge_33 (by decide +kernel) ?_
        refine tw_aldI (ct := ct) hx hb hK hP hO_0 m_1 rfl (by unfold vp_in; decide +kernel) d_Or_shutsBridge_35 (fun x_12 e_12 b_12 => ?_)
        have hQ := hQ x_12 e_12
        refine lv_istore_n (lv' := [(3, .int x_12), (0, .ref q0), (1, .int p_0), (2, .int p_1)]) hx hb d_Or_shutsBridge_36 rfl hl (by decide) rfl (fun ls hl => ?_)
        refine lv_iload_n hx hb d_Or_shutsBridge_37 rfl (lv_at hl 0 rfl) ?_
        refine lv_iconst (v := (-1)) hx hb d_Or_shutsBridge_38 (by decide +kernel) ?_
        refine lv_icmp_eq (tgt := 54) hx hb d_Or_shutsBridge_39 (by decide) (fun c_13 => ?_) (fun c_13 => ?_)
        · have hQ := hQ.1 c_13
          refine lv_iconst (v := 0) hx hb d_Or_shutsBridge_54 (by decide +kernel) ?_
          exact W.zret (v := 0) hx hb hr (by decide +kernel) (fun t ht hW => ⟨0, rfl, ⟨(Or.inl ⟨rfl, trivial⟩), hQ⟩, ht⟩) t_nil d_Or_shutsBridge_55
        · have hQ := hQ.2 c_13
          refine lv_iload_n hx hb d_Or_shutsBridge_42 rfl (lv_at hl 3 rfl) ?_
          refine va_mabs hx hb (hml.trans hl.1.symm) hown (htb (.methodLink R_Or 66 Lib.Math.abs.name) tw_566) (htb (.static Lib.Math.abs.name) tw_410) (htb (.initialized "java/lang/Math") tw_55) (htb (.code Lib.Math.abs.name Lib.Math.abs.code 1 (some .int)) tw_411) (Nat.le_of_ble_eq_true rfl) (Nat.le_of_ble_eq_true rfl) (Nat.le_of_ble_eq_true rfl) (Nat.le_of_ble_eq_true rfl) d_Or_shutsBridge_43 ?_
          refine hb_eqi (fun y_14 hy_14 => ?_)
          have hQ := hQ y_14 hy_14
          refine lv_iload_n hx hb d_Or_shutsBridge_46 rfl (lv_at hl 0 rfl) ?_
          refine lv_icmp_le (tgt := 54) hx hb d_Or_shutsBridge_47 (by decide) (fun c_15 => ?_) (fun c_15 => ?_)
          · have hQ := hQ.1 c_15
            refine lv_iconst (v := 0) hx hb d_Or_shutsBridge_54 (by decide +kernel) ?_
            exact W.zret (v := 0) hx hb hr (by decide +kernel) (fun t ht hW => ⟨0, rfl, ⟨(Or.inl ⟨rfl, trivial⟩), hQ⟩, ht⟩) t_nil d_Or_shutsBridge_55
          · have hQ := hQ.2 c_15
            refine lv_iconst (v := 1) hx hb d_Or_shutsBridge_50 (by decide +kernel) ?_
            refine lv_goto (tgt := 55) hx hb d_Or_shutsBridge_51 (by decide) ?_
            exact W.zret (v := 1) hx hb hr (by decide +kernel) (fun t ht hW => ⟨1, rfl, ⟨(Or.inr ⟨rfl, trivial⟩), hQ⟩, ht⟩) t_nil d_Or_shutsBridge_55
      · have hQ := hQ.2 c_11
        refine lv_iconst (v := 1) hx hb d_Or_shutsBridge_27 (by decide +kernel) ?_
        exact W.zret (v := 1) hx hb hr (by decide +kernel) (fun t ht hW => ⟨1, rfl, ⟨(Or.inr ⟨rfl, trivial⟩), hQ⟩, ht⟩) t_nil d_Or_shutsBridge_28
def wp_WM_hindrance_w (L : List Nat) (f : TF) (q0 : Nat) (pq_0 : Nat) (pq_1 : Nat) (p_2 : Int32) (Q : Int32 → Prop) : Prop := wp_WM_today_w L f q0 (fun (r_1 : Int32) => (∀ q_4 : Nat, tr f q0 0 = some q_4 → wp_Rv_isFrozen_w L f q_4 r_1 (fun (r_5 : Int32) => ((r_5 = 0 → ∀ x_6 : Int32, ti f q0 10 = x_6 → wp_Bt_stateAt_w L f pq_0 x_6 (fun (r_7 : Int32) => ((r_7 = 1 → Q 2) ∧ (¬ (r_7 = 1) → ∀ x_9 : Int32, ti f pq_1 0 = x_9 → ((x_9 = 2 → wp_Mn_isOnWay_w L f pq_1 x_6 (fun (r_11 : Int32) => ((r_11 = 0 → ∀ x_12 : Int32, ti f pq_0 1 = x_12 → wp_WM_mustWait_w L f q0 pq_1 x_12 (fun (r_13 : Int32) => ((r_13 = 0 → wp_WM_numberInForce_w L f q0 r_1 r_1 (fun (r_14 : Int32) => wp_WM_orderAt_w L f q0 r_14 (fun (r_15 : Option Nat) => ((r_15 = none → Q 5) ∧ (∀ q_15 : Nat, r_15 = some q_15 → ∀ y_16 : Int32, y_16 = x_6 / 60 → ∀ x_17 : Int32, ti f pq_0 0 = x_17 → wp_WM_priceOf_w L f q0 q_15 x_12 p_2 y_16 x_17 (fun (r_18 : Int32) => ((r_18 = (-1) → Q 5) ∧ (¬ (r_18 = (-1)) → wp_Rv_passesBridge_w L f q_4 x_12 p_2 (fun (r_20 : Int32) => ((r_20 = 0 → wp_WM_minutesOfWay_w L f q0 pq_0 p_2 (fun (r_21 : Int32) => ((r_21 ≤ (359999 - x_6) → Q 0) ∧ (¬ (r_21 ≤ (359999 - x_6)) → Q 7)))) ∧ (r_20 = 1 → wp_WM_hourNow_w L f q0 (fun (r_23 : Int32) => (wp_WM_hourNow_w L f q0 (fun (r_26 : Int32) => (wp_Rv_flowIn_w L f q_4 r_1 r_26 (fun (r_29 : Int32) => wp_Or_shutsBridge_w L f q_15 r_23 r_29 (fun (r_30 : Int32) => ((r_30 = 0 → wp_WM_minutesOfWay_w L f q0 pq_0 p_2 (fun (r_31 : Int32) => ((r_31 ≤ (359999 - x_6) → Q 0) ∧ (¬ (r_31 ≤ (359999 - x_6)) → Q 7)))) ∧ (r_30 = 1 → Q 6))))))))))))))))))) ∧ (r_13 = 1 → Q 4)))) ∧ (r_11 = 1 → Q 3)))) ∧ (¬ (x_9 = 2) → Q 3)))))) ∧ (r_5 = 1 → Q 1)))))
set_option maxHeartbeats 4000000 in
set_option maxRecDepth 100000 in
theorem c_WM_hindrance_w (l : Launch) (dC : Nat → ClassId) (dI : Nat → Nat → Nat) (ct : Nat → ClassId) (L : List Nat) (f : TF) (hO_0 : Ok L f) (q0 : Nat) (m0 : q0 ∈ L ∧ tk f q0 = 0) (pq_0 : Nat) (pm_0 : pq_0 ∈ L ∧ tk f pq_0 = 24) (pq_1 : Nat) (pm_1 : pq_1 ∈ L ∧ tk f pq_1 = 20) (p_2 : Int32)  (as_0 : ¬ (p_2 < 0)) (as_1 : ¬ (11 < p_2)) (Q : Int32 → Prop) (hQ : wp_WM_hindrance_w L f q0 pq_0 pq_1 p_2 Q) : Met l y_WM_hindrance (.code y_WM_hindrance b_WM_hindrance 6 (some .int) :: TB) ({ frames := 4, cells := 0, slots := 0, locals := 99 }) (va_Pc [.ref q0, .ref pq_0, .ref pq_1, .int p_2] (PR dC dI (TW ct L f) (TT ct))) (vp_Si (fun r => (True) ∧ Q r)) 0 0 (fun _ => False) := by
  refine Met.ofW (cc := b_WM_hindrance) (maxL := 6) (ret := (some .int)) (by decide) rfl ?_
  intro p e s m args below meth c s₁ B hml hv
  obtain ⟨rfl, hP, hK, hN⟩ := hv
  have hx := B.exec
  have hb := B.bytes
  have hr := B.returns
  have hts := atoms_spec (ws := (.code y_WM_hindrance b_WM_hindrance 6 (some .int) :: TB)) B.pre
  have htb := fun w (h : w ∈ TB) => hts w (List.mem_cons_of_mem _ h)
  have hown : s.vm.findClass R_WM = some m.cls := findClass_of_methodNamed B.named
  have hlocks := B.notSynchronized
  have hl := lv_entry ([.ref q0, .ref pq_0, .ref pq_1, .int p_2]) (n := 6) (Nat.le_of_ble_eq_true rfl)
  rw [lg_entry_eq]
  generalize (lg_sl ([.ref q0, .ref pq_0, .ref pq_1, .int p_2]) ++ List.replicate (6 - (lg_sl ([.ref q0, .ref pq_0, .ref pq_1, .int p_2])).length) Slot.unset).toArray = ls at hl ⊢
  have hl : lv_has ls 6 [(0, .ref q0), (1, .ref pq_0), (2, .ref pq_1), (3, .int p_2)] := hl
  unfold wp_WM_hindrance_w at hQ
  refine lv_aload_n hx hb d_WM_hindrance_0 rfl (lv_at hl 0 rfl) ?_
  refine vp_callSi (va_Run.run (va_runV (As := []) (rest := []) ⟨hx, hb, hml, hown, htb⟩ (c_WM_today_w l dC dI ct L f hO_0 q0 m0 _ hQ) (cwV 0 htb (gd_V tw_50 tw_51 tw_52 tw_26 tw_49) rfl rfl rfl (by decide +kernel) ⟨Nat.le_of_ble_eq_true rfl, Nat.le_of_ble_eq_true rfl⟩) ⟨pr_blind, tw_recv hK hP m0 rfl rfl, pr_pre hP hK hN⟩ rfl rfl hl.1 rfl (lv_room (Nat.le_of_ble_eq_true rfl)) d_WM_hindrance_1 ⟨Nat.le_of_ble_eq_true rfl, Nat.le_of_ble_eq_true rfl⟩)) (fun r_1 er_1 => ?_)
  obtain ⟨er_1, hQ⟩ := er_1
  obtain ⟨po_2, po_3, -⟩ := er_1
  refine lv_istore (lv' := [(4, .int r_1), (0, .ref q0), (1, .ref pq_0), (2, .ref pq_1), (3, .int p_2)]) hx hb d_WM_hindrance_4 hl (by decide) rfl (fun ls hl => ?_)
  refine lv_aload_n hx hb d_WM_hindrance_6 rfl (lv_at hl 1 rfl) ?_
  refine tw_getr (D := (dC, dI)) (C := R_WM) (T := F_WM) (N := 13) (ci := 0) (kd := 0) (ct := ct) hx hb htb i_WM hown hK hP hO_0 m0 rfl rfl 0 (by decide) (htb (.fieldLink R_WM 12 "WaterMen" "river" "LWaterMen$River;") tw_135) (fun _ h9 => h9) rfl d_WM_hindrance_7 (fun q_4 e_4 m_4 => ?_)
  have hQ := hQ q_4 e_4
  refine lv_iload hx hb d_WM_hindrance_10 (lv_at hl 0 rfl) ?_
  refine vp_callSi (va_Run.run (va_runV (As := [.int r_1]) (rest := []) ⟨hx, hb, hml, hown, htb⟩ (c_Rv_isFrozen_w l dC dI ct L f hO_0 q_4 m_4 r_1 _ hQ) (cwV 1 htb (gd_V tw_169 tw_170 tw_171 tw_140 tw_168) rfl rfl rfl (by decide +kernel) ⟨Nat.le_of_ble_eq_true rfl, Nat.le_of_ble_eq_true rfl⟩) ⟨pr_blind, tw_recv hK hP m_4 rfl rfl, pr_pre hP hK hN⟩ rfl rfl hl.1 rfl (lv_room (Nat.le_of_ble_eq_true rfl)) d_WM_hindrance_12 ⟨Nat.le_of_ble_eq_true rfl, Nat.le_of_ble_eq_true rfl⟩)) (fun r_5 er_5 => ?_)
  obtain ⟨er_5, hQ⟩ := er_5
  rcases er_5 with ⟨rfl, -⟩ | ⟨rfl, -⟩
  · have hQ := hQ.1 rfl
    refine lv_if_eq (tgt := 20) hx hb d_WM_hindrance_15 (by decide) (fun _ => ?_) (fun h => absurd (by decide +kernel) h)
    refine lv_aload_n hx hb d_WM_hindrance_20 rfl (lv_at hl 2 rfl) ?_
    refine lv_aload_n hx hb d_WM_hindrance_21 rfl (lv_at hl 1 rfl) ?_
    refine tw_geti (D := (dC, dI)) (C := R_WM) (T := F_WM) (N := 13) (ci := 0) (kd := 0) (ct := ct) hx hb htb i_WM hown hK hP hO_0 m0 rfl rfl 10 (by decide) (htb (.fieldLink R_WM 155 "WaterMen" "now" "I") tw_40) (fun _ h9 => h9) rfl d_WM_hindrance_22 (fun x_6 e_6 b_6 => ?_)
    have hQ := hQ x_6 e_6
    refine vp_callSi (va_Run.run (va_runV (As := [.int x_6]) (rest := []) ⟨hx, hb, hml, hown, htb⟩ (c_Bt_stateAt_w l dC dI ct L f hO_0 pq_0 pm_0 x_6 _ hQ) (cwV 1 htb (gd_V tw_523 tw_524 tw_525 tw_501 tw_522) rfl rfl rfl (by decide +kernel) ⟨Nat.le_of_ble_eq_true rfl, Nat.le_of_ble_eq_true rfl⟩) ⟨pr_blind, tw_recv hK hP pm_0 rfl rfl, pr_pre hP hK hN⟩ rfl rfl hl.1 rfl (lv_room (Nat.le_of_ble_eq_true rfl)) d_WM_hindrance_25 ⟨Nat.le_of_ble_eq_true rfl, Nat.le_of_ble_eq_true rfl⟩)) (fun r_7 er_7 => ?_)
    obtain ⟨er_7, hQ⟩ := er_7
    clear er_7
    refine lv_iconst (v := 1) hx hb d_WM_hindrance_28 (by decide +kernel) ?_
    refine lv_icmp_ne (tgt := 34) hx hb d_WM_hindrance_29 (by decide) (fun c_8 => ?_) (fun c_8 => ?_)
    · have hQ := hQ.2 c_8
      refine lv_aload_n hx hb d_WM_hindrance_34 rfl (lv_at hl 3 rfl) ?_
      refine tw_geti (D := (dC, dI)) (C := R_Mn) (T := F_Mn) (N := 8) (ci := 2) (kd := 20) (ct := ct) hx hb htb i_Mn hown hK hP hO_0 pm_1 rfl rfl 0 (by decide) (htb (.fieldLink R_WM 111 "WaterMen$Man" "state" "I") tw_30) (fun _ h9 => h9) rfl d_WM_hindrance_35 (fun x_9 e_9 b_9 => ?_)
      have hQ := hQ x_9 e_9
      refine lv_iconst (v := 2) hx hb d_WM_hindrance_38 (by decide +kernel) ?_
      refine lv_icmp_ne (tgt := 53) hx hb d_WM_hindrance_39 (by decide) (fun c_10 => ?_) (fun c_10 => ?_)
      · have hQ := hQ.2 c_10
        refine lv_iconst (v := 3) hx hb d_WM_hindrance_53 (by decide +kernel) ?_
        exact W.iret (v := 3) hx hb hr (fun t ht hW => ⟨3, rfl, ⟨trivial, hQ⟩, ht⟩) t_nil d_WM_hindrance_54
      · have hQ := hQ.1 c_10
        refine lv_aload_n hx hb d_WM_hindrance_42 rfl (lv_at hl 3 rfl) ?_
        refine lv_aload_n hx hb d_WM_hindrance_43 rfl (lv_at hl 1 rfl) ?_
        refine tw_getI (x := x_6) (D := (dC, dI)) (C := R_WM) (T := F_WM) (N := 13) (ci := 0) (kd := 0) (ct := ct) hx hb htb i_WM hown hK hP m0 rfl rfl 10 e_6 (by decide) (htb (.fieldLink R_WM 155 "WaterMen" "now" "I") tw_40) (fun _ h9 => h9) rfl d_WM_hindrance_44 ?_
        refine vp_callSi (va_Run.run (va_runV (As := [.int x_6]) (rest := []) ⟨hx, hb, hml, hown, htb⟩ (c_Mn_isOnWay_w l dC dI ct L f hO_0 pq_1 pm_1 x_6 _ hQ) (cwV 1 htb (gd_V tw_44 tw_45 tw_46 tw_43 tw_42) rfl rfl rfl (by decide +kernel) ⟨Nat.le_of_ble_eq_true rfl, Nat.le_of_ble_eq_true rfl⟩) ⟨pr_blind, tw_recv hK hP pm_1 rfl rfl, pr_pre hP hK hN⟩ rfl rfl hl.1 rfl (lv_room (Nat.le_of_ble_eq_true rfl)) d_WM_hindrance_47 ⟨Nat.le_of_ble_eq_true rfl, Nat.le_of_ble_eq_true rfl⟩)) (fun r_11 er_11 => ?_)
        obtain ⟨er_11, hQ⟩ := er_11
        rcases er_11 with ⟨rfl, -⟩ | ⟨rfl, -⟩
        · have hQ := hQ.1 rfl
          refine lv_if_eq (tgt := 55) hx hb d_WM_hindrance_50 (by decide) (fun _ => ?_) (fun h => absurd (by decide +kernel) h)
          refine lv_aload_n hx hb d_WM_hindrance_55 rfl (lv_at hl 1 rfl) ?_
          refine lv_aload_n hx hb d_WM_hindrance_56 rfl (lv_at hl 3 rfl) ?_
          refine lv_aload_n hx hb d_WM_hindrance_57 rfl (lv_at hl 2 rfl) ?_
          refine tw_geti (D := (dC, dI)) (C := R_Bt) (T := F_Bt) (N := 6) (ci := 9) (kd := 24) (ct := ct) hx hb htb i_Bt hown hK hP hO_0 pm_0 rfl rfl 1 (by decide) (htb (.fieldLink R_WM 178 "WaterMen$Boat" "stairs" "I") tw_517) (fun _ h9 => h9) rfl d_WM_hindrance_58 (fun x_12 e_12 b_12 => ?_)
          have hQ := hQ x_12 e_12
          refine vp_callSi (va_Run.run (va_runV (As := [.ref pq_1, .int x_12]) (rest := []) ⟨hx, hb, hml, hown, htb⟩ (c_WM_mustWait_w l dC dI ct L f hO_0 q0 m0 pq_1 pm_1 x_12 _ hQ) (cwV 2 htb (gd_V tw_547 tw_548 tw_549 tw_26 tw_546) rfl rfl rfl (by decide +kernel) ⟨Nat.le_of_ble_eq_true rfl, Nat.le_of_ble_eq_true rfl⟩) ⟨pr_blind, tw_recv hK hP m0 rfl rfl, pr_pre hP hK hN⟩ rfl rfl hl.1 rfl (lv_room (Nat.le_of_ble_eq_true rfl)) d_WM_hindrance_61 ⟨Nat.le_of_ble_eq_true rfl, Nat.le_of_ble_eq_true rfl⟩)) (fun r_13 er_13 => ?_)
          obtain ⟨er_13, hQ⟩ := er_13
          rcases er_13 with ⟨rfl, -⟩ | ⟨rfl, -⟩
          · have hQ := hQ.1 rfl
            refine lv_if_eq (tgt := 69) hx hb d_WM_hindrance_64 (by decide) (fun _ => ?_) (fun h => absurd (by decide +kernel) h)
            refine lv_aload_n hx hb d_WM_hindrance_69 rfl (lv_at hl 1 rfl) ?_
            refine lv_aload_n hx hb d_WM_hindrance_70 rfl (lv_at hl 1 rfl) ?_
            refine lv_iload hx hb d_WM_hindrance_71 (lv_at hl 0 rfl) ?_
            refine lv_iload hx hb d_WM_hindrance_73 (lv_at hl 0 rfl) ?_
            refine vp_callSi (va_Run.run (va_runV (As := [.int r_1, .int r_1]) (rest := [.ref q0]) ⟨hx, hb, hml, hown, htb⟩ (c_WM_numberInForce_w l dC dI ct L f hO_0 q0 m0 r_1 r_1 _ hQ) (cwV 2 htb (gd_V tw_390 tw_391 tw_392 tw_26 tw_389) rfl rfl rfl (by decide +kernel) ⟨Nat.le_of_ble_eq_true rfl, Nat.le_of_ble_eq_true rfl⟩) ⟨pr_blind, tw_recv hK hP m0 rfl rfl, pr_pre hP hK hN⟩ rfl rfl hl.1 rfl (lv_room (Nat.le_of_ble_eq_true rfl)) d_WM_hindrance_75 ⟨Nat.le_of_ble_eq_true rfl, Nat.le_of_ble_eq_true rfl⟩)) (fun r_14 er_14 => ?_)
            obtain ⟨er_14, hQ⟩ := er_14
            clear er_14
            refine va_csq (va_Run.run (va_runV (As := [.int r_14]) (rest := []) ⟨hx, hb, hml, hown, htb⟩ (c_WM_orderAt_w l dC dI ct L f hO_0 q0 m0 r_14 _ hQ) (cwV 1 htb (gd_V tw_386 tw_387 tw_388 tw_26 tw_385) rfl rfl rfl (by decide +kernel) ⟨Nat.le_of_ble_eq_true rfl, Nat.le_of_ble_eq_true rfl⟩) ⟨pr_blind, tw_recv hK hP m0 rfl rfl, pr_pre hP hK hN⟩ rfl rfl hl.1 rfl (lv_room (Nat.le_of_ble_eq_true rfl)) d_WM_hindrance_78 ⟨Nat.le_of_ble_eq_true rfl, Nat.le_of_ble_eq_true rfl⟩)) (fun r_15 er_15 => ?_)
            obtain ⟨er_15, hQ⟩ := er_15
            rcases er_15 with rfl | ⟨q_15, rfl, m_15⟩
            · have hQ := hQ.1 rfl
              refine hb_tv .null rfl ?_
              refine lv_astoreN (lv' := [(5, .null), (4, .int r_1), (0, .ref q0), (1, .ref pq_0), (2, .ref pq_1), (3, .int p_2)]) hx hb d_WM_hindrance_81 hl (by decide) rfl (fun ls hl => ?_)
              refine lv_aloadN hx hb d_WM_hindrance_83 (lv_at hl 0 rfl) ?_
              refine lv_ifnullN (tgt := 114) hx hb d_WM_hindrance_85 (by decide) ?_
              refine lv_iconst (v := 5) hx hb d_WM_hindrance_114 (by decide +kernel) ?_
              exact W.iret (v := 5) hx hb hr (fun t ht hW => ⟨5, rfl, ⟨trivial, hQ⟩, ht⟩) t_nil d_WM_hindrance_115
            · have hQ := hQ.2 q_15 rfl
              refine hb_tv (.ref q_15) rfl ?_
              refine lv_astore (lv' := [(5, .ref q_15), (4, .int r_1), (0, .ref q0), (1, .ref pq_0), (2, .ref pq_1), (3, .int p_2)]) hx hb d_WM_hindrance_81 hl (by decide) rfl (fun ls hl => ?_)
              refine lv_aload hx hb d_WM_hindrance_83 (lv_at hl 0 rfl) ?_
              refine lv_ifnull hx hb d_WM_hindrance_85 ?_
              refine lv_aload_n hx hb d_WM_hindrance_88 rfl (lv_at hl 2 rfl) ?_
              refine lv_aload hx hb d_WM_hindrance_89 (lv_at hl 0 rfl) ?_
              refine lv_aload_n hx hb d_WM_hindrance_91 rfl (lv_at hl 3 rfl) ?_
              refine tw_getI (x := x_12) (D := (dC, dI)) (C := R_Bt) (T := F_Bt) (N := 6) (ci := 9) (kd := 24) (ct := ct) hx hb htb i_Bt hown hK hP pm_0 rfl rfl 1 e_12 (by decide) (htb (.fieldLink R_WM 178 "WaterMen$Boat" "stairs" "I") tw_517) (fun _ h9 => h9) rfl d_WM_hindrance_92 ?_
              refine lv_iload_n hx hb d_WM_hindrance_95 rfl (lv_at hl 5 rfl) ?_
              refine lv_aload_n hx hb d_WM_hindrance_96 rfl (lv_at hl 2 rfl) ?_
              refine tw_getI (x := x_6) (D := (dC, dI)) (C := R_WM) (T := F_WM) (N := 13) (ci := 0) (kd := 0) (ct := ct) hx hb htb i_WM hown hK hP m0 rfl rfl 10 e_6 (by decide) (htb (.fieldLink R_WM 155 "WaterMen" "now" "I") tw_40) (fun _ h9 => h9) rfl d_WM_hindrance_97 ?_
              refine lv_bipush (v := 60) hx hb d_WM_hindrance_100 (by decide +kernel) ?_
              refine lv_idiv hx hb d_WM_hindrance_102 (by decide) ?_
              refine hb_divn (U := 359999) (Qm := 5999) (c := 60) (C1 := 59) (K := 2147483587) (by decide +kernel) (by decide +kernel) (by decide +kernel) b_6.1 (show ¬ (2147483587 < x_6) from by have e0 := b_6.1; rw [Int32.lt_iff_toInt_lt] at e0; have e1 := b_6.2; rw [Int32.lt_iff_toInt_lt] at e1; have z0 : (0 : Int32).toInt = 0 := (by decide +kernel); have z1 : (359999 : Int32).toInt = 359999 := (by decide +kernel); have z2 : (2147483587 : Int32).toInt = 2147483587 := (by decide +kernel); rw [Int32.lt_iff_toInt_lt]; omega) b_6.2 (by decide +kernel) (fun y_16 g1_16 g2_16 g3_16 g4_16 g5_16 g9_16 => ?_)
              have hQ := hQ y_16 g9_16
              refine lv_aload_n hx hb d_WM_hindrance_103 rfl (lv_at hl 3 rfl) ?_
              refine tw_geti (D := (dC, dI)) (C := R_Bt) (T := F_Bt) (N := 6) (ci := 9) (kd := 24) (ct := ct) hx hb htb i_Bt hown hK hP hO_0 pm_0 rfl rfl 0 (by decide) (htb (.fieldLink R_WM 181 "WaterMen$Boat" "oars" "I") tw_518) (fun _ h9 => h9) rfl d_WM_hindrance_104 (fun x_17 e_17 b_17 => ?_)
              have hQ := hQ x_17 e_17
              refine vp_callSi (va_Run.run (va_runV (As := [.ref q_15, .int x_12, .int p_2, .int y_16, .int x_17]) (rest := []) ⟨hx, hb, hml, hown, htb⟩ (c_WM_priceOf_w l dC dI ct L f hO_0 q0 m0 q_15 m_15 x_12 p_2 y_16 x_17 b_12.1 b_12.2 as_0 as_1 g1_16 g5_16 _ hQ) (cwV 5 htb (gd_V tw_435 tw_436 tw_437 tw_26 tw_434) rfl rfl rfl (by decide +kernel) ⟨Nat.le_of_ble_eq_true rfl, Nat.le_of_ble_eq_true rfl⟩) ⟨pr_blind, tw_recv hK hP m0 rfl rfl, pr_pre hP hK hN⟩ rfl rfl hl.1 rfl (lv_room (Nat.le_of_ble_eq_true rfl)) d_WM_hindrance_107 ⟨Nat.le_of_ble_eq_true rfl, Nat.le_of_ble_eq_true rfl⟩)) (fun r_18 er_18 => ?_)
              obtain ⟨er_18, hQ⟩ := er_18
              clear er_18
              refine lv_iconst (v := (-1)) hx hb d_WM_hindrance_110 (by decide +kernel) ?_
              refine lv_icmp_ne (tgt := 116) hx hb d_WM_hindrance_111 (by decide) (fun c_19 => ?_) (fun c_19 => ?_)
              · have hQ := hQ.2 c_19
                refine lv_aload_n hx hb d_WM_hindrance_116 rfl (lv_at hl 2 rfl) ?_
                refine tw_getR (D := (dC, dI)) (C := R_WM) (T := F_WM) (N := 13) (ci := 0) (kd := 0) (ct := ct) hx hb htb i_WM hown hK hP m0 rfl rfl 0 e_4 (by decide) (htb (.fieldLink R_WM 12 "WaterMen" "river" "LWaterMen$River;") tw_135) (fun _ h9 => h9) rfl d_WM_hindrance_117 ?_
                refine hb_tv (.ref q_4) rfl ?_
                refine lv_aload_n hx hb d_WM_hindrance_120 rfl (lv_at hl 3 rfl) ?_
                refine tw_getI (x := x_12) (D := (dC, dI)) (C := R_Bt) (T := F_Bt) (N := 6) (ci := 9) (kd := 24) (ct := ct) hx hb htb i_Bt hown hK hP pm_0 rfl rfl 1 e_12 (by decide) (htb (.fieldLink R_WM 178 "WaterMen$Boat" "stairs" "I") tw_517) (fun _ h9 => h9) rfl d_WM_hindrance_121 ?_
                refine lv_iload_n hx hb d_WM_hindrance_124 rfl (lv_at hl 5 rfl) ?_
                refine vp_callSi (va_Run.run (va_runV (As := [.int x_12, .int p_2]) (rest := []) ⟨hx, hb, hml, hown, htb⟩ (c_Rv_passesBridge_w l dC dI ct L f hO_0 q_4 m_4 x_12 p_2 _ hQ) (cwV 2 htb (gd_V tw_554 tw_555 tw_556 tw_140 tw_553) rfl rfl rfl (by decide +kernel) ⟨Nat.le_of_ble_eq_true rfl, Nat.le_of_ble_eq_true rfl⟩) ⟨pr_blind, tw_recv hK hP m_4 rfl rfl, pr_pre hP hK hN⟩ rfl rfl hl.1 rfl (lv_room (Nat.le_of_ble_eq_true rfl)) d_WM_hindrance_125 ⟨Nat.le_of_ble_eq_true rfl, Nat.le_of_ble_eq_true rfl⟩)) (fun r_20 er_20 => ?_)
                obtain ⟨er_20, hQ⟩ := er_20
                rcases er_20 with ⟨rfl, -⟩ | ⟨rfl, -⟩
                · have hQ := hQ.1 rfl
                  refine lv_if_eq (tgt := 159) hx hb d_WM_hindrance_128 (by decide) (fun _ => ?_) (fun h => absurd (by decide +kernel) h)
                  refine lv_aload_n hx hb d_WM_hindrance_159 rfl (lv_at hl 2 rfl) ?_
                  refine lv_aload_n hx hb d_WM_hindrance_160 rfl (lv_at hl 3 rfl) ?_
                  refine lv_iload_n hx hb d_WM_hindrance_161 rfl (lv_at hl 5 rfl) ?_
                  refine vp_callSi (va_Run.run (va_runV (As := [.ref pq_0, .int p_2]) (rest := []) ⟨hx, hb, hml, hown, htb⟩ (c_WM_minutesOfWay_w l dC dI ct L f hO_0 q0 m0 pq_0 pm_0 p_2 as_0 as_1 _ hQ) (cwV 2 htb (gd_V tw_563 tw_564 tw_565 tw_26 tw_562) rfl rfl rfl (by decide +kernel) ⟨Nat.le_of_ble_eq_true rfl, Nat.le_of_ble_eq_true rfl⟩) ⟨pr_blind, tw_recv hK hP m0 rfl rfl, pr_pre hP hK hN⟩ rfl rfl hl.1 rfl (lv_room (Nat.le_of_ble_eq_true rfl)) d_WM_hindrance_162 ⟨Nat.le_of_ble_eq_true rfl, Nat.le_of_ble_eq_true rfl⟩)) (fun r_21 er_21 => ?_)
                  obtain ⟨er_21, hQ⟩ := er_21
                  clear er_21
                  refine lv_ldcw (v := 359999) hx hb hown (htb (.constant R_WM 270 359999) tw_207) d_WM_hindrance_165 ?_
                  refine lv_aload_n hx hb d_WM_hindrance_168 rfl (lv_at hl 2 rfl) ?_
                  refine tw_getI (x := x_6) (D := (dC, dI)) (C := R_WM) (T := F_WM) (N := 13) (ci := 0) (kd := 0) (ct := ct) hx hb htb i_WM hown hK hP m0 rfl rfl 10 e_6 (by decide) (htb (.fieldLink R_WM 155 "WaterMen" "now" "I") tw_40) (fun _ h9 => h9) rfl d_WM_hindrance_169 ?_
                  refine lv_isub hx hb d_WM_hindrance_172 ?_
                  refine lv_icmp_le (tgt := 181) hx hb d_WM_hindrance_173 (by decide) (fun c_22 => ?_) (fun c_22 => ?_)
                  · have hQ := hQ.1 c_22
                    refine lv_iconst (v := 0) hx hb d_WM_hindrance_181 (by decide +kernel) ?_
                    exact W.iret (v := 0) hx hb hr (fun t ht hW => ⟨0, rfl, ⟨trivial, hQ⟩, ht⟩) t_nil d_WM_hindrance_182
                  · have hQ := hQ.2 c_22
                    refine lv_bipush (v := 7) hx hb d_WM_hindrance_176 (by decide +kernel) ?_
                    refine lv_goto (tgt := 182) hx hb d_WM_hindrance_178 (by decide) ?_
                    exact W.iret (v := 7) hx hb hr (fun t ht hW => ⟨7, rfl, ⟨trivial, hQ⟩, ht⟩) t_nil d_WM_hindrance_182
                · have hQ := hQ.2 rfl
                  refine lv_if_eq (tgt := 159) hx hb d_WM_hindrance_128 (by decide) (fun h => absurd h (by decide +kernel)) (fun _ => ?_)
                  refine lv_aload hx hb d_WM_hindrance_131 (lv_at hl 0 rfl) ?_
                  refine lv_aload_n hx hb d_WM_hindrance_133 rfl (lv_at hl 2 rfl) ?_
                  refine vp_callSi (va_Run.run (va_runV (As := []) (rest := [.ref q_15]) ⟨hx, hb, hml, hown, htb⟩ (c_WM_hourNow_w l dC dI ct L f hO_0 q0 m0 _ hQ) (cwV 0 htb (gd_V tw_558 tw_559 tw_560 tw_26 tw_557) rfl rfl rfl (by decide +kernel) ⟨Nat.le_of_ble_eq_true rfl, Nat.le_of_ble_eq_true rfl⟩) ⟨pr_blind, tw_recv hK hP m0 rfl rfl, pr_pre hP hK hN⟩ rfl rfl hl.1 rfl (lv_room (Nat.le_of_ble_eq_true rfl)) d_WM_hindrance_134 ⟨Nat.le_of_ble_eq_true rfl, Nat.le_of_ble_eq_true rfl⟩)) (fun r_23 er_23 => ?_)
                  obtain ⟨er_23, hQ⟩ := er_23
                  obtain ⟨po_24, po_25, -⟩ := er_23
                  refine lv_aload_n hx hb d_WM_hindrance_137 rfl (lv_at hl 2 rfl) ?_
                  refine tw_getR (D := (dC, dI)) (C := R_WM) (T := F_WM) (N := 13) (ci := 0) (kd := 0) (ct := ct) hx hb htb i_WM hown hK hP m0 rfl rfl 0 e_4 (by decide) (htb (.fieldLink R_WM 12 "WaterMen" "river" "LWaterMen$River;") tw_135) (fun _ h9 => h9) rfl d_WM_hindrance_138 ?_
                  refine hb_tv (.ref q_4) rfl ?_
                  refine lv_iload hx hb d_WM_hindrance_141 (lv_at hl 1 rfl) ?_
                  refine lv_aload_n hx hb d_WM_hindrance_143 rfl (lv_at hl 2 rfl) ?_
                  refine vp_callSi (va_Run.run (va_runV (As := []) (rest := [.int r_1, .ref q_4, .int r_23, .ref q_15]) ⟨hx, hb, hml, hown, htb⟩ (c_WM_hourNow_w l dC dI ct L f hO_0 q0 m0 _ hQ) (cwV 0 htb (gd_V tw_558 tw_559 tw_560 tw_26 tw_557) rfl rfl rfl (by decide +kernel) ⟨Nat.le_of_ble_eq_true rfl, Nat.le_of_ble_eq_true rfl⟩) ⟨pr_blind, tw_recv hK hP m0 rfl rfl, pr_pre hP hK hN⟩ rfl rfl hl.1 rfl (lv_room (Nat.le_of_ble_eq_true rfl)) d_WM_hindrance_144 ⟨Nat.le_of_ble_eq_true rfl, Nat.le_of_ble_eq_true rfl⟩)) (fun r_26 er_26 => ?_)
                  obtain ⟨er_26, hQ⟩ := er_26
                  obtain ⟨po_27, po_28, -⟩ := er_26
                  refine vp_callSi (va_Run.run (va_runV (As := [.int r_1, .int r_26]) (rest := [.int r_23, .ref q_15]) ⟨hx, hb, hml, hown, htb⟩ (c_Rv_flowIn_w l dC dI ct L f hO_0 q_4 m_4 r_1 r_26 po_2 po_3 po_27 po_28 _ hQ) (cwV 2 htb (gd_V tw_156 tw_157 tw_158 tw_140 tw_155) rfl rfl rfl (by decide +kernel) ⟨Nat.le_of_ble_eq_true rfl, Nat.le_of_ble_eq_true rfl⟩) ⟨pr_blind, tw_recv hK hP m_4 rfl rfl, pr_pre hP hK hN⟩ rfl rfl hl.1 rfl (lv_room (Nat.le_of_ble_eq_true rfl)) d_WM_hindrance_147 ⟨Nat.le_of_ble_eq_true rfl, Nat.le_of_ble_eq_true rfl⟩)) (fun r_29 er_29 => ?_)
                  obtain ⟨er_29, hQ⟩ := er_29
                  clear er_29
                  refine vp_callSi (va_Run.run (va_runV (As := [.int r_23, .int r_29]) (rest := []) ⟨hx, hb, hml, hown, htb⟩ (c_Or_shutsBridge_w l dC dI ct L f hO_0 q_15 m_15 r_23 r_29 _ hQ) (cwV 2 htb (gd_V tw_568 tw_569 tw_570 tw_250 tw_567) rfl rfl rfl (by decide +kernel) ⟨Nat.le_of_ble_eq_true rfl, Nat.le_of_ble_eq_true rfl⟩) ⟨pr_blind, tw_recv hK hP m_15 rfl rfl, pr_pre hP hK hN⟩ rfl rfl hl.1 rfl (lv_room (Nat.le_of_ble_eq_true rfl)) d_WM_hindrance_150 ⟨Nat.le_of_ble_eq_true rfl, Nat.le_of_ble_eq_true rfl⟩)) (fun r_30 er_30 => ?_)
                  obtain ⟨er_30, hQ⟩ := er_30
                  rcases er_30 with ⟨rfl, -⟩ | ⟨rfl, -⟩
                  · have hQ := hQ.1 rfl
                    refine lv_if_eq (tgt := 159) hx hb d_WM_hindrance_153 (by decide) (fun _ => ?_) (fun h => absurd (by decide +kernel) h)
                    refine lv_aload_n hx hb d_WM_hindrance_159 rfl (lv_at hl 2 rfl) ?_
                    refine lv_aload_n hx hb d_WM_hindrance_160 rfl (lv_at hl 3 rfl) ?_
                    refine lv_iload_n hx hb d_WM_hindrance_161 rfl (lv_at hl 5 rfl) ?_
                    refine vp_callSi (va_Run.run (va_runV (As := [.ref pq_0, .int p_2]) (rest := []) ⟨hx, hb, hml, hown, htb⟩ (c_WM_minutesOfWay_w l dC dI ct L f hO_0 q0 m0 pq_0 pm_0 p_2 as_0 as_1 _ hQ) (cwV 2 htb (gd_V tw_563 tw_564 tw_565 tw_26 tw_562) rfl rfl rfl (by decide +kernel) ⟨Nat.le_of_ble_eq_true rfl, Nat.le_of_ble_eq_true rfl⟩) ⟨pr_blind, tw_recv hK hP m0 rfl rfl, pr_pre hP hK hN⟩ rfl rfl hl.1 rfl (lv_room (Nat.le_of_ble_eq_true rfl)) d_WM_hindrance_162 ⟨Nat.le_of_ble_eq_true rfl, Nat.le_of_ble_eq_true rfl⟩)) (fun r_31 er_31 => ?_)
                    obtain ⟨er_31, hQ⟩ := er_31
                    clear er_31
                    refine lv_ldcw (v := 359999) hx hb hown (htb (.constant R_WM 270 359999) tw_207) d_WM_hindrance_165 ?_
                    refine lv_aload_n hx hb d_WM_hindrance_168 rfl (lv_at hl 2 rfl) ?_
                    refine tw_getI (x := x_6) (D := (dC, dI)) (C := R_WM) (T := F_WM) (N := 13) (ci := 0) (kd := 0) (ct := ct) hx hb htb i_WM hown hK hP m0 rfl rfl 10 e_6 (by decide) (htb (.fieldLink R_WM 155 "WaterMen" "now" "I") tw_40) (fun _ h9 => h9) rfl d_WM_hindrance_169 ?_
                    refine lv_isub hx hb d_WM_hindrance_172 ?_
                    refine lv_icmp_le (tgt := 181) hx hb d_WM_hindrance_173 (by decide) (fun c_32 => ?_) (fun c_32 => ?_)
                    · have hQ := hQ.1 c_32
                      refine lv_iconst (v := 0) hx hb d_WM_hindrance_181 (by decide +kernel) ?_
                      exact W.iret (v := 0) hx hb hr (fun t ht hW => ⟨0, rfl, ⟨trivial, hQ⟩, ht⟩) t_nil d_WM_hindrance_182
                    · have hQ := hQ.2 c_32
                      refine lv_bipush (v := 7) hx hb d_WM_hindrance_176 (by decide +kernel) ?_
                      refine lv_goto (tgt := 182) hx hb d_WM_hindrance_178 (by decide) ?_
                      exact W.iret (v := 7) hx hb hr (fun t ht hW => ⟨7, rfl, ⟨trivial, hQ⟩, ht⟩) t_nil d_WM_hindrance_182
                  · have hQ := hQ.2 rfl
                    refine lv_if_eq (tgt := 159) hx hb d_WM_hindrance_153 (by decide) (fun h => absurd h (by decide +kernel)) (fun _ => ?_)
                    refine lv_bipush (v := 6) hx hb d_WM_hindrance_156 (by decide +kernel) ?_
                    exact W.iret (v := 6) hx hb hr (fun t ht hW => ⟨6, rfl, ⟨trivial, hQ⟩, ht⟩) t_nil d_WM_hindrance_158
              · have hQ := hQ.1 c_19
                refine lv_iconst (v := 5) hx hb d_WM_hindrance_114 (by decide +kernel) ?_
                exact W.iret (v := 5) hx hb hr (fun t ht hW => ⟨5, rfl, ⟨trivial, hQ⟩, ht⟩) t_nil d_WM_hindrance_115
          · have hQ := hQ.2 rfl
            refine lv_if_eq (tgt := 69) hx hb d_WM_hindrance_64 (by decide) (fun h => absurd h (by decide +kernel)) (fun _ => ?_)
            refine lv_iconst (v := 4) hx hb d_WM_hindrance_67 (by decide +kernel) ?_
            exact W.iret (v := 4) hx hb hr (fun t ht hW => ⟨4, rfl, ⟨trivial, hQ⟩, ht⟩) t_nil d_WM_hindrance_68
        · have hQ := hQ.2 rfl
          refine lv_if_eq (tgt := 55) hx hb d_WM_hindrance_50 (by decide) (fun h => absurd h (by decide +kernel)) (fun _ => ?_)
          refine lv_iconst (v := 3) hx hb d_WM_hindrance_53 (by decide +kernel) ?_
          exact W.iret (v := 3) hx hb hr (fun t ht hW => ⟨3, rfl, ⟨trivial, hQ⟩, ht⟩) t_nil d_WM_hindrance_54
    · have hQ := hQ.1 c_8
      refine lv_iconst (v := 2) hx hb d_WM_hindrance_32 (by decide +kernel) ?_
      exact W.iret (v := 2) hx hb hr (fun t ht hW => ⟨2, rfl, ⟨trivial, hQ⟩, ht⟩) t_nil d_WM_hindrance_33
  · have hQ := hQ.2 rfl
    refine lv_if_eq (tgt := 20) hx hb d_WM_hindrance_15 (by decide) (fun h => absurd h (by decide +kernel)) (fun _ => ?_)
    refine lv_iconst (v := 1) hx hb d_WM_hindrance_18 (by decide +kernel) ?_
    exact W.iret (v := 1) hx hb hr (fun t ht hW => ⟨1, rfl, ⟨trivial, hQ⟩, ht⟩) t_nil d_WM_hindrance_19
def wp_WM_why_w (L : List Nat) (f : TF) (q0 : Nat) (p_0 : Int32) (p_1 : Int32) (p_2 : Int32) (Q : Int32 → Prop) : Prop := wp_WM_boatAt_w L f q0 p_0 (fun (r_1 : Option Nat) => ((r_1 = none → wp_WM_manAt_w L f q0 p_1 (fun (r_2 : Option Nat) => ((r_2 = none → Q (-1)) ∧ (∀ q_2 : Nat, r_2 = some q_2 → Q (-1))))) ∧ (∀ q_1 : Nat, r_1 = some q_1 → wp_WM_manAt_w L f q0 p_1 (fun (r_3 : Option Nat) => ((r_3 = none → Q (-1)) ∧ (∀ q_3 : Nat, r_3 = some q_3 → wp_WM_mayGoTo_w L f q0 q_1 p_2 (fun (r_4 : Int32) => ((r_4 = 0 → Q (-1)) ∧ (r_4 = 1 → wp_WM_hindrance_w L f q0 q_1 q_3 p_2 (fun (r_7 : Int32) => Q r_7))))))))))
set_option maxHeartbeats 4000000 in
set_option maxRecDepth 100000 in
theorem c_WM_why_w (l : Launch) (dC : Nat → ClassId) (dI : Nat → Nat → Nat) (ct : Nat → ClassId) (L : List Nat) (f : TF) (hO_0 : Ok L f) (q0 : Nat) (m0 : q0 ∈ L ∧ tk f q0 = 0) (p_0 : Int32) (p_1 : Int32) (p_2 : Int32)   (Q : Int32 → Prop) (hQ : wp_WM_why_w L f q0 p_0 p_1 p_2 Q) : Met l y_WM_why (.code y_WM_why b_WM_why 6 (some .int) :: TB) ({ frames := 5, cells := 0, slots := 0, locals := 124 }) (va_Pc [.ref q0, .int p_0, .int p_1, .int p_2] (PR dC dI (TW ct L f) (TT ct))) (vp_Si (fun r => (True) ∧ Q r)) 0 0 (fun _ => False) := by
  refine Met.ofW (cc := b_WM_why) (maxL := 6) (ret := (some .int)) (by decide) rfl ?_
  intro p e s m args below meth c s₁ B hml hv
  obtain ⟨rfl, hP, hK, hN⟩ := hv
  have hx := B.exec
  have hb := B.bytes
  have hr := B.returns
  have hts := atoms_spec (ws := (.code y_WM_why b_WM_why 6 (some .int) :: TB)) B.pre
  have htb := fun w (h : w ∈ TB) => hts w (List.mem_cons_of_mem _ h)
  have hown : s.vm.findClass R_WM = some m.cls := findClass_of_methodNamed B.named
  have hlocks := B.notSynchronized
  have hl := lv_entry ([.ref q0, .int p_0, .int p_1, .int p_2]) (n := 6) (Nat.le_of_ble_eq_true rfl)
  rw [lg_entry_eq]
  generalize (lg_sl ([.ref q0, .int p_0, .int p_1, .int p_2]) ++ List.replicate (6 - (lg_sl ([.ref q0, .int p_0, .int p_1, .int p_2])).length) Slot.unset).toArray = ls at hl ⊢
  have hl : lv_has ls 6 [(0, .ref q0), (1, .int p_0), (2, .int p_1), (3, .int p_2)] := hl
  unfold wp_WM_why_w at hQ
  refine lv_aload_n hx hb d_WM_why_0 rfl (lv_at hl 0 rfl) ?_
  refine lv_iload_n hx hb d_WM_why_1 rfl (lv_at hl 1 rfl) ?_
  refine va_csq (va_Run.run (va_runV (As := [.int p_0]) (rest := []) ⟨hx, hb, hml, hown, htb⟩ (c_WM_boatAt_w l dC dI ct L f hO_0 q0 m0 p_0 _ hQ) (cwV 1 htb (gd_V tw_514 tw_515 tw_516 tw_26 tw_513) rfl rfl rfl (by decide +kernel) ⟨Nat.le_of_ble_eq_true rfl, Nat.le_of_ble_eq_true rfl⟩) ⟨pr_blind, tw_recv hK hP m0 rfl rfl, pr_pre hP hK hN⟩ rfl rfl hl.1 rfl (lv_room (Nat.le_of_ble_eq_true rfl)) d_WM_why_2 ⟨Nat.le_of_ble_eq_true rfl, Nat.le_of_ble_eq_true rfl⟩)) (fun r_1 er_1 => ?_)
  obtain ⟨er_1, hQ⟩ := er_1
  rcases er_1 with rfl | ⟨q_1, rfl, m_1⟩
  · have hQ := hQ.1 rfl
    refine hb_tv .null rfl ?_
    refine lv_astoreN (lv' := [(4, .null), (0, .ref q0), (1, .int p_0), (2, .int p_1), (3, .int p_2)]) hx hb d_WM_why_5 hl (by decide) rfl (fun ls hl => ?_)
    refine lv_aload_n hx hb d_WM_why_7 rfl (lv_at hl 1 rfl) ?_
    refine lv_iload_n hx hb d_WM_why_8 rfl (lv_at hl 3 rfl) ?_
    refine va_csq (va_Run.run (va_runV (As := [.int p_1]) (rest := []) ⟨hx, hb, hml, hown, htb⟩ (c_WM_manAt_w l dC dI ct L f hO_0 q0 m0 p_1 _ hQ) (cwV 1 htb (gd_V tw_27 tw_28 tw_29 tw_26 tw_25) rfl rfl rfl (by decide +kernel) ⟨Nat.le_of_ble_eq_true rfl, Nat.le_of_ble_eq_true rfl⟩) ⟨pr_blind, tw_recv hK hP m0 rfl rfl, pr_pre hP hK hN⟩ rfl rfl hl.1 rfl (lv_room (Nat.le_of_ble_eq_true rfl)) d_WM_why_9 ⟨Nat.le_of_ble_eq_true rfl, Nat.le_of_ble_eq_true rfl⟩)) (fun r_2 er_2 => ?_)
    obtain ⟨er_2, hQ⟩ := er_2
    rcases er_2 with rfl | ⟨q_2, rfl, m_2⟩
    · have hQ := hQ.1 rfl
      refine hb_tv .null rfl ?_
      refine lv_astoreN (lv' := [(5, .null), (4, .null), (0, .ref q0), (1, .int p_0), (2, .int p_1), (3, .int p_2)]) hx hb d_WM_why_12 hl (by decide) rfl (fun ls hl => ?_)
      refine lv_aloadN hx hb d_WM_why_14 (lv_at hl 1 rfl) ?_
      refine lv_ifnullN (tgt := 34) hx hb d_WM_why_16 (by decide) ?_
      refine lv_iconst (v := (-1)) hx hb d_WM_why_34 (by decide +kernel) ?_
      exact W.iret (v := (-1)) hx hb hr (fun t ht hW => ⟨(-1), rfl, ⟨trivial, hQ⟩, ht⟩) t_nil d_WM_why_35
    · have hQ := hQ.2 q_2 rfl
      refine hb_tv (.ref q_2) rfl ?_
      refine lv_astore (lv' := [(5, .ref q_2), (4, .null), (0, .ref q0), (1, .int p_0), (2, .int p_1), (3, .int p_2)]) hx hb d_WM_why_12 hl (by decide) rfl (fun ls hl => ?_)
      refine lv_aloadN hx hb d_WM_why_14 (lv_at hl 1 rfl) ?_
      refine lv_ifnullN (tgt := 34) hx hb d_WM_why_16 (by decide) ?_
      refine lv_iconst (v := (-1)) hx hb d_WM_why_34 (by decide +kernel) ?_
      exact W.iret (v := (-1)) hx hb hr (fun t ht hW => ⟨(-1), rfl, ⟨trivial, hQ⟩, ht⟩) t_nil d_WM_why_35
  · have hQ := hQ.2 q_1 rfl
    refine hb_tv (.ref q_1) rfl ?_
    refine lv_astore (lv' := [(4, .ref q_1), (0, .ref q0), (1, .int p_0), (2, .int p_1), (3, .int p_2)]) hx hb d_WM_why_5 hl (by decide) rfl (fun ls hl => ?_)
    refine lv_aload_n hx hb d_WM_why_7 rfl (lv_at hl 1 rfl) ?_
    refine lv_iload_n hx hb d_WM_why_8 rfl (lv_at hl 3 rfl) ?_
    refine va_csq (va_Run.run (va_runV (As := [.int p_1]) (rest := []) ⟨hx, hb, hml, hown, htb⟩ (c_WM_manAt_w l dC dI ct L f hO_0 q0 m0 p_1 _ hQ) (cwV 1 htb (gd_V tw_27 tw_28 tw_29 tw_26 tw_25) rfl rfl rfl (by decide +kernel) ⟨Nat.le_of_ble_eq_true rfl, Nat.le_of_ble_eq_true rfl⟩) ⟨pr_blind, tw_recv hK hP m0 rfl rfl, pr_pre hP hK hN⟩ rfl rfl hl.1 rfl (lv_room (Nat.le_of_ble_eq_true rfl)) d_WM_why_9 ⟨Nat.le_of_ble_eq_true rfl, Nat.le_of_ble_eq_true rfl⟩)) (fun r_3 er_3 => ?_)
    obtain ⟨er_3, hQ⟩ := er_3
    rcases er_3 with rfl | ⟨q_3, rfl, m_3⟩
    · have hQ := hQ.1 rfl
      refine hb_tv .null rfl ?_
      refine lv_astoreN (lv' := [(5, .null), (4, .ref q_1), (0, .ref q0), (1, .int p_0), (2, .int p_1), (3, .int p_2)]) hx hb d_WM_why_12 hl (by decide) rfl (fun ls hl => ?_)
      refine lv_aload hx hb d_WM_why_14 (lv_at hl 1 rfl) ?_
      refine lv_ifnull hx hb d_WM_why_16 ?_
      refine lv_aloadN hx hb d_WM_why_19 (lv_at hl 0 rfl) ?_
      refine lv_ifnullN (tgt := 34) hx hb d_WM_why_21 (by decide) ?_
      refine lv_iconst (v := (-1)) hx hb d_WM_why_34 (by decide +kernel) ?_
      exact W.iret (v := (-1)) hx hb hr (fun t ht hW => ⟨(-1), rfl, ⟨trivial, hQ⟩, ht⟩) t_nil d_WM_why_35
    · have hQ := hQ.2 q_3 rfl
      refine hb_tv (.ref q_3) rfl ?_
      refine lv_astore (lv' := [(5, .ref q_3), (4, .ref q_1), (0, .ref q0), (1, .int p_0), (2, .int p_1), (3, .int p_2)]) hx hb d_WM_why_12 hl (by decide) rfl (fun ls hl => ?_)
      refine lv_aload hx hb d_WM_why_14 (lv_at hl 1 rfl) ?_
      refine lv_ifnull hx hb d_WM_why_16 ?_
      refine lv_aload hx hb d_WM_why_19 (lv_at hl 0 rfl) ?_
      refine lv_ifnull hx hb d_WM_why_21 ?_
      refine lv_aload_n hx hb d_WM_why_24 rfl (lv_at hl 2 rfl) ?_
      refine lv_aload hx hb d_WM_why_25 (lv_at hl 1 rfl) ?_
      refine lv_iload_n hx hb d_WM_why_27 rfl (lv_at hl 5 rfl) ?_
      refine vp_callSi (va_Run.run (va_runV (As := [.ref q_1, .int p_2]) (rest := []) ⟨hx, hb, hml, hown, htb⟩ (c_WM_mayGoTo_w l dC dI ct L f hO_0 q0 m0 q_1 m_1 p_2 _ hQ) (cwV 2 htb (gd_V tw_539 tw_540 tw_541 tw_26 tw_538) rfl rfl rfl (by decide +kernel) ⟨Nat.le_of_ble_eq_true rfl, Nat.le_of_ble_eq_true rfl⟩) ⟨pr_blind, tw_recv hK hP m0 rfl rfl, pr_pre hP hK hN⟩ rfl rfl hl.1 rfl (lv_room (Nat.le_of_ble_eq_true rfl)) d_WM_why_28 ⟨Nat.le_of_ble_eq_true rfl, Nat.le_of_ble_eq_true rfl⟩)) (fun r_4 er_4 => ?_)
      obtain ⟨er_4, hQ⟩ := er_4
      rcases er_4 with ⟨rfl, -⟩ | ⟨rfl, po_5, po_6, -⟩
      · have hQ := hQ.1 rfl
        refine lv_if_ne (tgt := 36) hx hb d_WM_why_31 (by decide) (fun h => absurd (by decide +kernel) h) (fun _ => ?_)
        refine lv_iconst (v := (-1)) hx hb d_WM_why_34 (by decide +kernel) ?_
        exact W.iret (v := (-1)) hx hb hr (fun t ht hW => ⟨(-1), rfl, ⟨trivial, hQ⟩, ht⟩) t_nil d_WM_why_35
      · have hQ := hQ.2 rfl
        refine lv_if_ne (tgt := 36) hx hb d_WM_why_31 (by decide) (fun _ => ?_) (fun h => absurd h (by decide +kernel))
        refine lv_aload_n hx hb d_WM_why_36 rfl (lv_at hl 2 rfl) ?_
        refine lv_aload hx hb d_WM_why_37 (lv_at hl 1 rfl) ?_
        refine lv_aload hx hb d_WM_why_39 (lv_at hl 0 rfl) ?_
        refine lv_iload_n hx hb d_WM_why_41 rfl (lv_at hl 5 rfl) ?_
        refine vp_callSi (va_Run.run (va_runV (As := [.ref q_1, .ref q_3, .int p_2]) (rest := []) ⟨hx, hb, hml, hown, htb⟩ (c_WM_hindrance_w l dC dI ct L f hO_0 q0 m0 q_1 m_1 q_3 m_3 p_2 po_5 po_6 _ hQ) (cwV 3 htb (gd_V tw_572 tw_573 tw_574 tw_26 tw_571) rfl rfl rfl (by decide +kernel) ⟨Nat.le_of_ble_eq_true rfl, Nat.le_of_ble_eq_true rfl⟩) ⟨pr_blind, tw_recv hK hP m0 rfl rfl, pr_pre hP hK hN⟩ rfl rfl hl.1 rfl (lv_room (Nat.le_of_ble_eq_true rfl)) d_WM_why_42 ⟨Nat.le_of_ble_eq_true rfl, Nat.le_of_ble_eq_true rfl⟩)) (fun r_7 er_7 => ?_)
        obtain ⟨er_7, hQ⟩ := er_7
        clear er_7
        exact W.iret (v := r_7) hx hb hr (fun t ht hW => ⟨r_7, rfl, ⟨trivial, hQ⟩, ht⟩) t_nil d_WM_why_45
def wp_Md_isAsked_w (L : List Nat) (f : TF) (q0 : Nat) (p_0 : Int32) (p_1 : Int32) (p_2 : Int32) (Q : Int32 → Prop) : Prop := wp_Md_isBoat_w L f q0 p_0 (fun (r_1 : Int32) => ((r_1 = 0 → Q 0) ∧ (r_1 = 1 → ∀ q_4 : Nat, tr f q0 26 = some q_4 → ∀ x_5 : Int32, ti f q_4 (p_0 : Int32).toNatClampNeg = x_5 → ((x_5 = 0 → ((p_1 < 0 → Q 0) ∧ (¬ (p_1 < 0) → ((39 < p_1 → Q 0) ∧ (¬ (39 < p_1) → wp_Md_isStairs_w L f q0 p_2 (fun (r_10 : Int32) => ((r_10 = 0 → Q 0) ∧ (r_10 = 1 → ∀ q_14 : Nat, tr f q0 23 = some q_14 → ∀ x_15 : Int32, ti f q_14 (p_0 : Int32).toNatClampNeg = x_15 → ((p_2 = x_15 → Q 0) ∧ (¬ (p_2 = x_15) → Q 1)))))))))) ∧ (¬ (x_5 = 0) → Q 0)))))
set_option maxHeartbeats 4000000 in
set_option maxRecDepth 100000 in
theorem c_Md_isAsked_w (l : Launch) (dC : Nat → ClassId) (dI : Nat → Nat → Nat) (ct : Nat → ClassId) (L : List Nat) (f : TF) (hO_0 : Ok L f) (q0 : Nat) (m0 : q0 ∈ L ∧ tk f q0 = 27) (p_0 : Int32) (p_1 : Int32) (p_2 : Int32)   (Q : Int32 → Prop) (hQ : wp_Md_isAsked_w L f q0 p_0 p_1 p_2 Q) : Met l y_Md_isAsked (.code y_Md_isAsked b_Md_isAsked 4 (some .boolean) :: TB) ({ frames := 2, cells := 0, slots := 0, locals := 43 }) (va_Pc [.ref q0, .int p_0, .int p_1, .int p_2] (PR dC dI (TW ct L f) (TT ct))) (vp_Si (fun r => ((r = 0 ∧ True) ∨ (r = 1 ∧ ¬ (p_0 < 0) ∧ ¬ (19 < p_0) ∧ ¬ (p_1 < 0) ∧ ¬ (39 < p_1) ∧ ¬ (p_2 < 0) ∧ ¬ (11 < p_2) ∧ True)) ∧ Q r)) 0 0 (fun _ => False) := by
  refine Met.ofW (cc := b_Md_isAsked) (maxL := 4) (ret := (some .boolean)) (by decide) rfl ?_
  intro p e s m args below meth c s₁ B hml hv
  obtain ⟨rfl, hP, hK, hN⟩ := hv
  have hx := B.exec
  have hb := B.bytes
  have hr := B.returns
  have hts := atoms_spec (ws := (.code y_Md_isAsked b_Md_isAsked 4 (some .boolean) :: TB)) B.pre
  have htb := fun w (h : w ∈ TB) => hts w (List.mem_cons_of_mem _ h)
  have hown : s.vm.findClass R_Md = some m.cls := findClass_of_methodNamed B.named
  have hlocks := B.notSynchronized
  have hl := lv_entry ([.ref q0, .int p_0, .int p_1, .int p_2]) (n := 4) (Nat.le_of_ble_eq_true rfl)
  rw [lg_entry_eq]
  generalize (lg_sl ([.ref q0, .int p_0, .int p_1, .int p_2]) ++ List.replicate (4 - (lg_sl ([.ref q0, .int p_0, .int p_1, .int p_2])).length) Slot.unset).toArray = ls at hl ⊢
  have hl : lv_has ls 4 [(0, .ref q0), (1, .int p_0), (2, .int p_1), (3, .int p_2)] := hl
  unfold wp_Md_isAsked_w at hQ
  refine lv_aload_n hx hb d_Md_isAsked_0 rfl (lv_at hl 0 rfl) ?_
  refine lv_iload_n hx hb d_Md_isAsked_1 rfl (lv_at hl 1 rfl) ?_
  refine vp_callSi (va_Run.run (va_runV (As := [.int p_0]) (rest := []) ⟨hx, hb, hml, hown, htb⟩ (c_Md_isBoat_w l dC dI ct L f hO_0 q0 m0 p_0 _ hQ) (cwV 1 htb (gd_V tw_528 tw_529 tw_530 tw_89 tw_527) rfl rfl rfl (by decide +kernel) ⟨Nat.le_of_ble_eq_true rfl, Nat.le_of_ble_eq_true rfl⟩) ⟨pr_blind, tw_recv hK hP m0 rfl rfl, pr_pre hP hK hN⟩ rfl rfl hl.1 rfl (lv_room (Nat.le_of_ble_eq_true rfl)) d_Md_isAsked_2 ⟨Nat.le_of_ble_eq_true rfl, Nat.le_of_ble_eq_true rfl⟩)) (fun r_1 er_1 => ?_)
  obtain ⟨er_1, hQ⟩ := er_1
  rcases er_1 with ⟨rfl, -⟩ | ⟨rfl, po_2, po_3, -⟩
  · have hQ := hQ.1 rfl
    refine lv_if_eq (tgt := 46) hx hb d_Md_isAsked_5 (by decide) (fun _ => ?_) (fun h => absurd (by decide +kernel) h)
    refine lv_iconst (v := 0) hx hb d_Md_isAsked_46 (by decide +kernel) ?_
    exact W.zret (v := 0) hx hb hr (by decide +kernel) (fun t ht hW => ⟨0, rfl, ⟨(Or.inl ⟨rfl, trivial⟩), hQ⟩, ht⟩) t_nil d_Md_isAsked_47
  · have hQ := hQ.2 rfl
    refine lv_if_eq (tgt := 46) hx hb d_Md_isAsked_5 (by decide) (fun h => absurd h (by decide +kernel)) (fun _ => ?_)
    refine lv_aload_n hx hb d_Md_isAsked_8 rfl (lv_at hl 0 rfl) ?_
    refine tw_getr (D := (dC, dI)) (C := R_Md) (T := F_Md) (N := 64) (ci := 7) (kd := 27) (ct := ct) hx hb htb i_Md hown hK hP hO_0 m0 rfl rfl 26 (by decide) (htb (.fieldLink R_Md 106 "WaterMenModel" "sunk" "[Z") tw_531) (fun _ h9 => h9) rfl d_Md_isAsked_9 (fun q_4 e_4 m_4 => ?_)
    have hQ := hQ q_4 e_4
    refine lv_iload_n hx hb d_Md_isAsked_12 rfl (lv_at hl 1 rfl) ?_
    refine tw_aldZ (ct := ct) hx hb hK hP hO_0 m_4 rfl (hb_inl po_2 po_3 (by decide +kernel)) d_Md_isAsked_13 (fun x_5 e_5 b_5 => ?_)
    have hQ := hQ x_5 e_5
    refine lv_if_ne (tgt := 46) hx hb d_Md_isAsked_14 (by decide) (fun c_6 => ?_) (fun c_6 => ?_)
    · have hQ := hQ.2 c_6
      refine lv_iconst (v := 0) hx hb d_Md_isAsked_46 (by decide +kernel) ?_
      exact W.zret (v := 0) hx hb hr (by decide +kernel) (fun t ht hW => ⟨0, rfl, ⟨(Or.inl ⟨rfl, trivial⟩), hQ⟩, ht⟩) t_nil d_Md_isAsked_47
    · have hQ := hQ.1 c_6
      refine lv_iload_n hx hb d_Md_isAsked_17 rfl (lv_at hl 2 rfl) ?_
      refine vp_callSi (va_Run.run (va_runS (As := [.int p_1]) (rest := []) ⟨hx, hb, hml, hown, htb⟩ (c_Md_isMan l p_1) (cwS 1 htb (gd_S tw_93 tw_94 tw_89 tw_92) rfl rfl rfl (by decide +kernel) ⟨Nat.le_of_ble_eq_true rfl, Nat.le_of_ble_eq_true rfl⟩) ⟨fun _ _ _ _ h => h, fun U _ _ => ⟨rfl, trivial⟩⟩ rfl rfl hl.1 rfl (lv_room (Nat.le_of_ble_eq_true rfl)) d_Md_isAsked_18 ⟨Nat.le_of_ble_eq_true rfl, Nat.le_of_ble_eq_true rfl⟩)) (fun r er => ?_)
      subst er
      by_cases c_8 : p_1 < 0
      · have hQ := hQ.1 c_8
        refine hb_ti 0 (by unfold f_Md_isMan; rw [if_pos c_8]; first | done | rfl) ?_
        refine lv_if_eq (tgt := 46) hx hb d_Md_isAsked_21 (by decide) (fun _ => ?_) (fun h => absurd (by decide +kernel) h)
        refine lv_iconst (v := 0) hx hb d_Md_isAsked_46 (by decide +kernel) ?_
        exact W.zret (v := 0) hx hb hr (by decide +kernel) (fun t ht hW => ⟨0, rfl, ⟨(Or.inl ⟨rfl, trivial⟩), hQ⟩, ht⟩) t_nil d_Md_isAsked_47
      · have hQ := hQ.2 c_8
        by_cases c_9 : 39 < p_1
        · have hQ := hQ.1 c_9
          refine hb_ti 0 (by unfold f_Md_isMan; rw [if_neg c_8, if_pos c_9]; first | done | rfl) ?_
          refine lv_if_eq (tgt := 46) hx hb d_Md_isAsked_21 (by decide) (fun _ => ?_) (fun h => absurd (by decide +kernel) h)
          refine lv_iconst (v := 0) hx hb d_Md_isAsked_46 (by decide +kernel) ?_
          exact W.zret (v := 0) hx hb hr (by decide +kernel) (fun t ht hW => ⟨0, rfl, ⟨(Or.inl ⟨rfl, trivial⟩), hQ⟩, ht⟩) t_nil d_Md_isAsked_47
        · have hQ := hQ.2 c_9
          refine hb_ti 1 (by unfold f_Md_isMan; rw [if_neg c_8, if_neg c_9]; first | done | rfl) ?_
          refine lv_if_eq (tgt := 46) hx hb d_Md_isAsked_21 (by decide) (fun h => absurd h (by decide +kernel)) (fun _ => ?_)
          refine lv_aload_n hx hb d_Md_isAsked_24 rfl (lv_at hl 0 rfl) ?_
          refine lv_iload_n hx hb d_Md_isAsked_25 rfl (lv_at hl 3 rfl) ?_
          refine vp_callSi (va_Run.run (va_runV (As := [.int p_2]) (rest := []) ⟨hx, hb, hml, hown, htb⟩ (c_Md_isStairs_w l dC dI ct L f hO_0 q0 m0 p_2 _ hQ) (cwV 1 htb (gd_V tw_439 tw_440 tw_441 tw_89 tw_438) rfl rfl rfl (by decide +kernel) ⟨Nat.le_of_ble_eq_true rfl, Nat.le_of_ble_eq_true rfl⟩) ⟨pr_blind, tw_recv hK hP m0 rfl rfl, pr_pre hP hK hN⟩ rfl rfl hl.1 rfl (lv_room (Nat.le_of_ble_eq_true rfl)) d_Md_isAsked_26 ⟨Nat.le_of_ble_eq_true rfl, Nat.le_of_ble_eq_true rfl⟩)) (fun r_10 er_10 => ?_)
          obtain ⟨er_10, hQ⟩ := er_10
          rcases er_10 with ⟨rfl, -⟩ | ⟨rfl, po_11, po_12, po_13, -⟩
          · have hQ := hQ.1 rfl
            refine lv_if_eq (tgt := 46) hx hb d_Md_isAsked_29 (by decide) (fun _ => ?_) (fun h => absurd (by decide +kernel) h)
            refine lv_iconst (v := 0) hx hb d_Md_isAsked_46 (by decide +kernel) ?_
            exact W.zret (v := 0) hx hb hr (by decide +kernel) (fun t ht hW => ⟨0, rfl, ⟨(Or.inl ⟨rfl, trivial⟩), hQ⟩, ht⟩) t_nil d_Md_isAsked_47
          · have hQ := hQ.2 rfl
            refine lv_if_eq (tgt := 46) hx hb d_Md_isAsked_29 (by decide) (fun h => absurd h (by decide +kernel)) (fun _ => ?_)
            refine lv_iload_n hx hb d_Md_isAsked_32 rfl (lv_at hl 3 rfl) ?_
            refine lv_aload_n hx hb d_Md_isAsked_33 rfl (lv_at hl 0 rfl) ?_
            refine tw_getr (D := (dC, dI)) (C := R_Md) (T := F_Md) (N := 64) (ci := 7) (kd := 27) (ct := ct) hx hb htb i_Md hown hK hP hO_0 m0 rfl rfl 23 (by decide) (htb (.fieldLink R_Md 97 "WaterMenModel" "boatAt" "[I") tw_511) (fun _ h9 => h9) rfl d_Md_isAsked_34 (fun q_14 e_14 m_14 => ?_)
            have hQ := hQ q_14 e_14
            refine lv_iload_n hx hb d_Md_isAsked_37 rfl (lv_at hl 1 rfl) ?_
            refine tw_aldI (ct := ct) hx hb hK hP hO_0 m_14 rfl (hb_inl po_2 po_3 (by decide +kernel)) d_Md_isAsked_38 (fun x_15 e_15 b_15 => ?_)
            have hQ := hQ x_15 e_15
            refine lv_icmp_eq (tgt := 46) hx hb d_Md_isAsked_39 (by decide) (fun c_16 => ?_) (fun c_16 => ?_)
            · have hQ := hQ.1 c_16
              refine lv_iconst (v := 0) hx hb d_Md_isAsked_46 (by decide +kernel) ?_
              exact W.zret (v := 0) hx hb hr (by decide +kernel) (fun t ht hW => ⟨0, rfl, ⟨(Or.inl ⟨rfl, trivial⟩), hQ⟩, ht⟩) t_nil d_Md_isAsked_47
            · have hQ := hQ.2 c_16
              refine lv_iconst (v := 1) hx hb d_Md_isAsked_42 (by decide +kernel) ?_
              refine lv_goto (tgt := 47) hx hb d_Md_isAsked_43 (by decide) ?_
              exact W.zret (v := 1) hx hb hr (by decide +kernel) (fun t ht hW => ⟨1, rfl, ⟨(Or.inr ⟨rfl, po_2, po_3, c_8, c_9, po_11, po_12, trivial⟩), hQ⟩, ht⟩) t_nil d_Md_isAsked_47
