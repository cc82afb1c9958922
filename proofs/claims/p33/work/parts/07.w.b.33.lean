def wp_WM_due_w (L : List Nat) (f : TF) (q0 : Nat) (p_0 : Int32) (p_1 : Int32) (Q : Int32 → Prop) : Prop := wp_WM_tripAt_w L f q0 p_0 (fun (r_1 : Option Nat) => ((r_1 = none → Q (-2)) ∧ (∀ q_1 : Nat, r_1 = some q_1 → ((p_1 < 0 → Q (-2)) ∧ (¬ (p_1 < 0) → ((500 ≤ p_1 → Q (-2)) ∧ (¬ (500 ≤ p_1) → wp_WM_dueOf_w L f q0 q_1 p_1 (fun (r_5 : Int32) => Q r_5))))))))
set_option maxHeartbeats 4000000 in
set_option maxRecDepth 100000 in
theorem c_WM_due_w (l : Launch) (dC : Nat → ClassId) (dI : Nat → Nat → Nat) (ct : Nat → ClassId) (L : List Nat) (f : TF) (hO_0 : Ok L f) (q0 : Nat) (m0 : q0 ∈ L ∧ tk f q0 = 0) (p_0 : Int32) (p_1 : Int32)   (Q : Int32 → Prop) (hQ : wp_WM_due_w L f q0 p_0 p_1 Q) : Met l y_WM_due (.code y_WM_due b_WM_due 4 (some .int) :: TB) ({ frames := 5, cells := 0, slots := 0, locals := 123 }) (va_Pc [.ref q0, .int p_0, .int p_1] (PR dC dI (TW ct L f) (TT ct))) (vp_Si (fun r => (True) ∧ Q r)) 0 0 (fun _ => False) := by
  refine Met.ofW (cc := b_WM_due) (maxL := 4) (ret := (some .int)) (by decide) rfl ?_
  intro p e s m args below meth c s₁ B hml hv
  obtain ⟨rfl, hP, hK, hN⟩ := hv
  have hx := B.exec
  have hb := B.bytes
  have hr := B.returns
  have hts := atoms_spec (ws := (.code y_WM_due b_WM_due 4 (some .int) :: TB)) B.pre
  have htb := fun w (h : w ∈ TB) => hts w (List.mem_cons_of_mem _ h)
  have hown : s.vm.findClass R_WM = some m.cls := findClass_of_methodNamed B.named
  have hlocks := B.notSynchronized
  have hl := lv_entry ([.ref q0, .int p_0, .int p_1]) (n := 4) (Nat.le_of_ble_eq_true rfl)
  rw [lg_entry_eq]
  generalize (lg_sl ([.ref q0, .int p_0, .int p_1]) ++ List.replicate (4 - (lg_sl ([.ref q0, .int p_0, .int p_1])).length) Slot.unset).toArray = ls at hl ⊢
  have hl : lv_has ls 4 [(0, .ref q0), (1, .int p_0), (2, .int p_1)] := hl
  unfold wp_WM_due_w at hQ
  refine lv_aload_n hx hb d_WM_due_0 rfl (lv_at hl 0 rfl) ?_
  refine lv_iload_n hx hb d_WM_due_1 rfl (lv_at hl 1 rfl) ?_
  refine va_csq (va_Run.run (va_runV (As := [.int p_0]) (rest := []) ⟨hx, hb, hml, hown, htb⟩ (c_WM_tripAt_w l dC dI ct L f hO_0 q0 m0 p_0 _ hQ) (cwV 1 htb (gd_V tw_637 tw_638 tw_639 tw_26 tw_636) rfl rfl rfl (by decide +kernel) ⟨Nat.le_of_ble_eq_true rfl, Nat.le_of_ble_eq_true rfl⟩) ⟨pr_blind, tw_recv hK hP m0 rfl rfl, pr_pre hP hK hN⟩ rfl rfl hl.1 rfl (lv_room (Nat.le_of_ble_eq_true rfl)) d_WM_due_2 ⟨Nat.le_of_ble_eq_true rfl, Nat.le_of_ble_eq_true rfl⟩)) (fun r_1 er_1 => ?_)
  obtain ⟨er_1, hQ⟩ := er_1
  rcases er_1 with rfl | ⟨q_1, rfl, m_1⟩
  · have hQ := hQ.1 rfl
    refine hb_tv .null rfl ?_
    refine lv_astore_nN (lv' := [(3, .null), (0, .ref q0), (1, .int p_0), (2, .int p_1)]) hx hb d_WM_due_5 rfl hl (by decide) rfl (fun ls hl => ?_)
    refine lv_aload_nN hx hb d_WM_due_6 rfl (lv_at hl 0 rfl) ?_
    refine lv_ifnullN (tgt := 17) hx hb d_WM_due_7 (by decide) ?_
    refine lv_bipush (v := (-2)) hx hb d_WM_due_17 (by decide +kernel) ?_
    refine lv_goto (tgt := 28) hx hb d_WM_due_19 (by decide) ?_
    exact W.iret (v := (-2)) hx hb hr (fun t ht hW => ⟨(-2), rfl, ⟨trivial, hQ⟩, ht⟩) t_nil d_WM_due_28
  · have hQ := hQ.2 q_1 rfl
    refine hb_tv (.ref q_1) rfl ?_
    refine lv_astore_n (lv' := [(3, .ref q_1), (0, .ref q0), (1, .int p_0), (2, .int p_1)]) hx hb d_WM_due_5 rfl hl (by decide) rfl (fun ls hl => ?_)
    refine lv_aload_n hx hb d_WM_due_6 rfl (lv_at hl 0 rfl) ?_
    refine lv_ifnull hx hb d_WM_due_7 ?_
    refine lv_iload_n hx hb d_WM_due_10 rfl (lv_at hl 3 rfl) ?_
    refine vp_callSi (va_Run.run (va_runS (As := [.int p_1]) (rest := []) ⟨hx, hb, hml, hown, htb⟩ (c_WM_isDay l p_1) (cwS 1 htb (gd_S tw_127 tw_128 tw_26 tw_126) rfl rfl rfl (by decide +kernel) ⟨Nat.le_of_ble_eq_true rfl, Nat.le_of_ble_eq_true rfl⟩) ⟨fun _ _ _ _ h => h, fun U _ _ => ⟨rfl, trivial⟩⟩ rfl rfl hl.1 rfl (lv_room (Nat.le_of_ble_eq_true rfl)) d_WM_due_11 ⟨Nat.le_of_ble_eq_true rfl, Nat.le_of_ble_eq_true rfl⟩)) (fun r er => ?_)
    subst er
    by_cases c_3 : p_1 < 0
    · have hQ := hQ.1 c_3
      refine hb_ti 0 (by unfold f_WM_isDay; rw [if_pos c_3]; first | done | rfl) ?_
      refine lv_if_ne (tgt := 22) hx hb d_WM_due_14 (by decide) (fun h => absurd (by decide +kernel) h) (fun _ => ?_)
      refine lv_bipush (v := (-2)) hx hb d_WM_due_17 (by decide +kernel) ?_
      refine lv_goto (tgt := 28) hx hb d_WM_due_19 (by decide) ?_
      exact W.iret (v := (-2)) hx hb hr (fun t ht hW => ⟨(-2), rfl, ⟨trivial, hQ⟩, ht⟩) t_nil d_WM_due_28
    · have hQ := hQ.2 c_3
      by_cases c_4 : 500 ≤ p_1
      · have hQ := hQ.1 c_4
        refine hb_ti 0 (by unfold f_WM_isDay; rw [if_neg c_3, if_pos c_4]; first | done | rfl) ?_
        refine lv_if_ne (tgt := 22) hx hb d_WM_due_14 (by decide) (fun h => absurd (by decide +kernel) h) (fun _ => ?_)
        refine lv_bipush (v := (-2)) hx hb d_WM_due_17 (by decide +kernel) ?_
        refine lv_goto (tgt := 28) hx hb d_WM_due_19 (by decide) ?_
        exact W.iret (v := (-2)) hx hb hr (fun t ht hW => ⟨(-2), rfl, ⟨trivial, hQ⟩, ht⟩) t_nil d_WM_due_28
      · have hQ := hQ.2 c_4
        refine hb_ti 1 (by unfold f_WM_isDay; rw [if_neg c_3, if_neg c_4]; first | done | rfl) ?_
        refine lv_if_ne (tgt := 22) hx hb d_WM_due_14 (by decide) (fun _ => ?_) (fun h => absurd h (by decide +kernel))
        refine lv_aload_n hx hb d_WM_due_22 rfl (lv_at hl 1 rfl) ?_
        refine lv_aload_n hx hb d_WM_due_23 rfl (lv_at hl 0 rfl) ?_
        refine lv_iload_n hx hb d_WM_due_24 rfl (lv_at hl 3 rfl) ?_
        refine vp_callSi (va_Run.run (va_runV (As := [.ref q_1, .int p_1]) (rest := []) ⟨hx, hb, hml, hown, htb⟩ (c_WM_dueOf_w l dC dI ct L f hO_0 q0 m0 q_1 m_1 p_1 _ hQ) (cwV 2 htb (gd_V tw_666 tw_667 tw_668 tw_26 tw_665) rfl rfl rfl (by decide +kernel) ⟨Nat.le_of_ble_eq_true rfl, Nat.le_of_ble_eq_true rfl⟩) ⟨pr_blind, tw_recv hK hP m0 rfl rfl, pr_pre hP hK hN⟩ rfl rfl hl.1 rfl (lv_room (Nat.le_of_ble_eq_true rfl)) d_WM_due_25 ⟨Nat.le_of_ble_eq_true rfl, Nat.le_of_ble_eq_true rfl⟩)) (fun r_5 er_5 => ?_)
        obtain ⟨er_5, hQ⟩ := er_5
        clear er_5
        exact W.iret (v := r_5) hx hb hr (fun t ht hW => ⟨r_5, rfl, ⟨trivial, hQ⟩, ht⟩) t_nil d_WM_due_28
def wp_Md_dueOf_w (L : List Nat) (f : TF) (q0 : Nat) (p_0 : Int32) (p_1 : Int32) (Q : Int32 → Prop) : Prop := ∀ q_1 : Nat, tr f q0 52 = some q_1 → ∀ x_2 : Int32, ti f q_1 (p_0 : Int32).toNatClampNeg = x_2 → ∀ y_3 : Int32, y_3 = x_2 / 720 → wp_Md_forceOn_w L f q0 y_3 p_1 (fun (r_4 : Int32) => ((r_4 = (-2) → Q (-1)) ∧ (¬ (r_4 = (-2)) → ∀ q_7 : Nat, tr f q0 50 = some q_7 → ∀ x_8 : Int32, ti f q_7 (p_0 : Int32).toNatClampNeg = x_8 → ∀ q_9 : Nat, tr f q0 51 = some q_9 → ∀ x_10 : Int32, ti f q_9 (p_0 : Int32).toNatClampNeg = x_10 → ∀ y_12 : Int32, y_12 = x_2 - x_2 / 720 * 720 → ∀ y_13 : Int32, y_13 = y_12 / 60 → ∀ q_14 : Nat, tr f q0 22 = some q_14 → ∀ q_15 : Nat, tr f q0 48 = some q_15 → ∀ x_16 : Int32, ti f q_15 (p_0 : Int32).toNatClampNeg = x_16 → ∀ x_17 : Int32, ti f q_14 (x_16 : Int32).toNatClampNeg = x_17 → wp_Md_fareOf_w L f q0 r_4 x_8 x_10 y_3 y_13 x_17 (fun (r_18 : Int32) => ((0 ≤ r_18 → Q r_18) ∧ (¬ (0 ≤ r_18) → Q (-1)))))))
set_option maxHeartbeats 4000000 in
set_option maxRecDepth 100000 in
theorem c_Md_dueOf_w (l : Launch) (dC : Nat → ClassId) (dI : Nat → Nat → Nat) (ct : Nat → ClassId) (L : List Nat) (f : TF) (hO_0 : Ok L f) (q0 : Nat) (m0 : q0 ∈ L ∧ tk f q0 = 27) (p_0 : Int32) (p_1 : Int32)  (as_0 : ¬ (p_0 < 0)) (as_1 : ¬ (599 < p_0)) (Q : Int32 → Prop) (hQ : wp_Md_dueOf_w L f q0 p_0 p_1 Q) : Met l y_Md_dueOf (.code y_Md_dueOf b_Md_dueOf 6 (some .int) :: TB) ({ frames := 3, cells := 0, slots := 0, locals := 76 }) (va_Pc [.ref q0, .int p_0, .int p_1] (PR dC dI (TW ct L f) (TT ct))) (vp_Si (fun r => (True) ∧ Q r)) 0 0 (fun _ => False) := by
  refine Met.ofW (cc := b_Md_dueOf) (maxL := 6) (ret := (some .int)) (by decide) rfl ?_
  intro p e s m args below meth c s₁ B hml hv
  obtain ⟨rfl, hP, hK, hN⟩ := hv
  have hx := B.exec
  have hb := B.bytes
  have hr := B.returns
  have hts := atoms_spec (ws := (.code y_Md_dueOf b_Md_dueOf 6 (some .int) :: TB)) B.pre
  have htb := fun w (h : w ∈ TB) => hts w (List.mem_cons_of_mem _ h)
  have hown : s.vm.findClass R_Md = some m.cls := findClass_of_methodNamed B.named
  have hlocks := B.notSynchronized
  have hl := lv_entry ([.ref q0, .int p_0, .int p_1]) (n := 6) (Nat.le_of_ble_eq_true rfl)
  rw [lg_entry_eq]
  generalize (lg_sl ([.ref q0, .int p_0, .int p_1]) ++ List.replicate (6 - (lg_sl ([.ref q0, .int p_0, .int p_1])).length) Slot.unset).toArray = ls at hl ⊢
  have hl : lv_has ls 6 [(0, .ref q0), (1, .int p_0), (2, .int p_1)] := hl
  unfold wp_Md_dueOf_w at hQ
  refine lv_aload_n hx hb d_Md_dueOf_0 rfl (lv_at hl 0 rfl) ?_
  refine tw_getr (D := (dC, dI)) (C := R_Md) (T := F_Md) (N := 64) (ci := 7) (kd := 27) (ct := ct) hx hb htb i_Md hown hK hP hO_0 m0 rfl rfl 52 (by decide) (htb (.fieldLink R_Md 161 "WaterMenModel" "tripBegin" "[I") tw_628) (fun _ h9 => h9) rfl d_Md_dueOf_1 (fun q_1 e_1 m_1 => ?_)
  have hQ := hQ q_1 e_1
  refine lv_iload_n hx hb d_Md_dueOf_4 rfl (lv_at hl 1 rfl) ?_
  refine tw_aldI (ct := ct) hx hb hK hP hO_0 m_1 rfl (hb_inl as_0 as_1 (by decide +kernel)) d_Md_dueOf_5 (fun x_2 e_2 b_2 => ?_)
  have hQ := hQ x_2 e_2
  refine lv_sipush (v := 720) hx hb d_Md_dueOf_6 (by decide +kernel) ?_
  refine lv_idiv hx hb d_Md_dueOf_9 (by decide) ?_
  refine hb_divn (U := 359999) (Qm := 499) (c := 720) (C1 := 719) (K := 2147482927) (by decide +kernel) (by decide +kernel) (by decide +kernel) b_2.1 (show ¬ (2147482927 < x_2) from by have e0 := b_2.1; rw [Int32.lt_iff_toInt_lt] at e0; have e1 := b_2.2; rw [Int32.lt_iff_toInt_lt] at e1; have z0 : (0 : Int32).toInt = 0 := (by decide +kernel); have z1 : (359999 : Int32).toInt = 359999 := (by decide +kernel); have z2 : (2147482927 : Int32).toInt = 2147482927 := (by decide +kernel); rw [Int32.lt_iff_toInt_lt]; omega) b_2.2 (by decide +kernel) (fun y_3 g1_3 g2_3 g3_3 g4_3 g5_3 g9_3 => ?_)
  have hQ := hQ y_3 g9_3
  refine lv_istore_n (lv' := [(3, .int y_3), (0, .ref q0), (1, .int p_0), (2, .int p_1)]) hx hb d_Md_dueOf_10 rfl hl (by decide) rfl (fun ls hl => ?_)
  refine lv_aload_n hx hb d_Md_dueOf_11 rfl (lv_at hl 1 rfl) ?_
  refine lv_iload_n hx hb d_Md_dueOf_12 rfl (lv_at hl 0 rfl) ?_
  refine lv_iload_n hx hb d_Md_dueOf_13 rfl (lv_at hl 3 rfl) ?_
  refine vp_callSi (va_Run.run (va_runV (As := [.int y_3, .int p_1]) (rest := []) ⟨hx, hb, hml, hown, htb⟩ (c_Md_forceOn_w l dC dI ct L f hO_0 q0 m0 y_3 p_1 _ hQ) (cwV 2 htb (gd_V tw_394 tw_395 tw_396 tw_89 tw_393) rfl rfl rfl (by decide +kernel) ⟨Nat.le_of_ble_eq_true rfl, Nat.le_of_ble_eq_true rfl⟩) ⟨pr_blind, tw_recv hK hP m0 rfl rfl, pr_pre hP hK hN⟩ rfl rfl hl.1 rfl (lv_room (Nat.le_of_ble_eq_true rfl)) d_Md_dueOf_14 ⟨Nat.le_of_ble_eq_true rfl, Nat.le_of_ble_eq_true rfl⟩)) (fun r_4 er_4 => ?_)
  obtain ⟨er_4, hQ⟩ := er_4
  rcases er_4 with ⟨rfl, -⟩ | ⟨po_5, po_6, -⟩
  · have hQ := hQ.1 rfl
    refine lv_istore (lv' := [(4, .int (-2)), (3, .int y_3), (0, .ref q0), (1, .int p_0), (2, .int p_1)]) hx hb d_Md_dueOf_17 hl (by decide) rfl (fun ls hl => ?_)
    refine lv_iload hx hb d_Md_dueOf_19 (lv_at hl 0 rfl) ?_
    refine lv_if_ge (tgt := 28) hx hb d_Md_dueOf_21 (by decide) (fun h => absurd h (by decide +kernel)) (fun _ => ?_)
    refine lv_iconst (v := (-1)) hx hb d_Md_dueOf_24 (by decide +kernel) ?_
    refine lv_goto (tgt := 71) hx hb d_Md_dueOf_25 (by decide) ?_
    refine lv_istore (lv' := [(5, .int (-1)), (4, .int (-2)), (3, .int y_3), (0, .ref q0), (1, .int p_0), (2, .int p_1)]) hx hb d_Md_dueOf_71 hl (by decide) rfl (fun ls hl => ?_)
    refine lv_iload hx hb d_Md_dueOf_73 (lv_at hl 0 rfl) ?_
    refine lv_if_ge (tgt := 82) hx hb d_Md_dueOf_75 (by decide) (fun h => absurd h (by decide +kernel)) (fun _ => ?_)
    refine lv_iconst (v := (-1)) hx hb d_Md_dueOf_78 (by decide +kernel) ?_
    refine lv_goto (tgt := 84) hx hb d_Md_dueOf_79 (by decide) ?_
    exact W.iret (v := (-1)) hx hb hr (fun t ht hW => ⟨(-1), rfl, ⟨trivial, hQ⟩, ht⟩) t_nil d_Md_dueOf_84
  · have hQ := hQ.2 (fun e9 => po_5 (by rw [e9]; decide))
    refine lv_istore (lv' := [(4, .int r_4), (3, .int y_3), (0, .ref q0), (1, .int p_0), (2, .int p_1)]) hx hb d_Md_dueOf_17 hl (by decide) rfl (fun ls hl => ?_)
    refine lv_iload hx hb d_Md_dueOf_19 (lv_at hl 0 rfl) ?_
    refine lv_if_ge (tgt := 28) hx hb d_Md_dueOf_21 (by decide) (fun _ => ?_) (fun h => absurd (show 0 ≤ r_4 from by have e0 := po_5; rw [Int32.lt_iff_toInt_lt] at e0; have e1 := po_6; rw [Int32.lt_iff_toInt_lt] at e1; have z0 : (0 : Int32).toInt = 0 := (by decide +kernel); have z1 : (19 : Int32).toInt = 19 := (by decide +kernel); rw [Int32.le_iff_toInt_le]; omega) h)
    refine lv_aload_n hx hb d_Md_dueOf_28 rfl (lv_at hl 2 rfl) ?_
    refine lv_iload hx hb d_Md_dueOf_29 (lv_at hl 0 rfl) ?_
    refine lv_aload_n hx hb d_Md_dueOf_31 rfl (lv_at hl 2 rfl) ?_
    refine tw_getr (D := (dC, dI)) (C := R_Md) (T := F_Md) (N := 64) (ci := 7) (kd := 27) (ct := ct) hx hb htb i_Md hown hK hP hO_0 m0 rfl rfl 50 (by decide) (htb (.fieldLink R_Md 155 "WaterMenModel" "tripFrom" "[I") tw_626) (fun _ h9 => h9) rfl d_Md_dueOf_32 (fun q_7 e_7 m_7 => ?_)
    have hQ := hQ q_7 e_7
    refine lv_iload_n hx hb d_Md_dueOf_35 rfl (lv_at hl 3 rfl) ?_
    refine tw_aldI (ct := ct) hx hb hK hP hO_0 m_7 rfl (hb_inl as_0 as_1 (by decide +kernel)) d_Md_dueOf_36 (fun x_8 e_8 b_8 => ?_)
    have hQ := hQ x_8 e_8
    refine lv_aload_n hx hb d_Md_dueOf_37 rfl (lv_at hl 2 rfl) ?_
    refine tw_getr (D := (dC, dI)) (C := R_Md) (T := F_Md) (N := 64) (ci := 7) (kd := 27) (ct := ct) hx hb htb i_Md hown hK hP hO_0 m0 rfl rfl 51 (by decide) (htb (.fieldLink R_Md 158 "WaterMenModel" "tripTo" "[I") tw_627) (fun _ h9 => h9) rfl d_Md_dueOf_38 (fun q_9 e_9 m_9 => ?_)
    have hQ := hQ q_9 e_9
    refine lv_iload_n hx hb d_Md_dueOf_41 rfl (lv_at hl 3 rfl) ?_
    refine tw_aldI (ct := ct) hx hb hK hP hO_0 m_9 rfl (hb_inl as_0 as_1 (by decide +kernel)) d_Md_dueOf_42 (fun x_10 e_10 b_10 => ?_)
    have hQ := hQ x_10 e_10
    refine lv_iload_n hx hb d_Md_dueOf_43 rfl (lv_at hl 1 rfl) ?_
    refine lv_aload_n hx hb d_Md_dueOf_44 rfl (lv_at hl 2 rfl) ?_
    refine tw_getR (D := (dC, dI)) (C := R_Md) (T := F_Md) (N := 64) (ci := 7) (kd := 27) (ct := ct) hx hb htb i_Md hown hK hP m0 rfl rfl 52 e_1 (by decide) (htb (.fieldLink R_Md 161 "WaterMenModel" "tripBegin" "[I") tw_628) (fun _ h9 => h9) rfl d_Md_dueOf_45 ?_
    refine hb_tv (.ref q_1) rfl ?_
    refine lv_iload_n hx hb d_Md_dueOf_48 rfl (lv_at hl 3 rfl) ?_
    refine tw_aldxI (ct := ct) (x := x_2) hx hb hK hP m_1 rfl (hb_inl as_0 as_1 (by decide +kernel)) e_2 d_Md_dueOf_49 ?_
    refine lv_sipush (v := 720) hx hb d_Md_dueOf_50 (by decide +kernel) ?_
    refine lv_irem hx hb d_Md_dueOf_53 (by decide) ?_
    refine hb_remn (c := 720) (C1 := 719) (K := 2147482927) (by decide +kernel) (by decide +kernel) (by decide +kernel) b_2.1 (show ¬ (2147482927 < x_2) from by have e0 := b_2.1; rw [Int32.lt_iff_toInt_lt] at e0; have e1 := b_2.2; rw [Int32.lt_iff_toInt_lt] at e1; have z0 : (0 : Int32).toInt = 0 := (by decide +kernel); have z1 : (359999 : Int32).toInt = 359999 := (by decide +kernel); have z2 : (2147482927 : Int32).toInt = 2147482927 := (by decide +kernel); rw [Int32.lt_iff_toInt_lt]; omega) (fun y_12 qu_12 g1_12 g2_12 g3_12 g4_12 g5_12 g9_12 => ?_)
    have hQ := hQ y_12 g9_12
    refine lv_bipush (v := 60) hx hb d_Md_dueOf_54 (by decide +kernel) ?_
    refine lv_idiv hx hb d_Md_dueOf_56 (by decide) ?_
    refine hb_divn (U := 719) (Qm := 11) (c := 60) (C1 := 59) (K := 2147483587) (by decide +kernel) (by decide +kernel) (by decide +kernel) g1_12 (show ¬ (2147483587 < y_12) from by have e0 := g1_12; rw [Int32.lt_iff_toInt_lt] at e0; have e1 := g2_12; rw [Int32.lt_iff_toInt_lt] at e1; have z0 : (0 : Int32).toInt = 0 := (by decide +kernel); have z1 : (719 : Int32).toInt = 719 := (by decide +kernel); have z2 : (2147483587 : Int32).toInt = 2147483587 := (by decide +kernel); rw [Int32.lt_iff_toInt_lt]; omega) g2_12 (by decide +kernel) (fun y_13 g1_13 g2_13 g3_13 g4_13 g5_13 g9_13 => ?_)
    have hQ := hQ y_13 g9_13
    refine lv_aload_n hx hb d_Md_dueOf_57 rfl (lv_at hl 2 rfl) ?_
    refine tw_getr (D := (dC, dI)) (C := R_Md) (T := F_Md) (N := 64) (ci := 7) (kd := 27) (ct := ct) hx hb htb i_Md hown hK hP hO_0 m0 rfl rfl 22 (by decide) (htb (.fieldLink R_Md 94 "WaterMenModel" "boatOars" "[I") tw_510) (fun _ h9 => h9) rfl d_Md_dueOf_58 (fun q_14 e_14 m_14 => ?_)
    have hQ := hQ q_14 e_14
    refine lv_aload_n hx hb d_Md_dueOf_61 rfl (lv_at hl 2 rfl) ?_
    refine tw_getr (D := (dC, dI)) (C := R_Md) (T := F_Md) (N := 64) (ci := 7) (kd := 27) (ct := ct) hx hb htb i_Md hown hK hP hO_0 m0 rfl rfl 48 (by decide) (htb (.fieldLink R_Md 149 "WaterMenModel" "tripBoat" "[I") tw_625) (fun _ h9 => h9) rfl d_Md_dueOf_62 (fun q_15 e_15 m_15 => ?_)
    have hQ := hQ q_15 e_15
    refine lv_iload_n hx hb d_Md_dueOf_65 rfl (lv_at hl 3 rfl) ?_
    refine tw_aldI (ct := ct) hx hb hK hP hO_0 m_15 rfl (hb_inl as_0 as_1 (by decide +kernel)) d_Md_dueOf_66 (fun x_16 e_16 b_16 => ?_)
    have hQ := hQ x_16 e_16
    refine tw_aldI (ct := ct) hx hb hK hP hO_0 m_14 rfl (hb_inl b_16.1 b_16.2 (by decide +kernel)) d_Md_dueOf_67 (fun x_17 e_17 b_17 => ?_)
    have hQ := hQ x_17 e_17
    refine vp_callSi (va_Run.run (va_runV (As := [.int r_4, .int x_8, .int x_10, .int y_3, .int y_13, .int x_17]) (rest := []) ⟨hx, hb, hml, hown, htb⟩ (c_Md_fareOf_w l dC dI ct L f hO_0 q0 m0 r_4 x_8 x_10 y_3 y_13 x_17 po_5 po_6 b_8.1 b_8.2 b_10.1 b_10.2 g1_3 g5_3 g1_13 g5_13 _ hQ) (cwV 6 htb (gd_V tw_453 tw_454 tw_455 tw_89 tw_452) rfl rfl rfl (by decide +kernel) ⟨Nat.le_of_ble_eq_true rfl, Nat.le_of_ble_eq_true rfl⟩) ⟨pr_blind, tw_recv hK hP m0 rfl rfl, pr_pre hP hK hN⟩ rfl rfl hl.1 rfl (lv_room (Nat.le_of_ble_eq_true rfl)) d_Md_dueOf_68 ⟨Nat.le_of_ble_eq_true rfl, Nat.le_of_ble_eq_true rfl⟩)) (fun r_18 er_18 => ?_)
    obtain ⟨er_18, hQ⟩ := er_18
    clear er_18
    refine lv_istore (lv' := [(5, .int r_18), (4, .int r_4), (3, .int y_3), (0, .ref q0), (1, .int p_0), (2, .int p_1)]) hx hb d_Md_dueOf_71 hl (by decide) rfl (fun ls hl => ?_)
    refine lv_iload hx hb d_Md_dueOf_73 (lv_at hl 0 rfl) ?_
    refine lv_if_ge (tgt := 82) hx hb d_Md_dueOf_75 (by decide) (fun c_19 => ?_) (fun c_19 => ?_)
    · have hQ := hQ.1 c_19
      refine lv_iload hx hb d_Md_dueOf_82 (lv_at hl 0 rfl) ?_
      exact W.iret (v := r_18) hx hb hr (fun t ht hW => ⟨r_18, rfl, ⟨trivial, hQ⟩, ht⟩) t_nil d_Md_dueOf_84
    · have hQ := hQ.2 c_19
      refine lv_iconst (v := (-1)) hx hb d_Md_dueOf_78 (by decide +kernel) ?_
      refine lv_goto (tgt := 84) hx hb d_Md_dueOf_79 (by decide) ?_
      exact W.iret (v := (-1)) hx hb hr (fun t ht hW => ⟨(-1), rfl, ⟨trivial, hQ⟩, ht⟩) t_nil d_Md_dueOf_84
def wp_Md_due_w (L : List Nat) (f : TF) (q0 : Nat) (p_0 : Int32) (p_1 : Int32) (Q : Int32 → Prop) : Prop := ∀ x_1 : Int32, ti f q0 47 = x_1 → ((p_0 < 0 → Q (-2)) ∧ (¬ (p_0 < 0) → (((x_1 - 1) < p_0 → Q (-2)) ∧ (¬ ((x_1 - 1) < p_0) → ((p_1 < 0 → Q (-2)) ∧ (¬ (p_1 < 0) → ((499 < p_1 → Q (-2)) ∧ (¬ (499 < p_1) → wp_Md_dueOf_w L f q0 p_0 p_1 (fun (r_8 : Int32) => Q r_8)))))))))
set_option maxHeartbeats 4000000 in
set_option maxRecDepth 100000 in
theorem c_Md_due_w (l : Launch) (dC : Nat → ClassId) (dI : Nat → Nat → Nat) (ct : Nat → ClassId) (L : List Nat) (f : TF) (hO_0 : Ok L f) (q0 : Nat) (m0 : q0 ∈ L ∧ tk f q0 = 27) (p_0 : Int32) (p_1 : Int32)   (Q : Int32 → Prop) (hQ : wp_Md_due_w L f q0 p_0 p_1 Q) : Met l y_Md_due (.code y_Md_due b_Md_due 3 (some .int) :: TB) ({ frames := 4, cells := 0, slots := 0, locals := 101 }) (va_Pc [.ref q0, .int p_0, .int p_1] (PR dC dI (TW ct L f) (TT ct))) (vp_Si (fun r => (True) ∧ Q r)) 0 0 (fun _ => False) := by
  refine Met.ofW (cc := b_Md_due) (maxL := 3) (ret := (some .int)) (by decide) rfl ?_
  intro p e s m args below meth c s₁ B hml hv
  obtain ⟨rfl, hP, hK, hN⟩ := hv
  have hx := B.exec
  have hb := B.bytes
  have hr := B.returns
  have hts := atoms_spec (ws := (.code y_Md_due b_Md_due 3 (some .int) :: TB)) B.pre
  have htb := fun w (h : w ∈ TB) => hts w (List.mem_cons_of_mem _ h)
  have hown : s.vm.findClass R_Md = some m.cls := findClass_of_methodNamed B.named
  have hlocks := B.notSynchronized
  have hl := lv_entry ([.ref q0, .int p_0, .int p_1]) (n := 3) (Nat.le_of_ble_eq_true rfl)
  rw [lg_entry_eq]
  generalize (lg_sl ([.ref q0, .int p_0, .int p_1]) ++ List.replicate (3 - (lg_sl ([.ref q0, .int p_0, .int p_1])).length) Slot.unset).toArray = ls at hl ⊢
  have hl : lv_has ls 3 [(0, .ref q0), (1, .int p_0), (2, .int p_1)] := hl
  unfold wp_Md_due_w at hQ
  refine lv_iload_n hx hb d_Md_due_0 rfl (lv_at hl 1 rfl) ?_
  refine lv_iconst (v := 0) hx hb d_Md_due_1 (by decide +kernel) ?_
  refine lv_aload_n hx hb d_Md_due_2 rfl (lv_at hl 0 rfl) ?_
  refine tw_geti (D := (dC, dI)) (C := R_Md) (T := F_Md) (N := 64) (ci := 7) (kd := 27) (ct := ct) hx hb htb i_Md hown hK hP hO_0 m0 rfl rfl 47 (by decide) (htb (.fieldLink R_Md 313 "WaterMenModel" "trips" "I") tw_123) (fun _ h9 => h9) rfl d_Md_due_3 (fun x_1 e_1 b_1 => ?_)
  have hQ := hQ x_1 e_1
  refine lv_iconst (v := 1) hx hb d_Md_due_6 (by decide +kernel) ?_
  refine lv_isub hx hb d_Md_due_7 ?_
  refine vp_callSi (va_Run.run (va_runS (As := [.int p_0, .int 0, .int (x_1 - 1)]) (rest := []) ⟨hx, hb, hml, hown, htb⟩ (c_Md_in l p_0 0 (x_1 - 1)) (cwS 3 htb (gd_S tw_90 tw_91 tw_89 tw_88) rfl rfl rfl (by decide +kernel) ⟨Nat.le_of_ble_eq_true rfl, Nat.le_of_ble_eq_true rfl⟩) ⟨fun _ _ _ _ h => h, fun U _ _ => ⟨rfl, trivial⟩⟩ rfl rfl hl.1 rfl (lv_room (Nat.le_of_ble_eq_true rfl)) d_Md_due_8 ⟨Nat.le_of_ble_eq_true rfl, Nat.le_of_ble_eq_true rfl⟩)) (fun r er => ?_)
  subst er
  by_cases c_3 : p_0 < 0
  · have hQ := hQ.1 c_3
    refine hb_ti 0 (by unfold f_Md_in; rw [if_pos c_3]; first | done | rfl) ?_
    refine lv_if_eq (tgt := 30) hx hb d_Md_due_11 (by decide) (fun _ => ?_) (fun h => absurd (by decide +kernel) h)
    refine lv_bipush (v := (-2)) hx hb d_Md_due_30 (by decide +kernel) ?_
    exact W.iret (v := (-2)) hx hb hr (fun t ht hW => ⟨(-2), rfl, ⟨trivial, hQ⟩, ht⟩) t_nil d_Md_due_32
  · have hQ := hQ.2 c_3
    by_cases c_4 : (x_1 - 1) < p_0
    · have hQ := hQ.1 c_4
      refine hb_ti 0 (by unfold f_Md_in; rw [if_neg c_3, if_pos c_4]; first | done | rfl) ?_
      refine lv_if_eq (tgt := 30) hx hb d_Md_due_11 (by decide) (fun _ => ?_) (fun h => absurd (by decide +kernel) h)
      refine lv_bipush (v := (-2)) hx hb d_Md_due_30 (by decide +kernel) ?_
      exact W.iret (v := (-2)) hx hb hr (fun t ht hW => ⟨(-2), rfl, ⟨trivial, hQ⟩, ht⟩) t_nil d_Md_due_32
    · have hQ := hQ.2 c_4
      refine hb_ti 1 (by unfold f_Md_in; rw [if_neg c_3, if_neg c_4]; first | done | rfl) ?_
      refine lv_if_eq (tgt := 30) hx hb d_Md_due_11 (by decide) (fun h => absurd h (by decide +kernel)) (fun _ => ?_)
      refine lv_iload_n hx hb d_Md_due_14 rfl (lv_at hl 2 rfl) ?_
      refine vp_callSi (va_Run.run (va_runS (As := [.int p_1]) (rest := []) ⟨hx, hb, hml, hown, htb⟩ (c_Md_isDay l p_1) (cwS 1 htb (gd_S tw_145 tw_146 tw_89 tw_144) rfl rfl rfl (by decide +kernel) ⟨Nat.le_of_ble_eq_true rfl, Nat.le_of_ble_eq_true rfl⟩) ⟨fun _ _ _ _ h => h, fun U _ _ => ⟨rfl, trivial⟩⟩ rfl rfl hl.1 rfl (lv_room (Nat.le_of_ble_eq_true rfl)) d_Md_due_15 ⟨Nat.le_of_ble_eq_true rfl, Nat.le_of_ble_eq_true rfl⟩)) (fun r er => ?_)
      subst er
      by_cases c_6 : p_1 < 0
      · have hQ := hQ.1 c_6
        refine hb_ti 0 (by unfold f_Md_isDay; rw [if_pos c_6]; first | done | rfl) ?_
        refine lv_if_eq (tgt := 30) hx hb d_Md_due_18 (by decide) (fun _ => ?_) (fun h => absurd (by decide +kernel) h)
        refine lv_bipush (v := (-2)) hx hb d_Md_due_30 (by decide +kernel) ?_
        exact W.iret (v := (-2)) hx hb hr (fun t ht hW => ⟨(-2), rfl, ⟨trivial, hQ⟩, ht⟩) t_nil d_Md_due_32
      · have hQ := hQ.2 c_6
        by_cases c_7 : 499 < p_1
        · have hQ := hQ.1 c_7
          refine hb_ti 0 (by unfold f_Md_isDay; rw [if_neg c_6, if_pos c_7]; first | done | rfl) ?_
          refine lv_if_eq (tgt := 30) hx hb d_Md_due_18 (by decide) (fun _ => ?_) (fun h => absurd (by decide +kernel) h)
          refine lv_bipush (v := (-2)) hx hb d_Md_due_30 (by decide +kernel) ?_
          exact W.iret (v := (-2)) hx hb hr (fun t ht hW => ⟨(-2), rfl, ⟨trivial, hQ⟩, ht⟩) t_nil d_Md_due_32
        · have hQ := hQ.2 c_7
          refine hb_ti 1 (by unfold f_Md_isDay; rw [if_neg c_6, if_neg c_7]; first | done | rfl) ?_
          refine lv_if_eq (tgt := 30) hx hb d_Md_due_18 (by decide) (fun h => absurd h (by decide +kernel)) (fun _ => ?_)
          refine lv_aload_n hx hb d_Md_due_21 rfl (lv_at hl 0 rfl) ?_
          refine lv_iload_n hx hb d_Md_due_22 rfl (lv_at hl 1 rfl) ?_
          refine lv_iload_n hx hb d_Md_due_23 rfl (lv_at hl 2 rfl) ?_
          refine vp_callSi (va_Run.run (va_runV (As := [.int p_0, .int p_1]) (rest := []) ⟨hx, hb, hml, hown, htb⟩ (c_Md_dueOf_w l dC dI ct L f hO_0 q0 m0 p_0 p_1 c_3 (show ¬ (599 < p_0) from ((fun (a_0 : Int32) (a_1 : Int32) (k_0 : ¬ (a_1 < 0)) (k_1 : ¬ (600 < a_1)) (k_2 : ¬ ((a_1 - 1) < a_0)) => (show ¬ (599 < a_0) from by have z0 : (0 : Int32).toInt = 0 := (by decide +kernel); have z1 : (1 : Int32).toInt = 1 := (by decide +kernel); have z2 : (599 : Int32).toInt = 599 := (by decide +kernel); have z3 : (600 : Int32).toInt = 600 := (by decide +kernel); have r0 := fb_rng (a_0); have r1 := fb_rng (a_1); have e0 := k_0; rw [Int32.lt_iff_toInt_lt, z0] at e0; have e1 := k_1; rw [Int32.lt_iff_toInt_lt, z3] at e1; obtain ⟨n_0, hn_0, s0⟩ := nd_sub (x := (a_1)) (y := (1 : Int32)) (by (try rw [z1]); omega) (by (try rw [z1]); omega); rw [z1] at s0; have e2 := k_2; rw [hn_0, Int32.lt_iff_toInt_lt] at e2; rw [Int32.lt_iff_toInt_lt, z2]; omega)) p_0 x_1 b_1.1 b_1.2 c_4)) _ hQ) (cwV 2 htb (gd_V tw_670 tw_671 tw_672 tw_89 tw_669) rfl rfl rfl (by decide +kernel) ⟨Nat.le_of_ble_eq_true rfl, Nat.le_of_ble_eq_true rfl⟩) ⟨pr_blind, tw_recv hK hP m0 rfl rfl, pr_pre hP hK hN⟩ rfl rfl hl.1 rfl (lv_room (Nat.le_of_ble_eq_true rfl)) d_Md_due_24 ⟨Nat.le_of_ble_eq_true rfl, Nat.le_of_ble_eq_true rfl⟩)) (fun r_8 er_8 => ?_)
          obtain ⟨er_8, hQ⟩ := er_8
          clear er_8
          refine lv_goto (tgt := 32) hx hb d_Md_due_27 (by decide) ?_
          exact W.iret (v := r_8) hx hb hr (fun t ht hW => ⟨r_8, rfl, ⟨trivial, hQ⟩, ht⟩) t_nil d_Md_due_32
def wp_WM_overpaid_w (L : List Nat) (f : TF) (q0 : Nat) (pq_0 : Nat) (p_1 : Int32) (Q : Int32 → Prop) : Prop := wp_WM_dueOf_w L f q0 pq_0 p_1 (fun (r_1 : Int32) => ((r_1 = (-1) → Q 0) ∧ (¬ (r_1 = (-1)) → ∀ x_3 : Int32, ti f pq_0 3 = x_3 → ∀ y_4 : Int32, y_4 = (if 0 < (x_3 - r_1) then (x_3 - r_1) else 0) → Q y_4)))
set_option maxHeartbeats 4000000 in
set_option maxRecDepth 100000 in
theorem c_WM_overpaid_w (l : Launch) (dC : Nat → ClassId) (dI : Nat → Nat → Nat) (ct : Nat → ClassId) (L : List Nat) (f : TF) (hO_0 : Ok L f) (q0 : Nat) (m0 : q0 ∈ L ∧ tk f q0 = 0) (pq_0 : Nat) (pm_0 : pq_0 ∈ L ∧ tk f pq_0 = 25) (p_1 : Int32)   (Q : Int32 → Prop) (hQ : wp_WM_overpaid_w L f q0 pq_0 p_1 Q) : Met l y_WM_overpaid (.code y_WM_overpaid b_WM_overpaid 4 (some .int) :: TB) ({ frames := 5, cells := 0, slots := 0, locals := 123 }) (va_Pc [.ref q0, .ref pq_0, .int p_1] (PR dC dI (TW ct L f) (TT ct))) (vp_Si (fun r => (True) ∧ Q r)) 0 0 (fun _ => False) := by
  refine Met.ofW (cc := b_WM_overpaid) (maxL := 4) (ret := (some .int)) (by decide) rfl ?_
  intro p e s m args below meth c s₁ B hml hv
  obtain ⟨rfl, hP, hK, hN⟩ := hv
  have hx := B.exec
  have hb := B.bytes
  have hr := B.returns
  have hts := atoms_spec (ws := (.code y_WM_overpaid b_WM_overpaid 4 (some .int) :: TB)) B.pre
  have htb := fun w (h : w ∈ TB) => hts w (List.mem_cons_of_mem _ h)
  have hown : s.vm.findClass R_WM = some m.cls := findClass_of_methodNamed B.named
  have hlocks := B.notSynchronized
  have hl := lv_entry ([.ref q0, .ref pq_0, .int p_1]) (n := 4) (Nat.le_of_ble_eq_true rfl)
  rw [lg_entry_eq]
  generalize (lg_sl ([.ref q0, .ref pq_0, .int p_1]) ++ List.replicate (4 - (lg_sl ([.ref q0, .ref pq_0, .int p_1])).length) Slot.unset).toArray = ls at hl ⊢
  have hl : lv_has ls 4 [(0, .ref q0), (1, .ref pq_0), (2, .int p_1)] := hl
  unfold wp_WM_overpaid_w at hQ
  refine lv_aload_n hx hb d_WM_overpaid_0 rfl (lv_at hl 0 rfl) ?_
  refine lv_aload_n hx hb d_WM_overpaid_1 rfl (lv_at hl 1 rfl) ?_
  refine lv_iload_n hx hb d_WM_overpaid_2 rfl (lv_at hl 2 rfl) ?_
  refine vp_callSi (va_Run.run (va_runV (As := [.ref pq_0, .int p_1]) (rest := []) ⟨hx, hb, hml, hown, htb⟩ (c_WM_dueOf_w l dC dI ct L f hO_0 q0 m0 pq_0 pm_0 p_1 _ hQ) (cwV 2 htb (gd_V tw_666 tw_667 tw_668 tw_26 tw_665) rfl rfl rfl (by decide +kernel) ⟨Nat.le_of_ble_eq_true rfl, Nat.le_of_ble_eq_true rfl⟩) ⟨pr_blind, tw_recv hK hP m0 rfl rfl, pr_pre hP hK hN⟩ rfl rfl hl.1 rfl (lv_room (Nat.le_of_ble_eq_true rfl)) d_WM_overpaid_3 ⟨Nat.le_of_ble_eq_true rfl, Nat.le_of_ble_eq_true rfl⟩)) (fun r_1 er_1 => ?_)
  obtain ⟨er_1, hQ⟩ := er_1
  clear er_1
  refine lv_istore_n (lv' := [(3, .int r_1), (0, .ref q0), (1, .ref pq_0), (2, .int p_1)]) hx hb d_WM_overpaid_6 rfl hl (by decide) rfl (fun ls hl => ?_)
  refine lv_iload_n hx hb d_WM_overpaid_7 rfl (lv_at hl 0 rfl) ?_
  refine lv_iconst (v := (-1)) hx hb d_WM_overpaid_8 (by decide +kernel) ?_
  refine lv_icmp_ne (tgt := 16) hx hb d_WM_overpaid_9 (by decide) (fun c_2 => ?_) (fun c_2 => ?_)
  · have hQ := hQ.2 c_2
    refine lv_iconst (v := 0) hx hb d_WM_overpaid_16 (by decide +kernel) ?_
    refine lv_aload_n hx hb d_WM_overpaid_17 rfl (lv_at hl 2 rfl) ?_
    refine tw_geti (D := (dC, dI)) (C := R_Tr) (T := F_Tr) (N := 8) (ci := 10) (kd := 25) (ct := ct) hx hb htb i_Tr hown hK hP hO_0 pm_0 rfl rfl 3 (by decide) (htb (.fieldLink R_WM 312 "WaterMen$Trip" "paid" "I") tw_664) (fun _ h9 => h9) rfl d_WM_overpaid_18 (fun x_3 e_3 b_3 => ?_)
    have hQ := hQ x_3 e_3
    refine lv_iload_n hx hb d_WM_overpaid_21 rfl (lv_at hl 0 rfl) ?_
    refine lv_isub hx hb d_WM_overpaid_22 ?_
    refine va_mmax hx hb (hml.trans hl.1.symm) hown (htb (.methodLink R_WM 370 Lib.Math.max.name) tw_561) (htb (.static Lib.Math.max.name) tw_54) (htb (.initialized "java/lang/Math") tw_55) (htb (.code Lib.Math.max.name Lib.Math.max.code 2 (some .int)) tw_56) (Nat.le_of_ble_eq_true rfl) (Nat.le_of_ble_eq_true rfl) (Nat.le_of_ble_eq_true rfl) (Nat.le_of_ble_eq_true rfl) d_WM_overpaid_23 ?_
    refine hb_eqi (fun y_4 hy_4 => ?_)
    have hQ := hQ y_4 hy_4
    exact W.iret (v := y_4) hx hb hr (fun t ht hW => ⟨y_4, rfl, ⟨trivial, hQ⟩, ht⟩) t_nil d_WM_overpaid_26
  · have hQ := hQ.1 c_2
    refine lv_iconst (v := 0) hx hb d_WM_overpaid_12 (by decide +kernel) ?_
    refine lv_goto (tgt := 26) hx hb d_WM_overpaid_13 (by decide) ?_
    exact W.iret (v := 0) hx hb hr (fun t ht hW => ⟨0, rfl, ⟨trivial, hQ⟩, ht⟩) t_nil d_WM_overpaid_26
def wpB_WM_over_w_22_5 (L : List Nat) (f : TF) (q0 : Nat) (p_0 : Int32) (p_1 : Int32) (q_1 : Nat) (Q : Int32 → Prop) (rec_5 : Int32 → Int32 → Prop) (v3_5 : Int32) (v4_5 : Int32) : Prop := ∀ x_6 : Int32, ti f q0 9 = x_6 → ((x_6 ≤ v4_5 → Q v3_5) ∧ (¬ (x_6 ≤ v4_5) → wp_WM_tripAt_w L f q0 v4_5 (fun (r_8 : Option Nat) => ((r_8 = none → rec_5 v3_5 (v4_5 + 1)) ∧ (∀ q_8 : Nat, r_8 = some q_8 → ∀ x_9 : Int32, ti f q_8 1 = x_9 → ((x_9 = p_0 → wp_WM_overpaid_w L f q0 q_8 p_1 (fun (r_11 : Int32) => rec_5 (v3_5 + r_11) (v4_5 + 1))) ∧ (¬ (x_9 = p_0) → rec_5 v3_5 (v4_5 + 1))))))))
def wpL_WM_over_w_22_5 (L : List Nat) (f : TF) (q0 : Nat) (p_0 : Int32) (p_1 : Int32) (q_1 : Nat) (Q : Int32 → Prop) : Nat → Int32 → Int32 → Prop
  | 0 => fun v3_5 v4_5 => wpB_WM_over_w_22_5 L f q0 p_0 p_1 q_1 Q (fun _ _ => True) v3_5 v4_5
  | n + 1 => fun v3_5 v4_5 => wpB_WM_over_w_22_5 L f q0 p_0 p_1 q_1 Q (wpL_WM_over_w_22_5 L f q0 p_0 p_1 q_1 Q n) v3_5 v4_5
def wpR_WM_over_w_22_5 (L : List Nat) (f : TF) (q0 : Nat) (p_0 : Int32) (p_1 : Int32) (q_1 : Nat) (Q : Int32 → Prop) : Nat → Int32 → Int32 → Prop
  | 0 => fun _ _ => True
  | n + 1 => wpL_WM_over_w_22_5 L f q0 p_0 p_1 q_1 Q n
theorem wpL_WM_over_w_22_5_eq {L : List Nat} {f : TF} {q0 : Nat} {p_0 : Int32} {p_1 : Int32} {q_1 : Nat} {Q : Int32 → Prop} {n : Nat} : wpL_WM_over_w_22_5 L f q0 p_0 p_1 q_1 Q n = wpB_WM_over_w_22_5 L f q0 p_0 p_1 q_1 Q (wpR_WM_over_w_22_5 L f q0 p_0 p_1 q_1 Q n) := by cases n <;> rfl
theorem wpR_WM_over_w_22_5_pos {L : List Nat} {f : TF} {q0 : Nat} {p_0 : Int32} {p_1 : Int32} {q_1 : Nat} {Q : Int32 → Prop} {n : Nat} (h : 0 < n) : wpR_WM_over_w_22_5 L f q0 p_0 p_1 q_1 Q n = wpL_WM_over_w_22_5 L f q0 p_0 p_1 q_1 Q (n - 1) := by
  cases n with
  | zero => omega
  | succ n => rfl
def wp_WM_over_w (L : List Nat) (f : TF) (q0 : Nat) (p_0 : Int32) (p_1 : Int32) (Q : Int32 → Prop) : Prop := wp_WM_manAt_w L f q0 p_0 (fun (r_1 : Option Nat) => ((r_1 = none → Q (-1)) ∧ (∀ q_1 : Nat, r_1 = some q_1 → ((p_1 < 0 → Q (-1)) ∧ (¬ (p_1 < 0) → ((500 ≤ p_1 → Q (-1)) ∧ (¬ (500 ≤ p_1) → wpL_WM_over_w_22_5 L f q0 p_0 p_1 q_1 Q (((600 : Int32).toInt - (0 : Int32).toInt).toNat) (0 : Int32) (0 : Int32))))))))
set_option maxHeartbeats 4000000 in
set_option maxRecDepth 100000 in
theorem c_WM_over_w (l : Launch) (dC : Nat → ClassId) (dI : Nat → Nat → Nat) (ct : Nat → ClassId) (L : List Nat) (f : TF) (hO_0 : Ok L f) (q0 : Nat) (m0 : q0 ∈ L ∧ tk f q0 = 0) (p_0 : Int32) (p_1 : Int32)   (Q : Int32 → Prop) (hQ : wp_WM_over_w L f q0 p_0 p_1 Q) : Met l y_WM_over (.code y_WM_over b_WM_over 6 (some .int) :: TB) ({ frames := 6, cells := 0, slots := 0, locals := 146 }) (va_Pc [.ref q0, .int p_0, .int p_1] (PR dC dI (TW ct L f) (TT ct))) (vp_Si (fun r => (True) ∧ Q r)) 0 0 (fun _ => False) := by
  refine Met.ofW (cc := b_WM_over) (maxL := 6) (ret := (some .int)) (by decide) rfl ?_
  intro p e s m args below meth c s₁ B hml hv
  obtain ⟨rfl, hP, hK, hN⟩ := hv
  have hx := B.exec
  have hb := B.bytes
  have hr := B.returns
  have hts := atoms_spec (ws := (.code y_WM_over b_WM_over 6 (some .int) :: TB)) B.pre
  have htb := fun w (h : w ∈ TB) => hts w (List.mem_cons_of_mem _ h)
  have hown : s.vm.findClass R_WM = some m.cls := findClass_of_methodNamed B.named
  have hlocks := B.notSynchronized
  have hl := lv_entry ([.ref q0, .int p_0, .int p_1]) (n := 6) (Nat.le_of_ble_eq_true rfl)
  rw [lg_entry_eq]
  generalize (lg_sl ([.ref q0, .int p_0, .int p_1]) ++ List.replicate (6 - (lg_sl ([.ref q0, .int p_0, .int p_1])).length) Slot.unset).toArray = ls at hl ⊢
  have hl : lv_has ls 6 [(0, .ref q0), (1, .int p_0), (2, .int p_1)] := hl
  unfold wp_WM_over_w at hQ
  refine lv_aload_n hx hb d_WM_over_0 rfl (lv_at hl 0 rfl) ?_
  refine lv_iload_n hx hb d_WM_over_1 rfl (lv_at hl 1 rfl) ?_
  refine va_csq (va_Run.run (va_runV (As := [.int p_0]) (rest := []) ⟨hx, hb, hml, hown, htb⟩ (c_WM_manAt_w l dC dI ct L f hO_0 q0 m0 p_0 _ hQ) (cwV 1 htb (gd_V tw_27 tw_28 tw_29 tw_26 tw_25) rfl rfl rfl (by decide +kernel) ⟨Nat.le_of_ble_eq_true rfl, Nat.le_of_ble_eq_true rfl⟩) ⟨pr_blind, tw_recv hK hP m0 rfl rfl, pr_pre hP hK hN⟩ rfl rfl hl.1 rfl (lv_room (Nat.le_of_ble_eq_true rfl)) d_WM_over_2 ⟨Nat.le_of_ble_eq_true rfl, Nat.le_of_ble_eq_true rfl⟩)) (fun r_1 er_1 => ?_)
  obtain ⟨er_1, hQ⟩ := er_1
  rcases er_1 with rfl | ⟨q_1, rfl, m_1⟩
  · have hQ := hQ.1 rfl
    refine hb_tv .null rfl ?_
    refine lv_ifnullN (tgt := 15) hx hb d_WM_over_5 (by decide) ?_
    refine lv_iconst (v := (-1)) hx hb d_WM_over_15 (by decide +kernel) ?_
    exact W.iret (v := (-1)) hx hb hr (fun t ht hW => ⟨(-1), rfl, ⟨trivial, hQ⟩, ht⟩) t_nil d_WM_over_16
  · have hQ := hQ.2 q_1 rfl
    refine hb_tv (.ref q_1) rfl ?_
    refine lv_ifnull hx hb d_WM_over_5 ?_
    refine lv_iload_n hx hb d_WM_over_8 rfl (lv_at hl 2 rfl) ?_
    refine vp_callSi (va_Run.run (va_runS (As := [.int p_1]) (rest := []) ⟨hx, hb, hml, hown, htb⟩ (c_WM_isDay l p_1) (cwS 1 htb (gd_S tw_127 tw_128 tw_26 tw_126) rfl rfl rfl (by decide +kernel) ⟨Nat.le_of_ble_eq_true rfl, Nat.le_of_ble_eq_true rfl⟩) ⟨fun _ _ _ _ h => h, fun U _ _ => ⟨rfl, trivial⟩⟩ rfl rfl hl.1 rfl (lv_room (Nat.le_of_ble_eq_true rfl)) d_WM_over_9 ⟨Nat.le_of_ble_eq_true rfl, Nat.le_of_ble_eq_true rfl⟩)) (fun r er => ?_)
    subst er
    by_cases c_3 : p_1 < 0
    · have hQ := hQ.1 c_3
      refine hb_ti 0 (by unfold f_WM_isDay; rw [if_pos c_3]; first | done | rfl) ?_
      refine lv_if_ne (tgt := 17) hx hb d_WM_over_12 (by decide) (fun h => absurd (by decide +kernel) h) (fun _ => ?_)
      refine lv_iconst (v := (-1)) hx hb d_WM_over_15 (by decide +kernel) ?_
      exact W.iret (v := (-1)) hx hb hr (fun t ht hW => ⟨(-1), rfl, ⟨trivial, hQ⟩, ht⟩) t_nil d_WM_over_16
    · have hQ := hQ.2 c_3
      by_cases c_4 : 500 ≤ p_1
      · have hQ := hQ.1 c_4
        refine hb_ti 0 (by unfold f_WM_isDay; rw [if_neg c_3, if_pos c_4]; first | done | rfl) ?_
        refine lv_if_ne (tgt := 17) hx hb d_WM_over_12 (by decide) (fun h => absurd (by decide +kernel) h) (fun _ => ?_)
        refine lv_iconst (v := (-1)) hx hb d_WM_over_15 (by decide +kernel) ?_
        exact W.iret (v := (-1)) hx hb hr (fun t ht hW => ⟨(-1), rfl, ⟨trivial, hQ⟩, ht⟩) t_nil d_WM_over_16
      · have hQ := hQ.2 c_4
        refine hb_ti 1 (by unfold f_WM_isDay; rw [if_neg c_3, if_neg c_4]; first | done | rfl) ?_
        refine lv_if_ne (tgt := 17) hx hb d_WM_over_12 (by decide) (fun _ => ?_) (fun h => absurd h (by decide +kernel))
        refine lv_iconst (v := 0) hx hb d_WM_over_17 (by decide +kernel) ?_
        refine lv_istore_n (lv' := [(3, .int 0), (0, .ref q0), (1, .int p_0), (2, .int p_1)]) hx hb d_WM_over_18 rfl hl (by decide) rfl (fun ls hl => ?_)
        refine lv_iconst (v := 0) hx hb d_WM_over_19 (by decide +kernel) ?_
        refine lv_istore (lv' := [(4, .int 0), (3, .int 0), (0, .ref q0), (1, .int p_0), (2, .int p_1)]) hx hb d_WM_over_20 hl (by decide) rfl (fun ls hl => ?_)
        have cut_5 : ∀ (n_5 : Nat) (v3_5 v4_5 : Int32) (ls : Array Slot), ¬ (v4_5 < 0) → ¬ (600 < v4_5) → (600 : Int32).toInt - (v4_5 : Int32).toInt ≤ (n_5 : Int) → wpL_WM_over_w_22_5 L f q0 p_0 p_1 q_1 Q n_5 v3_5 v4_5 → lv_has ls 6 [(0, .ref q0), (1, .int p_0), (2, .int p_1), (3, .int v3_5), (4, .int v4_5)] → W p l e (headSpec (.code y_WM_over b_WM_over 6 (some .int) :: TB) ({ frames := 6, cells := 0, slots := 0, locals := 146 })).room s m [.ref q0, .int p_0, .int p_1].toArray below meth c s.heap [] 0 0 (MQ below (vp_Si (fun r => (True) ∧ Q r)) [.ref q0, .int p_0, .int p_1].toArray s 0 0 (fun _ => False)) (F0 m 22 ls []) := by
          intro n_5
          induction n_5 using Nat.strongRecOn with
          | _ n_5 ih_5 =>
            intro v3_5 v4_5 ls iv0_5 iv1_5 hm_5 hQ hl
            rw [wpL_WM_over_w_22_5_eq] at hQ
            obtain ⟨rec_5, hrec_5⟩ : ∃ g, wpR_WM_over_w_22_5 L f q0 p_0 p_1 q_1 Q n_5 = g := ⟨_, rfl⟩
            rw [hrec_5] at hQ
            unfold wpB_WM_over_w_22_5 at hQ
            refine lv_iload hx hb d_WM_over_22 (lv_at hl 4 rfl) ?_
            refine lv_aload_n hx hb d_WM_over_24 rfl (lv_at hl 0 rfl) ?_
            refine tw_geti (D := (dC, dI)) (C := R_WM) (T := F_WM) (N := 13) (ci := 0) (kd := 0) (ct := ct) hx hb htb i_WM hown hK hP hO_0 m0 rfl rfl 9 (by decide) (htb (.fieldLink R_WM 243 "WaterMen" "tripCount" "I") tw_592) (fun _ h9 => h9) rfl d_WM_over_25 (fun x_6 e_6 b_6 => ?_)
            have hQ := hQ x_6 e_6
            refine lv_icmp_ge (tgt := 69) hx hb d_WM_over_28 (by decide) (fun c_7 => ?_) (fun c_7 => ?_)
            · have hQ := hQ.1 c_7
              refine lv_iload_n hx hb d_WM_over_69 rfl (lv_at hl 3 rfl) ?_
              exact W.iret (v := v3_5) hx hb hr (fun t ht hW => ⟨v3_5, rfl, ⟨trivial, hQ⟩, ht⟩) t_nil d_WM_over_70
            · have hQ := hQ.2 c_7
              refine lv_aload_n hx hb d_WM_over_31 rfl (lv_at hl 0 rfl) ?_
              refine lv_iload hx hb d_WM_over_32 (lv_at hl 4 rfl) ?_
              refine va_csq (va_Run.run (va_runV (As := [.int v4_5]) (rest := []) ⟨hx, hb, hml, hown, htb⟩ (c_WM_tripAt_w l dC dI ct L f hO_0 q0 m0 v4_5 _ hQ) (cwV 1 htb (gd_V tw_637 tw_638 tw_639 tw_26 tw_636) rfl rfl rfl (by decide +kernel) ⟨Nat.le_of_ble_eq_true rfl, Nat.le_of_ble_eq_true rfl⟩) ⟨pr_blind, tw_recv hK hP m0 rfl rfl, pr_pre hP hK hN⟩ rfl rfl hl.1 rfl (lv_room (Nat.le_of_ble_eq_true rfl)) d_WM_over_34 ⟨Nat.le_of_ble_eq_true rfl, Nat.le_of_ble_eq_true rfl⟩)) (fun r_8 er_8 => ?_)
              obtain ⟨er_8, hQ⟩ := er_8
              rcases er_8 with rfl | ⟨q_8, rfl, m_8⟩
              · have hQ := hQ.1 rfl
                refine hb_tv .null rfl ?_
                refine lv_astoreN (lv' := [(5, .null), (0, .ref q0), (1, .int p_0), (2, .int p_1), (3, .int v3_5), (4, .int v4_5)]) hx hb d_WM_over_37 hl (by decide) rfl (fun ls hl => ?_)
                refine lv_aloadN hx hb d_WM_over_39 (lv_at hl 0 rfl) ?_
                refine lv_ifnullN (tgt := 63) hx hb d_WM_over_41 (by decide) ?_
                refine lv_iinc (v := (v4_5 + 1)) (lv' := [(4, .int (v4_5 + 1)), (5, .null), (0, .ref q0), (1, .int p_0), (2, .int p_1), (3, .int v3_5)]) hx hb d_WM_over_63 hl (k := 5) rfl rfl (by decide) rfl (fun ls hl => ?_)
                refine lv_goto (tgt := 22) hx hb d_WM_over_66 (by decide) ?_
                exact ih_5 (n_5 - 1) (ms_1 ((fun (a_0 : Int32) (a_1 : Int32) (k_0 : ¬ (a_1 ≤ a_0)) (k_1 : ¬ (600 < a_1)) => (show 1 ≤ (600 : Int32).toInt - (a_0).toInt ∧ (600 : Int32).toInt - ((a_0) + (1 : Int32)).toInt + 1 ≤ (600 : Int32).toInt - (a_0).toInt from by have z0 : (1 : Int32).toInt = 1 := (by decide +kernel); have z1 : (600 : Int32).toInt = 600 := (by decide +kernel); have r0 := fb_rng (a_0); have r1 := fb_rng (a_1); have e0 := k_0; rw [Int32.le_iff_toInt_le] at e0; have e1 := k_1; rw [Int32.lt_iff_toInt_lt, z1] at e1; obtain ⟨n_0, hn_0, s0⟩ := nd_add (x := (a_0)) (y := (1 : Int32)) (by (try rw [z0]); omega) (by (try rw [z0]); omega); rw [z0] at s0; rw [hn_0]; (try rw [z1]); omega)) v4_5 x_6 c_7 b_6.2) hm_5) v3_5 (v4_5 + 1) _ (show ¬ ((v4_5 + 1) < 0) from by have e0 := iv0_5; rw [Int32.lt_iff_toInt_lt] at e0; have e1 := iv1_5; rw [Int32.lt_iff_toInt_lt] at e1; have z0 : (0 : Int32).toInt = 0 := (by decide +kernel); have z1 : (1 : Int32).toInt = 1 := (by decide +kernel); have z2 : (600 : Int32).toInt = 600 := (by decide +kernel); have ss := fb_addI (x := v4_5) (y := 1) (by omega) (by omega); rw [Int32.lt_iff_toInt_lt]; omega) (show ¬ (600 < (v4_5 + 1)) from ((fun (a_0 : Int32) (a_1 : Int32) (k_0 : ¬ (a_1 ≤ a_0)) (k_1 : ¬ (600 < a_1)) => (show ¬ (600 < (a_0 + 1)) from by have z0 : (1 : Int32).toInt = 1 := (by decide +kernel); have z1 : (600 : Int32).toInt = 600 := (by decide +kernel); have r0 := fb_rng (a_0); have r1 := fb_rng (a_1); have e0 := k_0; rw [Int32.le_iff_toInt_le] at e0; have e1 := k_1; rw [Int32.lt_iff_toInt_lt, z1] at e1; obtain ⟨n_0, hn_0, s0⟩ := nd_add (x := (a_0)) (y := (1 : Int32)) (by (try rw [z0]); omega) (by (try rw [z0]); omega); rw [z0] at s0; rw [hn_0, Int32.lt_iff_toInt_lt, z1]; omega)) v4_5 x_6 c_7 b_6.2)) (by exact ms_2 ((fun (a_0 : Int32) (a_1 : Int32) (k_0 : ¬ (a_1 ≤ a_0)) (k_1 : ¬ (600 < a_1)) => (show 1 ≤ (600 : Int32).toInt - (a_0).toInt ∧ (600 : Int32).toInt - ((a_0) + (1 : Int32)).toInt + 1 ≤ (600 : Int32).toInt - (a_0).toInt from by have z0 : (1 : Int32).toInt = 1 := (by decide +kernel); have z1 : (600 : Int32).toInt = 600 := (by decide +kernel); have r0 := fb_rng (a_0); have r1 := fb_rng (a_1); have e0 := k_0; rw [Int32.le_iff_toInt_le] at e0; have e1 := k_1; rw [Int32.lt_iff_toInt_lt, z1] at e1; obtain ⟨n_0, hn_0, s0⟩ := nd_add (x := (a_0)) (y := (1 : Int32)) (by (try rw [z0]); omega) (by (try rw [z0]); omega); rw [z0] at s0; rw [hn_0]; (try rw [z1]); omega)) v4_5 x_6 c_7 b_6.2) hm_5) (by rw [← hrec_5, wpR_WM_over_w_22_5_pos (ms_3 ((fun (a_0 : Int32) (a_1 : Int32) (k_0 : ¬ (a_1 ≤ a_0)) (k_1 : ¬ (600 < a_1)) => (show 1 ≤ (600 : Int32).toInt - (a_0).toInt ∧ (600 : Int32).toInt - ((a_0) + (1 : Int32)).toInt + 1 ≤ (600 : Int32).toInt - (a_0).toInt from by have z0 : (1 : Int32).toInt = 1 := (by decide +kernel); have z1 : (600 : Int32).toInt = 600 := (by decide +kernel); have r0 := fb_rng (a_0); have r1 := fb_rng (a_1); have e0 := k_0; rw [Int32.le_iff_toInt_le] at e0; have e1 := k_1; rw [Int32.lt_iff_toInt_lt, z1] at e1; obtain ⟨n_0, hn_0, s0⟩ := nd_add (x := (a_0)) (y := (1 : Int32)) (by (try rw [z0]); omega) (by (try rw [z0]); omega); rw [z0] at s0; rw [hn_0]; (try rw [z1]); omega)) v4_5 x_6 c_7 b_6.2) hm_5)] at hQ; exact hQ) (lv_sub hl [2, 3, 4, 5, 0] rfl)
              · have hQ := hQ.2 q_8 rfl
                refine hb_tv (.ref q_8) rfl ?_
                refine lv_astore (lv' := [(5, .ref q_8), (0, .ref q0), (1, .int p_0), (2, .int p_1), (3, .int v3_5), (4, .int v4_5)]) hx hb d_WM_over_37 hl (by decide) rfl (fun ls hl => ?_)
                refine lv_aload hx hb d_WM_over_39 (lv_at hl 0 rfl) ?_
                refine lv_ifnull hx hb d_WM_over_41 ?_
                refine lv_aload hx hb d_WM_over_44 (lv_at hl 0 rfl) ?_
                refine tw_geti (D := (dC, dI)) (C := R_Tr) (T := F_Tr) (N := 8) (ci := 10) (kd := 25) (ct := ct) hx hb htb i_Tr hown hK hP hO_0 m_8 rfl rfl 1 (by decide) (htb (.fieldLink R_WM 306 "WaterMen$Trip" "man" "I") tw_662) (fun _ h9 => h9) rfl d_WM_over_46 (fun x_9 e_9 b_9 => ?_)
                have hQ := hQ x_9 e_9
                refine lv_iload_n hx hb d_WM_over_49 rfl (lv_at hl 2 rfl) ?_
                refine lv_icmp_ne (tgt := 63) hx hb d_WM_over_50 (by decide) (fun c_10 => ?_) (fun c_10 => ?_)
                · have hQ := hQ.2 c_10
                  refine lv_iinc (v := (v4_5 + 1)) (lv' := [(4, .int (v4_5 + 1)), (5, .ref q_8), (0, .ref q0), (1, .int p_0), (2, .int p_1), (3, .int v3_5)]) hx hb d_WM_over_63 hl (k := 5) rfl rfl (by decide) rfl (fun ls hl => ?_)
                  refine lv_goto (tgt := 22) hx hb d_WM_over_66 (by decide) ?_
                  exact ih_5 (n_5 - 1) (ms_1 ((fun (a_0 : Int32) (a_1 : Int32) (k_0 : ¬ (a_1 ≤ a_0)) (k_1 : ¬ (600 < a_1)) => (show 1 ≤ (600 : Int32).toInt - (a_0).toInt ∧ (600 : Int32).toInt - ((a_0) + (1 : Int32)).toInt + 1 ≤ (600 : Int32).toInt - (a_0).toInt from by have z0 : (1 : Int32).toInt = 1 := (by decide +kernel); have z1 : (600 : Int32).toInt = 600 := (by decide +kernel); have r0 := fb_rng (a_0); have r1 := fb_rng (a_1); have e0 := k_0; rw [Int32.le_iff_toInt_le] at e0; have e1 := k_1; rw [Int32.lt_iff_toInt_lt, z1] at e1; obtain ⟨n_0, hn_0, s0⟩ := nd_add (x := (a_0)) (y := (1 : Int32)) (by (try rw [z0]); omega) (by (try rw [z0]); omega); rw [z0] at s0; rw [hn_0]; (try rw [z1]); omega)) v4_5 x_6 c_7 b_6.2) hm_5) v3_5 (v4_5 + 1) _ (show ¬ ((v4_5 + 1) < 0) from by have e0 := iv0_5; rw [Int32.lt_iff_toInt_lt] at e0; have e1 := iv1_5; rw [Int32.lt_iff_toInt_lt] at e1; have z0 : (0 : Int32).toInt = 0 := (by decide +kernel); have z1 : (1 : Int32).toInt = 1 := (by decide +kernel); have z2 : (600 : Int32).toInt = 600 := (by decide +kernel); have ss := fb_addI (x := v4_5) (y := 1) (by omega) (by omega); rw [Int32.lt_iff_toInt_lt]; omega) (show ¬ (600 < (v4_5 + 1)) from ((fun (a_0 : Int32) (a_1 : Int32) (k_0 : ¬ (a_1 ≤ a_0)) (k_1 : ¬ (600 < a_1)) => (show ¬ (600 < (a_0 + 1)) from by have z0 : (1 : Int32).toInt = 1 := (by decide +kernel); have z1 : (600 : Int32).toInt = 600 := (by decide +kernel); have r0 := fb_rng (a_0); have r1 := fb_rng (a_1); have e0 := k_0; rw [Int32.le_iff_toInt_le] at e0; have e1 := k_1; rw [Int32.lt_iff_toInt_lt, z1] at e1; obtain ⟨n_0, hn_0, s0⟩ := nd_add (x := (a_0)) (y := (1 : Int32)) (by (try rw [z0]); omega) (by (try rw [z0]); omega); rw [z0] at s0; rw [hn_0, Int32.lt_iff_toInt_lt, z1]; omega)) v4_5 x_6 c_7 b_6.2)) (by exact ms_2 ((fun (a_0 : Int32) (a_1 : Int32) (k_0 : ¬ (a_1 ≤ a_0)) (k_1 : ¬ (600 < a_1)) => (show 1 ≤ (600 : Int32).toInt - (a_0).toInt ∧ (600 : Int32).toInt - ((a_0) + (1 : Int32)).toInt + 1 ≤ (600 : Int32).toInt - (a_0).toInt from by have z0 : (1 : Int32).toInt = 1 := (by decide +kernel); have z1 : (600 : Int32).toInt = 600 := (by decide +kernel); have r0 := fb_rng (a_0); have r1 := fb_rng (a_1); have e0 := k_0; rw [Int32.le_iff_toInt_le] at e0; have e1 := k_1; rw [Int32.lt_iff_toInt_lt, z1] at e1; obtain ⟨n_0, hn_0, s0⟩ := nd_add (x := (a_0)) (y := (1 : Int32)) (by (try rw [z0]); omega) (by (try rw [z0]); omega); rw [z0] at s0; rw [hn_0]; (try rw [z1]); omega)) v4_5 x_6 c_7 b_6.2) hm_5) (by rw [← hrec_5, wpR_WM_over_w_22_5_pos (ms_3 ((fun (a_0 : Int32) (a_1 : Int32) (k_0 : ¬ (a_1 ≤ a_0)) (k_1 : ¬ (600 < a_1)) => (show 1 ≤ (600 : Int32).toInt - (a_0).toInt ∧ (600 : Int32).toInt - ((a_0) + (1 : Int32)).toInt + 1 ≤ (600 : Int32).toInt - (a_0).toInt from by have z0 : (1 : Int32).toInt = 1 := (by decide +kernel); have z1 : (600 : Int32).toInt = 600 := (by decide +kernel); have r0 := fb_rng (a_0); have r1 := fb_rng (a_1); have e0 := k_0; rw [Int32.le_iff_toInt_le] at e0; have e1 := k_1; rw [Int32.lt_iff_toInt_lt, z1] at e1; obtain ⟨n_0, hn_0, s0⟩ := nd_add (x := (a_0)) (y := (1 : Int32)) (by (try rw [z0]); omega) (by (try rw [z0]); omega); rw [z0] at s0; rw [hn_0]; (try rw [z1]); omega)) v4_5 x_6 c_7 b_6.2) hm_5)] at hQ; exact hQ) (lv_sub hl [2, 3, 4, 5, 0] rfl)
                · have hQ := hQ.1 c_10
                  refine lv_iload_n hx hb d_WM_over_53 rfl (lv_at hl 4 rfl) ?_
                  refine lv_aload_n hx hb d_WM_over_54 rfl (lv_at hl 1 rfl) ?_
                  refine lv_aload hx hb d_WM_over_55 (lv_at hl 0 rfl) ?_
                  refine lv_iload_n hx hb d_WM_over_57 rfl (lv_at hl 3 rfl) ?_
                  refine vp_callSi (va_Run.run (va_runV (As := [.ref q_8, .int p_1]) (rest := [.int v3_5]) ⟨hx, hb, hml, hown, htb⟩ (c_WM_overpaid_w l dC dI ct L f hO_0 q0 m0 q_8 m_8 p_1 _ hQ) (cwV 2 htb (gd_V tw_674 tw_675 tw_676 tw_26 tw_673) rfl rfl rfl (by decide +kernel) ⟨Nat.le_of_ble_eq_true rfl, Nat.le_of_ble_eq_true rfl⟩) ⟨pr_blind, tw_recv hK hP m0 rfl rfl, pr_pre hP hK hN⟩ rfl rfl hl.1 rfl (lv_room (Nat.le_of_ble_eq_true rfl)) d_WM_over_58 ⟨Nat.le_of_ble_eq_true rfl, Nat.le_of_ble_eq_true rfl⟩)) (fun r_11 er_11 => ?_)
                  obtain ⟨er_11, hQ⟩ := er_11
                  clear er_11
                  refine lv_iadd hx hb d_WM_over_61 ?_
                  refine lv_istore_n (lv' := [(3, .int (v3_5 + r_11)), (5, .ref q_8), (0, .ref q0), (1, .int p_0), (2, .int p_1), (4, .int v4_5)]) hx hb d_WM_over_62 rfl hl (by decide) rfl (fun ls hl => ?_)
                  refine lv_iinc (v := (v4_5 + 1)) (lv' := [(4, .int (v4_5 + 1)), (3, .int (v3_5 + r_11)), (5, .ref q_8), (0, .ref q0), (1, .int p_0), (2, .int p_1)]) hx hb d_WM_over_63 hl (k := 5) rfl rfl (by decide) rfl (fun ls hl => ?_)
                  refine lv_goto (tgt := 22) hx hb d_WM_over_66 (by decide) ?_
                  exact ih_5 (n_5 - 1) (ms_1 ((fun (a_0 : Int32) (a_1 : Int32) (k_0 : ¬ (a_1 ≤ a_0)) (k_1 : ¬ (600 < a_1)) => (show 1 ≤ (600 : Int32).toInt - (a_0).toInt ∧ (600 : Int32).toInt - ((a_0) + (1 : Int32)).toInt + 1 ≤ (600 : Int32).toInt - (a_0).toInt from by have z0 : (1 : Int32).toInt = 1 := (by decide +kernel); have z1 : (600 : Int32).toInt = 600 := (by decide +kernel); have r0 := fb_rng (a_0); have r1 := fb_rng (a_1); have e0 := k_0; rw [Int32.le_iff_toInt_le] at e0; have e1 := k_1; rw [Int32.lt_iff_toInt_lt, z1] at e1; obtain ⟨n_0, hn_0, s0⟩ := nd_add (x := (a_0)) (y := (1 : Int32)) (by (try rw [z0]); omega) (by (try rw [z0]); omega); rw [z0] at s0; rw [hn_0]; (try rw [z1]); omega)) v4_5 x_6 c_7 b_6.2) hm_5) (v3_5 + r_11) (v4_5 + 1) _ (show ¬ ((v4_5 + 1) < 0) from by have e0 := iv0_5; rw [Int32.lt_iff_toInt_lt] at e0; have e1 := iv1_5; rw [Int32.lt_iff_toInt_lt] at e1; have z0 : (0 : Int32).toInt = 0 := (by decide +kernel); have z1 : (1 : Int32).toInt = 1 := (by decide +kernel); have z2 : (600 : Int32).toInt = 600 := (by decide +kernel); have ss := fb_addI (x := v4_5) (y := 1) (by omega) (by omega); rw [Int32.lt_iff_toInt_lt]; omega) (show ¬ (600 < (v4_5 + 1)) from ((fun (a_0 : Int32) (a_1 : Int32) (k_0 : ¬ (a_1 ≤ a_0)) (k_1 : ¬ (600 < a_1)) => (show ¬ (600 < (a_0 + 1)) from by have z0 : (1 : Int32).toInt = 1 := (by decide +kernel); have z1 : (600 : Int32).toInt = 600 := (by decide +kernel); have r0 := fb_rng (a_0); have r1 := fb_rng (a_1); have e0 := k_0; rw [Int32.le_iff_toInt_le] at e0; have e1 := k_1; rw [Int32.lt_iff_toInt_lt, z1] at e1; obtain ⟨n_0, hn_0, s0⟩ := nd_add (x := (a_0)) (y := (1 : Int32)) (by (try rw [z0]); omega) (by (try rw [z0]); omega); rw [z0] at s0; rw [hn_0, Int32.lt_iff_toInt_lt, z1]; omega)) v4_5 x_6 c_7 b_6.2)) (by exact ms_2 ((fun (a_0 : Int32) (a_1 : Int32) (k_0 : ¬ (a_1 ≤ a_0)) (k_1 : ¬ (600 < a_1)) => (show 1 ≤ (600 : Int32).toInt - (a_0).toInt ∧ (600 : Int32).toInt - ((a_0) + (1 : Int32)).toInt + 1 ≤ (600 : Int32).toInt - (a_0).toInt from by have z0 : (1 : Int32).toInt = 1 := (by decide +kernel); have z1 : (600 : Int32).toInt = 600 := (by decide +kernel); have r0 := fb_rng (a_0); have r1 := fb_rng (a_1); have e0 := k_0; rw [Int32.le_iff_toInt_le] at e0; have e1 := k_1; rw [Int32.lt_iff_toInt_lt, z1] at e1; obtain ⟨n_0, hn_0, s0⟩ := nd_add (x := (a_0)) (y := (1 : Int32)) (by (try rw [z0]); omega) (by (try rw [z0]); omega); rw [z0] at s0; rw [hn_0]; (try rw [z1]); omega)) v4_5 x_6 c_7 b_6.2) hm_5) (by rw [← hrec_5, wpR_WM_over_w_22_5_pos (ms_3 ((fun (a_0 : Int32) (a_1 : Int32) (k_0 : ¬ (a_1 ≤ a_0)) (k_1 : ¬ (600 < a_1)) => (show 1 ≤ (600 : Int32).toInt - (a_0).toInt ∧ (600 : Int32).toInt - ((a_0) + (1 : Int32)).toInt + 1 ≤ (600 : Int32).toInt - (a_0).toInt from by have z0 : (1 : Int32).toInt = 1 := (by decide +kernel); have z1 : (600 : Int32).toInt = 600 := (by decide +kernel); have r0 := fb_rng (a_0); have r1 := fb_rng (a_1); have e0 := k_0; rw [Int32.le_iff_toInt_le] at e0; have e1 := k_1; rw [Int32.lt_iff_toInt_lt, z1] at e1; obtain ⟨n_0, hn_0, s0⟩ := nd_add (x := (a_0)) (y := (1 : Int32)) (by (try rw [z0]); omega) (by (try rw [z0]); omega); rw [z0] at s0; rw [hn_0]; (try rw [z1]); omega)) v4_5 x_6 c_7 b_6.2) hm_5)] at hQ; exact hQ) (lv_sub hl [3, 4, 5, 1, 0] rfl)
        exact cut_5 ((600 : Int32).toInt - (0 : Int32).toInt).toNat (0 : Int32) (0 : Int32) _ (by decide +kernel) (by decide +kernel) (by exact ms_e _ _) hQ (lv_sub hl [2, 3, 4, 1, 0] rfl)
def wpB_Md_over_w_21_7 (L : List Nat) (f : TF) (q0 : Nat) (p_0 : Int32) (p_1 : Int32) (Q : Int32 → Prop) (rec_7 : Int32 → Int32 → Prop) (v3_7 : Int32) (v4_7 : Int32) : Prop := ∀ x_8 : Int32, ti f q0 47 = x_8 → ((x_8 ≤ v4_7 → Q v3_7) ∧ (¬ (x_8 ≤ v4_7) → ∀ q_10 : Nat, tr f q0 49 = some q_10 → ∀ x_11 : Int32, ti f q_10 (v4_7 : Int32).toNatClampNeg = x_11 → ((x_11 = p_0 → wp_Md_dueOf_w L f q0 v4_7 p_1 (fun (r_13 : Int32) => ((r_13 < 0 → rec_7 (v3_7 + 0) (v4_7 + 1)) ∧ (¬ (r_13 < 0) → ∀ q_15 : Nat, tr f q0 54 = some q_15 → ∀ x_16 : Int32, ti f q_15 (v4_7 : Int32).toNatClampNeg = x_16 → ((x_16 ≤ r_13 → rec_7 (v3_7 + 0) (v4_7 + 1)) ∧ (¬ (x_16 ≤ r_13) → rec_7 (v3_7 + (x_16 - r_13)) (v4_7 + 1))))))) ∧ (¬ (x_11 = p_0) → rec_7 v3_7 (v4_7 + 1)))))
def wpL_Md_over_w_21_7 (L : List Nat) (f : TF) (q0 : Nat) (p_0 : Int32) (p_1 : Int32) (Q : Int32 → Prop) : Nat → Int32 → Int32 → Prop
  | 0 => fun v3_7 v4_7 => wpB_Md_over_w_21_7 L f q0 p_0 p_1 Q (fun _ _ => True) v3_7 v4_7
  | n + 1 => fun v3_7 v4_7 => wpB_Md_over_w_21_7 L f q0 p_0 p_1 Q (wpL_Md_over_w_21_7 L f q0 p_0 p_1 Q n) v3_7 v4_7
def wpR_Md_over_w_21_7 (L : List Nat) (f : TF) (q0 : Nat) (p_0 : Int32) (p_1 : Int32) (Q : Int32 → Prop) : Nat → Int32 → Int32 → Prop
  | 0 => fun _ _ => True
  | n + 1 => wpL_Md_over_w_21_7 L f q0 p_0 p_1 Q n
theorem wpL_Md_over_w_21_7_eq {L : List Nat} {f : TF} {q0 : Nat} {p_0 : Int32} {p_1 : Int32} {Q : Int32 → Prop} {n : Nat} : wpL_Md_over_w_21_7 L f q0 p_0 p_1 Q n = wpB_Md_over_w_21_7 L f q0 p_0 p_1 Q (wpR_Md_over_w_21_7 L f q0 p_0 p_1 Q n) := by cases n <;> rfl
theorem wpR_Md_over_w_21_7_pos {L : List Nat} {f : TF} {q0 : Nat} {p_0 : Int32} {p_1 : Int32} {Q : Int32 → Prop} {n : Nat} (h : 0 < n) : wpR_Md_over_w_21_7 L f q0 p_0 p_1 Q n = wpL_Md_over_w_21_7 L f q0 p_0 p_1 Q (n - 1) := by
  cases n with
  | zero => omega
  | succ n => rfl
def wp_Md_over_w (L : List Nat) (f : TF) (q0 : Nat) (p_0 : Int32) (p_1 : Int32) (Q : Int32 → Prop) : Prop := ((p_0 < 0 → Q (-1)) ∧ (¬ (p_0 < 0) → ((39 < p_0 → Q (-1)) ∧ (¬ (39 < p_0) → ((p_1 < 0 → Q (-1)) ∧ (¬ (p_1 < 0) → ((499 < p_1 → Q (-1)) ∧ (¬ (499 < p_1) → wpL_Md_over_w_21_7 L f q0 p_0 p_1 Q (((600 : Int32).toInt - (0 : Int32).toInt).toNat) (0 : Int32) (0 : Int32)))))))))
set_option maxHeartbeats 4000000 in
set_option maxRecDepth 100000 in
theorem c_Md_over_w (l : Launch) (dC : Nat → ClassId) (dI : Nat → Nat → Nat) (ct : Nat → ClassId) (L : List Nat) (f : TF) (hO_0 : Ok L f) (q0 : Nat) (m0 : q0 ∈ L ∧ tk f q0 = 27) (p_0 : Int32) (p_1 : Int32)   (Q : Int32 → Prop) (hQ : wp_Md_over_w L f q0 p_0 p_1 Q) : Met l y_Md_over (.code y_Md_over b_Md_over 6 (some .int) :: TB) ({ frames := 4, cells := 0, slots := 0, locals := 101 }) (va_Pc [.ref q0, .int p_0, .int p_1] (PR dC dI (TW ct L f) (TT ct))) (vp_Si (fun r => (True) ∧ Q r)) 0 0 (fun _ => False) := by
  refine Met.ofW (cc := b_Md_over) (maxL := 6) (ret := (some .int)) (by decide) rfl ?_
  intro p e s m args below meth c s₁ B hml hv
  obtain ⟨rfl, hP, hK, hN⟩ := hv
  have hx := B.exec
  have hb := B.bytes
  have hr := B.returns
  have hts := atoms_spec (ws := (.code y_Md_over b_Md_over 6 (some .int) :: TB)) B.pre
  have htb := fun w (h : w ∈ TB) => hts w (List.mem_cons_of_mem _ h)
  have hown : s.vm.findClass R_Md = some m.cls := findClass_of_methodNamed B.named
  have hlocks := B.notSynchronized
  have hl := lv_entry ([.ref q0, .int p_0, .int p_1]) (n := 6) (Nat.le_of_ble_eq_true rfl)
  rw [lg_entry_eq]
  generalize (lg_sl ([.ref q0, .int p_0, .int p_1]) ++ List.replicate (6 - (lg_sl ([.ref q0, .int p_0, .int p_1])).length) Slot.unset).toArray = ls at hl ⊢
  have hl : lv_has ls 6 [(0, .ref q0), (1, .int p_0), (2, .int p_1)] := hl
  unfold wp_Md_over_w at hQ
  refine lv_iload_n hx hb d_Md_over_0 rfl (lv_at hl 1 rfl) ?_
  refine vp_callSi (va_Run.run (va_runS (As := [.int p_0]) (rest := []) ⟨hx, hb, hml, hown, htb⟩ (c_Md_isMan l p_0) (cwS 1 htb (gd_S tw_93 tw_94 tw_89 tw_92) rfl rfl rfl (by decide +kernel) ⟨Nat.le_of_ble_eq_true rfl, Nat.le_of_ble_eq_true rfl⟩) ⟨fun _ _ _ _ h => h, fun U _ _ => ⟨rfl, trivial⟩⟩ rfl rfl hl.1 rfl (lv_room (Nat.le_of_ble_eq_true rfl)) d_Md_over_1 ⟨Nat.le_of_ble_eq_true rfl, Nat.le_of_ble_eq_true rfl⟩)) (fun r er => ?_)
  subst er
  by_cases c_2 : p_0 < 0
  · have hQ := hQ.1 c_2
    refine hb_ti 0 (by unfold f_Md_isMan; rw [if_pos c_2]; first | done | rfl) ?_
    refine lv_if_eq (tgt := 14) hx hb d_Md_over_4 (by decide) (fun _ => ?_) (fun h => absurd (by decide +kernel) h)
    refine lv_iconst (v := (-1)) hx hb d_Md_over_14 (by decide +kernel) ?_
    exact W.iret (v := (-1)) hx hb hr (fun t ht hW => ⟨(-1), rfl, ⟨trivial, hQ⟩, ht⟩) t_nil d_Md_over_15
  · have hQ := hQ.2 c_2
    by_cases c_3 : 39 < p_0
    · have hQ := hQ.1 c_3
      refine hb_ti 0 (by unfold f_Md_isMan; rw [if_neg c_2, if_pos c_3]; first | done | rfl) ?_
      refine lv_if_eq (tgt := 14) hx hb d_Md_over_4 (by decide) (fun _ => ?_) (fun h => absurd (by decide +kernel) h)
      refine lv_iconst (v := (-1)) hx hb d_Md_over_14 (by decide +kernel) ?_
      exact W.iret (v := (-1)) hx hb hr (fun t ht hW => ⟨(-1), rfl, ⟨trivial, hQ⟩, ht⟩) t_nil d_Md_over_15
    · have hQ := hQ.2 c_3
      refine hb_ti 1 (by unfold f_Md_isMan; rw [if_neg c_2, if_neg c_3]; first | done | rfl) ?_
      refine lv_if_eq (tgt := 14) hx hb d_Md_over_4 (by decide) (fun h => absurd h (by decide +kernel)) (fun _ => ?_)
      refine lv_iload_n hx hb d_Md_over_7 rfl (lv_at hl 2 rfl) ?_
      refine vp_callSi (va_Run.run (va_runS (As := [.int p_1]) (rest := []) ⟨hx, hb, hml, hown, htb⟩ (c_Md_isDay l p_1) (cwS 1 htb (gd_S tw_145 tw_146 tw_89 tw_144) rfl rfl rfl (by decide +kernel) ⟨Nat.le_of_ble_eq_true rfl, Nat.le_of_ble_eq_true rfl⟩) ⟨fun _ _ _ _ h => h, fun U _ _ => ⟨rfl, trivial⟩⟩ rfl rfl hl.1 rfl (lv_room (Nat.le_of_ble_eq_true rfl)) d_Md_over_8 ⟨Nat.le_of_ble_eq_true rfl, Nat.le_of_ble_eq_true rfl⟩)) (fun r er => ?_)
      subst er
      by_cases c_5 : p_1 < 0
      · have hQ := hQ.1 c_5
        refine hb_ti 0 (by unfold f_Md_isDay; rw [if_pos c_5]; first | done | rfl) ?_
        refine lv_if_ne (tgt := 16) hx hb d_Md_over_11 (by decide) (fun h => absurd (by decide +kernel) h) (fun _ => ?_)
        refine lv_iconst (v := (-1)) hx hb d_Md_over_14 (by decide +kernel) ?_
        exact W.iret (v := (-1)) hx hb hr (fun t ht hW => ⟨(-1), rfl, ⟨trivial, hQ⟩, ht⟩) t_nil d_Md_over_15
      · have hQ := hQ.2 c_5
        by_cases c_6 : 499 < p_1
        · have hQ := hQ.1 c_6
          refine hb_ti 0 (by unfold f_Md_isDay; rw [if_neg c_5, if_pos c_6]; first | done | rfl) ?_
          refine lv_if_ne (tgt := 16) hx hb d_Md_over_11 (by decide) (fun h => absurd (by decide +kernel) h) (fun _ => ?_)
          refine lv_iconst (v := (-1)) hx hb d_Md_over_14 (by decide +kernel) ?_
          exact W.iret (v := (-1)) hx hb hr (fun t ht hW => ⟨(-1), rfl, ⟨trivial, hQ⟩, ht⟩) t_nil d_Md_over_15
        · have hQ := hQ.2 c_6
          refine hb_ti 1 (by unfold f_Md_isDay; rw [if_neg c_5, if_neg c_6]; first | done | rfl) ?_
          refine lv_if_ne (tgt := 16) hx hb d_Md_over_11 (by decide) (fun _ => ?_) (fun h => absurd h (by decide +kernel))
          refine lv_iconst (v := 0) hx hb d_Md_over_16 (by decide +kernel) ?_
          refine lv_istore_n (lv' := [(3, .int 0), (0, .ref q0), (1, .int p_0), (2, .int p_1)]) hx hb d_Md_over_17 rfl hl (by decide) rfl (fun ls hl => ?_)
          refine lv_iconst (v := 0) hx hb d_Md_over_18 (by decide +kernel) ?_
          refine lv_istore (lv' := [(4, .int 0), (3, .int 0), (0, .ref q0), (1, .int p_0), (2, .int p_1)]) hx hb d_Md_over_19 hl (by decide) rfl (fun ls hl => ?_)
          have cut_7 : ∀ (n_7 : Nat) (v3_7 v4_7 : Int32) (ls : Array Slot), ¬ (v4_7 < 0) → ¬ (600 < v4_7) → (600 : Int32).toInt - (v4_7 : Int32).toInt ≤ (n_7 : Int) → wpL_Md_over_w_21_7 L f q0 p_0 p_1 Q n_7 v3_7 v4_7 → lv_has ls 6 [(0, .ref q0), (1, .int p_0), (2, .int p_1), (3, .int v3_7), (4, .int v4_7)] → W p l e (headSpec (.code y_Md_over b_Md_over 6 (some .int) :: TB) ({ frames := 4, cells := 0, slots := 0, locals := 101 })).room s m [.ref q0, .int p_0, .int p_1].toArray below meth c s.heap [] 0 0 (MQ below (vp_Si (fun r => (True) ∧ Q r)) [.ref q0, .int p_0, .int p_1].toArray s 0 0 (fun _ => False)) (F0 m 21 ls []) := by
            intro n_7
            induction n_7 using Nat.strongRecOn with
            | _ n_7 ih_7 =>
              intro v3_7 v4_7 ls iv0_7 iv1_7 hm_7 hQ hl
              rw [wpL_Md_over_w_21_7_eq] at hQ
              obtain ⟨rec_7, hrec_7⟩ : ∃ g, wpR_Md_over_w_21_7 L f q0 p_0 p_1 Q n_7 = g := ⟨_, rfl⟩
              rw [hrec_7] at hQ
              unfold wpB_Md_over_w_21_7 at hQ
              refine lv_iload hx hb d_Md_over_21 (lv_at hl 4 rfl) ?_
              refine lv_aload_n hx hb d_Md_over_23 rfl (lv_at hl 0 rfl) ?_
              refine tw_geti (D := (dC, dI)) (C := R_Md) (T := F_Md) (N := 64) (ci := 7) (kd := 27) (ct := ct) hx hb htb i_Md hown hK hP hO_0 m0 rfl rfl 47 (by decide) (htb (.fieldLink R_Md 313 "WaterMenModel" "trips" "I") tw_123) (fun _ h9 => h9) rfl d_Md_over_24 (fun x_8 e_8 b_8 => ?_)
              have hQ := hQ x_8 e_8
              refine lv_icmp_ge (tgt := 93) hx hb d_Md_over_27 (by decide) (fun c_9 => ?_) (fun c_9 => ?_)
              · have hQ := hQ.1 c_9
                refine lv_iload_n hx hb d_Md_over_93 rfl (lv_at hl 3 rfl) ?_
                exact W.iret (v := v3_7) hx hb hr (fun t ht hW => ⟨v3_7, rfl, ⟨trivial, hQ⟩, ht⟩) t_nil d_Md_over_94
              · have hQ := hQ.2 c_9
                refine lv_aload_n hx hb d_Md_over_30 rfl (lv_at hl 0 rfl) ?_
                refine tw_getr (D := (dC, dI)) (C := R_Md) (T := F_Md) (N := 64) (ci := 7) (kd := 27) (ct := ct) hx hb htb i_Md hown hK hP hO_0 m0 rfl rfl 49 (by decide) (htb (.fieldLink R_Md 152 "WaterMenModel" "tripMan" "[I") tw_230) (fun _ h9 => h9) rfl d_Md_over_31 (fun q_10 e_10 m_10 => ?_)
                have hQ := hQ q_10 e_10
                refine lv_iload hx hb d_Md_over_34 (lv_at hl 4 rfl) ?_
                refine tw_aldI (ct := ct) hx hb hK hP hO_0 m_10 rfl ((fun (a_0 : Int32) (a_1 : Int32) (k_0 : ¬ (a_0 < 0)) (k_1 : ¬ (a_1 ≤ a_0)) (k_2 : ¬ (600 < a_1)) => (show vp_in (a_0) 600 from by have z0 : (0 : Int32).toInt = 0 := (by decide +kernel); have z1 : (600 : Int32).toInt = 600 := (by decide +kernel); have r0 := fb_rng (a_0); have r1 := fb_rng (a_1); have e0 := k_0; rw [Int32.lt_iff_toInt_lt, z0] at e0; have e1 := k_1; rw [Int32.le_iff_toInt_le] at e1; have e2 := k_2; rw [Int32.lt_iff_toInt_lt, z1] at e2; rw [vp_in_iff]; omega)) v4_7 x_8 iv0_7 c_9 b_8.2) d_Md_over_36 (fun x_11 e_11 b_11 => ?_)
                have hQ := hQ x_11 e_11
                refine lv_iload_n hx hb d_Md_over_37 rfl (lv_at hl 1 rfl) ?_
                refine lv_icmp_eq (tgt := 44) hx hb d_Md_over_38 (by decide) (fun c_12 => ?_) (fun c_12 => ?_)
                · have hQ := hQ.1 c_12
                  refine lv_aload_n hx hb d_Md_over_44 rfl (lv_at hl 0 rfl) ?_
                  refine lv_iload hx hb d_Md_over_45 (lv_at hl 4 rfl) ?_
                  refine lv_iload_n hx hb d_Md_over_47 rfl (lv_at hl 2 rfl) ?_
                  refine vp_callSi (va_Run.run (va_runV (As := [.int v4_7, .int p_1]) (rest := []) ⟨hx, hb, hml, hown, htb⟩ (c_Md_dueOf_w l dC dI ct L f hO_0 q0 m0 v4_7 p_1 iv0_7 (show ¬ (599 < v4_7) from ((fun (a_0 : Int32) (a_1 : Int32) (k_0 : ¬ (a_1 ≤ a_0)) (k_1 : ¬ (600 < a_1)) => (show ¬ (599 < a_0) from by have z0 : (599 : Int32).toInt = 599 := (by decide +kernel); have z1 : (600 : Int32).toInt = 600 := (by decide +kernel); have r0 := fb_rng (a_0); have r1 := fb_rng (a_1); have e0 := k_0; rw [Int32.le_iff_toInt_le] at e0; have e1 := k_1; rw [Int32.lt_iff_toInt_lt, z1] at e1; rw [Int32.lt_iff_toInt_lt, z0]; omega)) v4_7 x_8 c_9 b_8.2)) _ hQ) (cwV 2 htb (gd_V tw_670 tw_671 tw_672 tw_89 tw_669) rfl rfl rfl (by decide +kernel) ⟨Nat.le_of_ble_eq_true rfl, Nat.le_of_ble_eq_true rfl⟩) ⟨pr_blind, tw_recv hK hP m0 rfl rfl, pr_pre hP hK hN⟩ rfl rfl hl.1 rfl (lv_room (Nat.le_of_ble_eq_true rfl)) d_Md_over_48 ⟨Nat.le_of_ble_eq_true rfl, Nat.le_of_ble_eq_true rfl⟩)) (fun r_13 er_13 => ?_)
                  obtain ⟨er_13, hQ⟩ := er_13
                  clear er_13
                  refine lv_istore (lv' := [(5, .int r_13), (0, .ref q0), (1, .int p_0), (2, .int p_1), (3, .int v3_7), (4, .int v4_7)]) hx hb d_Md_over_51 hl (by decide) rfl (fun ls hl => ?_)
                  refine lv_iload_n hx hb d_Md_over_53 rfl (lv_at hl 4 rfl) ?_
                  refine lv_iload hx hb d_Md_over_54 (lv_at hl 0 rfl) ?_
                  refine lv_if_lt (tgt := 84) hx hb d_Md_over_56 (by decide) (fun c_14 => ?_) (fun c_14 => ?_)
                  · have hQ := hQ.1 c_14
                    refine lv_iconst (v := 0) hx hb d_Md_over_84 (by decide +kernel) ?_
                    refine lv_iadd hx hb d_Md_over_85 ?_
                    refine lv_istore_n (lv' := [(3, .int (v3_7 + 0)), (5, .int r_13), (0, .ref q0), (1, .int p_0), (2, .int p_1), (4, .int v4_7)]) hx hb d_Md_over_86 rfl hl (by decide) rfl (fun ls hl => ?_)
                    refine lv_iinc (v := (v4_7 + 1)) (lv' := [(4, .int (v4_7 + 1)), (3, .int (v3_7 + 0)), (5, .int r_13), (0, .ref q0), (1, .int p_0), (2, .int p_1)]) hx hb d_Md_over_87 hl (k := 5) rfl rfl (by decide) rfl (fun ls hl => ?_)
                    refine lv_goto (tgt := 21) hx hb d_Md_over_90 (by decide) ?_
                    exact ih_7 (n_7 - 1) (ms_1 ((fun (a_0 : Int32) (a_1 : Int32) (k_0 : ¬ (a_1 ≤ a_0)) (k_1 : ¬ (600 < a_1)) => (show 1 ≤ (600 : Int32).toInt - (a_0).toInt ∧ (600 : Int32).toInt - ((a_0) + (1 : Int32)).toInt + 1 ≤ (600 : Int32).toInt - (a_0).toInt from by have z0 : (1 : Int32).toInt = 1 := (by decide +kernel); have z1 : (600 : Int32).toInt = 600 := (by decide +kernel); have r0 := fb_rng (a_0); have r1 := fb_rng (a_1); have e0 := k_0; rw [Int32.le_iff_toInt_le] at e0; have e1 := k_1; rw [Int32.lt_iff_toInt_lt, z1] at e1; obtain ⟨n_0, hn_0, s0⟩ := nd_add (x := (a_0)) (y := (1 : Int32)) (by (try rw [z0]); omega) (by (try rw [z0]); omega); rw [z0] at s0; rw [hn_0]; (try rw [z1]); omega)) v4_7 x_8 c_9 b_8.2) hm_7) (v3_7 + 0) (v4_7 + 1) _ (show ¬ ((v4_7 + 1) < 0) from by have e0 := iv0_7; rw [Int32.lt_iff_toInt_lt] at e0; have e1 := iv1_7; rw [Int32.lt_iff_toInt_lt] at e1; have z0 : (0 : Int32).toInt = 0 := (by decide +kernel); have z1 : (1 : Int32).toInt = 1 := (by decide +kernel); have z2 : (600 : Int32).toInt = 600 := (by decide +kernel); have ss := fb_addI (x := v4_7) (y := 1) (by omega) (by omega); rw [Int32.lt_iff_toInt_lt]; omega) (show ¬ (600 < (v4_7 + 1)) from ((fun (a_0 : Int32) (a_1 : Int32) (k_0 : ¬ (a_1 ≤ a_0)) (k_1 : ¬ (600 < a_1)) => (show ¬ (600 < (a_0 + 1)) from by have z0 : (1 : Int32).toInt = 1 := (by decide +kernel); have z1 : (600 : Int32).toInt = 600 := (by decide +kernel); have r0 := fb_rng (a_0); have r1 := fb_rng (a_1); have e0 := k_0; rw [Int32.le_iff_toInt_le] at e0; have e1 := k_1; rw [Int32.lt_iff_toInt_lt, z1] at e1; obtain ⟨n_0, hn_0, s0⟩ := nd_add (x := (a_0)) (y := (1 : Int32)) (by (try rw [z0]); omega) (by (try rw [z0]); omega); rw [z0] at s0; rw [hn_0, Int32.lt_iff_toInt_lt, z1]; omega)) v4_7 x_8 c_9 b_8.2)) (by exact ms_2 ((fun (a_0 : Int32) (a_1 : Int32) (k_0 : ¬ (a_1 ≤ a_0)) (k_1 : ¬ (600 < a_1)) => (show 1 ≤ (600 : Int32).toInt - (a_0).toInt ∧ (600 : Int32).toInt - ((a_0) + (1 : Int32)).toInt + 1 ≤ (600 : Int32).toInt - (a_0).toInt from by have z0 : (1 : Int32).toInt = 1 := (by decide +kernel); have z1 : (600 : Int32).toInt = 600 := (by decide +kernel); have r0 := fb_rng (a_0); have r1 := fb_rng (a_1); have e0 := k_0; rw [Int32.le_iff_toInt_le] at e0; have e1 := k_1; rw [Int32.lt_iff_toInt_lt, z1] at e1; obtain ⟨n_0, hn_0, s0⟩ := nd_add (x := (a_0)) (y := (1 : Int32)) (by (try rw [z0]); omega) (by (try rw [z0]); omega); rw [z0] at s0; rw [hn_0]; (try rw [z1]); omega)) v4_7 x_8 c_9 b_8.2) hm_7) (by rw [← hrec_7, wpR_Md_over_w_21_7_pos (ms_3 ((fun (a_0 : Int32) (a_1 : Int32) (k_0 : ¬ (a_1 ≤ a_0)) (k_1 : ¬ (600 < a_1)) => (show 1 ≤ (600 : Int32).toInt - (a_0).toInt ∧ (600 : Int32).toInt - ((a_0) + (1 : Int32)).toInt + 1 ≤ (600 : Int32).toInt - (a_0).toInt from by have z0 : (1 : Int32).toInt = 1 := (by decide +kernel); have z1 : (600 : Int32).toInt = 600 := (by decide +kernel); have r0 := fb_rng (a_0); have r1 := fb_rng (a_1); have e0 := k_0; rw [Int32.le_iff_toInt_le] at e0; have e1 := k_1; rw [Int32.lt_iff_toInt_lt, z1] at e1; obtain ⟨n_0, hn_0, s0⟩ := nd_add (x := (a_0)) (y := (1 : Int32)) (by (try rw [z0]); omega) (by (try rw [z0]); omega); rw [z0] at s0; rw [hn_0]; (try rw [z1]); omega)) v4_7 x_8 c_9 b_8.2) hm_7)] at hQ; exact hQ) (lv_sub hl [3, 4, 5, 1, 0] rfl)
                  · have hQ := hQ.2 c_14
                    refine lv_aload_n hx hb d_Md_over_59 rfl (lv_at hl 1 rfl) ?_
                    refine tw_getr (D := (dC, dI)) (C := R_Md) (T := F_Md) (N := 64) (ci := 7) (kd := 27) (ct := ct) hx hb htb i_Md hown hK hP hO_0 m0 rfl rfl 54 (by decide) (htb (.fieldLink R_Md 167 "WaterMenModel" "tripPaid" "[I") tw_124) (fun _ h9 => h9) rfl d_Md_over_60 (fun q_15 e_15 m_15 => ?_)
                    have hQ := hQ q_15 e_15
                    refine lv_iload hx hb d_Md_over_63 (lv_at hl 5 rfl) ?_
                    refine tw_aldI (ct := ct) hx hb hK hP hO_0 m_15 rfl ((fun (a_0 : Int32) (a_1 : Int32) (k_0 : ¬ (a_0 < 0)) (k_1 : ¬ (a_1 ≤ a_0)) (k_2 : ¬ (600 < a_1)) => (show vp_in (a_0) 600 from by have z0 : (0 : Int32).toInt = 0 := (by decide +kernel); have z1 : (600 : Int32).toInt = 600 := (by decide +kernel); have r0 := fb_rng (a_0); have r1 := fb_rng (a_1); have e0 := k_0; rw [Int32.lt_iff_toInt_lt, z0] at e0; have e1 := k_1; rw [Int32.le_iff_toInt_le] at e1; have e2 := k_2; rw [Int32.lt_iff_toInt_lt, z1] at e2; rw [vp_in_iff]; omega)) v4_7 x_8 iv0_7 c_9 b_8.2) d_Md_over_65 (fun x_16 e_16 b_16 => ?_)
                    have hQ := hQ x_16 e_16
                    refine lv_iload hx hb d_Md_over_66 (lv_at hl 0 rfl) ?_
                    refine lv_icmp_le (tgt := 84) hx hb d_Md_over_68 (by decide) (fun c_17 => ?_) (fun c_17 => ?_)
                    · have hQ := hQ.1 c_17
                      refine lv_iconst (v := 0) hx hb d_Md_over_84 (by decide +kernel) ?_
                      refine lv_iadd hx hb d_Md_over_85 ?_
                      refine lv_istore_n (lv' := [(3, .int (v3_7 + 0)), (5, .int r_13), (0, .ref q0), (1, .int p_0), (2, .int p_1), (4, .int v4_7)]) hx hb d_Md_over_86 rfl hl (by decide) rfl (fun ls hl => ?_)
                      refine lv_iinc (v := (v4_7 + 1)) (lv' := [(4, .int (v4_7 + 1)), (3, .int (v3_7 + 0)), (5, .int r_13), (0, .ref q0), (1, .int p_0), (2, .int p_1)]) hx hb d_Md_over_87 hl (k := 5) rfl rfl (by decide) rfl (fun ls hl => ?_)
                      refine lv_goto (tgt := 21) hx hb d_Md_over_90 (by decide) ?_
                      exact ih_7 (n_7 - 1) (ms_1 ((fun (a_0 : Int32) (a_1 : Int32) (k_0 : ¬ (a_1 ≤ a_0)) (k_1 : ¬ (600 < a_1)) => (show 1 ≤ (600 : Int32).toInt - (a_0).toInt ∧ (600 : Int32).toInt - ((a_0) + (1 : Int32)).toInt + 1 ≤ (600 : Int32).toInt - (a_0).toInt from by have z0 : (1 : Int32).toInt = 1 := (by decide +kernel); have z1 : (600 : Int32).toInt = 600 := (by decide +kernel); have r0 := fb_rng (a_0); have r1 := fb_rng (a_1); have e0 := k_0; rw [Int32.le_iff_toInt_le] at e0; have e1 := k_1; rw [Int32.lt_iff_toInt_lt, z1] at e1; obtain ⟨n_0, hn_0, s0⟩ := nd_add (x := (a_0)) (y := (1 : Int32)) (by (try rw [z0]); omega) (by (try rw [z0]); omega); rw [z0] at s0; rw [hn_0]; (try rw [z1]); omega)) v4_7 x_8 c_9 b_8.2) hm_7) (v3_7 + 0) (v4_7 + 1) _ (show ¬ ((v4_7 + 1) < 0) from by have e0 := iv0_7; rw [Int32.lt_iff_toInt_lt] at e0; have e1 := iv1_7; rw [Int32.lt_iff_toInt_lt] at e1; have z0 : (0 : Int32).toInt = 0 := (by decide +kernel); have z1 : (1 : Int32).toInt = 1 := (by decide +kernel); have z2 : (600 : Int32).toInt = 600 := (by decide +kernel); have ss := fb_addI (x := v4_7) (y := 1) (by omega) (by omega); rw [Int32.lt_iff_toInt_lt]; omega) (show ¬ (600 < (v4_7 + 1)) from ((fun (a_0 : Int32) (a_1 : Int32) (k_0 : ¬ (a_1 ≤ a_0)) (k_1 : ¬ (600 < a_1)) => (show ¬ (600 < (a_0 + 1)) from by have z0 : (1 : Int32).toInt = 1 := (by decide +kernel); have z1 : (600 : Int32).toInt = 600 := (by decide +kernel); have r0 := fb_rng (a_0); have r1 := fb_rng (a_1); have e0 := k_0; rw [Int32.le_iff_toInt_le] at e0; have e1 := k_1; rw [Int32.lt_iff_toInt_lt, z1] at e1; obtain ⟨n_0, hn_0, s0⟩ := nd_add (x := (a_0)) (y := (1 : Int32)) (by (try rw [z0]); omega) (by (try rw [z0]); omega); rw [z0] at s0; rw [hn_0, Int32.lt_iff_toInt_lt, z1]; omega)) v4_7 x_8 c_9 b_8.2)) (by exact ms_2 ((fun (a_0 : Int32) (a_1 : Int32) (k_0 : ¬ (a_1 ≤ a_0)) (k_1 : ¬ (600 < a_1)) => (show 1 ≤ (600 : Int32).toInt - (a_0).toInt ∧ (600 : Int32).toInt - ((a_0) + (1 : Int32)).toInt + 1 ≤ (600 : Int32).toInt - (a_0).toInt from by have z0 : (1 : Int32).toInt = 1 := (by decide +kernel); have z1 : (600 : Int32).toInt = 600 := (by decide +kernel); have r0 := fb_rng (a_0); have r1 := fb_rng (a_1); have e0 := k_0; rw [Int32.le_iff_toInt_le] at e0; have e1 := k_1; rw [Int32.lt_iff_toInt_lt, z1] at e1; obtain ⟨n_0, hn_0, s0⟩ := nd_add (x := (a_0)) (y := (1 : Int32)) (by (try rw [z0]); omega) (by (try rw [z0]); omega); rw [z0] at s0; rw [hn_0]; (try rw [z1]); omega)) v4_7 x_8 c_9 b_8.2) hm_7) (by rw [← hrec_7, wpR_Md_over_w_21_7_pos (ms_3 ((fun (a_0 : Int32) (a_1 : Int32) (k_0 : ¬ (a_1 ≤ a_0)) (k_1 : ¬ (600 < a_1)) => (show 1 ≤ (600 : Int32).toInt - (a_0).toInt ∧ (600 : Int32).toInt - ((a_0) + (1 : Int32)).toInt + 1 ≤ (600 : Int32).toInt - (a_0).toInt from by have z0 : (1 : Int32).toInt = 1 := (by decide +kernel); have z1 : (600 : Int32).toInt = 600 := (by decide +kernel); have r0 := fb_rng (a_0); have r1 := fb_rng (a_1); have e0 := k_0; rw [Int32.le_iff_toInt_le] at e0; have e1 := k_1; rw [Int32.lt_iff_toInt_lt, z1] at e1; obtain ⟨n_0, hn_0, s0⟩ := nd_add (x := (a_0)) (y := (1 : Int32)) (by (try rw [z0]); omega) (by (try rw [z0]); omega); rw [z0] at s0; rw [hn_0]; (try rw [z1]); omega)) v4_7 x_8 c_9 b_8.2) hm_7)] at hQ; exact hQ) (lv_sub hl [3, 4, 5, 1, 0] rfl)
                    · have hQ := hQ.2 c_17
                      refine lv_aload_n hx hb d_Md_over_71 rfl (lv_at hl 1 rfl) ?_
                      refine tw_getR (D := (dC, dI)) (C := R_Md) (T := F_Md) (N := 64) (ci := 7) (kd := 27) (ct := ct) hx hb htb i_Md hown hK hP m0 rfl rfl 54 e_15 (by decide) (htb (.fieldLink R_Md 167 "WaterMenModel" "tripPaid" "[I") tw_124) (fun _ h9 => h9) rfl d_Md_over_72 ?_
                      refine hb_tv (.ref q_15) rfl ?_
                      refine lv_iload hx hb d_Md_over_75 (lv_at hl 5 rfl) ?_
                      refine tw_aldxI (ct := ct) (x := x_16) hx hb hK hP m_15 rfl ((fun (a_0 : Int32) (a_1 : Int32) (k_0 : ¬ (a_0 < 0)) (k_1 : ¬ (a_1 ≤ a_0)) (k_2 : ¬ (600 < a_1)) => (show vp_in (a_0) 600 from by have z0 : (0 : Int32).toInt = 0 := (by decide +kernel); have z1 : (600 : Int32).toInt = 600 := (by decide +kernel); have r0 := fb_rng (a_0); have r1 := fb_rng (a_1); have e0 := k_0; rw [Int32.lt_iff_toInt_lt, z0] at e0; have e1 := k_1; rw [Int32.le_iff_toInt_le] at e1; have e2 := k_2; rw [Int32.lt_iff_toInt_lt, z1] at e2; rw [vp_in_iff]; omega)) v4_7 x_8 iv0_7 c_9 b_8.2) e_16 d_Md_over_77 ?_
                      refine lv_iload hx hb d_Md_over_78 (lv_at hl 0 rfl) ?_
                      refine lv_isub hx hb d_Md_over_80 ?_
                      refine lv_goto (tgt := 85) hx hb d_Md_over_81 (by decide) ?_
                      refine lv_iadd hx hb d_Md_over_85 ?_
                      refine lv_istore_n (lv' := [(3, .int (v3_7 + (x_16 - r_13))), (5, .int r_13), (0, .ref q0), (1, .int p_0), (2, .int p_1), (4, .int v4_7)]) hx hb d_Md_over_86 rfl hl (by decide) rfl (fun ls hl => ?_)
                      refine lv_iinc (v := (v4_7 + 1)) (lv' := [(4, .int (v4_7 + 1)), (3, .int (v3_7 + (x_16 - r_13))), (5, .int r_13), (0, .ref q0), (1, .int p_0), (2, .int p_1)]) hx hb d_Md_over_87 hl (k := 5) rfl rfl (by decide) rfl (fun ls hl => ?_)
                      refine lv_goto (tgt := 21) hx hb d_Md_over_90 (by decide) ?_
                      exact ih_7 (n_7 - 1) (ms_1 ((fun (a_0 : Int32) (a_1 : Int32) (k_0 : ¬ (a_1 ≤ a_0)) (k_1 : ¬ (600 < a_1)) => (show 1 ≤ (600 : Int32).toInt - (a_0).toInt ∧ (600 : Int32).toInt - ((a_0) + (1 : Int32)).toInt + 1 ≤ (600 : Int32).toInt - (a_0).toInt from by have z0 : (1 : Int32).toInt = 1 := (by decide +kernel); have z1 : (600 : Int32).toInt = 600 := (by decide +kernel); have r0 := fb_rng (a_0); have r1 := fb_rng (a_1); have e0 := k_0; rw [Int32.le_iff_toInt_le] at e0; have e1 := k_1; rw [Int32.lt_iff_toInt_lt, z1] at e1; obtain ⟨n_0, hn_0, s0⟩ := nd_add (x := (a_0)) (y := (1 : Int32)) (by (try rw [z0]); omega) (by (try rw [z0]); omega); rw [z0] at s0; rw [hn_0]; (try rw [z1]); omega)) v4_7 x_8 c_9 b_8.2) hm_7) (v3_7 + (x_16 - r_13)) (v4_7 + 1) _ (show ¬ ((v4_7 + 1) < 0) from by have e0 := iv0_7; rw [Int32.lt_iff_toInt_lt] at e0; have e1 := iv1_7; rw [Int32.lt_iff_toInt_lt] at e1; have z0 : (0 : Int32).toInt = 0 := (by decide +kernel); have z1 : (1 : Int32).toInt = 1 := (by decide +kernel); have z2 : (600 : Int32).toInt = 600 := (by decide +kernel); have ss := fb_addI (x := v4_7) (y := 1) (by omega) (by omega); rw [Int32.lt_iff_toInt_lt]; omega) (show ¬ (600 < (v4_7 + 1)) from ((fun (a_0 : Int32) (a_1 : Int32) (k_0 : ¬ (a_1 ≤ a_0)) (k_1 : ¬ (600 < a_1)) => (show ¬ (600 < (a_0 + 1)) from by have z0 : (1 : Int32).toInt = 1 := (by decide +kernel); have z1 : (600 : Int32).toInt = 600 := (by decide +kernel); have r0 := fb_rng (a_0); have r1 := fb_rng (a_1); have e0 := k_0; rw [Int32.le_iff_toInt_le] at e0; have e1 := k_1; rw [Int32.lt_iff_toInt_lt, z1] at e1; obtain ⟨n_0, hn_0, s0⟩ := nd_add (x := (a_0)) (y := (1 : Int32)) (by (try rw [z0]); omega) (by (try rw [z0]); omega); rw [z0] at s0; rw [hn_0, Int32.lt_iff_toInt_lt, z1]; omega)) v4_7 x_8 c_9 b_8.2)) (by exact ms_2 ((fun (a_0 : Int32) (a_1 : Int32) (k_0 : ¬ (a_1 ≤ a_0)) (k_1 : ¬ (600 < a_1)) => (show 1 ≤ (600 : Int32).toInt - (a_0).toInt ∧ (600 : Int32).toInt - ((a_0) + (1 : Int32)).toInt + 1 ≤ (600 : Int32).toInt - (a_0).toInt from by have z0 : (1 : Int32).toInt = 1 := (by decide +kernel); have z1 : (600 : Int32).toInt = 600 := (by decide +kernel); have r0 := fb_rng (a_0); have r1 := fb_rng (a_1); have e0 := k_0; rw [Int32.le_iff_toInt_le] at e0; have e1 := k_1; rw [Int32.lt_iff_toInt_lt, z1] at e1; obtain ⟨n_0, hn_0, s0⟩ := nd_add (x := (a_0)) (y := (1 : Int32)) (by (try rw [z0]); omega) (by (try rw [z0]); omega); rw [z0] at s0; rw [hn_0]; (try rw [z1]); omega)) v4_7 x_8 c_9 b_8.2) hm_7) (by rw [← hrec_7, wpR_Md_over_w_21_7_pos (ms_3 ((fun (a_0 : Int32) (a_1 : Int32) (k_0 : ¬ (a_1 ≤ a_0)) (k_1 : ¬ (600 < a_1)) => (show 1 ≤ (600 : Int32).toInt - (a_0).toInt ∧ (600 : Int32).toInt - ((a_0) + (1 : Int32)).toInt + 1 ≤ (600 : Int32).toInt - (a_0).toInt from by have z0 : (1 : Int32).toInt = 1 := (by decide +kernel); have z1 : (600 : Int32).toInt = 600 := (by decide +kernel); have r0 := fb_rng (a_0); have r1 := fb_rng (a_1); have e0 := k_0; rw [Int32.le_iff_toInt_le] at e0; have e1 := k_1; rw [Int32.lt_iff_toInt_lt, z1] at e1; obtain ⟨n_0, hn_0, s0⟩ := nd_add (x := (a_0)) (y := (1 : Int32)) (by (try rw [z0]); omega) (by (try rw [z0]); omega); rw [z0] at s0; rw [hn_0]; (try rw [z1]); omega)) v4_7 x_8 c_9 b_8.2) hm_7)] at hQ; exact hQ) (lv_sub hl [3, 4, 5, 1, 0] rfl)
                · have hQ := hQ.2 c_12
                  refine lv_goto (tgt := 87) hx hb d_Md_over_41 (by decide) ?_
                  refine lv_iinc (v := (v4_7 + 1)) (lv' := [(4, .int (v4_7 + 1)), (0, .ref q0), (1, .int p_0), (2, .int p_1), (3, .int v3_7)]) hx hb d_Md_over_87 hl (k := 4) rfl rfl (by decide) rfl (fun ls hl => ?_)
                  refine lv_goto (tgt := 21) hx hb d_Md_over_90 (by decide) ?_
                  exact ih_7 (n_7 - 1) (ms_1 ((fun (a_0 : Int32) (a_1 : Int32) (k_0 : ¬ (a_1 ≤ a_0)) (k_1 : ¬ (600 < a_1)) => (show 1 ≤ (600 : Int32).toInt - (a_0).toInt ∧ (600 : Int32).toInt - ((a_0) + (1 : Int32)).toInt + 1 ≤ (600 : Int32).toInt - (a_0).toInt from by have z0 : (1 : Int32).toInt = 1 := (by decide +kernel); have z1 : (600 : Int32).toInt = 600 := (by decide +kernel); have r0 := fb_rng (a_0); have r1 := fb_rng (a_1); have e0 := k_0; rw [Int32.le_iff_toInt_le] at e0; have e1 := k_1; rw [Int32.lt_iff_toInt_lt, z1] at e1; obtain ⟨n_0, hn_0, s0⟩ := nd_add (x := (a_0)) (y := (1 : Int32)) (by (try rw [z0]); omega) (by (try rw [z0]); omega); rw [z0] at s0; rw [hn_0]; (try rw [z1]); omega)) v4_7 x_8 c_9 b_8.2) hm_7) v3_7 (v4_7 + 1) _ (show ¬ ((v4_7 + 1) < 0) from by have e0 := iv0_7; rw [Int32.lt_iff_toInt_lt] at e0; have e1 := iv1_7; rw [Int32.lt_iff_toInt_lt] at e1; have z0 : (0 : Int32).toInt = 0 := (by decide +kernel); have z1 : (1 : Int32).toInt = 1 := (by decide +kernel); have z2 : (600 : Int32).toInt = 600 := (by decide +kernel); have ss := fb_addI (x := v4_7) (y := 1) (by omega) (by omega); rw [Int32.lt_iff_toInt_lt]; omega) (show ¬ (600 < (v4_7 + 1)) from ((fun (a_0 : Int32) (a_1 : Int32) (k_0 : ¬ (a_1 ≤ a_0)) (k_1 : ¬ (600 < a_1)) => (show ¬ (600 < (a_0 + 1)) from by have z0 : (1 : Int32).toInt = 1 := (by decide +kernel); have z1 : (600 : Int32).toInt = 600 := (by decide +kernel); have r0 := fb_rng (a_0); have r1 := fb_rng (a_1); have e0 := k_0; rw [Int32.le_iff_toInt_le] at e0; have e1 := k_1; rw [Int32.lt_iff_toInt_lt, z1] at e1; obtain ⟨n_0, hn_0, s0⟩ := nd_add (x := (a_0)) (y := (1 : Int32)) (by (try rw [z0]); omega) (by (try rw [z0]); omega); rw [z0] at s0; rw [hn_0, Int32.lt_iff_toInt_lt, z1]; omega)) v4_7 x_8 c_9 b_8.2)) (by exact ms_2 ((fun (a_0 : Int32) (a_1 : Int32) (k_0 : ¬ (a_1 ≤ a_0)) (k_1 : ¬ (600 < a_1)) => (show 1 ≤ (600 : Int32).toInt - (a_0).toInt ∧ (600 : Int32).toInt - ((a_0) + (1 : Int32)).toInt + 1 ≤ (600 : Int32).toInt - (a_0).toInt from by have z0 : (1 : Int32).toInt = 1 := (by decide +kernel); have z1 : (600 : Int32).toInt = 600 := (by decide +kernel); have r0 := fb_rng (a_0); have r1 := fb_rng (a_1); have e0 := k_0; rw [Int32.le_iff_toInt_le] at e0; have e1 := k_1; rw [Int32.lt_iff_toInt_lt, z1] at e1; obtain ⟨n_0, hn_0, s0⟩ := nd_add (x := (a_0)) (y := (1 : Int32)) (by (try rw [z0]); omega) (by (try rw [z0]); omega); rw [z0] at s0; rw [hn_0]; (try rw [z1]); omega)) v4_7 x_8 c_9 b_8.2) hm_7) (by rw [← hrec_7, wpR_Md_over_w_21_7_pos (ms_3 ((fun (a_0 : Int32) (a_1 : Int32) (k_0 : ¬ (a_1 ≤ a_0)) (k_1 : ¬ (600 < a_1)) => (show 1 ≤ (600 : Int32).toInt - (a_0).toInt ∧ (600 : Int32).toInt - ((a_0) + (1 : Int32)).toInt + 1 ≤ (600 : Int32).toInt - (a_0).toInt from by have z0 : (1 : Int32).toInt = 1 := (by decide +kernel); have z1 : (600 : Int32).toInt = 600 := (by decide +kernel); have r0 := fb_rng (a_0); have r1 := fb_rng (a_1); have e0 := k_0; rw [Int32.le_iff_toInt_le] at e0; have e1 := k_1; rw [Int32.lt_iff_toInt_lt, z1] at e1; obtain ⟨n_0, hn_0, s0⟩ := nd_add (x := (a_0)) (y := (1 : Int32)) (by (try rw [z0]); omega) (by (try rw [z0]); omega); rw [z0] at s0; rw [hn_0]; (try rw [z1]); omega)) v4_7 x_8 c_9 b_8.2) hm_7)] at hQ; exact hQ) (lv_sub hl [1, 2, 3, 4, 0] rfl)
          exact cut_7 ((600 : Int32).toInt - (0 : Int32).toInt).toNat (0 : Int32) (0 : Int32) _ (by decide +kernel) (by decide +kernel) (by exact ms_e _ _) hQ (lv_sub hl [2, 3, 4, 1, 0] rfl)
