def W_Md_row_w : List (Nat × Nat) := [(27, 47), (27, 56), (27, 57), (39, 1000), (40, 1000), (41, 1000), (42, 1000), (43, 1000), (44, 1000), (46, 1000), (47, 1000), (48, 1000), (63, 1000), (64, 1000), (65, 1000), (66, 1000), (67, 1000), (68, 1000), (69, 1000), (70, 1000), (71, 1000)]
def wp_Md_row_w (L : List Nat) (f : TF) (q0 : Nat) (p_0 : Int32) (p_1 : Int32) (p_2 : Int32) (p_3 : Int32) (Q : Int32 → List Nat → TF → Prop) : Prop := wp_Md_isAsked_w L f q0 p_0 p_1 p_2 (fun (r_1 : Int32) => ((r_1 = 0 → Q (-1) L f) ∧ (r_1 = 1 → ((p_3 < 0 → Q (-1) L f) ∧ (¬ (p_3 < 0) → ((1000000 < p_3 → Q (-1) L f) ∧ (¬ (1000000 < p_3) → wp_Md_hinders_w L f q0 p_0 p_1 p_2 (fun (r_11 : Int32) => ((r_11 ≤ 0 → ∀ x_13 : Int32, ti f q0 47 = x_13 → ((x_13 = 600 → Q (-3) L f) ∧ (¬ (x_13 = 600) → ∀ q_15 : Nat, tr f q0 48 = some q_15 → ∀ f_1 : TF, f_1 = sI f q_15 (x_13 : Int32).toNatClampNeg p_0 → Ok L f_1 → ∀ q_17 : Nat, tr f_1 q0 49 = some q_17 → ∀ f_2 : TF, f_2 = sI f_1 q_17 (x_13 : Int32).toNatClampNeg p_1 → Ok L f_2 → ∀ q_19 : Nat, tr f_2 q0 50 = some q_19 → ∀ q_20 : Nat, tr f_2 q0 23 = some q_20 → ∀ x_21 : Int32, ti f_2 q_20 (p_0 : Int32).toNatClampNeg = x_21 → ∀ f_3 : TF, f_3 = sI f_2 q_19 (x_13 : Int32).toNatClampNeg x_21 → Ok L f_3 → ∀ q_23 : Nat, tr f_3 q0 51 = some q_23 → ∀ f_4 : TF, f_4 = sI f_3 q_23 (x_13 : Int32).toNatClampNeg p_2 → Ok L f_4 → ∀ q_25 : Nat, tr f_4 q0 52 = some q_25 → ∀ x_26 : Int32, ti f_4 q0 1 = x_26 → ∀ f_5 : TF, f_5 = sI f_4 q_25 (x_13 : Int32).toNatClampNeg x_26 → Ok L f_5 → ∀ q_28 : Nat, tr f_5 q0 53 = some q_28 → wp_Md_minutesOf_w L f_5 q0 p_0 p_2 (fun (r_29 : Int32) => ∀ f_6 : TF, f_6 = sI f_5 q_28 (x_13 : Int32).toNatClampNeg (x_26 + r_29) → Ok L f_6 → ∀ q_31 : Nat, tr f_6 q0 54 = some q_31 → ∀ f_7 : TF, f_7 = sI f_6 q_31 (x_13 : Int32).toNatClampNeg p_3 → Ok L f_7 → ∀ q_33 : Nat, tr f_7 q0 55 = some q_33 → ∀ f_8 : TF, f_8 = sI f_7 q_33 (x_13 : Int32).toNatClampNeg (vp_nar .boolean 0) → Ok L f_8 → ∀ f_9 : TF, f_9 = sI f_8 q0 47 (x_13 + 1) → Ok L f_9 → wp_Md_leaves_w L f_9 q0 p_1 (fun (L_10 : List Nat) (f_10 : TF) => Ok L_10 f_10 → Ext W_Md_leaves_w L f_9 L_10 f_10 → ∀ q_37 : Nat, tr f_10 q0 25 = some q_37 → ∀ f_11 : TF, f_11 = sI f_10 q_37 (p_0 : Int32).toNatClampNeg x_13 → Ok L_10 f_11 → ∀ f_12 : TF, f_12 = sI f_11 q_20 (p_0 : Int32).toNatClampNeg p_2 → Ok L_10 f_12 → ∀ q_40 : Nat, tr f_12 q0 24 = some q_40 → ∀ f_13 : TF, f_13 = sI f_12 q_40 (p_0 : Int32).toNatClampNeg (x_26 + r_29) → Ok L_10 f_13 → ∀ q_43 : Nat, tr f_13 q0 16 = some q_43 → ∀ f_14 : TF, f_14 = sI f_13 q_43 (p_1 : Int32).toNatClampNeg x_13 → Ok L_10 f_14 → ∀ q_45 : Nat, tr f_14 q0 17 = some q_45 → ∀ x_46 : Int32, ti f_14 q_45 (p_1 : Int32).toNatClampNeg = x_46 → ∀ f_15 : TF, f_15 = sI f_14 q_45 (p_1 : Int32).toNatClampNeg (x_46 + 1) → Ok L_10 f_15 → ∀ x_48 : Int64, tl f_15 q0 56 = x_48 → ∀ y_49 : Int32, y_49 = p_3 / 20 → ∀ y_50 : Int64, y_50 = (x_48 : Int64) + ((y_49 : Int32).toInt64 : Int64) → ∀ f_16 : TF, f_16 = sL f_15 q0 56 y_50 → Ok L_10 f_16 → ∀ q_52 : Nat, tr f_16 q0 59 = some q_52 → wp_Md_today_w L_10 f_16 q0 (fun (r_53 : Int32) => (∀ x_58 : Int64, tl f_16 q_52 (r_53 : Int32).toNatClampNeg = x_58 → ∀ y_59 : Int32, y_59 = p_3 / 20 → ∀ y_60 : Int64, y_60 = (x_58 : Int64) + ((y_59 : Int32).toInt64 : Int64) → ∀ f_17 : TF, f_17 = sL f_16 q_52 (r_53 : Int32).toNatClampNeg y_60 → Ok L_10 f_17 → wp_Md_today_w L_10 f_17 q0 (fun (r_62 : Int32) => (∀ y_67 : Int32, y_67 = r_62 - r_62 / 7 * 7 → ((y_67 = 0 → ∀ x_73 : Int64, tl f_17 q0 57 = x_73 → ∀ y_74 : Int32, y_74 = p_3 / 20 → ∀ y_75 : Int64, y_75 = (x_73 : Int64) + (((p_3 - y_74) : Int32).toInt64 : Int64) → ∀ f_18 : TF, f_18 = sL f_17 q0 57 y_75 → Ok L_10 f_18 → ∀ q_77 : Nat, tr f_18 q0 18 = some q_77 → ∀ f_19 : TF, f_19 = sI f_18 q_77 (p_1 : Int32).toNatClampNeg (vp_nar .boolean 1) → Ok L_10 f_19 → Q x_13 L_10 f_19) ∧ (¬ (y_67 = 0) → ∀ q_69 : Nat, tr f_17 q0 15 = some q_69 → ∀ x_70 : Int32, ti f_17 q_69 (p_1 : Int32).toNatClampNeg = x_70 → ∀ y_71 : Int32, y_71 = p_3 / 20 → ∀ f_18 : TF, f_18 = sI f_17 q_69 (p_1 : Int32).toNatClampNeg (x_70 + (p_3 - y_71)) → Ok L_10 f_18 → Q x_13 L_10 f_18))))))))))) ∧ (¬ (r_11 ≤ 0) → Q ((-10) - r_11) L f))))))))))
set_option maxHeartbeats 4000000 in
set_option maxRecDepth 100000 in
theorem c_Md_row_w (l : Launch) (dC : Nat → ClassId) (dI : Nat → Nat → Nat) (ct : Nat → ClassId) (L : List Nat) (f : TF) (hO_0 : Ok L f) (q0 : Nat) (m0 : q0 ∈ L ∧ tk f q0 = 27) (hT : TInv f q0) (sz : Nat) (p_0 : Int32) (p_1 : Int32) (p_2 : Int32) (p_3 : Int32)   (Q : Int32 → List Nat → TF → Prop) (hQ : wp_Md_row_w L f q0 p_0 p_1 p_2 p_3 Q) : Met l y_Md_row (.code y_Md_row b_Md_row 7 (some .int) :: TB) ({ frames := 4, cells := 0, slots := 0, locals := 103 }) (va_Pc [.ref q0, .int p_0, .int p_1, .int p_2, .int p_3] (PC dC dI (TW ct L f) (TT ct) sz)) (va_Qi (fun r (u : TSt) => Ok u.1 u.2 ∧ Ext W_Md_row_w L f u.1 u.2 ∧ TInv u.2 q0 ∧ (True) ∧ Q r u.1 u.2) (fun (u : TSt) t => va_P (dC, dI) vwCl (TW ct u.1 u.2) t.heap ∧ va_K (dC, dI) vwCl (TT ct) t ∧ va_D (va_A (TW ct L f) sz) (TW ct u.1 u.2)) (va_A (TW ct L f) sz)) 0 0 (va_A (TW ct L f) sz) := by
  refine Met.ofW (cc := b_Md_row) (maxL := 7) (ret := (some .int)) (by decide) rfl ?_
  intro p e s m args below meth c s₁ B hml hv
  obtain ⟨rfl, hsz, hP, hK, hD0, hN⟩ := hv
  have hx := B.exec
  have hb := B.bytes
  have hr := B.returns
  have hts := atoms_spec (ws := (.code y_Md_row b_Md_row 7 (some .int) :: TB)) B.pre
  have htb := fun w (h : w ∈ TB) => hts w (List.mem_cons_of_mem _ h)
  have hown : s.vm.findClass R_Md = some m.cls := findClass_of_methodNamed B.named
  have hlocks := B.notSynchronized
  have hl := lv_entry ([.ref q0, .int p_0, .int p_1, .int p_2, .int p_3]) (n := 7) (Nat.le_of_ble_eq_true rfl)
  rw [lg_entry_eq]
  generalize (lg_sl ([.ref q0, .int p_0, .int p_1, .int p_2, .int p_3]) ++ List.replicate (7 - (lg_sl ([.ref q0, .int p_0, .int p_1, .int p_2, .int p_3])).length) Slot.unset).toArray = ls at hl ⊢
  have hl : lv_has ls 7 [(0, .ref q0), (1, .int p_0), (2, .int p_1), (3, .int p_2), (4, .int p_3)] := hl
  subst hsz
  have hD := hD0.self (sz := s.heap.size)
  obtain ⟨A, hAe⟩ : ∃ A, va_A (TW ct L f) s.heap.size = A := ⟨_, rfl⟩
  rw [hAe] at hD
  have hA : ∀ q : Nat, s.heap.size ≤ q → A q := fun q h => by rw [← hAe]; exact Or.inr h
  have hS : va_S A s.heap s.heap [] := va_S.rf
  have hA_0 : Ext [] L f L f := Ext.rf
  suffices hGo : ∀ (H : Heap) (locs : List Loc), va_P (dC, dI) vwCl (TW ct L f) H → va_S A s.heap H locs → W p l e (headSpec (.code y_Md_row b_Md_row 7 (some .int) :: TB) ({ frames := 4, cells := 0, slots := 0, locals := 103 })).room s m [.ref q0, .int p_0, .int p_1, .int p_2, .int p_3].toArray below meth c H locs 0 0 (MQ below (va_Qi (fun r (u : TSt) => Ok u.1 u.2 ∧ Ext W_Md_row_w L f u.1 u.2 ∧ TInv u.2 q0 ∧ (True) ∧ Q r u.1 u.2) (fun (u : TSt) t => va_P (dC, dI) vwCl (TW ct u.1 u.2) t.heap ∧ va_K (dC, dI) vwCl (TT ct) t ∧ va_D (va_A (TW ct L f) s.heap.size) (TW ct u.1 u.2)) (va_A (TW ct L f) s.heap.size)) [.ref q0, .int p_0, .int p_1, .int p_2, .int p_3].toArray s 0 0 (va_A (TW ct L f) s.heap.size)) (F0 m 0 ls []) from hGo _ _ hP hS
  clear hP hS
  intro H locs hP hS
  unfold wp_Md_row_w at hQ
  refine lv_aload_n hx hb d_Md_row_0 rfl (lv_at hl 0 rfl) ?_
  refine lv_iload_n hx hb d_Md_row_1 rfl (lv_at hl 1 rfl) ?_
  refine lv_iload_n hx hb d_Md_row_2 rfl (lv_at hl 2 rfl) ?_
  refine lv_iload_n hx hb d_Md_row_3 rfl (lv_at hl 3 rfl) ?_
  refine vp_callSi (va_Run.run (va_runV (As := [.int p_0, .int p_1, .int p_2]) (rest := []) ⟨hx, hb, hml, hown, htb⟩ (c_Md_isAsked_w l dC dI ct L f hO_0 q0 m0 p_0 p_1 p_2 _ hQ) (cwV 3 htb (gd_V tw_576 tw_577 tw_578 tw_89 tw_575) rfl rfl rfl (by decide +kernel) ⟨Nat.le_of_ble_eq_true rfl, Nat.le_of_ble_eq_true rfl⟩) ⟨pr_blind, tw_recv hK hP m0 rfl rfl, pr_pre hP hK hN⟩ rfl rfl hl.1 rfl (lv_room (Nat.le_of_ble_eq_true rfl)) d_Md_row_4 ⟨Nat.le_of_ble_eq_true rfl, Nat.le_of_ble_eq_true rfl⟩)) (fun r_1 er_1 => ?_)
  obtain ⟨er_1, hQ⟩ := er_1
  rcases er_1 with ⟨rfl, -⟩ | ⟨rfl, po_2, po_3, po_4, po_5, po_6, po_7, -⟩
  · have hQ := hQ.1 rfl
    refine lv_if_eq (tgt := 22) hx hb d_Md_row_7 (by decide) (fun _ => ?_) (fun h => absurd (by decide +kernel) h)
    refine lv_iconst (v := (-1)) hx hb d_Md_row_22 (by decide +kernel) ?_
    refine W.widen (k := 0) (n := 0) (Nat.le_of_ble_eq_true rfl) (Nat.le_of_ble_eq_true rfl) ?_
    exact W.iret (v := (-1)) hx hb hr (fun t ht hW => ⟨⟨(-1), (L, f), rfl, ⟨hO_0, hA_0.mono (by decide +kernel), hT, trivial, hQ⟩, by rw [ht]; exact hP, va_K.moved hW.alike hK, by rw [hAe]; exact hD⟩, by rw [hAe]; exact hS.F ht⟩) (by rw [hAe]; exact hS.2.2) d_Md_row_23
  · have hQ := hQ.2 rfl
    refine lv_if_eq (tgt := 22) hx hb d_Md_row_7 (by decide) (fun h => absurd h (by decide +kernel)) (fun _ => ?_)
    refine lv_iload hx hb d_Md_row_10 (lv_at hl 4 rfl) ?_
    refine lv_iconst (v := 0) hx hb d_Md_row_12 (by decide +kernel) ?_
    refine lv_ldcw (v := 1000000) hx hb hown (htb (.constant R_Md 288 1000000) tw_448) d_Md_row_13 ?_
    refine vp_callSi (va_Run.run (va_runS (As := [.int p_3, .int 0, .int 1000000]) (rest := []) ⟨hx, hb, hml, hown, htb⟩ (c_Md_in l p_3 0 1000000) (cwS 3 htb (gd_S tw_90 tw_91 tw_89 tw_88) rfl rfl rfl (by decide +kernel) ⟨Nat.le_of_ble_eq_true rfl, Nat.le_of_ble_eq_true rfl⟩) ⟨fun _ _ _ _ h => h, fun U _ _ => ⟨rfl, trivial⟩⟩ rfl rfl hl.1 rfl (lv_room (Nat.le_of_ble_eq_true rfl)) d_Md_row_16 ⟨Nat.le_of_ble_eq_true rfl, Nat.le_of_ble_eq_true rfl⟩)) (fun r er => ?_)
    subst er
    by_cases c_9 : p_3 < 0
    · have hQ := hQ.1 c_9
      refine hb_ti 0 (by unfold f_Md_in; rw [if_pos c_9]; first | done | rfl) ?_
      refine lv_if_ne (tgt := 24) hx hb d_Md_row_19 (by decide) (fun h => absurd (by decide +kernel) h) (fun _ => ?_)
      refine lv_iconst (v := (-1)) hx hb d_Md_row_22 (by decide +kernel) ?_
      refine W.widen (k := 0) (n := 0) (Nat.le_of_ble_eq_true rfl) (Nat.le_of_ble_eq_true rfl) ?_
      exact W.iret (v := (-1)) hx hb hr (fun t ht hW => ⟨⟨(-1), (L, f), rfl, ⟨hO_0, hA_0.mono (by decide +kernel), hT, trivial, hQ⟩, by rw [ht]; exact hP, va_K.moved hW.alike hK, by rw [hAe]; exact hD⟩, by rw [hAe]; exact hS.F ht⟩) (by rw [hAe]; exact hS.2.2) d_Md_row_23
    · have hQ := hQ.2 c_9
      by_cases c_10 : 1000000 < p_3
      · have hQ := hQ.1 c_10
        refine hb_ti 0 (by unfold f_Md_in; rw [if_neg c_9, if_pos c_10]; first | done | rfl) ?_
        refine lv_if_ne (tgt := 24) hx hb d_Md_row_19 (by decide) (fun h => absurd (by decide +kernel) h) (fun _ => ?_)
        refine lv_iconst (v := (-1)) hx hb d_Md_row_22 (by decide +kernel) ?_
        refine W.widen (k := 0) (n := 0) (Nat.le_of_ble_eq_true rfl) (Nat.le_of_ble_eq_true rfl) ?_
        exact W.iret (v := (-1)) hx hb hr (fun t ht hW => ⟨⟨(-1), (L, f), rfl, ⟨hO_0, hA_0.mono (by decide +kernel), hT, trivial, hQ⟩, by rw [ht]; exact hP, va_K.moved hW.alike hK, by rw [hAe]; exact hD⟩, by rw [hAe]; exact hS.F ht⟩) (by rw [hAe]; exact hS.2.2) d_Md_row_23
      · have hQ := hQ.2 c_10
        refine hb_ti 1 (by unfold f_Md_in; rw [if_neg c_9, if_neg c_10]; first | done | rfl) ?_
        refine lv_if_ne (tgt := 24) hx hb d_Md_row_19 (by decide) (fun _ => ?_) (fun h => absurd h (by decide +kernel))
        refine lv_aload_n hx hb d_Md_row_24 rfl (lv_at hl 0 rfl) ?_
        refine lv_iload_n hx hb d_Md_row_25 rfl (lv_at hl 1 rfl) ?_
        refine lv_iload_n hx hb d_Md_row_26 rfl (lv_at hl 2 rfl) ?_
        refine lv_iload_n hx hb d_Md_row_27 rfl (lv_at hl 3 rfl) ?_
        refine vp_callSi (va_Run.run (va_runV (As := [.int p_0, .int p_1, .int p_2]) (rest := []) ⟨hx, hb, hml, hown, htb⟩ (c_Md_hinders_w l dC dI ct L f hO_0 q0 m0 p_0 p_1 p_2 po_2 po_3 po_4 po_5 po_6 po_7 _ hQ) (cwV 3 htb (gd_V tw_588 tw_589 tw_590 tw_89 tw_587) rfl rfl rfl (by decide +kernel) ⟨Nat.le_of_ble_eq_true rfl, Nat.le_of_ble_eq_true rfl⟩) ⟨pr_blind, tw_recv hK hP m0 rfl rfl, pr_pre hP hK hN⟩ rfl rfl hl.1 rfl (lv_room (Nat.le_of_ble_eq_true rfl)) d_Md_row_28 ⟨Nat.le_of_ble_eq_true rfl, Nat.le_of_ble_eq_true rfl⟩)) (fun r_11 er_11 => ?_)
        obtain ⟨er_11, hQ⟩ := er_11
        clear er_11
        refine lv_istore (lv' := [(5, .int r_11), (0, .ref q0), (1, .int p_0), (2, .int p_1), (3, .int p_2), (4, .int p_3)]) hx hb d_Md_row_31 hl (by decide) rfl (fun ls hl => ?_)
        refine lv_iload hx hb d_Md_row_33 (lv_at hl 0 rfl) ?_
        refine lv_if_le (tgt := 44) hx hb d_Md_row_35 (by decide) (fun c_12 => ?_) (fun c_12 => ?_)
        · have hQ := hQ.1 c_12
          refine lv_aload_n hx hb d_Md_row_44 rfl (lv_at hl 1 rfl) ?_
          refine tw_geti (D := (dC, dI)) (C := R_Md) (T := F_Md) (N := 64) (ci := 7) (kd := 27) (ct := ct) hx hb htb i_Md hown hK hP hO_0 m0 rfl rfl 47 (by decide) (htb (.fieldLink R_Md 313 "WaterMenModel" "trips" "I") tw_123) (fun _ h9 => h9) rfl d_Md_row_45 (fun x_13 e_13 b_13 => ?_)
          have hQ := hQ x_13 e_13
          refine lv_sipush (v := 600) hx hb d_Md_row_48 (by decide +kernel) ?_
          refine lv_icmp_ne (tgt := 57) hx hb d_Md_row_51 (by decide) (fun c_14 => ?_) (fun c_14 => ?_)
          · have hQ := hQ.2 c_14
            refine lv_aload_n hx hb d_Md_row_57 rfl (lv_at hl 1 rfl) ?_
            refine tw_getI (x := x_13) (D := (dC, dI)) (C := R_Md) (T := F_Md) (N := 64) (ci := 7) (kd := 27) (ct := ct) hx hb htb i_Md hown hK hP m0 rfl rfl 47 e_13 (by decide) (htb (.fieldLink R_Md 313 "WaterMenModel" "trips" "I") tw_123) (fun _ h9 => h9) rfl d_Md_row_58 ?_
            refine lv_istore (lv' := [(6, .int x_13), (5, .int r_11), (0, .ref q0), (1, .int p_0), (2, .int p_1), (3, .int p_2), (4, .int p_3)]) hx hb d_Md_row_61 hl (by decide) rfl (fun ls hl => ?_)
            refine lv_aload_n hx hb d_Md_row_63 rfl (lv_at hl 2 rfl) ?_
            refine tw_getr (D := (dC, dI)) (C := R_Md) (T := F_Md) (N := 64) (ci := 7) (kd := 27) (ct := ct) hx hb htb i_Md hown hK hP hO_0 m0 rfl rfl 48 (by decide) (htb (.fieldLink R_Md 149 "WaterMenModel" "tripBoat" "[I") tw_625) (fun _ h9 => h9) rfl d_Md_row_64 (fun q_15 e_15 m_15 => ?_)
            have hQ := hQ q_15 e_15
            refine lv_iload hx hb d_Md_row_67 (lv_at hl 0 rfl) ?_
            refine lv_iload_n hx hb d_Md_row_69 rfl (lv_at hl 3 rfl) ?_
            refine tw_astI (ct := ct) (x := p_0) hx hb hK hP hD hS hO_0 m_15 rfl ((fun (a_0 : Int32) (k_0 : ¬ (a_0 < 0)) (k_1 : ¬ (600 < a_0)) (k_2 : ¬ (a_0 = 600)) => (show vp_in (a_0) 600 from by have z0 : (0 : Int32).toInt = 0 := (by decide +kernel); have z1 : (600 : Int32).toInt = 600 := (by decide +kernel); have r0 := fb_rng (a_0); have e0 := k_0; rw [Int32.lt_iff_toInt_lt, z0] at e0; have e1 := k_1; rw [Int32.lt_iff_toInt_lt, z1] at e1; have e2 := k_2; rw [← Int32.toInt_inj, z1] at e2; rw [vp_in_iff]; omega)) x_13 b_13.1 b_13.2 c_14) ⟨po_2, po_3⟩ d_Md_row_70 (fun f_1 H locs hP hD hS hO_1 hE_1 w_16 ow_16 hF_1 => ?_)
            have hA_1 := hA_0.trans hE_1
            have hQ := hQ f_1 hF_1
            have hQ := hQ hO_1
            refine lv_aload_n hx hb d_Md_row_71 rfl (lv_at hl 2 rfl) ?_
            refine tw_getr (D := (dC, dI)) (C := R_Md) (T := F_Md) (N := 64) (ci := 7) (kd := 27) (ct := ct) hx hb htb i_Md hown hK hP hO_1 (hA_1.m m0) rfl rfl 49 (by decide) (htb (.fieldLink R_Md 152 "WaterMenModel" "tripMan" "[I") tw_230) (fun _ h9 => h9) rfl d_Md_row_72 (fun q_17 e_17 m_17 => ?_)
            have hQ := hQ q_17 e_17
            refine lv_iload hx hb d_Md_row_75 (lv_at hl 0 rfl) ?_
            refine lv_iload_n hx hb d_Md_row_77 rfl (lv_at hl 4 rfl) ?_
            refine tw_astI (ct := ct) (x := p_1) hx hb hK hP hD hS hO_1 m_17 rfl ((fun (a_0 : Int32) (k_0 : ¬ (a_0 < 0)) (k_1 : ¬ (600 < a_0)) (k_2 : ¬ (a_0 = 600)) => (show vp_in (a_0) 600 from by have z0 : (0 : Int32).toInt = 0 := (by decide +kernel); have z1 : (600 : Int32).toInt = 600 := (by decide +kernel); have r0 := fb_rng (a_0); have e0 := k_0; rw [Int32.lt_iff_toInt_lt, z0] at e0; have e1 := k_1; rw [Int32.lt_iff_toInt_lt, z1] at e1; have e2 := k_2; rw [← Int32.toInt_inj, z1] at e2; rw [vp_in_iff]; omega)) x_13 b_13.1 b_13.2 c_14) ⟨po_4, po_5⟩ d_Md_row_78 (fun f_2 H locs hP hD hS hO_2 hE_2 w_18 ow_18 hF_2 => ?_)
            have hA_2 := hA_1.trans hE_2
            have hQ := hQ f_2 hF_2
            have hQ := hQ hO_2
            refine lv_aload_n hx hb d_Md_row_79 rfl (lv_at hl 2 rfl) ?_
            refine tw_getr (D := (dC, dI)) (C := R_Md) (T := F_Md) (N := 64) (ci := 7) (kd := 27) (ct := ct) hx hb htb i_Md hown hK hP hO_2 (hA_2.m m0) rfl rfl 50 (by decide) (htb (.fieldLink R_Md 155 "WaterMenModel" "tripFrom" "[I") tw_626) (fun _ h9 => h9) rfl d_Md_row_80 (fun q_19 e_19 m_19 => ?_)
            have hQ := hQ q_19 e_19
            refine lv_iload hx hb d_Md_row_83 (lv_at hl 0 rfl) ?_
            refine lv_aload_n hx hb d_Md_row_85 rfl (lv_at hl 2 rfl) ?_
            refine tw_getr (D := (dC, dI)) (C := R_Md) (T := F_Md) (N := 64) (ci := 7) (kd := 27) (ct := ct) hx hb htb i_Md hown hK hP hO_2 (hA_2.m m0) rfl rfl 23 (by decide) (htb (.fieldLink R_Md 97 "WaterMenModel" "boatAt" "[I") tw_511) (fun _ h9 => h9) rfl d_Md_row_86 (fun q_20 e_20 m_20 => ?_)
            have hQ := hQ q_20 e_20
            refine lv_iload_n hx hb d_Md_row_89 rfl (lv_at hl 3 rfl) ?_
            refine tw_aldI (ct := ct) hx hb hK hP hO_2 m_20 rfl (hb_inl po_2 po_3 (by decide +kernel)) d_Md_row_90 (fun x_21 e_21 b_21 => ?_)
            have hQ := hQ x_21 e_21
            refine tw_astI (ct := ct) (x := x_21) hx hb hK hP hD hS hO_2 m_19 rfl ((fun (a_0 : Int32) (k_0 : ¬ (a_0 < 0)) (k_1 : ¬ (600 < a_0)) (k_2 : ¬ (a_0 = 600)) => (show vp_in (a_0) 600 from by have z0 : (0 : Int32).toInt = 0 := (by decide +kernel); have z1 : (600 : Int32).toInt = 600 := (by decide +kernel); have r0 := fb_rng (a_0); have e0 := k_0; rw [Int32.lt_iff_toInt_lt, z0] at e0; have e1 := k_1; rw [Int32.lt_iff_toInt_lt, z1] at e1; have e2 := k_2; rw [← Int32.toInt_inj, z1] at e2; rw [vp_in_iff]; omega)) x_13 b_13.1 b_13.2 c_14) ⟨b_21.1, b_21.2⟩ d_Md_row_91 (fun f_3 H locs hP hD hS hO_3 hE_3 w_22 ow_22 hF_3 => ?_)
            have hA_3 := hA_2.trans hE_3
            have hQ := hQ f_3 hF_3
            have hQ := hQ hO_3
            refine lv_aload_n hx hb d_Md_row_92 rfl (lv_at hl 2 rfl) ?_
            refine tw_getr (D := (dC, dI)) (C := R_Md) (T := F_Md) (N := 64) (ci := 7) (kd := 27) (ct := ct) hx hb htb i_Md hown hK hP hO_3 (hA_3.m m0) rfl rfl 51 (by decide) (htb (.fieldLink R_Md 158 "WaterMenModel" "tripTo" "[I") tw_627) (fun _ h9 => h9) rfl d_Md_row_93 (fun q_23 e_23 m_23 => ?_)
            have hQ := hQ q_23 e_23
            refine lv_iload hx hb d_Md_row_96 (lv_at hl 0 rfl) ?_
            refine lv_iload_n hx hb d_Md_row_98 rfl (lv_at hl 5 rfl) ?_
            refine tw_astI (ct := ct) (x := p_2) hx hb hK hP hD hS hO_3 m_23 rfl ((fun (a_0 : Int32) (k_0 : ¬ (a_0 < 0)) (k_1 : ¬ (600 < a_0)) (k_2 : ¬ (a_0 = 600)) => (show vp_in (a_0) 600 from by have z0 : (0 : Int32).toInt = 0 := (by decide +kernel); have z1 : (600 : Int32).toInt = 600 := (by decide +kernel); have r0 := fb_rng (a_0); have e0 := k_0; rw [Int32.lt_iff_toInt_lt, z0] at e0; have e1 := k_1; rw [Int32.lt_iff_toInt_lt, z1] at e1; have e2 := k_2; rw [← Int32.toInt_inj, z1] at e2; rw [vp_in_iff]; omega)) x_13 b_13.1 b_13.2 c_14) ⟨po_6, po_7⟩ d_Md_row_99 (fun f_4 H locs hP hD hS hO_4 hE_4 w_24 ow_24 hF_4 => ?_)
            have hA_4 := hA_3.trans hE_4
            have hQ := hQ f_4 hF_4
            have hQ := hQ hO_4
            refine lv_aload_n hx hb d_Md_row_100 rfl (lv_at hl 2 rfl) ?_
            refine tw_getr (D := (dC, dI)) (C := R_Md) (T := F_Md) (N := 64) (ci := 7) (kd := 27) (ct := ct) hx hb htb i_Md hown hK hP hO_4 (hA_4.m m0) rfl rfl 52 (by decide) (htb (.fieldLink R_Md 161 "WaterMenModel" "tripBegin" "[I") tw_628) (fun _ h9 => h9) rfl d_Md_row_101 (fun q_25 e_25 m_25 => ?_)
            have hQ := hQ q_25 e_25
            refine lv_iload hx hb d_Md_row_104 (lv_at hl 0 rfl) ?_
            refine lv_aload_n hx hb d_Md_row_106 rfl (lv_at hl 2 rfl) ?_
            refine tw_geti (D := (dC, dI)) (C := R_Md) (T := F_Md) (N := 64) (ci := 7) (kd := 27) (ct := ct) hx hb htb i_Md hown hK hP hO_4 (hA_4.m m0) rfl rfl 1 (by decide) (htb (.fieldLink R_Md 7 "WaterMenModel" "time" "I") tw_111) (fun _ h9 => h9) rfl d_Md_row_107 (fun x_26 e_26 b_26 => ?_)
            have hQ := hQ x_26 e_26
            refine tw_astI (ct := ct) (x := x_26) hx hb hK hP hD hS hO_4 m_25 rfl ((fun (a_0 : Int32) (k_0 : ¬ (a_0 < 0)) (k_1 : ¬ (600 < a_0)) (k_2 : ¬ (a_0 = 600)) => (show vp_in (a_0) 600 from by have z0 : (0 : Int32).toInt = 0 := (by decide +kernel); have z1 : (600 : Int32).toInt = 600 := (by decide +kernel); have r0 := fb_rng (a_0); have e0 := k_0; rw [Int32.lt_iff_toInt_lt, z0] at e0; have e1 := k_1; rw [Int32.lt_iff_toInt_lt, z1] at e1; have e2 := k_2; rw [← Int32.toInt_inj, z1] at e2; rw [vp_in_iff]; omega)) x_13 b_13.1 b_13.2 c_14) ⟨b_26.1, b_26.2⟩ d_Md_row_110 (fun f_5 H locs hP hD hS hO_5 hE_5 w_27 ow_27 hF_5 => ?_)
            have hA_5 := hA_4.trans hE_5
            have hQ := hQ f_5 hF_5
            have hQ := hQ hO_5
            refine lv_aload_n hx hb d_Md_row_111 rfl (lv_at hl 2 rfl) ?_
            refine tw_getr (D := (dC, dI)) (C := R_Md) (T := F_Md) (N := 64) (ci := 7) (kd := 27) (ct := ct) hx hb htb i_Md hown hK hP hO_5 (hA_5.m m0) rfl rfl 53 (by decide) (htb (.fieldLink R_Md 164 "WaterMenModel" "tripThere" "[I") tw_229) (fun _ h9 => h9) rfl d_Md_row_112 (fun q_28 e_28 m_28 => ?_)
            have hQ := hQ q_28 e_28
            refine lv_iload hx hb d_Md_row_115 (lv_at hl 0 rfl) ?_
            refine lv_aload_n hx hb d_Md_row_117 rfl (lv_at hl 2 rfl) ?_
            refine tw_getI (x := x_26) (D := (dC, dI)) (C := R_Md) (T := F_Md) (N := 64) (ci := 7) (kd := 27) (ct := ct) hx hb htb i_Md hown hK hP (hA_5.m m0) rfl rfl 1 ((hE_5.ei (hA_4.m m0) rfl).trans e_26) (by decide) (htb (.fieldLink R_Md 7 "WaterMenModel" "time" "I") tw_111) (fun _ h9 => h9) rfl d_Md_row_118 ?_
            refine lv_aload_n hx hb d_Md_row_121 rfl (lv_at hl 2 rfl) ?_
            refine lv_iload_n hx hb d_Md_row_122 rfl (lv_at hl 3 rfl) ?_
            refine lv_iload_n hx hb d_Md_row_123 rfl (lv_at hl 5 rfl) ?_
            refine vp_callSi (va_Run.run (va_runV (As := [.int p_0, .int p_2]) (rest := [.int x_26, .int x_13, .ref q_28]) ⟨hx, hb, hml, hown, htb⟩ (c_Md_minutesOf_w l dC dI ct L f_5 hO_5 q0 (hA_5.m m0) p_0 p_2 po_2 po_3 po_6 po_7 _ hQ) (cwV 2 htb (gd_V tw_584 tw_585 tw_586 tw_89 tw_583) rfl rfl rfl (by decide +kernel) ⟨Nat.le_of_ble_eq_true rfl, Nat.le_of_ble_eq_true rfl⟩) ⟨pr_blind, tw_recv hK hP (hA_5.m m0) rfl rfl, pr_pre hP hK hN⟩ rfl rfl hl.1 rfl (lv_room (Nat.le_of_ble_eq_true rfl)) d_Md_row_124 ⟨Nat.le_of_ble_eq_true rfl, Nat.le_of_ble_eq_true rfl⟩)) (fun r_29 er_29 => ?_)
            obtain ⟨er_29, hQ⟩ := er_29
            clear er_29
            refine lv_iadd hx hb d_Md_row_127 ?_
            refine tw_astI (ct := ct) (x := (x_26 + r_29)) hx hb hK hP hD hS hO_5 m_28 rfl ((fun (a_0 : Int32) (k_0 : ¬ (a_0 < 0)) (k_1 : ¬ (600 < a_0)) (k_2 : ¬ (a_0 = 600)) => (show vp_in (a_0) 600 from by have z0 : (0 : Int32).toInt = 0 := (by decide +kernel); have z1 : (600 : Int32).toInt = 600 := (by decide +kernel); have r0 := fb_rng (a_0); have e0 := k_0; rw [Int32.lt_iff_toInt_lt, z0] at e0; have e1 := k_1; rw [Int32.lt_iff_toInt_lt, z1] at e1; have e2 := k_2; rw [← Int32.toInt_inj, z1] at e2; rw [vp_in_iff]; omega)) x_13 b_13.1 b_13.2 c_14) (i32_full _) d_Md_row_128 (fun f_6 H locs hP hD hS hO_6 hE_6 w_30 ow_30 hF_6 => ?_)
            have hA_6 := hA_5.trans hE_6
            have hQ := hQ f_6 hF_6
            have hQ := hQ hO_6
            refine lv_aload_n hx hb d_Md_row_129 rfl (lv_at hl 2 rfl) ?_
            refine tw_getr (D := (dC, dI)) (C := R_Md) (T := F_Md) (N := 64) (ci := 7) (kd := 27) (ct := ct) hx hb htb i_Md hown hK hP hO_6 (hA_6.m m0) rfl rfl 54 (by decide) (htb (.fieldLink R_Md 167 "WaterMenModel" "tripPaid" "[I") tw_124) (fun _ h9 => h9) rfl d_Md_row_130 (fun q_31 e_31 m_31 => ?_)
            have hQ := hQ q_31 e_31
            refine lv_iload hx hb d_Md_row_133 (lv_at hl 0 rfl) ?_
            refine lv_iload hx hb d_Md_row_135 (lv_at hl 6 rfl) ?_
            refine tw_astI (ct := ct) (x := p_3) hx hb hK hP hD hS hO_6 m_31 rfl ((fun (a_0 : Int32) (k_0 : ¬ (a_0 < 0)) (k_1 : ¬ (600 < a_0)) (k_2 : ¬ (a_0 = 600)) => (show vp_in (a_0) 600 from by have z0 : (0 : Int32).toInt = 0 := (by decide +kernel); have z1 : (600 : Int32).toInt = 600 := (by decide +kernel); have r0 := fb_rng (a_0); have e0 := k_0; rw [Int32.lt_iff_toInt_lt, z0] at e0; have e1 := k_1; rw [Int32.lt_iff_toInt_lt, z1] at e1; have e2 := k_2; rw [← Int32.toInt_inj, z1] at e2; rw [vp_in_iff]; omega)) x_13 b_13.1 b_13.2 c_14) (i32_full _) d_Md_row_137 (fun f_7 H locs hP hD hS hO_7 hE_7 w_32 ow_32 hF_7 => ?_)
            have hA_7 := hA_6.trans hE_7
            have hQ := hQ f_7 hF_7
            have hQ := hQ hO_7
            refine lv_aload_n hx hb d_Md_row_138 rfl (lv_at hl 2 rfl) ?_
            refine tw_getr (D := (dC, dI)) (C := R_Md) (T := F_Md) (N := 64) (ci := 7) (kd := 27) (ct := ct) hx hb htb i_Md hown hK hP hO_7 (hA_7.m m0) rfl rfl 55 (by decide) (htb (.fieldLink R_Md 170 "WaterMenModel" "sank" "[Z") tw_629) (fun _ h9 => h9) rfl d_Md_row_139 (fun q_33 e_33 m_33 => ?_)
            have hQ := hQ q_33 e_33
            refine lv_iload hx hb d_Md_row_142 (lv_at hl 0 rfl) ?_
            refine lv_iconst (v := 0) hx hb d_Md_row_144 (by decide +kernel) ?_
            refine tw_astZ (ct := ct) (x := 0) hx hb hK hP hD hS hO_7 m_33 rfl ((fun (a_0 : Int32) (k_0 : ¬ (a_0 < 0)) (k_1 : ¬ (600 < a_0)) (k_2 : ¬ (a_0 = 600)) => (show vp_in (a_0) 600 from by have z0 : (0 : Int32).toInt = 0 := (by decide +kernel); have z1 : (600 : Int32).toInt = 600 := (by decide +kernel); have r0 := fb_rng (a_0); have e0 := k_0; rw [Int32.lt_iff_toInt_lt, z0] at e0; have e1 := k_1; rw [Int32.lt_iff_toInt_lt, z1] at e1; have e2 := k_2; rw [← Int32.toInt_inj, z1] at e2; rw [vp_in_iff]; omega)) x_13 b_13.1 b_13.2 c_14) ⟨by decide +kernel, by decide +kernel⟩ d_Md_row_145 (fun f_8 H locs hP hD hS hO_8 hE_8 w_34 ow_34 hF_8 => ?_)
            have hA_8 := hA_7.trans hE_8
            have hQ := hQ f_8 hF_8
            have hQ := hQ hO_8
            refine lv_aload_n hx hb d_Md_row_146 rfl (lv_at hl 2 rfl) ?_
            refine lv_dup hx hb d_Md_row_147 rfl ?_
            refine tw_getI (x := x_13) (D := (dC, dI)) (C := R_Md) (T := F_Md) (N := 64) (ci := 7) (kd := 27) (ct := ct) hx hb htb i_Md hown hK hP (hA_8.m m0) rfl rfl 47 ((hA_8.ei m0 rfl).trans e_13) (by decide) (htb (.fieldLink R_Md 313 "WaterMenModel" "trips" "I") tw_123) (fun _ h9 => h9) rfl d_Md_row_148 ?_
            refine lv_iconst (v := 1) hx hb d_Md_row_151 (by decide +kernel) ?_
            refine lv_iadd hx hb d_Md_row_152 ?_
            refine tw_puti (v := (x_13 + 1)) (D := (dC, dI)) (C := R_Md) (T := F_Md) (N := 64) (ci := 7) (kd := 27) (ct := ct) (ty := .int) hx hb htb i_Md t_Md t_Md_ok n_Md hown hK hP hD hS hO_8 (hA_8.m m0) rfl rfl 47 (by decide) (htb (.fieldLink R_Md 313 "WaterMenModel" "trips" "I") tw_123) (fun _ h9 => h9) rfl (by decide +kernel) rfl rfl rfl ⟨(show ¬ ((x_13 + 1) < 0) from by have e0 := b_13.1; rw [Int32.lt_iff_toInt_lt] at e0; have e1 := b_13.2; rw [Int32.lt_iff_toInt_lt] at e1; have e2 := c_14; rw [← Int32.toInt_inj] at e2; have z0 : (0 : Int32).toInt = 0 := (by decide +kernel); have z1 : (1 : Int32).toInt = 1 := (by decide +kernel); have z2 : (600 : Int32).toInt = 600 := (by decide +kernel); have ss := fb_addI (x := x_13) (y := 1) (by omega) (by omega); rw [Int32.lt_iff_toInt_lt]; omega), (show ¬ (600 < (x_13 + 1)) from by have e0 := b_13.1; rw [Int32.lt_iff_toInt_lt] at e0; have e1 := b_13.2; rw [Int32.lt_iff_toInt_lt] at e1; have e2 := c_14; rw [← Int32.toInt_inj] at e2; have z0 : (0 : Int32).toInt = 0 := (by decide +kernel); have z1 : (1 : Int32).toInt = 1 := (by decide +kernel); have z2 : (600 : Int32).toInt = 600 := (by decide +kernel); have ss := fb_addI (x := x_13) (y := 1) (by omega) (by omega); rw [Int32.lt_iff_toInt_lt]; omega)⟩ d_Md_row_153 (fun f_9 H locs hP hD hS hO_9 hE_9 w_35 hF_9 => ?_)
            have hA_9 := hA_8.trans hE_9
            have hQ := hQ f_9 hF_9
            have hQ := hQ hO_9
            refine lv_aload_n hx hb d_Md_row_156 rfl (lv_at hl 2 rfl) ?_
            refine lv_iload_n hx hb d_Md_row_157 rfl (lv_at hl 4 rfl) ?_
            have hFc := hb_free hD hS hA
            refine va_callv (va_runV (As := [.int p_1]) (rest := []) ⟨hx, hb, hml, hown, htb⟩ (c_Md_leaves_w l dC dI ct L f_9 hO_9 q0 (hA_9.m m0) (hT.ext hO_0 m0 hA_9 (by decide +kernel)) _ p_1 _ hQ) (cwV 1 htb (gd_V tw_534 tw_535 tw_536 tw_89 tw_533) rfl rfl rfl (by decide +kernel) ⟨Nat.le_of_ble_eq_true rfl, Nat.le_of_ble_eq_true rfl⟩) ⟨pc_blind, tw_recv hK hP (hA_9.m m0) rfl rfl, pc_pre hP hK hD hN⟩ rfl rfl hl.1 rfl (lv_room (Nat.le_of_ble_eq_true rfl)) d_Md_row_158 ⟨Nat.le_of_ble_eq_true rfl, Nat.le_of_ble_eq_true rfl⟩) hS (fun q _ h => hFc q h) hFc (fun u t H locs ht hvm er hB hz1 hk1 hS => ?_)
            obtain ⟨L_10, f_10⟩ := u
            obtain ⟨hO_10, hE_10, hT_10, er, hQ⟩ := er
            obtain ⟨hP, hK1, hD1⟩ := hB
            rw [ht] at hP
            have hP : va_P (dC, dI) vwCl (TW ct L_10 f_10) H := hP
            have hD : va_D A (TW ct L_10 f_10) := hD1.weaken (fun _ q _ h => hFc q.1 h)
            have hO_10 : Ok L_10 f_10 := hO_10
            have hE_10 : Ext W_Md_leaves_w L f_9 L_10 f_10 := hE_10
            clear hK1 hD1 ht hvm hz1 hk1
            have hA_10 := hA_9.trans hE_10
            have hQ := hQ hO_10 hE_10
            clear er
            refine lv_aload_n hx hb d_Md_row_161 rfl (lv_at hl 2 rfl) ?_
            refine tw_getr (D := (dC, dI)) (C := R_Md) (T := F_Md) (N := 64) (ci := 7) (kd := 27) (ct := ct) hx hb htb i_Md hown hK hP hO_10 (hA_10.m m0) rfl rfl 25 (by decide) (htb (.fieldLink R_Md 103 "WaterMenModel" "boatTrip" "[I") tw_228) (fun _ h9 => h9) rfl d_Md_row_162 (fun q_37 e_37 m_37 => ?_)
            have hQ := hQ q_37 e_37
            refine lv_iload_n hx hb d_Md_row_165 rfl (lv_at hl 3 rfl) ?_
            refine lv_iload hx hb d_Md_row_166 (lv_at hl 0 rfl) ?_
            refine tw_astI (ct := ct) (x := x_13) hx hb hK hP hD hS hO_10 m_37 rfl (hb_inl po_2 po_3 (by decide +kernel)) ⟨(show ¬ (x_13 < (-1)) from by have e0 := b_13.1; rw [Int32.lt_iff_toInt_lt] at e0; have e1 := b_13.2; rw [Int32.lt_iff_toInt_lt] at e1; have z0 : ((-1) : Int32).toInt = -1 := (by decide +kernel); have z1 : (0 : Int32).toInt = 0 := (by decide +kernel); have z2 : (600 : Int32).toInt = 600 := (by decide +kernel); rw [Int32.lt_iff_toInt_lt]; omega), (show ¬ (599 < x_13) from ((fun (a_0 : Int32) (k_0 : ¬ (600 < a_0)) (k_1 : ¬ (a_0 = 600)) => (show ¬ (599 < a_0) from by have z0 : (599 : Int32).toInt = 599 := (by decide +kernel); have z1 : (600 : Int32).toInt = 600 := (by decide +kernel); have r0 := fb_rng (a_0); have e0 := k_0; rw [Int32.lt_iff_toInt_lt, z1] at e0; have e1 := k_1; rw [← Int32.toInt_inj, z1] at e1; rw [Int32.lt_iff_toInt_lt, z0]; omega)) x_13 b_13.2 c_14))⟩ d_Md_row_168 (fun f_11 H locs hP hD hS hO_11 hE_11 w_38 ow_38 hF_11 => ?_)
            have hA_11 := hA_10.trans hE_11
            have hQ := hQ f_11 hF_11
            have hQ := hQ hO_11
            refine lv_aload_n hx hb d_Md_row_169 rfl (lv_at hl 2 rfl) ?_
            refine tw_getR (D := (dC, dI)) (C := R_Md) (T := F_Md) (N := 64) (ci := 7) (kd := 27) (ct := ct) hx hb htb i_Md hown hK hP (hA_11.m m0) rfl rfl 23 ((hE_11.er (hA_10.m m0) rfl).trans ((hE_10.er (hA_9.m m0) rfl).trans ((hE_9.er (hA_8.m m0) rfl).trans ((hE_8.er (hA_7.m m0) rfl).trans ((hE_7.er (hA_6.m m0) rfl).trans ((hE_6.er (hA_5.m m0) rfl).trans ((hE_5.er (hA_4.m m0) rfl).trans ((hE_4.er (hA_3.m m0) rfl).trans ((hE_3.er (hA_2.m m0) rfl).trans e_20))))))))) (by decide) (htb (.fieldLink R_Md 97 "WaterMenModel" "boatAt" "[I") tw_511) (fun _ h9 => h9) rfl d_Md_row_170 ?_
            refine hb_tv (.ref q_20) rfl ?_
            refine lv_iload_n hx hb d_Md_row_173 rfl (lv_at hl 3 rfl) ?_
            refine lv_iload_n hx hb d_Md_row_174 rfl (lv_at hl 5 rfl) ?_
            refine tw_astI (ct := ct) (x := p_2) hx hb hK hP hD hS hO_11 (hE_11.m (hE_10.m (hE_9.m (hE_8.m (hE_7.m (hE_6.m (hE_5.m (hE_4.m (hE_3.m m_20))))))))) rfl (hb_inl po_2 po_3 (by decide +kernel)) ⟨po_6, po_7⟩ d_Md_row_175 (fun f_12 H locs hP hD hS hO_12 hE_12 w_39 ow_39 hF_12 => ?_)
            have hA_12 := hA_11.trans hE_12
            have hQ := hQ f_12 hF_12
            have hQ := hQ hO_12
            refine lv_aload_n hx hb d_Md_row_176 rfl (lv_at hl 2 rfl) ?_
            refine tw_getr (D := (dC, dI)) (C := R_Md) (T := F_Md) (N := 64) (ci := 7) (kd := 27) (ct := ct) hx hb htb i_Md hown hK hP hO_12 (hA_12.m m0) rfl rfl 24 (by decide) (htb (.fieldLink R_Md 100 "WaterMenModel" "boatFrom" "[I") tw_512) (fun _ h9 => h9) rfl d_Md_row_177 (fun q_40 e_40 m_40 => ?_)
            have hQ := hQ q_40 e_40
            refine lv_iload_n hx hb d_Md_row_180 rfl (lv_at hl 3 rfl) ?_
            refine lv_aload_n hx hb d_Md_row_181 rfl (lv_at hl 2 rfl) ?_
            refine tw_getR (D := (dC, dI)) (C := R_Md) (T := F_Md) (N := 64) (ci := 7) (kd := 27) (ct := ct) hx hb htb i_Md hown hK hP (hA_12.m m0) rfl rfl 53 ((hE_12.er (hA_11.m m0) rfl).trans ((hE_11.er (hA_10.m m0) rfl).trans ((hE_10.er (hA_9.m m0) rfl).trans ((hE_9.er (hA_8.m m0) rfl).trans ((hE_8.er (hA_7.m m0) rfl).trans ((hE_7.er (hA_6.m m0) rfl).trans ((hE_6.er (hA_5.m m0) rfl).trans e_28))))))) (by decide) (htb (.fieldLink R_Md 164 "WaterMenModel" "tripThere" "[I") tw_229) (fun _ h9 => h9) rfl d_Md_row_182 ?_
            refine hb_tv (.ref q_28) rfl ?_
            refine lv_iload hx hb d_Md_row_185 (lv_at hl 0 rfl) ?_
            refine tw_aldxI (ct := ct) (x := (x_26 + r_29)) hx hb hK hP (hE_12.m (hE_11.m (hE_10.m (hE_9.m (hE_8.m (hE_7.m (hE_6.m m_28))))))) rfl ((fun (a_0 : Int32) (k_0 : ¬ (a_0 < 0)) (k_1 : ¬ (600 < a_0)) (k_2 : ¬ (a_0 = 600)) => (show vp_in (a_0) 600 from by have z0 : (0 : Int32).toInt = 0 := (by decide +kernel); have z1 : (600 : Int32).toInt = 600 := (by decide +kernel); have r0 := fb_rng (a_0); have e0 := k_0; rw [Int32.lt_iff_toInt_lt, z0] at e0; have e1 := k_1; rw [Int32.lt_iff_toInt_lt, z1] at e1; have e2 := k_2; rw [← Int32.toInt_inj, z1] at e2; rw [vp_in_iff]; omega)) x_13 b_13.1 b_13.2 c_14) ((hE_12.ei (hE_11.m (hE_10.m (hE_9.m (hE_8.m (hE_7.m (hE_6.m m_28)))))) rfl).trans ((hE_11.ei (hE_10.m (hE_9.m (hE_8.m (hE_7.m (hE_6.m m_28))))) rfl).trans ((hE_10.ei (hE_9.m (hE_8.m (hE_7.m (hE_6.m m_28)))) rfl).trans ((hE_9.ei (hE_8.m (hE_7.m (hE_6.m m_28))) rfl).trans ((hE_8.ei (hE_7.m (hE_6.m m_28)) rfl).trans ((hE_7.ei (hE_6.m m_28) rfl).trans w_30)))))) d_Md_row_187 ?_
            refine tw_astI (ct := ct) (x := (x_26 + r_29)) hx hb hK hP hD hS hO_12 m_40 rfl (hb_inl po_2 po_3 (by decide +kernel)) (i32_full _) d_Md_row_188 (fun f_13 H locs hP hD hS hO_13 hE_13 w_42 ow_42 hF_13 => ?_)
            have hA_13 := hA_12.trans hE_13
            have hQ := hQ f_13 hF_13
            have hQ := hQ hO_13
            refine lv_aload_n hx hb d_Md_row_189 rfl (lv_at hl 2 rfl) ?_
            refine tw_getr (D := (dC, dI)) (C := R_Md) (T := F_Md) (N := 64) (ci := 7) (kd := 27) (ct := ct) hx hb htb i_Md hown hK hP hO_13 (hA_13.m m0) rfl rfl 16 (by decide) (htb (.fieldLink R_Md 79 "WaterMenModel" "wayOf" "[I") tw_109) (fun _ h9 => h9) rfl d_Md_row_190 (fun q_43 e_43 m_43 => ?_)
            have hQ := hQ q_43 e_43
            refine lv_iload_n hx hb d_Md_row_193 rfl (lv_at hl 4 rfl) ?_
            refine lv_iload hx hb d_Md_row_194 (lv_at hl 0 rfl) ?_
            refine tw_astI (ct := ct) (x := x_13) hx hb hK hP hD hS hO_13 m_43 rfl (hb_inl po_4 po_5 (by decide +kernel)) (i32_full _) d_Md_row_196 (fun f_14 H locs hP hD hS hO_14 hE_14 w_44 ow_44 hF_14 => ?_)
            have hA_14 := hA_13.trans hE_14
            have hQ := hQ f_14 hF_14
            have hQ := hQ hO_14
            refine lv_aload_n hx hb d_Md_row_197 rfl (lv_at hl 2 rfl) ?_
            refine tw_getr (D := (dC, dI)) (C := R_Md) (T := F_Md) (N := 64) (ci := 7) (kd := 27) (ct := ct) hx hb htb i_Md hown hK hP hO_14 (hA_14.m m0) rfl rfl 17 (by decide) (htb (.fieldLink R_Md 82 "WaterMenModel" "tripsOf" "[I") tw_110) (fun _ h9 => h9) rfl d_Md_row_198 (fun q_45 e_45 m_45 => ?_)
            have hQ := hQ q_45 e_45
            refine lv_iload_n hx hb d_Md_row_201 rfl (lv_at hl 4 rfl) ?_
            refine lv_dup2_11 hx hb d_Md_row_202 rfl rfl ?_
            refine tw_aldI (ct := ct) hx hb hK hP hO_14 m_45 rfl (hb_inl po_4 po_5 (by decide +kernel)) d_Md_row_203 (fun x_46 e_46 b_46 => ?_)
            have hQ := hQ x_46 e_46
            refine lv_iconst (v := 1) hx hb d_Md_row_204 (by decide +kernel) ?_
            refine lv_iadd hx hb d_Md_row_205 ?_
            refine tw_astI (ct := ct) (x := (x_46 + 1)) hx hb hK hP hD hS hO_14 m_45 rfl (hb_inl po_4 po_5 (by decide +kernel)) (i32_full _) d_Md_row_206 (fun f_15 H locs hP hD hS hO_15 hE_15 w_47 ow_47 hF_15 => ?_)
            have hA_15 := hA_14.trans hE_15
            have hQ := hQ f_15 hF_15
            have hQ := hQ hO_15
            refine lv_aload_n hx hb d_Md_row_207 rfl (lv_at hl 2 rfl) ?_
            refine lv_dup hx hb d_Md_row_208 rfl ?_
            refine tw_getl (D := (dC, dI)) (C := R_Md) (T := F_Md) (N := 64) (ci := 7) (kd := 27) (ct := ct) hx hb htb i_Md hown hK hP (hA_15.m m0) rfl rfl 56 (by decide) (htb (.fieldLink R_Md 316 "WaterMenModel" "box" "J") tw_116) (fun _ h9 => h9) rfl d_Md_row_209 (fun x_48 e_48 => ?_)
            have hQ := hQ x_48 e_48
            refine lv_iload hx hb d_Md_row_212 (lv_at hl 6 rfl) ?_
            refine lv_bipush (v := 20) hx hb d_Md_row_214 (by decide +kernel) ?_
            refine lv_idiv hx hb d_Md_row_216 (by decide) ?_
            refine hb_divn (U := 1000000) (Qm := 50000) (c := 20) (C1 := 19) (K := 2147483627) (by decide +kernel) (by decide +kernel) (by decide +kernel) c_9 (show ¬ (2147483627 < p_3) from by have e0 := c_9; rw [Int32.lt_iff_toInt_lt] at e0; have e1 := c_10; rw [Int32.lt_iff_toInt_lt] at e1; have z0 : (0 : Int32).toInt = 0 := (by decide +kernel); have z1 : (1000000 : Int32).toInt = 1000000 := (by decide +kernel); have z2 : (2147483627 : Int32).toInt = 2147483627 := (by decide +kernel); rw [Int32.lt_iff_toInt_lt]; omega) c_10 (by decide +kernel) (fun y_49 g1_49 g2_49 g3_49 g4_49 g5_49 g9_49 => ?_)
            have hQ := hQ y_49 g9_49
            refine lv_i2l hx hb d_Md_row_217 rfl ?_
            refine lv_ladd hx hb d_Md_row_218 ?_
            refine hb_eql (fun y_50 hy_50 => ?_)
            have hQ := hQ y_50 hy_50
            refine tw_putl (v := y_50) (D := (dC, dI)) (C := R_Md) (T := F_Md) (N := 64) (ci := 7) (kd := 27) (ct := ct) (ty := .long) hx hb htb i_Md t_Md t_Md_ok n_Md hown hK hP hD hS hO_15 (hA_15.m m0) rfl rfl 56 (by decide) (htb (.fieldLink R_Md 316 "WaterMenModel" "box" "J") tw_116) (fun _ h9 => h9) rfl (by decide +kernel) rfl rfl rfl d_Md_row_219 (fun f_16 H locs hP hD hS hO_16 hE_16 w_51 hF_16 => ?_)
            have hA_16 := hA_15.trans hE_16
            have hQ := hQ f_16 hF_16
            have hQ := hQ hO_16
            refine lv_aload_n hx hb d_Md_row_222 rfl (lv_at hl 2 rfl) ?_
            refine tw_getr (D := (dC, dI)) (C := R_Md) (T := F_Md) (N := 64) (ci := 7) (kd := 27) (ct := ct) hx hb htb i_Md hown hK hP hO_16 (hA_16.m m0) rfl rfl 59 (by decide) (htb (.fieldLink R_Md 173 "WaterMenModel" "boxIn" "[J") tw_120) (fun _ h9 => h9) rfl d_Md_row_223 (fun q_52 e_52 m_52 => ?_)
            have hQ := hQ q_52 e_52
            refine lv_aload_n hx hb d_Md_row_226 rfl (lv_at hl 2 rfl) ?_
            refine vp_callSi (va_Run.run (va_runV (As := []) (rest := [.ref q_52]) ⟨hx, hb, hml, hown, htb⟩ (c_Md_today_w l dC dI ct L_10 f_16 hO_16 q0 (hA_16.m m0) _ hQ) (cwV 0 htb (gd_V tw_113 tw_114 tw_115 tw_89 tw_112) rfl rfl rfl (by decide +kernel) ⟨Nat.le_of_ble_eq_true rfl, Nat.le_of_ble_eq_true rfl⟩) ⟨pr_blind, tw_recv hK hP (hA_16.m m0) rfl rfl, pr_pre hP hK hN⟩ rfl rfl hl.1 rfl (lv_room (Nat.le_of_ble_eq_true rfl)) d_Md_row_227 ⟨Nat.le_of_ble_eq_true rfl, Nat.le_of_ble_eq_true rfl⟩)) (fun r_53 er_53 => ?_)
            obtain ⟨er_53, hQ⟩ := er_53
            obtain ⟨po_54, po_55, po_56, po_57, -⟩ := er_53
            rw [show ti f_16 q0 1 = x_26 from ((hE_16.ei (hA_15.m m0) rfl).trans ((hE_15.ei (hA_14.m m0) rfl).trans ((hE_14.ei (hA_13.m m0) rfl).trans ((hE_13.ei (hA_12.m m0) rfl).trans ((hE_12.ei (hA_11.m m0) rfl).trans ((hE_11.ei (hA_10.m m0) rfl).trans ((hE_10.ei (hA_9.m m0) rfl).trans ((hE_9.ei (hA_8.m m0) rfl).trans ((hE_8.ei (hA_7.m m0) rfl).trans ((hE_7.ei (hA_6.m m0) rfl).trans ((hE_6.ei (hA_5.m m0) rfl).trans ((hE_5.ei (hA_4.m m0) rfl).trans e_26))))))))))))] at po_56
            rw [show ti f_16 q0 1 = x_26 from ((hE_16.ei (hA_15.m m0) rfl).trans ((hE_15.ei (hA_14.m m0) rfl).trans ((hE_14.ei (hA_13.m m0) rfl).trans ((hE_13.ei (hA_12.m m0) rfl).trans ((hE_12.ei (hA_11.m m0) rfl).trans ((hE_11.ei (hA_10.m m0) rfl).trans ((hE_10.ei (hA_9.m m0) rfl).trans ((hE_9.ei (hA_8.m m0) rfl).trans ((hE_8.ei (hA_7.m m0) rfl).trans ((hE_7.ei (hA_6.m m0) rfl).trans ((hE_6.ei (hA_5.m m0) rfl).trans ((hE_5.ei (hA_4.m m0) rfl).trans e_26))))))))))))] at po_57
            refine lv_dup2_11 hx hb d_Md_row_230 rfl rfl ?_
            refine tw_aldJ (ct := ct) hx hb hK hP m_52 rfl (hb_inl po_54 po_55 (by decide +kernel)) d_Md_row_231 (fun x_58 e_58 => ?_)
            have hQ := hQ x_58 e_58
            refine lv_iload hx hb d_Md_row_232 (lv_at hl 6 rfl) ?_
            refine lv_bipush (v := 20) hx hb d_Md_row_234 (by decide +kernel) ?_
            refine lv_idiv hx hb d_Md_row_236 (by decide) ?_
            refine hb_divn (U := 1000000) (Qm := 50000) (c := 20) (C1 := 19) (K := 2147483627) (by decide +kernel) (by decide +kernel) (by decide +kernel) c_9 (show ¬ (2147483627 < p_3) from by have e0 := c_9; rw [Int32.lt_iff_toInt_lt] at e0; have e1 := c_10; rw [Int32.lt_iff_toInt_lt] at e1; have z0 : (0 : Int32).toInt = 0 := (by decide +kernel); have z1 : (1000000 : Int32).toInt = 1000000 := (by decide +kernel); have z2 : (2147483627 : Int32).toInt = 2147483627 := (by decide +kernel); rw [Int32.lt_iff_toInt_lt]; omega) c_10 (by decide +kernel) (fun y_59 g1_59 g2_59 g3_59 g4_59 g5_59 g9_59 => ?_)
            have hQ := hQ y_59 g9_59
            refine lv_i2l hx hb d_Md_row_237 rfl ?_
            refine lv_ladd hx hb d_Md_row_238 ?_
            refine hb_eql (fun y_60 hy_60 => ?_)
            have hQ := hQ y_60 hy_60
            refine tw_astJ (ct := ct) (x := y_60) hx hb hK hP hD hS hO_16 m_52 rfl (hb_inl po_54 po_55 (by decide +kernel)) d_Md_row_239 (fun f_17 H locs hP hD hS hO_17 hE_17 w_61 ow_61 hF_17 => ?_)
            have hA_17 := hA_16.trans hE_17
            have hQ := hQ f_17 hF_17
            have hQ := hQ hO_17
            refine lv_aload_n hx hb d_Md_row_240 rfl (lv_at hl 2 rfl) ?_
            refine vp_callSi (va_Run.run (va_runV (As := []) (rest := []) ⟨hx, hb, hml, hown, htb⟩ (c_Md_today_w l dC dI ct L_10 f_17 hO_17 q0 (hA_17.m m0) _ hQ) (cwV 0 htb (gd_V tw_113 tw_114 tw_115 tw_89 tw_112) rfl rfl rfl (by decide +kernel) ⟨Nat.le_of_ble_eq_true rfl, Nat.le_of_ble_eq_true rfl⟩) ⟨pr_blind, tw_recv hK hP (hA_17.m m0) rfl rfl, pr_pre hP hK hN⟩ rfl rfl hl.1 rfl (lv_room (Nat.le_of_ble_eq_true rfl)) d_Md_row_241 ⟨Nat.le_of_ble_eq_true rfl, Nat.le_of_ble_eq_true rfl⟩)) (fun r_62 er_62 => ?_)
            obtain ⟨er_62, hQ⟩ := er_62
            obtain ⟨po_63, po_64, po_65, po_66, -⟩ := er_62
            rw [show ti f_17 q0 1 = x_26 from ((hE_17.ei (hA_16.m m0) rfl).trans ((hE_16.ei (hA_15.m m0) rfl).trans ((hE_15.ei (hA_14.m m0) rfl).trans ((hE_14.ei (hA_13.m m0) rfl).trans ((hE_13.ei (hA_12.m m0) rfl).trans ((hE_12.ei (hA_11.m m0) rfl).trans ((hE_11.ei (hA_10.m m0) rfl).trans ((hE_10.ei (hA_9.m m0) rfl).trans ((hE_9.ei (hA_8.m m0) rfl).trans ((hE_8.ei (hA_7.m m0) rfl).trans ((hE_7.ei (hA_6.m m0) rfl).trans ((hE_6.ei (hA_5.m m0) rfl).trans ((hE_5.ei (hA_4.m m0) rfl).trans e_26)))))))))))))] at po_65
            rw [show ti f_17 q0 1 = x_26 from ((hE_17.ei (hA_16.m m0) rfl).trans ((hE_16.ei (hA_15.m m0) rfl).trans ((hE_15.ei (hA_14.m m0) rfl).trans ((hE_14.ei (hA_13.m m0) rfl).trans ((hE_13.ei (hA_12.m m0) rfl).trans ((hE_12.ei (hA_11.m m0) rfl).trans ((hE_11.ei (hA_10.m m0) rfl).trans ((hE_10.ei (hA_9.m m0) rfl).trans ((hE_9.ei (hA_8.m m0) rfl).trans ((hE_8.ei (hA_7.m m0) rfl).trans ((hE_7.ei (hA_6.m m0) rfl).trans ((hE_6.ei (hA_5.m m0) rfl).trans ((hE_5.ei (hA_4.m m0) rfl).trans e_26)))))))))))))] at po_66
            refine lv_bipush (v := 7) hx hb d_Md_row_244 (by decide +kernel) ?_
            refine lv_irem hx hb d_Md_row_246 (by decide) ?_
            refine hb_remn (c := 7) (C1 := 6) (K := 2147483640) (by decide +kernel) (by decide +kernel) (by decide +kernel) po_63 (show ¬ (2147483640 < r_62) from by have e0 := po_63; rw [Int32.lt_iff_toInt_lt] at e0; have e1 := po_64; rw [Int32.lt_iff_toInt_lt] at e1; have z0 : (0 : Int32).toInt = 0 := (by decide +kernel); have z1 : (499 : Int32).toInt = 499 := (by decide +kernel); have z2 : (2147483640 : Int32).toInt = 2147483640 := (by decide +kernel); rw [Int32.lt_iff_toInt_lt]; omega) (fun y_67 qu_67 g1_67 g2_67 g3_67 g4_67 g5_67 g9_67 => ?_)
            have hQ := hQ y_67 g9_67
            refine lv_if_ne (tgt := 278) hx hb d_Md_row_247 (by decide) (fun c_68 => ?_) (fun c_68 => ?_)
            · have hQ := hQ.2 c_68
              refine lv_aload_n hx hb d_Md_row_278 rfl (lv_at hl 2 rfl) ?_
              refine tw_getr (D := (dC, dI)) (C := R_Md) (T := F_Md) (N := 64) (ci := 7) (kd := 27) (ct := ct) hx hb htb i_Md hown hK hP hO_17 (hA_17.m m0) rfl rfl 15 (by decide) (htb (.fieldLink R_Md 76 "WaterMenModel" "coins" "[I") tw_108) (fun _ h9 => h9) rfl d_Md_row_279 (fun q_69 e_69 m_69 => ?_)
              have hQ := hQ q_69 e_69
              refine lv_iload_n hx hb d_Md_row_282 rfl (lv_at hl 4 rfl) ?_
              refine lv_dup2_11 hx hb d_Md_row_283 rfl rfl ?_
              refine tw_aldI (ct := ct) hx hb hK hP hO_17 m_69 rfl (hb_inl po_4 po_5 (by decide +kernel)) d_Md_row_284 (fun x_70 e_70 b_70 => ?_)
              have hQ := hQ x_70 e_70
              refine lv_iload hx hb d_Md_row_285 (lv_at hl 6 rfl) ?_
              refine lv_iload hx hb d_Md_row_287 (lv_at hl 6 rfl) ?_
              refine lv_bipush (v := 20) hx hb d_Md_row_289 (by decide +kernel) ?_
              refine lv_idiv hx hb d_Md_row_291 (by decide) ?_
              refine hb_divn (U := 1000000) (Qm := 50000) (c := 20) (C1 := 19) (K := 2147483627) (by decide +kernel) (by decide +kernel) (by decide +kernel) c_9 (show ¬ (2147483627 < p_3) from by have e0 := c_9; rw [Int32.lt_iff_toInt_lt] at e0; have e1 := c_10; rw [Int32.lt_iff_toInt_lt] at e1; have z0 : (0 : Int32).toInt = 0 := (by decide +kernel); have z1 : (1000000 : Int32).toInt = 1000000 := (by decide +kernel); have z2 : (2147483627 : Int32).toInt = 2147483627 := (by decide +kernel); rw [Int32.lt_iff_toInt_lt]; omega) c_10 (by decide +kernel) (fun y_71 g1_71 g2_71 g3_71 g4_71 g5_71 g9_71 => ?_)
              have hQ := hQ y_71 g9_71
              refine lv_isub hx hb d_Md_row_292 ?_
              refine lv_iadd hx hb d_Md_row_293 ?_
              refine tw_astI (ct := ct) (x := (x_70 + (p_3 - y_71))) hx hb hK hP hD hS hO_17 m_69 rfl (hb_inl po_4 po_5 (by decide +kernel)) (i32_full _) d_Md_row_294 (fun f_18 H locs hP hD hS hO_18 hE_18 w_72 ow_72 hF_18 => ?_)
              have hA_18 := hA_17.trans hE_18
              have hQ := hQ f_18 hF_18
              have hQ := hQ hO_18
              refine lv_iload hx hb d_Md_row_295 (lv_at hl 0 rfl) ?_
              refine W.widen (k := 0) (n := 0) (Nat.le_of_ble_eq_true rfl) (Nat.le_of_ble_eq_true rfl) ?_
              exact W.iret (v := x_13) hx hb hr (fun t ht hW => ⟨⟨x_13, (L_10, f_18), rfl, ⟨hO_18, hA_18.mono (by decide +kernel), (hT_10.ext hO_10 (hA_10.m m0) (((((((hE_11.trans hE_12).trans hE_13).trans hE_14).trans hE_15).trans hE_16).trans hE_17).trans hE_18) (by decide +kernel)), trivial, hQ⟩, by rw [ht]; exact hP, va_K.moved hW.alike hK, by rw [hAe]; exact hD⟩, by rw [hAe]; exact hS.F ht⟩) (by rw [hAe]; exact hS.2.2) d_Md_row_297
            · have hQ := hQ.1 c_68
              refine lv_aload_n hx hb d_Md_row_250 rfl (lv_at hl 2 rfl) ?_
              refine lv_dup hx hb d_Md_row_251 rfl ?_
              refine tw_getl (D := (dC, dI)) (C := R_Md) (T := F_Md) (N := 64) (ci := 7) (kd := 27) (ct := ct) hx hb htb i_Md hown hK hP (hA_17.m m0) rfl rfl 57 (by decide) (htb (.fieldLink R_Md 320 "WaterMenModel" "pot" "J") tw_122) (fun _ h9 => h9) rfl d_Md_row_252 (fun x_73 e_73 => ?_)
              have hQ := hQ x_73 e_73
              refine lv_iload hx hb d_Md_row_255 (lv_at hl 6 rfl) ?_
              refine lv_iload hx hb d_Md_row_257 (lv_at hl 6 rfl) ?_
              refine lv_bipush (v := 20) hx hb d_Md_row_259 (by decide +kernel) ?_
              refine lv_idiv hx hb d_Md_row_261 (by decide) ?_
              refine hb_divn (U := 1000000) (Qm := 50000) (c := 20) (C1 := 19) (K := 2147483627) (by decide +kernel) (by decide +kernel) (by decide +kernel) c_9 (show ¬ (2147483627 < p_3) from by have e0 := c_9; rw [Int32.lt_iff_toInt_lt] at e0; have e1 := c_10; rw [Int32.lt_iff_toInt_lt] at e1; have z0 : (0 : Int32).toInt = 0 := (by decide +kernel); have z1 : (1000000 : Int32).toInt = 1000000 := (by decide +kernel); have z2 : (2147483627 : Int32).toInt = 2147483627 := (by decide +kernel); rw [Int32.lt_iff_toInt_lt]; omega) c_10 (by decide +kernel) (fun y_74 g1_74 g2_74 g3_74 g4_74 g5_74 g9_74 => ?_)
              have hQ := hQ y_74 g9_74
              refine lv_isub hx hb d_Md_row_262 ?_
              refine lv_i2l hx hb d_Md_row_263 rfl ?_
              refine lv_ladd hx hb d_Md_row_264 ?_
              refine hb_eql (fun y_75 hy_75 => ?_)
              have hQ := hQ y_75 hy_75
              refine tw_putl (v := y_75) (D := (dC, dI)) (C := R_Md) (T := F_Md) (N := 64) (ci := 7) (kd := 27) (ct := ct) (ty := .long) hx hb htb i_Md t_Md t_Md_ok n_Md hown hK hP hD hS hO_17 (hA_17.m m0) rfl rfl 57 (by decide) (htb (.fieldLink R_Md 320 "WaterMenModel" "pot" "J") tw_122) (fun _ h9 => h9) rfl (by decide +kernel) rfl rfl rfl d_Md_row_265 (fun f_18 H locs hP hD hS hO_18 hE_18 w_76 hF_18 => ?_)
              have hA_18 := hA_17.trans hE_18
              have hQ := hQ f_18 hF_18
              have hQ := hQ hO_18
              refine lv_aload_n hx hb d_Md_row_268 rfl (lv_at hl 2 rfl) ?_
              refine tw_getr (D := (dC, dI)) (C := R_Md) (T := F_Md) (N := 64) (ci := 7) (kd := 27) (ct := ct) hx hb htb i_Md hown hK hP hO_18 (hA_18.m m0) rfl rfl 18 (by decide) (htb (.fieldLink R_Md 85 "WaterMenModel" "shares" "[Z") tw_239) (fun _ h9 => h9) rfl d_Md_row_269 (fun q_77 e_77 m_77 => ?_)
              have hQ := hQ q_77 e_77
              refine lv_iload_n hx hb d_Md_row_272 rfl (lv_at hl 4 rfl) ?_
              refine lv_iconst (v := 1) hx hb d_Md_row_273 (by decide +kernel) ?_
              refine tw_astZ (ct := ct) (x := 1) hx hb hK hP hD hS hO_18 m_77 rfl (hb_inl po_4 po_5 (by decide +kernel)) ⟨by decide +kernel, by decide +kernel⟩ d_Md_row_274 (fun f_19 H locs hP hD hS hO_19 hE_19 w_78 ow_78 hF_19 => ?_)
              have hA_19 := hA_18.trans hE_19
              have hQ := hQ f_19 hF_19
              have hQ := hQ hO_19
              refine lv_goto (tgt := 295) hx hb d_Md_row_275 (by decide) ?_
              refine lv_iload hx hb d_Md_row_295 (lv_at hl 0 rfl) ?_
              refine W.widen (k := 0) (n := 0) (Nat.le_of_ble_eq_true rfl) (Nat.le_of_ble_eq_true rfl) ?_
              exact W.iret (v := x_13) hx hb hr (fun t ht hW => ⟨⟨x_13, (L_10, f_19), rfl, ⟨hO_19, hA_19.mono (by decide +kernel), (hT_10.ext hO_10 (hA_10.m m0) ((((((((hE_11.trans hE_12).trans hE_13).trans hE_14).trans hE_15).trans hE_16).trans hE_17).trans hE_18).trans hE_19) (by decide +kernel)), trivial, hQ⟩, by rw [ht]; exact hP, va_K.moved hW.alike hK, by rw [hAe]; exact hD⟩, by rw [hAe]; exact hS.F ht⟩) (by rw [hAe]; exact hS.2.2) d_Md_row_297
          · have hQ := hQ.1 c_14
            refine lv_bipush (v := (-3)) hx hb d_Md_row_54 (by decide +kernel) ?_
            refine W.widen (k := 0) (n := 0) (Nat.le_of_ble_eq_true rfl) (Nat.le_of_ble_eq_true rfl) ?_
            exact W.iret (v := (-3)) hx hb hr (fun t ht hW => ⟨⟨(-3), (L, f), rfl, ⟨hO_0, hA_0.mono (by decide +kernel), hT, trivial, hQ⟩, by rw [ht]; exact hP, va_K.moved hW.alike hK, by rw [hAe]; exact hD⟩, by rw [hAe]; exact hS.F ht⟩) (by rw [hAe]; exact hS.2.2) d_Md_row_56
        · have hQ := hQ.2 c_12
          refine lv_bipush (v := (-10)) hx hb d_Md_row_38 (by decide +kernel) ?_
          refine lv_iload hx hb d_Md_row_40 (lv_at hl 0 rfl) ?_
          refine lv_isub hx hb d_Md_row_42 ?_
          refine W.widen (k := 0) (n := 0) (Nat.le_of_ble_eq_true rfl) (Nat.le_of_ble_eq_true rfl) ?_
          exact W.iret (v := ((-10) - r_11)) hx hb hr (fun t ht hW => ⟨⟨((-10) - r_11), (L, f), rfl, ⟨hO_0, hA_0.mono (by decide +kernel), hT, trivial, hQ⟩, by rw [ht]; exact hP, va_K.moved hW.alike hK, by rw [hAe]; exact hD⟩, by rw [hAe]; exact hS.F ht⟩) (by rw [hAe]; exact hS.2.2) d_Md_row_43
def f_WM_isPension  (p_0 : Int32) (p_1 : Int32) : Int32 := if p_0 < 1 then (0) else (if 10000 < p_0 then (0) else (if p_1 < 0 then (0) else (if 9999 < p_1 then (0) else (1))))
set_option maxHeartbeats 4000000 in
set_option maxRecDepth 100000 in
theorem c_WM_isPension (l : Launch)  (p_0 : Int32) (p_1 : Int32)  : Met l y_WM_isPension (.code y_WM_isPension b_WM_isPension 2 (some .boolean) :: TB) ({ frames := 0, cells := 0, slots := 0, locals := 0 }) (va_Pc [.int p_0, .int p_1] (fun _ => True)) (vp_Si (fun r => r = f_WM_isPension p_0 p_1)) 0 0 (fun _ => False) := by
  refine Met.ofW (cc := b_WM_isPension) (maxL := 2) (ret := (some .boolean)) (by decide) rfl ?_
  intro p e s m args below meth c s₁ B hml hv
  obtain ⟨rfl, -⟩ := hv
  have hx := B.exec
  have hb := B.bytes
  have hr := B.returns
  have hts := atoms_spec (ws := (.code y_WM_isPension b_WM_isPension 2 (some .boolean) :: TB)) B.pre
  have htb := fun w (h : w ∈ TB) => hts w (List.mem_cons_of_mem _ h)
  have hown : s.vm.findClass R_WM = some m.cls := findClass_of_methodNamed B.named
  have hlocks := B.notSynchronized
  have hl := lv_entry ([.int p_0, .int p_1]) (n := 2) (Nat.le_of_ble_eq_true rfl)
  rw [lg_entry_eq]
  generalize (lg_sl ([.int p_0, .int p_1]) ++ List.replicate (2 - (lg_sl ([.int p_0, .int p_1])).length) Slot.unset).toArray = ls at hl ⊢
  have hl : lv_has ls 2 [(0, .int p_0), (1, .int p_1)] := hl
  refine lv_iload_n hx hb d_WM_isPension_0 rfl (lv_at hl 0 rfl) ?_
  refine lv_iconst (v := 1) hx hb d_WM_isPension_1 (by decide +kernel) ?_
  refine lv_icmp_lt (tgt := 27) hx hb d_WM_isPension_2 (by decide) (fun c_1 => ?_) (fun c_1 => ?_)
  · refine lv_iconst (v := 0) hx hb d_WM_isPension_27 (by decide +kernel) ?_
    exact W.zret (v := 0) hx hb hr (by decide +kernel) (fun t ht hW => ⟨0, rfl, (by unfold f_WM_isPension; rw [if_pos c_1]), ht⟩) t_nil d_WM_isPension_28
  · refine lv_iload_n hx hb d_WM_isPension_5 rfl (lv_at hl 0 rfl) ?_
    refine lv_sipush (v := 10000) hx hb d_WM_isPension_6 (by decide +kernel) ?_
    refine lv_icmp_gt (tgt := 27) hx hb d_WM_isPension_9 (by decide) (fun c_2 => ?_) (fun c_2 => ?_)
    · refine lv_iconst (v := 0) hx hb d_WM_isPension_27 (by decide +kernel) ?_
      exact W.zret (v := 0) hx hb hr (by decide +kernel) (fun t ht hW => ⟨0, rfl, (by unfold f_WM_isPension; rw [if_neg c_1, if_pos c_2]), ht⟩) t_nil d_WM_isPension_28
    · refine lv_iload_n hx hb d_WM_isPension_12 rfl (lv_at hl 1 rfl) ?_
      refine lv_if_lt (tgt := 27) hx hb d_WM_isPension_13 (by decide) (fun c_3 => ?_) (fun c_3 => ?_)
      · refine lv_iconst (v := 0) hx hb d_WM_isPension_27 (by decide +kernel) ?_
        exact W.zret (v := 0) hx hb hr (by decide +kernel) (fun t ht hW => ⟨0, rfl, (by unfold f_WM_isPension; rw [if_neg c_1, if_neg c_2, if_pos c_3]), ht⟩) t_nil d_WM_isPension_28
      · refine lv_iload_n hx hb d_WM_isPension_16 rfl (lv_at hl 1 rfl) ?_
        refine lv_sipush (v := 9999) hx hb d_WM_isPension_17 (by decide +kernel) ?_
        refine lv_icmp_gt (tgt := 27) hx hb d_WM_isPension_20 (by decide) (fun c_4 => ?_) (fun c_4 => ?_)
        · refine lv_iconst (v := 0) hx hb d_WM_isPension_27 (by decide +kernel) ?_
          exact W.zret (v := 0) hx hb hr (by decide +kernel) (fun t ht hW => ⟨0, rfl, (by unfold f_WM_isPension; rw [if_neg c_1, if_neg c_2, if_neg c_3, if_pos c_4]), ht⟩) t_nil d_WM_isPension_28
        · refine lv_iconst (v := 1) hx hb d_WM_isPension_23 (by decide +kernel) ?_
          refine lv_goto (tgt := 28) hx hb d_WM_isPension_24 (by decide) ?_
          exact W.zret (v := 1) hx hb hr (by decide +kernel) (fun t ht hW => ⟨1, rfl, (by unfold f_WM_isPension; rw [if_neg c_1, if_neg c_2, if_neg c_3, if_neg c_4]), ht⟩) t_nil d_WM_isPension_28
def wp_WM_tripAt_w (L : List Nat) (f : TF) (q0 : Nat) (p_0 : Int32) (Q : Option Nat → Prop) : Prop := ((p_0 < 0 → Q none) ∧ (¬ (p_0 < 0) → ∀ x_2 : Int32, ti f q0 9 = x_2 → ((x_2 ≤ p_0 → Q none) ∧ (¬ (x_2 ≤ p_0) → ∀ q_4 : Nat, tr f q0 4 = some q_4 → ((tr f q_4 (p_0 : Int32).toNatClampNeg = none → Q none) ∧ (∀ q_5 : Nat, tr f q_4 (p_0 : Int32).toNatClampNeg = some q_5 → Q (some q_5)))))))
set_option maxHeartbeats 4000000 in
set_option maxRecDepth 100000 in
theorem c_WM_tripAt_w (l : Launch) (dC : Nat → ClassId) (dI : Nat → Nat → Nat) (ct : Nat → ClassId) (L : List Nat) (f : TF) (hO_0 : Ok L f) (q0 : Nat) (m0 : q0 ∈ L ∧ tk f q0 = 0) (p_0 : Int32)   (Q : Option Nat → Prop) (hQ : wp_WM_tripAt_w L f q0 p_0 Q) : Met l y_WM_tripAt (.code y_WM_tripAt b_WM_tripAt 2 (some (.object "WaterMen$Trip")) :: TB) ({ frames := 0, cells := 0, slots := 0, locals := 0 }) (va_Pc [.ref q0, .int p_0] (PR dC dI (TW ct L f) (TT ct))) (va_Sq (fun r => (r = none ∨ ∃ b, r = some b ∧ b ∈ L ∧ tk f b = 25) ∧ Q r)) 0 0 (fun _ => False) := by
  refine Met.ofW (cc := b_WM_tripAt) (maxL := 2) (ret := (some (.object "WaterMen$Trip"))) (by decide) rfl ?_
  intro p e s m args below meth c s₁ B hml hv
  obtain ⟨rfl, hP, hK, hN⟩ := hv
  have hx := B.exec
  have hb := B.bytes
  have hr := B.returns
  have hts := atoms_spec (ws := (.code y_WM_tripAt b_WM_tripAt 2 (some (.object "WaterMen$Trip")) :: TB)) B.pre
  have htb := fun w (h : w ∈ TB) => hts w (List.mem_cons_of_mem _ h)
  have hown : s.vm.findClass R_WM = some m.cls := findClass_of_methodNamed B.named
  have hlocks := B.notSynchronized
  have hl := lv_entry ([.ref q0, .int p_0]) (n := 2) (Nat.le_of_ble_eq_true rfl)
  rw [lg_entry_eq]
  generalize (lg_sl ([.ref q0, .int p_0]) ++ List.replicate (2 - (lg_sl ([.ref q0, .int p_0])).length) Slot.unset).toArray = ls at hl ⊢
  have hl : lv_has ls 2 [(0, .ref q0), (1, .int p_0)] := hl
  unfold wp_WM_tripAt_w at hQ
  refine lv_iload_n hx hb d_WM_tripAt_0 rfl (lv_at hl 1 rfl) ?_
  refine lv_if_lt (tgt := 21) hx hb d_WM_tripAt_1 (by decide) (fun c_1 => ?_) (fun c_1 => ?_)
  · have hQ := hQ.1 c_1
    refine lv_null hx hb d_WM_tripAt_21 ?_
    exact W.aret (v := .null) (rt := .object "WaterMen$Trip") hx hb hr (Or.inl ⟨_, rfl⟩) (Or.inl rfl) (fun t ht hW => ⟨none, rfl, ⟨Or.inl rfl, hQ⟩, ht⟩) t_nil d_WM_tripAt_22
  · have hQ := hQ.2 c_1
    refine lv_iload_n hx hb d_WM_tripAt_4 rfl (lv_at hl 1 rfl) ?_
    refine lv_aload_n hx hb d_WM_tripAt_5 rfl (lv_at hl 0 rfl) ?_
    refine tw_geti (D := (dC, dI)) (C := R_WM) (T := F_WM) (N := 13) (ci := 0) (kd := 0) (ct := ct) hx hb htb i_WM hown hK hP hO_0 m0 rfl rfl 9 (by decide) (htb (.fieldLink R_WM 243 "WaterMen" "tripCount" "I") tw_592) (fun _ h9 => h9) rfl d_WM_tripAt_6 (fun x_2 e_2 b_2 => ?_)
    have hQ := hQ x_2 e_2
    refine lv_icmp_ge (tgt := 21) hx hb d_WM_tripAt_9 (by decide) (fun c_3 => ?_) (fun c_3 => ?_)
    · have hQ := hQ.1 c_3
      refine lv_null hx hb d_WM_tripAt_21 ?_
      exact W.aret (v := .null) (rt := .object "WaterMen$Trip") hx hb hr (Or.inl ⟨_, rfl⟩) (Or.inl rfl) (fun t ht hW => ⟨none, rfl, ⟨Or.inl rfl, hQ⟩, ht⟩) t_nil d_WM_tripAt_22
    · have hQ := hQ.2 c_3
      refine lv_aload_n hx hb d_WM_tripAt_12 rfl (lv_at hl 0 rfl) ?_
      refine tw_getr (D := (dC, dI)) (C := R_WM) (T := F_WM) (N := 13) (ci := 0) (kd := 0) (ct := ct) hx hb htb i_WM hown hK hP hO_0 m0 rfl rfl 4 (by decide) (htb (.fieldLink R_WM 36 "WaterMen" "trips" "[LWaterMen$Trip;") tw_607) (fun _ h9 => h9) rfl d_WM_tripAt_13 (fun q_4 e_4 m_4 => ?_)
      have hQ := hQ q_4 e_4
      refine lv_iload_n hx hb d_WM_tripAt_16 rfl (lv_at hl 1 rfl) ?_
      refine tw_aldq (ct := ct) hx hb hK hP hO_0 m_4 rfl rfl ((fun (a_0 : Int32) (a_1 : Int32) (k_0 : ¬ (a_0 < 0)) (k_1 : ¬ (a_1 ≤ a_0)) (k_2 : ¬ (600 < a_1)) => (show vp_in (a_0) 600 from by have z0 : (0 : Int32).toInt = 0 := (by decide +kernel); have z1 : (600 : Int32).toInt = 600 := (by decide +kernel); have r0 := fb_rng (a_0); have r1 := fb_rng (a_1); have e0 := k_0; rw [Int32.lt_iff_toInt_lt, z0] at e0; have e1 := k_1; rw [Int32.le_iff_toInt_le] at e1; have e2 := k_2; rw [Int32.lt_iff_toInt_lt, z1] at e2; rw [vp_in_iff]; omega)) p_0 x_2 c_1 c_3 b_2.2) d_WM_tripAt_17 (fun e_5 => ?_) (fun q_5 e_5 m_5 => ?_)
      · have hQ := hQ.1 e_5
        refine lv_goto (tgt := 22) hx hb d_WM_tripAt_18 (by decide) ?_
        exact W.aret (v := .null) (rt := .object "WaterMen$Trip") hx hb hr (Or.inl ⟨_, rfl⟩) (Or.inl rfl) (fun t ht hW => ⟨none, rfl, ⟨Or.inl rfl, hQ⟩, ht⟩) t_nil d_WM_tripAt_22
      · have hQ := hQ.2 q_5 e_5
        refine lv_goto (tgt := 22) hx hb d_WM_tripAt_18 (by decide) ?_
        exact W.aret (v := .ref q_5) (rt := .object "WaterMen$Trip") hx hb hr (Or.inl ⟨_, rfl⟩) (Or.inr ⟨_, rfl⟩) (fun t ht hW => ⟨some q_5, rfl, ⟨Or.inr ⟨q_5, rfl, m_5⟩, hQ⟩, ht⟩) t_nil d_WM_tripAt_22
