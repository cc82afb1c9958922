def W_Md_bind_w : List (Nat × Nat) := [(33, 1000), (34, 1000), (35, 1000), (36, 1000)]
def wp_Md_bind_w (L : List Nat) (f : TF) (q0 : Nat) (p_0 : Int32) (p_1 : Int32) (Q : Int32 → List Nat → TF → Prop) : Prop := ((p_0 < 0 → Q (-1) L f) ∧ (¬ (p_0 < 0) → ((39 < p_0 → Q (-1) L f) ∧ (¬ (39 < p_0) → ((p_1 < 0 → Q (-1) L f) ∧ (¬ (p_1 < 0) → ((39 < p_1 → Q (-1) L f) ∧ (¬ (39 < p_1) → ∀ q_7 : Nat, tr f q0 9 = some q_7 → ∀ x_8 : Int32, ti f q_7 (p_0 : Int32).toNatClampNeg = x_8 → ((x_8 = 0 → ∀ x_10 : Int32, ti f q_7 (p_1 : Int32).toNatClampNeg = x_10 → ((x_10 = 2 → ∀ f_1 : TF, f_1 = sI f q_7 (p_0 : Int32).toNatClampNeg 1 → Ok L f_1 → ∀ q_13 : Nat, tr f_1 q0 10 = some q_13 → ∀ f_2 : TF, f_2 = sI f_1 q_13 (p_0 : Int32).toNatClampNeg p_1 → Ok L f_2 → ∀ q_15 : Nat, tr f_2 q0 11 = some q_15 → wp_Md_today_w L f_2 q0 (fun (r_16 : Int32) => (∀ f_3 : TF, f_3 = sI f_2 q_15 (p_0 : Int32).toNatClampNeg r_16 → Ok L f_3 → ∀ q_22 : Nat, tr f_3 q0 12 = some q_22 → ∀ f_4 : TF, f_4 = sI f_3 q_22 (p_0 : Int32).toNatClampNeg 0 → Ok L f_4 → Q 1 L f_4))) ∧ (¬ (x_10 = 2) → Q (-2) L f))) ∧ (¬ (x_8 = 0) → Q (-2) L f))))))))))
set_option maxHeartbeats 4000000 in
set_option maxRecDepth 100000 in
theorem c_Md_bind_w (l : Launch) (dC : Nat → ClassId) (dI : Nat → Nat → Nat) (ct : Nat → ClassId) (L : List Nat) (f : TF) (hO_0 : Ok L f) (q0 : Nat) (m0 : q0 ∈ L ∧ tk f q0 = 27) (sz : Nat) (p_0 : Int32) (p_1 : Int32)   (Q : Int32 → List Nat → TF → Prop) (hQ : wp_Md_bind_w L f q0 p_0 p_1 Q) : Met l y_Md_bind (.code y_Md_bind b_Md_bind 3 (some .int) :: TB) ({ frames := 2, cells := 0, slots := 0, locals := 42 }) (va_Pc [.ref q0, .int p_0, .int p_1] (PC dC dI (TW ct L f) (TT ct) sz)) (va_Qi (fun r (u : TSt) => Ok u.1 u.2 ∧ Ext W_Md_bind_w L f u.1 u.2 ∧ (True) ∧ Q r u.1 u.2) (fun (u : TSt) t => va_P (dC, dI) vwCl (TW ct u.1 u.2) t.heap ∧ va_K (dC, dI) vwCl (TT ct) t ∧ va_D (va_A (TW ct L f) sz) (TW ct u.1 u.2)) (va_A (TW ct L f) sz)) 0 0 (va_A (TW ct L f) sz) := by
  refine Met.ofW (cc := b_Md_bind) (maxL := 3) (ret := (some .int)) (by decide) rfl ?_
  intro p e s m args below meth c s₁ B hml hv
  obtain ⟨rfl, hsz, hP, hK, hD0, hN⟩ := hv
  have hx := B.exec
  have hb := B.bytes
  have hr := B.returns
  have hts := atoms_spec (ws := (.code y_Md_bind b_Md_bind 3 (some .int) :: TB)) B.pre
  have htb := fun w (h : w ∈ TB) => hts w (List.mem_cons_of_mem _ h)
  have hown : s.vm.findClass R_Md = some m.cls := findClass_of_methodNamed B.named
  have hlocks := B.notSynchronized
  have hl := lv_entry ([.ref q0, .int p_0, .int p_1]) (n := 3) (Nat.le_of_ble_eq_true rfl)
  rw [lg_entry_eq]
  generalize (lg_sl ([.ref q0, .int p_0, .int p_1]) ++ List.replicate (3 - (lg_sl ([.ref q0, .int p_0, .int p_1])).length) Slot.unset).toArray = ls at hl ⊢
  have hl : lv_has ls 3 [(0, .ref q0), (1, .int p_0), (2, .int p_1)] := hl
  subst hsz
  have hD := hD0.self (sz := s.heap.size)
  obtain ⟨A, hAe⟩ : ∃ A, va_A (TW ct L f) s.heap.size = A := ⟨_, rfl⟩
  rw [hAe] at hD
  have hA : ∀ q : Nat, s.heap.size ≤ q → A q := fun q h => by rw [← hAe]; exact Or.inr h
  have hS : va_S A s.heap s.heap [] := va_S.rf
  have hA_0 : Ext [] L f L f := Ext.rf
  suffices hGo : ∀ (H : Heap) (locs : List Loc), va_P (dC, dI) vwCl (TW ct L f) H → va_S A s.heap H locs → W p l e (headSpec (.code y_Md_bind b_Md_bind 3 (some .int) :: TB) ({ frames := 2, cells := 0, slots := 0, locals := 42 })).room s m [.ref q0, .int p_0, .int p_1].toArray below meth c H locs 0 0 (MQ below (va_Qi (fun r (u : TSt) => Ok u.1 u.2 ∧ Ext W_Md_bind_w L f u.1 u.2 ∧ (True) ∧ Q r u.1 u.2) (fun (u : TSt) t => va_P (dC, dI) vwCl (TW ct u.1 u.2) t.heap ∧ va_K (dC, dI) vwCl (TT ct) t ∧ va_D (va_A (TW ct L f) s.heap.size) (TW ct u.1 u.2)) (va_A (TW ct L f) s.heap.size)) [.ref q0, .int p_0, .int p_1].toArray s 0 0 (va_A (TW ct L f) s.heap.size)) (F0 m 0 ls []) from hGo _ _ hP hS
  clear hP hS
  intro H locs hP hS
  unfold wp_Md_bind_w at hQ
  refine lv_iload_n hx hb d_Md_bind_0 rfl (lv_at hl 1 rfl) ?_
  refine vp_callSi (va_Run.run (va_runS (As := [.int p_0]) (rest := []) ⟨hx, hb, hml, hown, htb⟩ (c_Md_isMan l p_0) (cwS 1 htb (gd_S tw_93 tw_94 tw_89 tw_92) rfl rfl rfl (by decide +kernel) ⟨Nat.le_of_ble_eq_true rfl, Nat.le_of_ble_eq_true rfl⟩) ⟨fun _ _ _ _ h => h, fun U _ _ => ⟨rfl, trivial⟩⟩ rfl rfl hl.1 rfl (lv_room (Nat.le_of_ble_eq_true rfl)) d_Md_bind_1 ⟨Nat.le_of_ble_eq_true rfl, Nat.le_of_ble_eq_true rfl⟩)) (fun r er => ?_)
  subst er
  by_cases c_2 : p_0 < 0
  · have hQ := hQ.1 c_2
    refine hb_ti 0 (by unfold f_Md_isMan; rw [if_pos c_2]; first | done | rfl) ?_
    refine lv_if_eq (tgt := 14) hx hb d_Md_bind_4 (by decide) (fun _ => ?_) (fun h => absurd (by decide +kernel) h)
    refine lv_iconst (v := (-1)) hx hb d_Md_bind_14 (by decide +kernel) ?_
    refine W.widen (k := 0) (n := 0) (Nat.le_of_ble_eq_true rfl) (Nat.le_of_ble_eq_true rfl) ?_
    exact W.iret (v := (-1)) hx hb hr (fun t ht hW => ⟨⟨(-1), (L, f), rfl, ⟨hO_0, hA_0.mono (by decide +kernel), trivial, hQ⟩, by rw [ht]; exact hP, va_K.moved hW.alike hK, by rw [hAe]; exact hD⟩, by rw [hAe]; exact hS.F ht⟩) (by rw [hAe]; exact hS.2.2) d_Md_bind_15
  · have hQ := hQ.2 c_2
    by_cases c_3 : 39 < p_0
    · have hQ := hQ.1 c_3
      refine hb_ti 0 (by unfold f_Md_isMan; rw [if_neg c_2, if_pos c_3]; first | done | rfl) ?_
      refine lv_if_eq (tgt := 14) hx hb d_Md_bind_4 (by decide) (fun _ => ?_) (fun h => absurd (by decide +kernel) h)
      refine lv_iconst (v := (-1)) hx hb d_Md_bind_14 (by decide +kernel) ?_
      refine W.widen (k := 0) (n := 0) (Nat.le_of_ble_eq_true rfl) (Nat.le_of_ble_eq_true rfl) ?_
      exact W.iret (v := (-1)) hx hb hr (fun t ht hW => ⟨⟨(-1), (L, f), rfl, ⟨hO_0, hA_0.mono (by decide +kernel), trivial, hQ⟩, by rw [ht]; exact hP, va_K.moved hW.alike hK, by rw [hAe]; exact hD⟩, by rw [hAe]; exact hS.F ht⟩) (by rw [hAe]; exact hS.2.2) d_Md_bind_15
    · have hQ := hQ.2 c_3
      refine hb_ti 1 (by unfold f_Md_isMan; rw [if_neg c_2, if_neg c_3]; first | done | rfl) ?_
      refine lv_if_eq (tgt := 14) hx hb d_Md_bind_4 (by decide) (fun h => absurd h (by decide +kernel)) (fun _ => ?_)
      refine lv_iload_n hx hb d_Md_bind_7 rfl (lv_at hl 2 rfl) ?_
      refine vp_callSi (va_Run.run (va_runS (As := [.int p_1]) (rest := []) ⟨hx, hb, hml, hown, htb⟩ (c_Md_isMan l p_1) (cwS 1 htb (gd_S tw_93 tw_94 tw_89 tw_92) rfl rfl rfl (by decide +kernel) ⟨Nat.le_of_ble_eq_true rfl, Nat.le_of_ble_eq_true rfl⟩) ⟨fun _ _ _ _ h => h, fun U _ _ => ⟨rfl, trivial⟩⟩ rfl rfl hl.1 rfl (lv_room (Nat.le_of_ble_eq_true rfl)) d_Md_bind_8 ⟨Nat.le_of_ble_eq_true rfl, Nat.le_of_ble_eq_true rfl⟩)) (fun r er => ?_)
      subst er
      by_cases c_5 : p_1 < 0
      · have hQ := hQ.1 c_5
        refine hb_ti 0 (by unfold f_Md_isMan; rw [if_pos c_5]; first | done | rfl) ?_
        refine lv_if_ne (tgt := 16) hx hb d_Md_bind_11 (by decide) (fun h => absurd (by decide +kernel) h) (fun _ => ?_)
        refine lv_iconst (v := (-1)) hx hb d_Md_bind_14 (by decide +kernel) ?_
        refine W.widen (k := 0) (n := 0) (Nat.le_of_ble_eq_true rfl) (Nat.le_of_ble_eq_true rfl) ?_
        exact W.iret (v := (-1)) hx hb hr (fun t ht hW => ⟨⟨(-1), (L, f), rfl, ⟨hO_0, hA_0.mono (by decide +kernel), trivial, hQ⟩, by rw [ht]; exact hP, va_K.moved hW.alike hK, by rw [hAe]; exact hD⟩, by rw [hAe]; exact hS.F ht⟩) (by rw [hAe]; exact hS.2.2) d_Md_bind_15
      · have hQ := hQ.2 c_5
        by_cases c_6 : 39 < p_1
        · have hQ := hQ.1 c_6
          refine hb_ti 0 (by unfold f_Md_isMan; rw [if_neg c_5, if_pos c_6]; first | done | rfl) ?_
          refine lv_if_ne (tgt := 16) hx hb d_Md_bind_11 (by decide) (fun h => absurd (by decide +kernel) h) (fun _ => ?_)
          refine lv_iconst (v := (-1)) hx hb d_Md_bind_14 (by decide +kernel) ?_
          refine W.widen (k := 0) (n := 0) (Nat.le_of_ble_eq_true rfl) (Nat.le_of_ble_eq_true rfl) ?_
          exact W.iret (v := (-1)) hx hb hr (fun t ht hW => ⟨⟨(-1), (L, f), rfl, ⟨hO_0, hA_0.mono (by decide +kernel), trivial, hQ⟩, by rw [ht]; exact hP, va_K.moved hW.alike hK, by rw [hAe]; exact hD⟩, by rw [hAe]; exact hS.F ht⟩) (by rw [hAe]; exact hS.2.2) d_Md_bind_15
        · have hQ := hQ.2 c_6
          refine hb_ti 1 (by unfold f_Md_isMan; rw [if_neg c_5, if_neg c_6]; first | done | rfl) ?_
          refine lv_if_ne (tgt := 16) hx hb d_Md_bind_11 (by decide) (fun _ => ?_) (fun h => absurd h (by decide +kernel))
          refine lv_aload_n hx hb d_Md_bind_16 rfl (lv_at hl 0 rfl) ?_
          refine tw_getr (D := (dC, dI)) (C := R_Md) (T := F_Md) (N := 64) (ci := 7) (kd := 27) (ct := ct) hx hb htb i_Md hown hK hP hO_0 m0 rfl rfl 9 (by decide) (htb (.fieldLink R_Md 58 "WaterMenModel" "state" "[I") tw_95) (fun _ h9 => h9) rfl d_Md_bind_17 (fun q_7 e_7 m_7 => ?_)
          have hQ := hQ q_7 e_7
          refine lv_iload_n hx hb d_Md_bind_20 rfl (lv_at hl 1 rfl) ?_
          refine tw_aldI (ct := ct) hx hb hK hP hO_0 m_7 rfl (hb_inl c_2 c_3 (by decide +kernel)) d_Md_bind_21 (fun x_8 e_8 b_8 => ?_)
          have hQ := hQ x_8 e_8
          refine lv_if_ne (tgt := 35) hx hb d_Md_bind_22 (by decide) (fun c_9 => ?_) (fun c_9 => ?_)
          · have hQ := hQ.2 c_9
            refine lv_bipush (v := (-2)) hx hb d_Md_bind_35 (by decide +kernel) ?_
            refine W.widen (k := 0) (n := 0) (Nat.le_of_ble_eq_true rfl) (Nat.le_of_ble_eq_true rfl) ?_
            exact W.iret (v := (-2)) hx hb hr (fun t ht hW => ⟨⟨(-2), (L, f), rfl, ⟨hO_0, hA_0.mono (by decide +kernel), trivial, hQ⟩, by rw [ht]; exact hP, va_K.moved hW.alike hK, by rw [hAe]; exact hD⟩, by rw [hAe]; exact hS.F ht⟩) (by rw [hAe]; exact hS.2.2) d_Md_bind_37
          · have hQ := hQ.1 c_9
            refine lv_aload_n hx hb d_Md_bind_25 rfl (lv_at hl 0 rfl) ?_
            refine tw_getR (D := (dC, dI)) (C := R_Md) (T := F_Md) (N := 64) (ci := 7) (kd := 27) (ct := ct) hx hb htb i_Md hown hK hP m0 rfl rfl 9 e_7 (by decide) (htb (.fieldLink R_Md 58 "WaterMenModel" "state" "[I") tw_95) (fun _ h9 => h9) rfl d_Md_bind_26 ?_
            refine hb_tv (.ref q_7) rfl ?_
            refine lv_iload_n hx hb d_Md_bind_29 rfl (lv_at hl 2 rfl) ?_
            refine tw_aldI (ct := ct) hx hb hK hP hO_0 m_7 rfl (hb_inl c_5 c_6 (by decide +kernel)) d_Md_bind_30 (fun x_10 e_10 b_10 => ?_)
            have hQ := hQ x_10 e_10
            refine lv_iconst (v := 2) hx hb d_Md_bind_31 (by decide +kernel) ?_
            refine lv_icmp_eq (tgt := 38) hx hb d_Md_bind_32 (by decide) (fun c_11 => ?_) (fun c_11 => ?_)
            · have hQ := hQ.1 c_11
              refine lv_aload_n hx hb d_Md_bind_38 rfl (lv_at hl 0 rfl) ?_
              refine tw_getR (D := (dC, dI)) (C := R_Md) (T := F_Md) (N := 64) (ci := 7) (kd := 27) (ct := ct) hx hb htb i_Md hown hK hP m0 rfl rfl 9 e_7 (by decide) (htb (.fieldLink R_Md 58 "WaterMenModel" "state" "[I") tw_95) (fun _ h9 => h9) rfl d_Md_bind_39 ?_
              refine hb_tv (.ref q_7) rfl ?_
              refine lv_iload_n hx hb d_Md_bind_42 rfl (lv_at hl 1 rfl) ?_
              refine lv_iconst (v := 1) hx hb d_Md_bind_43 (by decide +kernel) ?_
              refine tw_astI (ct := ct) (x := 1) hx hb hK hP hD hS hO_0 m_7 rfl (hb_inl c_2 c_3 (by decide +kernel)) (i32_full _) d_Md_bind_44 (fun f_1 H locs hP hD hS hO_1 hE_1 w_12 ow_12 hF_1 => ?_)
              have hA_1 := hA_0.trans hE_1
              have hQ := hQ f_1 hF_1
              have hQ := hQ hO_1
              refine lv_aload_n hx hb d_Md_bind_45 rfl (lv_at hl 0 rfl) ?_
              refine tw_getr (D := (dC, dI)) (C := R_Md) (T := F_Md) (N := 64) (ci := 7) (kd := 27) (ct := ct) hx hb htb i_Md hown hK hP hO_1 (hA_1.m m0) rfl rfl 10 (by decide) (htb (.fieldLink R_Md 61 "WaterMenModel" "master" "[I") tw_96) (fun _ h9 => h9) rfl d_Md_bind_46 (fun q_13 e_13 m_13 => ?_)
              have hQ := hQ q_13 e_13
              refine lv_iload_n hx hb d_Md_bind_49 rfl (lv_at hl 1 rfl) ?_
              refine lv_iload_n hx hb d_Md_bind_50 rfl (lv_at hl 2 rfl) ?_
              refine tw_astI (ct := ct) (x := p_1) hx hb hK hP hD hS hO_1 m_13 rfl (hb_inl c_2 c_3 (by decide +kernel)) (i32_full _) d_Md_bind_51 (fun f_2 H locs hP hD hS hO_2 hE_2 w_14 ow_14 hF_2 => ?_)
              have hA_2 := hA_1.trans hE_2
              have hQ := hQ f_2 hF_2
              have hQ := hQ hO_2
              refine lv_aload_n hx hb d_Md_bind_52 rfl (lv_at hl 0 rfl) ?_
              refine tw_getr (D := (dC, dI)) (C := R_Md) (T := F_Md) (N := 64) (ci := 7) (kd := 27) (ct := ct) hx hb htb i_Md hown hK hP hO_2 (hA_2.m m0) rfl rfl 11 (by decide) (htb (.fieldLink R_Md 64 "WaterMenModel" "boundOn" "[I") tw_467) (fun _ h9 => h9) rfl d_Md_bind_53 (fun q_15 e_15 m_15 => ?_)
              have hQ := hQ q_15 e_15
              refine lv_iload_n hx hb d_Md_bind_56 rfl (lv_at hl 1 rfl) ?_
              refine lv_aload_n hx hb d_Md_bind_57 rfl (lv_at hl 0 rfl) ?_
              refine vp_callSi (va_Run.run (va_runV (As := []) (rest := [.int p_0, .ref q_15]) ⟨hx, hb, hml, hown, htb⟩ (c_Md_today_w l dC dI ct L f_2 hO_2 q0 (hA_2.m m0) _ hQ) (cwV 0 htb (gd_V tw_113 tw_114 tw_115 tw_89 tw_112) rfl rfl rfl (by decide +kernel) ⟨Nat.le_of_ble_eq_true rfl, Nat.le_of_ble_eq_true rfl⟩) ⟨pr_blind, tw_recv hK hP (hA_2.m m0) rfl rfl, pr_pre hP hK hN⟩ rfl rfl hl.1 rfl (lv_room (Nat.le_of_ble_eq_true rfl)) d_Md_bind_58 ⟨Nat.le_of_ble_eq_true rfl, Nat.le_of_ble_eq_true rfl⟩)) (fun r_16 er_16 => ?_)
              obtain ⟨er_16, hQ⟩ := er_16
              obtain ⟨po_17, po_18, po_19, po_20, -⟩ := er_16
              refine tw_astI (ct := ct) (x := r_16) hx hb hK hP hD hS hO_2 m_15 rfl (hb_inl c_2 c_3 (by decide +kernel)) (i32_full _) d_Md_bind_61 (fun f_3 H locs hP hD hS hO_3 hE_3 w_21 ow_21 hF_3 => ?_)
              have hA_3 := hA_2.trans hE_3
              have hQ := hQ f_3 hF_3
              have hQ := hQ hO_3
              refine lv_aload_n hx hb d_Md_bind_62 rfl (lv_at hl 0 rfl) ?_
              refine tw_getr (D := (dC, dI)) (C := R_Md) (T := F_Md) (N := 64) (ci := 7) (kd := 27) (ct := ct) hx hb htb i_Md hown hK hP hO_3 (hA_3.m m0) rfl rfl 12 (by decide) (htb (.fieldLink R_Md 67 "WaterMenModel" "gaps" "[I") tw_468) (fun _ h9 => h9) rfl d_Md_bind_63 (fun q_22 e_22 m_22 => ?_)
              have hQ := hQ q_22 e_22
              refine lv_iload_n hx hb d_Md_bind_66 rfl (lv_at hl 1 rfl) ?_
              refine lv_iconst (v := 0) hx hb d_Md_bind_67 (by decide +kernel) ?_
              refine tw_astI (ct := ct) (x := 0) hx hb hK hP hD hS hO_3 m_22 rfl (hb_inl c_2 c_3 (by decide +kernel)) ⟨by decide +kernel, by decide +kernel⟩ d_Md_bind_68 (fun f_4 H locs hP hD hS hO_4 hE_4 w_23 ow_23 hF_4 => ?_)
              have hA_4 := hA_3.trans hE_4
              have hQ := hQ f_4 hF_4
              have hQ := hQ hO_4
              refine lv_iconst (v := 1) hx hb d_Md_bind_69 (by decide +kernel) ?_
              refine W.widen (k := 0) (n := 0) (Nat.le_of_ble_eq_true rfl) (Nat.le_of_ble_eq_true rfl) ?_
              exact W.iret (v := 1) hx hb hr (fun t ht hW => ⟨⟨1, (L, f_4), rfl, ⟨hO_4, hA_4.mono (by decide +kernel), trivial, hQ⟩, by rw [ht]; exact hP, va_K.moved hW.alike hK, by rw [hAe]; exact hD⟩, by rw [hAe]; exact hS.F ht⟩) (by rw [hAe]; exact hS.2.2) d_Md_bind_70
            · have hQ := hQ.2 c_11
              refine lv_bipush (v := (-2)) hx hb d_Md_bind_35 (by decide +kernel) ?_
              refine W.widen (k := 0) (n := 0) (Nat.le_of_ble_eq_true rfl) (Nat.le_of_ble_eq_true rfl) ?_
              exact W.iret (v := (-2)) hx hb hr (fun t ht hW => ⟨⟨(-2), (L, f), rfl, ⟨hO_0, hA_0.mono (by decide +kernel), trivial, hQ⟩, by rw [ht]; exact hP, va_K.moved hW.alike hK, by rw [hAe]; exact hD⟩, by rw [hAe]; exact hS.F ht⟩) (by rw [hAe]; exact hS.2.2) d_Md_bind_37
def wpB_Bd_meetsGap_w_2_1 (L : List Nat) (f : TF) (q0 : Nat) (p_0 : Int32) (p_1 : Int32) (Q : Int32 → Prop) (rec_1 : Int32 → Prop) (v3_1 : Int32) : Prop := ∀ x_2 : Int32, ti f q0 4 = x_2 → ((x_2 ≤ v3_1 → Q 0) ∧ (¬ (x_2 ≤ v3_1) → ∀ q_4 : Nat, tr f q0 3 = some q_4 → ∀ x_5 : Int32, ti f q_4 (v3_1 : Int32).toNatClampNeg = x_5 → (((x_5 + 1) < p_0 → rec_1 (v3_1 + 1)) ∧ (¬ ((x_5 + 1) < p_0) → ∀ q_7 : Nat, tr f q0 2 = some q_7 → ∀ x_8 : Int32, ti f q_7 (v3_1 : Int32).toNatClampNeg = x_8 → ((p_1 < (x_8 - 1) → rec_1 (v3_1 + 1)) ∧ (¬ (p_1 < (x_8 - 1)) → Q 1))))))
def wpL_Bd_meetsGap_w_2_1 (L : List Nat) (f : TF) (q0 : Nat) (p_0 : Int32) (p_1 : Int32) (Q : Int32 → Prop) : Nat → Int32 → Prop
  | 0 => fun v3_1 => wpB_Bd_meetsGap_w_2_1 L f q0 p_0 p_1 Q (fun _ => True) v3_1
  | n + 1 => fun v3_1 => wpB_Bd_meetsGap_w_2_1 L f q0 p_0 p_1 Q (wpL_Bd_meetsGap_w_2_1 L f q0 p_0 p_1 Q n) v3_1
def wpR_Bd_meetsGap_w_2_1 (L : List Nat) (f : TF) (q0 : Nat) (p_0 : Int32) (p_1 : Int32) (Q : Int32 → Prop) : Nat → Int32 → Prop
  | 0 => fun _ => True
  | n + 1 => wpL_Bd_meetsGap_w_2_1 L f q0 p_0 p_1 Q n
theorem wpL_Bd_meetsGap_w_2_1_eq {L : List Nat} {f : TF} {q0 : Nat} {p_0 : Int32} {p_1 : Int32} {Q : Int32 → Prop} {n : Nat} : wpL_Bd_meetsGap_w_2_1 L f q0 p_0 p_1 Q n = wpB_Bd_meetsGap_w_2_1 L f q0 p_0 p_1 Q (wpR_Bd_meetsGap_w_2_1 L f q0 p_0 p_1 Q n) := by cases n <;> rfl
theorem wpR_Bd_meetsGap_w_2_1_pos {L : List Nat} {f : TF} {q0 : Nat} {p_0 : Int32} {p_1 : Int32} {Q : Int32 → Prop} {n : Nat} (h : 0 < n) : wpR_Bd_meetsGap_w_2_1 L f q0 p_0 p_1 Q n = wpL_Bd_meetsGap_w_2_1 L f q0 p_0 p_1 Q (n - 1) := by
  cases n with
  | zero => omega
  | succ n => rfl
def wp_Bd_meetsGap_w (L : List Nat) (f : TF) (q0 : Nat) (p_0 : Int32) (p_1 : Int32) (Q : Int32 → Prop) : Prop := wpL_Bd_meetsGap_w_2_1 L f q0 p_0 p_1 Q (((6 : Int32).toInt - (0 : Int32).toInt).toNat) (0 : Int32)
set_option maxHeartbeats 4000000 in
set_option maxRecDepth 100000 in
theorem c_Bd_meetsGap_w (l : Launch) (dC : Nat → ClassId) (dI : Nat → Nat → Nat) (ct : Nat → ClassId) (L : List Nat) (f : TF) (hO_0 : Ok L f) (q0 : Nat) (m0 : q0 ∈ L ∧ tk f q0 = 21) (p_0 : Int32) (p_1 : Int32)   (Q : Int32 → Prop) (hQ : wp_Bd_meetsGap_w L f q0 p_0 p_1 Q) : Met l y_Bd_meetsGap (.code y_Bd_meetsGap b_Bd_meetsGap 4 (some .boolean) :: TB) ({ frames := 0, cells := 0, slots := 0, locals := 0 }) (va_Pc [.ref q0, .int p_0, .int p_1] (PR dC dI (TW ct L f) (TT ct))) (vp_Si (fun r => ((r = 0 ∧ True) ∨ (r = 1 ∧ True)) ∧ Q r)) 0 0 (fun _ => False) := by
  refine Met.ofW (cc := b_Bd_meetsGap) (maxL := 4) (ret := (some .boolean)) (by decide) rfl ?_
  intro p e s m args below meth c s₁ B hml hv
  obtain ⟨rfl, hP, hK, hN⟩ := hv
  have hx := B.exec
  have hb := B.bytes
  have hr := B.returns
  have hts := atoms_spec (ws := (.code y_Bd_meetsGap b_Bd_meetsGap 4 (some .boolean) :: TB)) B.pre
  have htb := fun w (h : w ∈ TB) => hts w (List.mem_cons_of_mem _ h)
  have hown : s.vm.findClass R_Bd = some m.cls := findClass_of_methodNamed B.named
  have hlocks := B.notSynchronized
  have hl := lv_entry ([.ref q0, .int p_0, .int p_1]) (n := 4) (Nat.le_of_ble_eq_true rfl)
  rw [lg_entry_eq]
  generalize (lg_sl ([.ref q0, .int p_0, .int p_1]) ++ List.replicate (4 - (lg_sl ([.ref q0, .int p_0, .int p_1])).length) Slot.unset).toArray = ls at hl ⊢
  have hl : lv_has ls 4 [(0, .ref q0), (1, .int p_0), (2, .int p_1)] := hl
  unfold wp_Bd_meetsGap_w at hQ
  refine lv_iconst (v := 0) hx hb d_Bd_meetsGap_0 (by decide +kernel) ?_
  refine lv_istore_n (lv' := [(3, .int 0), (0, .ref q0), (1, .int p_0), (2, .int p_1)]) hx hb d_Bd_meetsGap_1 rfl hl (by decide) rfl (fun ls hl => ?_)
  have cut_1 : ∀ (n_1 : Nat) (v3_1 : Int32) (ls : Array Slot), ¬ (v3_1 < 0) → ¬ (6 < v3_1) → (6 : Int32).toInt - (v3_1 : Int32).toInt ≤ (n_1 : Int) → wpL_Bd_meetsGap_w_2_1 L f q0 p_0 p_1 Q n_1 v3_1 → lv_has ls 4 [(0, .ref q0), (1, .int p_0), (2, .int p_1), (3, .int v3_1)] → W p l e (headSpec (.code y_Bd_meetsGap b_Bd_meetsGap 4 (some .boolean) :: TB) ({ frames := 0, cells := 0, slots := 0, locals := 0 })).room s m [.ref q0, .int p_0, .int p_1].toArray below meth c s.heap [] 0 0 (MQ below (vp_Si (fun r => ((r = 0 ∧ True) ∨ (r = 1 ∧ True)) ∧ Q r)) [.ref q0, .int p_0, .int p_1].toArray s 0 0 (fun _ => False)) (F0 m 2 ls []) := by
    intro n_1
    induction n_1 using Nat.strongRecOn with
    | _ n_1 ih_1 =>
      intro v3_1 ls iv0_1 iv1_1 hm_1 hQ hl
      rw [wpL_Bd_meetsGap_w_2_1_eq] at hQ
      obtain ⟨rec_1, hrec_1⟩ : ∃ g, wpR_Bd_meetsGap_w_2_1 L f q0 p_0 p_1 Q n_1 = g := ⟨_, rfl⟩
      rw [hrec_1] at hQ
      unfold wpB_Bd_meetsGap_w_2_1 at hQ
      refine lv_iload_n hx hb d_Bd_meetsGap_2 rfl (lv_at hl 3 rfl) ?_
      refine lv_aload_n hx hb d_Bd_meetsGap_3 rfl (lv_at hl 0 rfl) ?_
      refine tw_geti (D := (dC, dI)) (C := R_Bd) (T := F_Bd) (N := 5) (ci := 8) (kd := 21) (ct := ct) hx hb htb i_Bd hown hK hP hO_0 m0 rfl rfl 4 (by decide) (htb (.fieldLink R_Bd 25 "WaterMen$Bond" "gapCount" "I") tw_470) (fun _ h9 => h9) rfl d_Bd_meetsGap_4 (fun x_2 e_2 b_2 => ?_)
      have hQ := hQ x_2 e_2
      refine lv_icmp_ge (tgt := 42) hx hb d_Bd_meetsGap_7 (by decide) (fun c_3 => ?_) (fun c_3 => ?_)
      · have hQ := hQ.1 c_3
        refine lv_iconst (v := 0) hx hb d_Bd_meetsGap_42 (by decide +kernel) ?_
        exact W.zret (v := 0) hx hb hr (by decide +kernel) (fun t ht hW => ⟨0, rfl, ⟨(Or.inl ⟨rfl, trivial⟩), hQ⟩, ht⟩) t_nil d_Bd_meetsGap_43
      · have hQ := hQ.2 c_3
        refine lv_iload_n hx hb d_Bd_meetsGap_10 rfl (lv_at hl 1 rfl) ?_
        refine lv_aload_n hx hb d_Bd_meetsGap_11 rfl (lv_at hl 0 rfl) ?_
        refine tw_getr (D := (dC, dI)) (C := R_Bd) (T := F_Bd) (N := 5) (ci := 8) (kd := 21) (ct := ct) hx hb htb i_Bd hown hK hP hO_0 m0 rfl rfl 3 (by decide) (htb (.fieldLink R_Bd 15 "WaterMen$Bond" "gapTo" "[I") tw_461) (fun _ h9 => h9) rfl d_Bd_meetsGap_12 (fun q_4 e_4 m_4 => ?_)
        have hQ := hQ q_4 e_4
        refine lv_iload_n hx hb d_Bd_meetsGap_15 rfl (lv_at hl 3 rfl) ?_
        refine tw_aldI (ct := ct) hx hb hK hP hO_0 m_4 rfl ((fun (a_0 : Int32) (a_1 : Int32) (k_0 : ¬ (a_0 < 0)) (k_1 : ¬ (a_1 ≤ a_0)) (k_2 : ¬ (6 < a_1)) => (show vp_in (a_0) 6 from by have z0 : (0 : Int32).toInt = 0 := (by decide +kernel); have z1 : (6 : Int32).toInt = 6 := (by decide +kernel); have r0 := fb_rng (a_0); have r1 := fb_rng (a_1); have e0 := k_0; rw [Int32.lt_iff_toInt_lt, z0] at e0; have e1 := k_1; rw [Int32.le_iff_toInt_le] at e1; have e2 := k_2; rw [Int32.lt_iff_toInt_lt, z1] at e2; rw [vp_in_iff]; omega)) v3_1 x_2 iv0_1 c_3 b_2.2) d_Bd_meetsGap_16 (fun x_5 e_5 b_5 => ?_)
        have hQ := hQ x_5 e_5
        refine lv_iconst (v := 1) hx hb d_Bd_meetsGap_17 (by decide +kernel) ?_
        refine lv_iadd hx hb d_Bd_meetsGap_18 ?_
        refine lv_icmp_gt (tgt := 36) hx hb d_Bd_meetsGap_19 (by decide) (fun c_6 => ?_) (fun c_6 => ?_)
        · have hQ := hQ.1 c_6
          refine lv_iinc (v := (v3_1 + 1)) (lv' := [(3, .int (v3_1 + 1)), (0, .ref q0), (1, .int p_0), (2, .int p_1)]) hx hb d_Bd_meetsGap_36 hl (k := 3) rfl rfl (by decide) rfl (fun ls hl => ?_)
          refine lv_goto (tgt := 2) hx hb d_Bd_meetsGap_39 (by decide) ?_
          exact ih_1 (n_1 - 1) (ms_1 ((fun (a_0 : Int32) (a_1 : Int32) (k_0 : ¬ (a_1 ≤ a_0)) (k_1 : ¬ (6 < a_1)) => (show 1 ≤ (6 : Int32).toInt - (a_0).toInt ∧ (6 : Int32).toInt - ((a_0) + (1 : Int32)).toInt + 1 ≤ (6 : Int32).toInt - (a_0).toInt from by have z0 : (1 : Int32).toInt = 1 := (by decide +kernel); have z1 : (6 : Int32).toInt = 6 := (by decide +kernel); have r0 := fb_rng (a_0); have r1 := fb_rng (a_1); have e0 := k_0; rw [Int32.le_iff_toInt_le] at e0; have e1 := k_1; rw [Int32.lt_iff_toInt_lt, z1] at e1; obtain ⟨n_0, hn_0, s0⟩ := nd_add (x := (a_0)) (y := (1 : Int32)) (by (try rw [z0]); omega) (by (try rw [z0]); omega); rw [z0] at s0; rw [hn_0]; (try rw [z1]); omega)) v3_1 x_2 c_3 b_2.2) hm_1) (v3_1 + 1) _ (show ¬ ((v3_1 + 1) < 0) from by have e0 := iv0_1; rw [Int32.lt_iff_toInt_lt] at e0; have e1 := iv1_1; rw [Int32.lt_iff_toInt_lt] at e1; have z0 : (0 : Int32).toInt = 0 := (by decide +kernel); have z1 : (1 : Int32).toInt = 1 := (by decide +kernel); have z2 : (6 : Int32).toInt = 6 := (by decide +kernel); have ss := fb_addI (x := v3_1) (y := 1) (by omega) (by omega); rw [Int32.lt_iff_toInt_lt]; omega) (show ¬ (6 < (v3_1 + 1)) from ((fun (a_0 : Int32) (a_1 : Int32) (k_0 : ¬ (a_1 ≤ a_0)) (k_1 : ¬ (6 < a_1)) => (show ¬ (6 < (a_0 + 1)) from by have z0 : (1 : Int32).toInt = 1 := (by decide +kernel); have z1 : (6 : Int32).toInt = 6 := (by decide +kernel); have r0 := fb_rng (a_0); have r1 := fb_rng (a_1); have e0 := k_0; rw [Int32.le_iff_toInt_le] at e0; have e1 := k_1; rw [Int32.lt_iff_toInt_lt, z1] at e1; obtain ⟨n_0, hn_0, s0⟩ := nd_add (x := (a_0)) (y := (1 : Int32)) (by (try rw [z0]); omega) (by (try rw [z0]); omega); rw [z0] at s0; rw [hn_0, Int32.lt_iff_toInt_lt, z1]; omega)) v3_1 x_2 c_3 b_2.2)) (by exact ms_2 ((fun (a_0 : Int32) (a_1 : Int32) (k_0 : ¬ (a_1 ≤ a_0)) (k_1 : ¬ (6 < a_1)) => (show 1 ≤ (6 : Int32).toInt - (a_0).toInt ∧ (6 : Int32).toInt - ((a_0) + (1 : Int32)).toInt + 1 ≤ (6 : Int32).toInt - (a_0).toInt from by have z0 : (1 : Int32).toInt = 1 := (by decide +kernel); have z1 : (6 : Int32).toInt = 6 := (by decide +kernel); have r0 := fb_rng (a_0); have r1 := fb_rng (a_1); have e0 := k_0; rw [Int32.le_iff_toInt_le] at e0; have e1 := k_1; rw [Int32.lt_iff_toInt_lt, z1] at e1; obtain ⟨n_0, hn_0, s0⟩ := nd_add (x := (a_0)) (y := (1 : Int32)) (by (try rw [z0]); omega) (by (try rw [z0]); omega); rw [z0] at s0; rw [hn_0]; (try rw [z1]); omega)) v3_1 x_2 c_3 b_2.2) hm_1) (by rw [← hrec_1, wpR_Bd_meetsGap_w_2_1_pos (ms_3 ((fun (a_0 : Int32) (a_1 : Int32) (k_0 : ¬ (a_1 ≤ a_0)) (k_1 : ¬ (6 < a_1)) => (show 1 ≤ (6 : Int32).toInt - (a_0).toInt ∧ (6 : Int32).toInt - ((a_0) + (1 : Int32)).toInt + 1 ≤ (6 : Int32).toInt - (a_0).toInt from by have z0 : (1 : Int32).toInt = 1 := (by decide +kernel); have z1 : (6 : Int32).toInt = 6 := (by decide +kernel); have r0 := fb_rng (a_0); have r1 := fb_rng (a_1); have e0 := k_0; rw [Int32.le_iff_toInt_le] at e0; have e1 := k_1; rw [Int32.lt_iff_toInt_lt, z1] at e1; obtain ⟨n_0, hn_0, s0⟩ := nd_add (x := (a_0)) (y := (1 : Int32)) (by (try rw [z0]); omega) (by (try rw [z0]); omega); rw [z0] at s0; rw [hn_0]; (try rw [z1]); omega)) v3_1 x_2 c_3 b_2.2) hm_1)] at hQ; exact hQ) (lv_sub hl [1, 2, 3, 0] rfl)
        · have hQ := hQ.2 c_6
          refine lv_iload_n hx hb d_Bd_meetsGap_22 rfl (lv_at hl 2 rfl) ?_
          refine lv_aload_n hx hb d_Bd_meetsGap_23 rfl (lv_at hl 0 rfl) ?_
          refine tw_getr (D := (dC, dI)) (C := R_Bd) (T := F_Bd) (N := 5) (ci := 8) (kd := 21) (ct := ct) hx hb htb i_Bd hown hK hP hO_0 m0 rfl rfl 2 (by decide) (htb (.fieldLink R_Bd 9 "WaterMen$Bond" "gapFrom" "[I") tw_460) (fun _ h9 => h9) rfl d_Bd_meetsGap_24 (fun q_7 e_7 m_7 => ?_)
          have hQ := hQ q_7 e_7
          refine lv_iload_n hx hb d_Bd_meetsGap_27 rfl (lv_at hl 3 rfl) ?_
          refine tw_aldI (ct := ct) hx hb hK hP hO_0 m_7 rfl ((fun (a_0 : Int32) (a_1 : Int32) (k_0 : ¬ (a_0 < 0)) (k_1 : ¬ (a_1 ≤ a_0)) (k_2 : ¬ (6 < a_1)) => (show vp_in (a_0) 6 from by have z0 : (0 : Int32).toInt = 0 := (by decide +kernel); have z1 : (6 : Int32).toInt = 6 := (by decide +kernel); have r0 := fb_rng (a_0); have r1 := fb_rng (a_1); have e0 := k_0; rw [Int32.lt_iff_toInt_lt, z0] at e0; have e1 := k_1; rw [Int32.le_iff_toInt_le] at e1; have e2 := k_2; rw [Int32.lt_iff_toInt_lt, z1] at e2; rw [vp_in_iff]; omega)) v3_1 x_2 iv0_1 c_3 b_2.2) d_Bd_meetsGap_28 (fun x_8 e_8 b_8 => ?_)
          have hQ := hQ x_8 e_8
          refine lv_iconst (v := 1) hx hb d_Bd_meetsGap_29 (by decide +kernel) ?_
          refine lv_isub hx hb d_Bd_meetsGap_30 ?_
          refine lv_icmp_lt (tgt := 36) hx hb d_Bd_meetsGap_31 (by decide) (fun c_9 => ?_) (fun c_9 => ?_)
          · have hQ := hQ.1 c_9
            refine lv_iinc (v := (v3_1 + 1)) (lv' := [(3, .int (v3_1 + 1)), (0, .ref q0), (1, .int p_0), (2, .int p_1)]) hx hb d_Bd_meetsGap_36 hl (k := 3) rfl rfl (by decide) rfl (fun ls hl => ?_)
            refine lv_goto (tgt := 2) hx hb d_Bd_meetsGap_39 (by decide) ?_
            exact ih_1 (n_1 - 1) (ms_1 ((fun (a_0 : Int32) (a_1 : Int32) (k_0 : ¬ (a_1 ≤ a_0)) (k_1 : ¬ (6 < a_1)) => (show 1 ≤ (6 : Int32).toInt - (a_0).toInt ∧ (6 : Int32).toInt - ((a_0) + (1 : Int32)).toInt + 1 ≤ (6 : Int32).toInt - (a_0).toInt from by have z0 : (1 : Int32).toInt = 1 := (by decide +kernel); have z1 : (6 : Int32).toInt = 6 := (by decide +kernel); have r0 := fb_rng (a_0); have r1 := fb_rng (a_1); have e0 := k_0; rw [Int32.le_iff_toInt_le] at e0; have e1 := k_1; rw [Int32.lt_iff_toInt_lt, z1] at e1; obtain ⟨n_0, hn_0, s0⟩ := nd_add (x := (a_0)) (y := (1 : Int32)) (by (try rw [z0]); omega) (by (try rw [z0]); omega); rw [z0] at s0; rw [hn_0]; (try rw [z1]); omega)) v3_1 x_2 c_3 b_2.2) hm_1) (v3_1 + 1) _ (show ¬ ((v3_1 + 1) < 0) from by have e0 := iv0_1; rw [Int32.lt_iff_toInt_lt] at e0; have e1 := iv1_1; rw [Int32.lt_iff_toInt_lt] at e1; have z0 : (0 : Int32).toInt = 0 := (by decide +kernel); have z1 : (1 : Int32).toInt = 1 := (by decide +kernel); have z2 : (6 : Int32).toInt = 6 := (by decide +kernel); have ss := fb_addI (x := v3_1) (y := 1) (by omega) (by omega); rw [Int32.lt_iff_toInt_lt]; omega) (show ¬ (6 < (v3_1 + 1)) from ((fun (a_0 : Int32) (a_1 : Int32) (k_0 : ¬ (a_1 ≤ a_0)) (k_1 : ¬ (6 < a_1)) => (show ¬ (6 < (a_0 + 1)) from by have z0 : (1 : Int32).toInt = 1 := (by decide +kernel); have z1 : (6 : Int32).toInt = 6 := (by decide +kernel); have r0 := fb_rng (a_0); have r1 := fb_rng (a_1); have e0 := k_0; rw [Int32.le_iff_toInt_le] at e0; have e1 := k_1; rw [Int32.lt_iff_toInt_lt, z1] at e1; obtain ⟨n_0, hn_0, s0⟩ := nd_add (x := (a_0)) (y := (1 : Int32)) (by (try rw [z0]); omega) (by (try rw [z0]); omega); rw [z0] at s0; rw [hn_0, Int32.lt_iff_toInt_lt, z1]; omega)) v3_1 x_2 c_3 b_2.2)) (by exact ms_2 ((fun (a_0 : Int32) (a_1 : Int32) (k_0 : ¬ (a_1 ≤ a_0)) (k_1 : ¬ (6 < a_1)) => (show 1 ≤ (6 : Int32).toInt - (a_0).toInt ∧ (6 : Int32).toInt - ((a_0) + (1 : Int32)).toInt + 1 ≤ (6 : Int32).toInt - (a_0).toInt from by have z0 : (1 : Int32).toInt = 1 := (by decide +kernel); have z1 : (6 : Int32).toInt = 6 := (by decide +kernel); have r0 := fb_rng (a_0); have r1 := fb_rng (a_1); have e0 := k_0; rw [Int32.le_iff_toInt_le] at e0; have e1 := k_1; rw [Int32.lt_iff_toInt_lt, z1] at e1; obtain ⟨n_0, hn_0, s0⟩ := nd_add (x := (a_0)) (y := (1 : Int32)) (by (try rw [z0]); omega) (by (try rw [z0]); omega); rw [z0] at s0; rw [hn_0]; (try rw [z1]); omega)) v3_1 x_2 c_3 b_2.2) hm_1) (by rw [← hrec_1, wpR_Bd_meetsGap_w_2_1_pos (ms_3 ((fun (a_0 : Int32) (a_1 : Int32) (k_0 : ¬ (a_1 ≤ a_0)) (k_1 : ¬ (6 < a_1)) => (show 1 ≤ (6 : Int32).toInt - (a_0).toInt ∧ (6 : Int32).toInt - ((a_0) + (1 : Int32)).toInt + 1 ≤ (6 : Int32).toInt - (a_0).toInt from by have z0 : (1 : Int32).toInt = 1 := (by decide +kernel); have z1 : (6 : Int32).toInt = 6 := (by decide +kernel); have r0 := fb_rng (a_0); have r1 := fb_rng (a_1); have e0 := k_0; rw [Int32.le_iff_toInt_le] at e0; have e1 := k_1; rw [Int32.lt_iff_toInt_lt, z1] at e1; obtain ⟨n_0, hn_0, s0⟩ := nd_add (x := (a_0)) (y := (1 : Int32)) (by (try rw [z0]); omega) (by (try rw [z0]); omega); rw [z0] at s0; rw [hn_0]; (try rw [z1]); omega)) v3_1 x_2 c_3 b_2.2) hm_1)] at hQ; exact hQ) (lv_sub hl [1, 2, 3, 0] rfl)
          · have hQ := hQ.2 c_9
            refine lv_iconst (v := 1) hx hb d_Bd_meetsGap_34 (by decide +kernel) ?_
            exact W.zret (v := 1) hx hb hr (by decide +kernel) (fun t ht hW => ⟨1, rfl, ⟨(Or.inr ⟨rfl, trivial⟩), hQ⟩, ht⟩) t_nil d_Bd_meetsGap_35
  exact cut_1 ((6 : Int32).toInt - (0 : Int32).toInt).toNat (0 : Int32) _ (by decide +kernel) (by decide +kernel) (by exact ms_e _ _) hQ (lv_sub hl [1, 2, 3, 0] rfl)
def W_Bd_addGap_w : List (Nat × Nat) := [(21, 4), (22, 1000), (23, 1000)]
def wp_Bd_addGap_w (L : List Nat) (f : TF) (q0 : Nat) (p_0 : Int32) (p_1 : Int32) (Q : Int32 → List Nat → TF → Prop) : Prop := ∀ q_1 : Nat, tr f q0 2 = some q_1 → ∀ f_1 : TF, f_1 = sI f q_1 ((ti f q0 4) : Int32).toNatClampNeg p_0 → Ok L f_1 → ∀ q_3 : Nat, tr f_1 q0 3 = some q_3 → ∀ f_2 : TF, f_2 = sI f_1 q_3 ((ti f q0 4) : Int32).toNatClampNeg p_1 → Ok L f_2 → ∀ f_3 : TF, f_3 = sI f_2 q0 4 ((ti f q0 4) + 1) → Ok L f_3 → Q ((ti f q0 4) + 1) L f_3
set_option maxHeartbeats 4000000 in
set_option maxRecDepth 100000 in
theorem c_Bd_addGap_w (l : Launch) (dC : Nat → ClassId) (dI : Nat → Nat → Nat) (ct : Nat → ClassId) (L : List Nat) (f : TF) (hO_0 : Ok L f) (q0 : Nat) (m0 : q0 ∈ L ∧ tk f q0 = 21) (sz : Nat) (p_0 : Int32) (p_1 : Int32)  (as_0 : ¬ (5 < (ti f q0 4))) (Q : Int32 → List Nat → TF → Prop) (hQ : wp_Bd_addGap_w L f q0 p_0 p_1 Q) : Met l y_Bd_addGap (.code y_Bd_addGap b_Bd_addGap 3 (some .int) :: TB) ({ frames := 0, cells := 0, slots := 0, locals := 0 }) (va_Pc [.ref q0, .int p_0, .int p_1] (PC dC dI (TW ct L f) (TT ct) sz)) (va_Qi (fun r (u : TSt) => Ok u.1 u.2 ∧ Ext W_Bd_addGap_w L f u.1 u.2 ∧ (True) ∧ Q r u.1 u.2) (fun (u : TSt) t => va_P (dC, dI) vwCl (TW ct u.1 u.2) t.heap ∧ va_K (dC, dI) vwCl (TT ct) t ∧ va_D (va_A (TW ct L f) sz) (TW ct u.1 u.2)) (va_A (TW ct L f) sz)) 0 0 (va_A (TW ct L f) sz) := by
  refine Met.ofW (cc := b_Bd_addGap) (maxL := 3) (ret := (some .int)) (by decide) rfl ?_
  intro p e s m args below meth c s₁ B hml hv
  obtain ⟨rfl, hsz, hP, hK, hD0, hN⟩ := hv
  have hx := B.exec
  have hb := B.bytes
  have hr := B.returns
  have hts := atoms_spec (ws := (.code y_Bd_addGap b_Bd_addGap 3 (some .int) :: TB)) B.pre
  have htb := fun w (h : w ∈ TB) => hts w (List.mem_cons_of_mem _ h)
  have hown : s.vm.findClass R_Bd = some m.cls := findClass_of_methodNamed B.named
  have hlocks := B.notSynchronized
  have hl := lv_entry ([.ref q0, .int p_0, .int p_1]) (n := 3) (Nat.le_of_ble_eq_true rfl)
  rw [lg_entry_eq]
  generalize (lg_sl ([.ref q0, .int p_0, .int p_1]) ++ List.replicate (3 - (lg_sl ([.ref q0, .int p_0, .int p_1])).length) Slot.unset).toArray = ls at hl ⊢
  have hl : lv_has ls 3 [(0, .ref q0), (1, .int p_0), (2, .int p_1)] := hl
  subst hsz
  have hD := hD0.self (sz := s.heap.size)
  obtain ⟨A, hAe⟩ : ∃ A, va_A (TW ct L f) s.heap.size = A := ⟨_, rfl⟩
  rw [hAe] at hD
  have hA : ∀ q : Nat, s.heap.size ≤ q → A q := fun q h => by rw [← hAe]; exact Or.inr h
  have hS : va_S A s.heap s.heap [] := va_S.rf
  have hA_0 : Ext [] L f L f := Ext.rf
  suffices hGo : ∀ (H : Heap) (locs : List Loc), va_P (dC, dI) vwCl (TW ct L f) H → va_S A s.heap H locs → W p l e (headSpec (.code y_Bd_addGap b_Bd_addGap 3 (some .int) :: TB) ({ frames := 0, cells := 0, slots := 0, locals := 0 })).room s m [.ref q0, .int p_0, .int p_1].toArray below meth c H locs 0 0 (MQ below (va_Qi (fun r (u : TSt) => Ok u.1 u.2 ∧ Ext W_Bd_addGap_w L f u.1 u.2 ∧ (True) ∧ Q r u.1 u.2) (fun (u : TSt) t => va_P (dC, dI) vwCl (TW ct u.1 u.2) t.heap ∧ va_K (dC, dI) vwCl (TT ct) t ∧ va_D (va_A (TW ct L f) s.heap.size) (TW ct u.1 u.2)) (va_A (TW ct L f) s.heap.size)) [.ref q0, .int p_0, .int p_1].toArray s 0 0 (va_A (TW ct L f) s.heap.size)) (F0 m 0 ls []) from hGo _ _ hP hS
  clear hP hS
  intro H locs hP hS
  unfold wp_Bd_addGap_w at hQ
  have bp_4 := hO_0.i m0 (show slotD 21 4 = some (.inl (0, 6)) from rfl)
  refine lv_aload_n hx hb d_Bd_addGap_0 rfl (lv_at hl 0 rfl) ?_
  refine tw_getr (D := (dC, dI)) (C := R_Bd) (T := F_Bd) (N := 5) (ci := 8) (kd := 21) (ct := ct) hx hb htb i_Bd hown hK hP hO_0 m0 rfl rfl 2 (by decide) (htb (.fieldLink R_Bd 9 "WaterMen$Bond" "gapFrom" "[I") tw_460) (fun _ h9 => h9) rfl d_Bd_addGap_1 (fun q_1 e_1 m_1 => ?_)
  have hQ := hQ q_1 e_1
  refine lv_aload_n hx hb d_Bd_addGap_4 rfl (lv_at hl 0 rfl) ?_
  refine tw_getI (x := (ti f q0 4)) (D := (dC, dI)) (C := R_Bd) (T := F_Bd) (N := 5) (ci := 8) (kd := 21) (ct := ct) hx hb htb i_Bd hown hK hP m0 rfl rfl 4 rfl (by decide) (htb (.fieldLink R_Bd 25 "WaterMen$Bond" "gapCount" "I") tw_470) (fun _ h9 => h9) rfl d_Bd_addGap_5 ?_
  refine lv_iload_n hx hb d_Bd_addGap_8 rfl (lv_at hl 1 rfl) ?_
  refine tw_astI (ct := ct) (x := p_0) hx hb hK hP hD hS hO_0 m_1 rfl (hb_inl bp_4.1 as_0 (by decide +kernel)) (i32_full _) d_Bd_addGap_9 (fun f_1 H locs hP hD hS hO_1 hE_1 w_2 ow_2 hF_1 => ?_)
  have hA_1 := hA_0.trans hE_1
  have hQ := hQ f_1 hF_1
  have hQ := hQ hO_1
  refine lv_aload_n hx hb d_Bd_addGap_10 rfl (lv_at hl 0 rfl) ?_
  refine tw_getr (D := (dC, dI)) (C := R_Bd) (T := F_Bd) (N := 5) (ci := 8) (kd := 21) (ct := ct) hx hb htb i_Bd hown hK hP hO_1 (hA_1.m m0) rfl rfl 3 (by decide) (htb (.fieldLink R_Bd 15 "WaterMen$Bond" "gapTo" "[I") tw_461) (fun _ h9 => h9) rfl d_Bd_addGap_11 (fun q_3 e_3 m_3 => ?_)
  have hQ := hQ q_3 e_3
  refine lv_aload_n hx hb d_Bd_addGap_14 rfl (lv_at hl 0 rfl) ?_
  refine tw_getI (x := (ti f q0 4)) (D := (dC, dI)) (C := R_Bd) (T := F_Bd) (N := 5) (ci := 8) (kd := 21) (ct := ct) hx hb htb i_Bd hown hK hP (hA_1.m m0) rfl rfl 4 ((hA_1.ei m0 rfl).trans rfl) (by decide) (htb (.fieldLink R_Bd 25 "WaterMen$Bond" "gapCount" "I") tw_470) (fun _ h9 => h9) rfl d_Bd_addGap_15 ?_
  refine lv_iload_n hx hb d_Bd_addGap_18 rfl (lv_at hl 2 rfl) ?_
  refine tw_astI (ct := ct) (x := p_1) hx hb hK hP hD hS hO_1 m_3 rfl (hb_inl bp_4.1 as_0 (by decide +kernel)) (i32_full _) d_Bd_addGap_19 (fun f_2 H locs hP hD hS hO_2 hE_2 w_4 ow_4 hF_2 => ?_)
  have hA_2 := hA_1.trans hE_2
  have hQ := hQ f_2 hF_2
  have hQ := hQ hO_2
  refine lv_aload_n hx hb d_Bd_addGap_20 rfl (lv_at hl 0 rfl) ?_
  refine lv_dup hx hb d_Bd_addGap_21 rfl ?_
  refine tw_getI (x := (ti f q0 4)) (D := (dC, dI)) (C := R_Bd) (T := F_Bd) (N := 5) (ci := 8) (kd := 21) (ct := ct) hx hb htb i_Bd hown hK hP (hA_2.m m0) rfl rfl 4 ((hA_2.ei m0 rfl).trans rfl) (by decide) (htb (.fieldLink R_Bd 25 "WaterMen$Bond" "gapCount" "I") tw_470) (fun _ h9 => h9) rfl d_Bd_addGap_22 ?_
  refine lv_iconst (v := 1) hx hb d_Bd_addGap_25 (by decide +kernel) ?_
  refine lv_iadd hx hb d_Bd_addGap_26 ?_
  refine tw_puti (v := ((ti f q0 4) + 1)) (D := (dC, dI)) (C := R_Bd) (T := F_Bd) (N := 5) (ci := 8) (kd := 21) (ct := ct) (ty := .int) hx hb htb i_Bd t_Bd t_Bd_ok n_Bd hown hK hP hD hS hO_2 (hA_2.m m0) rfl rfl 4 (by decide) (htb (.fieldLink R_Bd 25 "WaterMen$Bond" "gapCount" "I") tw_470) (fun _ h9 => h9) rfl (by decide +kernel) rfl rfl rfl ⟨(show ¬ (((ti f q0 4) + 1) < 0) from ((fun (a_0 : Int32) (k_0 : ¬ (a_0 < 0)) (k_1 : ¬ (6 < a_0)) => (show ¬ ((a_0 + 1) < 0) from by have z0 : (0 : Int32).toInt = 0 := (by decide +kernel); have z1 : (1 : Int32).toInt = 1 := (by decide +kernel); have z2 : (6 : Int32).toInt = 6 := (by decide +kernel); have r0 := fb_rng (a_0); have e0 := k_0; rw [Int32.lt_iff_toInt_lt, z0] at e0; have e1 := k_1; rw [Int32.lt_iff_toInt_lt, z2] at e1; obtain ⟨n_0, hn_0, s0⟩ := nd_add (x := a_0) (y := (1 : Int32)) (by (try rw [z1]); omega) (by (try rw [z1]); omega); rw [z1] at s0; rw [hn_0, Int32.lt_iff_toInt_lt, z0]; omega)) (ti f q0 4) bp_4.1 bp_4.2)), (show ¬ (6 < ((ti f q0 4) + 1)) from ((fun (a_0 : Int32) (k_0 : ¬ (5 < a_0)) => (show ¬ (6 < (a_0 + 1)) from by have z0 : (1 : Int32).toInt = 1 := (by decide +kernel); have z1 : (5 : Int32).toInt = 5 := (by decide +kernel); have z2 : (6 : Int32).toInt = 6 := (by decide +kernel); have r0 := fb_rng (a_0); have e0 := k_0; rw [Int32.lt_iff_toInt_lt, z1] at e0; obtain ⟨n_0, hn_0, s0⟩ := nd_add (x := a_0) (y := (1 : Int32)) (by (try rw [z0]); omega) (by (try rw [z0]); omega); rw [z0] at s0; rw [hn_0, Int32.lt_iff_toInt_lt, z2]; omega)) (ti f q0 4) as_0))⟩ d_Bd_addGap_27 (fun f_3 H locs hP hD hS hO_3 hE_3 w_5 hF_3 => ?_)
  have hA_3 := hA_2.trans hE_3
  have hQ := hQ f_3 hF_3
  have hQ := hQ hO_3
  refine lv_aload_n hx hb d_Bd_addGap_30 rfl (lv_at hl 0 rfl) ?_
  refine tw_getI (x := ((ti f q0 4) + 1)) (D := (dC, dI)) (C := R_Bd) (T := F_Bd) (N := 5) (ci := 8) (kd := 21) (ct := ct) hx hb htb i_Bd hown hK hP (hA_3.m m0) rfl rfl 4 w_5 (by decide) (htb (.fieldLink R_Bd 25 "WaterMen$Bond" "gapCount" "I") tw_470) (fun _ h9 => h9) rfl d_Bd_addGap_31 ?_
  refine W.widen (k := 0) (n := 0) (Nat.le_of_ble_eq_true rfl) (Nat.le_of_ble_eq_true rfl) ?_
  exact W.iret (v := ((ti f q0 4) + 1)) hx hb hr (fun t ht hW => ⟨⟨((ti f q0 4) + 1), (L, f_3), rfl, ⟨hO_3, hA_3.mono (by decide +kernel), trivial, hQ⟩, by rw [ht]; exact hP, va_K.moved hW.alike hK, by rw [hAe]; exact hD⟩, by rw [hAe]; exact hS.F ht⟩) (by rw [hAe]; exact hS.2.2) d_Bd_addGap_34
def W_WM_absent_w : List (Nat × Nat) := [(21, 4), (22, 1000), (23, 1000)]
def wp_WM_absent_w (L : List Nat) (f : TF) (q0 : Nat) (p_0 : Int32) (p_1 : Int32) (p_2 : Int32) (Q : Int32 → List Nat → TF → Prop) : Prop := wp_WM_manAt_w L f q0 p_0 (fun (r_1 : Option Nat) => ((r_1 = none → Q (-1) L f) ∧ (∀ q_1 : Nat, r_1 = some q_1 → ((p_1 < 0 → Q (-1) L f) ∧ (¬ (p_1 < 0) → ((p_2 < p_1 → Q (-1) L f) ∧ (¬ (p_2 < p_1) → wp_WM_today_w L f q0 (fun (r_4 : Int32) => (((p_2 ≤ r_4 → ((tr f q_1 1 = none → Q (-2) L f) ∧ (∀ q_8 : Nat, tr f q_1 1 = some q_8 → ∀ x_9 : Int32, ti f q_8 1 = x_9 → ((x_9 ≤ p_1 → ∀ x_11 : Int32, ti f q_1 0 = x_11 → ((x_11 = 1 → wp_Bd_meetsGap_w L f q_8 p_1 p_2 (fun (r_13 : Int32) => ((r_13 = 0 → ∀ x_14 : Int32, ti f q_8 4 = x_14 → ((x_14 < 6 → wp_Bd_addGap_w L f q_8 p_1 p_2 (fun (r_16 : Int32) (L_1 : List Nat) (f_1 : TF) => Ok L_1 f_1 → Ext W_Bd_addGap_w L f L_1 f_1 → Q r_16 L_1 f_1)) ∧ (¬ (x_14 < 6) → Q (-3) L f))) ∧ (r_13 = 1 → Q (-2) L f)))) ∧ (¬ (x_11 = 1) → Q (-2) L f))) ∧ (¬ (x_9 ≤ p_1) → Q (-1) L f))))) ∧ (¬ (p_2 ≤ r_4) → Q (-1) L f)))))))))))
set_option maxHeartbeats 4000000 in
set_option maxRecDepth 100000 in
theorem c_WM_absent_w (l : Launch) (dC : Nat → ClassId) (dI : Nat → Nat → Nat) (ct : Nat → ClassId) (L : List Nat) (f : TF) (hO_0 : Ok L f) (q0 : Nat) (m0 : q0 ∈ L ∧ tk f q0 = 0) (sz : Nat) (p_0 : Int32) (p_1 : Int32) (p_2 : Int32)   (Q : Int32 → List Nat → TF → Prop) (hQ : wp_WM_absent_w L f q0 p_0 p_1 p_2 Q) : Met l y_WM_absent (.code y_WM_absent b_WM_absent 6 (some .int) :: TB) ({ frames := 1, cells := 0, slots := 0, locals := 23 }) (va_Pc [.ref q0, .int p_0, .int p_1, .int p_2] (PC dC dI (TW ct L f) (TT ct) sz)) (va_Qi (fun r (u : TSt) => Ok u.1 u.2 ∧ Ext W_WM_absent_w L f u.1 u.2 ∧ (True) ∧ Q r u.1 u.2) (fun (u : TSt) t => va_P (dC, dI) vwCl (TW ct u.1 u.2) t.heap ∧ va_K (dC, dI) vwCl (TT ct) t ∧ va_D (va_A (TW ct L f) sz) (TW ct u.1 u.2)) (va_A (TW ct L f) sz)) 0 0 (va_A (TW ct L f) sz) := by
  refine Met.ofW (cc := b_WM_absent) (maxL := 6) (ret := (some .int)) (by decide) rfl ?_
  intro p e s m args below meth c s₁ B hml hv
  obtain ⟨rfl, hsz, hP, hK, hD0, hN⟩ := hv
  have hx := B.exec
  have hb := B.bytes
  have hr := B.returns
  have hts := atoms_spec (ws := (.code y_WM_absent b_WM_absent 6 (some .int) :: TB)) B.pre
  have htb := fun w (h : w ∈ TB) => hts w (List.mem_cons_of_mem _ h)
  have hown : s.vm.findClass R_WM = some m.cls := findClass_of_methodNamed B.named
  have hlocks := B.notSynchronized
  have hl := lv_entry ([.ref q0, .int p_0, .int p_1, .int p_2]) (n := 6) (Nat.le_of_ble_eq_true rfl)
  rw [lg_entry_eq]
  generalize (lg_sl ([.ref q0, .int p_0, .int p_1, .int p_2]) ++ List.replicate (6 - (lg_sl ([.ref q0, .int p_0, .int p_1, .int p_2])).length) Slot.unset).toArray = ls at hl ⊢
  have hl : lv_has ls 6 [(0, .ref q0), (1, .int p_0), (2, .int p_1), (3, .int p_2)] := hl
  subst hsz
  have hD := hD0.self (sz := s.heap.size)
  obtain ⟨A, hAe⟩ : ∃ A, va_A (TW ct L f) s.heap.size = A := ⟨_, rfl⟩
  rw [hAe] at hD
  have hA : ∀ q : Nat, s.heap.size ≤ q → A q := fun q h => by rw [← hAe]; exact Or.inr h
  have hS : va_S A s.heap s.heap [] := va_S.rf
  have hA_0 : Ext [] L f L f := Ext.rf
  suffices hGo : ∀ (H : Heap) (locs : List Loc), va_P (dC, dI) vwCl (TW ct L f) H → va_S A s.heap H locs → W p l e (headSpec (.code y_WM_absent b_WM_absent 6 (some .int) :: TB) ({ frames := 1, cells := 0, slots := 0, locals := 23 })).room s m [.ref q0, .int p_0, .int p_1, .int p_2].toArray below meth c H locs 0 0 (MQ below (va_Qi (fun r (u : TSt) => Ok u.1 u.2 ∧ Ext W_WM_absent_w L f u.1 u.2 ∧ (True) ∧ Q r u.1 u.2) (fun (u : TSt) t => va_P (dC, dI) vwCl (TW ct u.1 u.2) t.heap ∧ va_K (dC, dI) vwCl (TT ct) t ∧ va_D (va_A (TW ct L f) s.heap.size) (TW ct u.1 u.2)) (va_A (TW ct L f) s.heap.size)) [.ref q0, .int p_0, .int p_1, .int p_2].toArray s 0 0 (va_A (TW ct L f) s.heap.size)) (F0 m 0 ls []) from hGo _ _ hP hS
  clear hP hS
  intro H locs hP hS
  unfold wp_WM_absent_w at hQ
  refine lv_aload_n hx hb d_WM_absent_0 rfl (lv_at hl 0 rfl) ?_
  refine lv_iload_n hx hb d_WM_absent_1 rfl (lv_at hl 1 rfl) ?_
  refine va_csq (va_Run.run (va_runV (As := [.int p_0]) (rest := []) ⟨hx, hb, hml, hown, htb⟩ (c_WM_manAt_w l dC dI ct L f hO_0 q0 m0 p_0 _ hQ) (cwV 1 htb (gd_V tw_27 tw_28 tw_29 tw_26 tw_25) rfl rfl rfl (by decide +kernel) ⟨Nat.le_of_ble_eq_true rfl, Nat.le_of_ble_eq_true rfl⟩) ⟨pr_blind, tw_recv hK hP m0 rfl rfl, pr_pre hP hK hN⟩ rfl rfl hl.1 rfl (lv_room (Nat.le_of_ble_eq_true rfl)) d_WM_absent_2 ⟨Nat.le_of_ble_eq_true rfl, Nat.le_of_ble_eq_true rfl⟩)) (fun r_1 er_1 => ?_)
  obtain ⟨er_1, hQ⟩ := er_1
  rcases er_1 with rfl | ⟨q_1, rfl, m_1⟩
  · have hQ := hQ.1 rfl
    refine hb_tv .null rfl ?_
    refine lv_astoreN (lv' := [(4, .null), (0, .ref q0), (1, .int p_0), (2, .int p_1), (3, .int p_2)]) hx hb d_WM_absent_5 hl (by decide) rfl (fun ls hl => ?_)
    refine lv_aloadN hx hb d_WM_absent_7 (lv_at hl 0 rfl) ?_
    refine lv_ifnullN (tgt := 29) hx hb d_WM_absent_9 (by decide) ?_
    refine lv_iconst (v := (-1)) hx hb d_WM_absent_29 (by decide +kernel) ?_
    refine W.widen (k := 0) (n := 0) (Nat.le_of_ble_eq_true rfl) (Nat.le_of_ble_eq_true rfl) ?_
    exact W.iret (v := (-1)) hx hb hr (fun t ht hW => ⟨⟨(-1), (L, f), rfl, ⟨hO_0, hA_0.mono (by decide +kernel), trivial, hQ⟩, by rw [ht]; exact hP, va_K.moved hW.alike hK, by rw [hAe]; exact hD⟩, by rw [hAe]; exact hS.F ht⟩) (by rw [hAe]; exact hS.2.2) d_WM_absent_30
  · have hQ := hQ.2 q_1 rfl
    refine hb_tv (.ref q_1) rfl ?_
    refine lv_astore (lv' := [(4, .ref q_1), (0, .ref q0), (1, .int p_0), (2, .int p_1), (3, .int p_2)]) hx hb d_WM_absent_5 hl (by decide) rfl (fun ls hl => ?_)
    refine lv_aload hx hb d_WM_absent_7 (lv_at hl 0 rfl) ?_
    refine lv_ifnull hx hb d_WM_absent_9 ?_
    refine lv_iload_n hx hb d_WM_absent_12 rfl (lv_at hl 3 rfl) ?_
    refine lv_if_lt (tgt := 29) hx hb d_WM_absent_13 (by decide) (fun c_2 => ?_) (fun c_2 => ?_)
    · have hQ := hQ.1 c_2
      refine lv_iconst (v := (-1)) hx hb d_WM_absent_29 (by decide +kernel) ?_
      refine W.widen (k := 0) (n := 0) (Nat.le_of_ble_eq_true rfl) (Nat.le_of_ble_eq_true rfl) ?_
      exact W.iret (v := (-1)) hx hb hr (fun t ht hW => ⟨⟨(-1), (L, f), rfl, ⟨hO_0, hA_0.mono (by decide +kernel), trivial, hQ⟩, by rw [ht]; exact hP, va_K.moved hW.alike hK, by rw [hAe]; exact hD⟩, by rw [hAe]; exact hS.F ht⟩) (by rw [hAe]; exact hS.2.2) d_WM_absent_30
    · have hQ := hQ.2 c_2
      refine lv_iload_n hx hb d_WM_absent_16 rfl (lv_at hl 3 rfl) ?_
      refine lv_iload_n hx hb d_WM_absent_17 rfl (lv_at hl 4 rfl) ?_
      refine lv_icmp_gt (tgt := 29) hx hb d_WM_absent_18 (by decide) (fun c_3 => ?_) (fun c_3 => ?_)
      · have hQ := hQ.1 c_3
        refine lv_iconst (v := (-1)) hx hb d_WM_absent_29 (by decide +kernel) ?_
        refine W.widen (k := 0) (n := 0) (Nat.le_of_ble_eq_true rfl) (Nat.le_of_ble_eq_true rfl) ?_
        exact W.iret (v := (-1)) hx hb hr (fun t ht hW => ⟨⟨(-1), (L, f), rfl, ⟨hO_0, hA_0.mono (by decide +kernel), trivial, hQ⟩, by rw [ht]; exact hP, va_K.moved hW.alike hK, by rw [hAe]; exact hD⟩, by rw [hAe]; exact hS.F ht⟩) (by rw [hAe]; exact hS.2.2) d_WM_absent_30
      · have hQ := hQ.2 c_3
        refine lv_iload_n hx hb d_WM_absent_21 rfl (lv_at hl 4 rfl) ?_
        refine lv_aload_n hx hb d_WM_absent_22 rfl (lv_at hl 1 rfl) ?_
        refine vp_callSi (va_Run.run (va_runV (As := []) (rest := [.int p_2]) ⟨hx, hb, hml, hown, htb⟩ (c_WM_today_w l dC dI ct L f hO_0 q0 m0 _ hQ) (cwV 0 htb (gd_V tw_50 tw_51 tw_52 tw_26 tw_49) rfl rfl rfl (by decide +kernel) ⟨Nat.le_of_ble_eq_true rfl, Nat.le_of_ble_eq_true rfl⟩) ⟨pr_blind, tw_recv hK hP m0 rfl rfl, pr_pre hP hK hN⟩ rfl rfl hl.1 rfl (lv_room (Nat.le_of_ble_eq_true rfl)) d_WM_absent_23 ⟨Nat.le_of_ble_eq_true rfl, Nat.le_of_ble_eq_true rfl⟩)) (fun r_4 er_4 => ?_)
        obtain ⟨er_4, hQ⟩ := er_4
        obtain ⟨po_5, po_6, -⟩ := er_4
        refine lv_icmp_le (tgt := 31) hx hb d_WM_absent_26 (by decide) (fun c_7 => ?_) (fun c_7 => ?_)
        · have hQ := hQ.1 c_7
          refine lv_aload hx hb d_WM_absent_31 (lv_at hl 0 rfl) ?_
          refine tw_getq (D := (dC, dI)) (C := R_Mn) (T := F_Mn) (N := 8) (ci := 2) (kd := 20) (ct := ct) hx hb htb i_Mn hown hK hP hO_0 m_1 rfl rfl 1 (by decide) (htb (.fieldLink R_WM 119 "WaterMen$Man" "bond" "LWaterMen$Bond;") tw_31) (fun _ h9 => h9) rfl d_WM_absent_33 (fun e_8 => ?_) (fun q_8 e_8 m_8 => ?_)
          · have hQ := hQ.1 e_8
            refine lv_astoreN (lv' := [(5, .null), (4, .ref q_1), (0, .ref q0), (1, .int p_0), (2, .int p_1), (3, .int p_2)]) hx hb d_WM_absent_36 hl (by decide) rfl (fun ls hl => ?_)
            refine lv_aloadN hx hb d_WM_absent_38 (lv_at hl 0 rfl) ?_
            refine lv_ifnullN (tgt := 54) hx hb d_WM_absent_40 (by decide) ?_
            refine lv_aloadN hx hb d_WM_absent_54 (lv_at hl 0 rfl) ?_
            refine lv_ifnullN (tgt := 78) hx hb d_WM_absent_56 (by decide) ?_
            refine lv_bipush (v := (-2)) hx hb d_WM_absent_78 (by decide +kernel) ?_
            refine W.widen (k := 0) (n := 0) (Nat.le_of_ble_eq_true rfl) (Nat.le_of_ble_eq_true rfl) ?_
            exact W.iret (v := (-2)) hx hb hr (fun t ht hW => ⟨⟨(-2), (L, f), rfl, ⟨hO_0, hA_0.mono (by decide +kernel), trivial, hQ⟩, by rw [ht]; exact hP, va_K.moved hW.alike hK, by rw [hAe]; exact hD⟩, by rw [hAe]; exact hS.F ht⟩) (by rw [hAe]; exact hS.2.2) d_WM_absent_80
          · have hQ := hQ.2 q_8 e_8
            refine lv_astore (lv' := [(5, .ref q_8), (4, .ref q_1), (0, .ref q0), (1, .int p_0), (2, .int p_1), (3, .int p_2)]) hx hb d_WM_absent_36 hl (by decide) rfl (fun ls hl => ?_)
            refine lv_aload hx hb d_WM_absent_38 (lv_at hl 0 rfl) ?_
            refine lv_ifnull hx hb d_WM_absent_40 ?_
            refine lv_iload_n hx hb d_WM_absent_43 rfl (lv_at hl 4 rfl) ?_
            refine lv_aload hx hb d_WM_absent_44 (lv_at hl 0 rfl) ?_
            refine tw_geti (D := (dC, dI)) (C := R_Bd) (T := F_Bd) (N := 5) (ci := 8) (kd := 21) (ct := ct) hx hb htb i_Bd hown hK hP hO_0 m_8 rfl rfl 1 (by decide) (htb (.fieldLink R_WM 123 "WaterMen$Bond" "since" "I") tw_469) (fun _ h9 => h9) rfl d_WM_absent_46 (fun x_9 e_9 b_9 => ?_)
            have hQ := hQ x_9 e_9
            refine lv_icmp_ge (tgt := 54) hx hb d_WM_absent_49 (by decide) (fun c_10 => ?_) (fun c_10 => ?_)
            · have hQ := hQ.1 c_10
              refine lv_aload hx hb d_WM_absent_54 (lv_at hl 0 rfl) ?_
              refine lv_ifnull hx hb d_WM_absent_56 ?_
              refine lv_aload hx hb d_WM_absent_59 (lv_at hl 1 rfl) ?_
              refine tw_geti (D := (dC, dI)) (C := R_Mn) (T := F_Mn) (N := 8) (ci := 2) (kd := 20) (ct := ct) hx hb htb i_Mn hown hK hP hO_0 m_1 rfl rfl 0 (by decide) (htb (.fieldLink R_WM 111 "WaterMen$Man" "state" "I") tw_30) (fun _ h9 => h9) rfl d_WM_absent_61 (fun x_11 e_11 b_11 => ?_)
              have hQ := hQ x_11 e_11
              refine lv_iconst (v := 1) hx hb d_WM_absent_64 (by decide +kernel) ?_
              refine lv_icmp_ne (tgt := 78) hx hb d_WM_absent_65 (by decide) (fun c_12 => ?_) (fun c_12 => ?_)
              · have hQ := hQ.2 c_12
                refine lv_bipush (v := (-2)) hx hb d_WM_absent_78 (by decide +kernel) ?_
                refine W.widen (k := 0) (n := 0) (Nat.le_of_ble_eq_true rfl) (Nat.le_of_ble_eq_true rfl) ?_
                exact W.iret (v := (-2)) hx hb hr (fun t ht hW => ⟨⟨(-2), (L, f), rfl, ⟨hO_0, hA_0.mono (by decide +kernel), trivial, hQ⟩, by rw [ht]; exact hP, va_K.moved hW.alike hK, by rw [hAe]; exact hD⟩, by rw [hAe]; exact hS.F ht⟩) (by rw [hAe]; exact hS.2.2) d_WM_absent_80
              · have hQ := hQ.1 c_12
                refine lv_aload hx hb d_WM_absent_68 (lv_at hl 0 rfl) ?_
                refine lv_iload_n hx hb d_WM_absent_70 rfl (lv_at hl 4 rfl) ?_
                refine lv_iload_n hx hb d_WM_absent_71 rfl (lv_at hl 5 rfl) ?_
                refine vp_callSi (va_Run.run (va_runV (As := [.int p_1, .int p_2]) (rest := []) ⟨hx, hb, hml, hown, htb⟩ (c_Bd_meetsGap_w l dC dI ct L f hO_0 q_8 m_8 p_1 p_2 _ hQ) (cwV 2 htb (gd_V tw_472 tw_473 tw_474 tw_458 tw_471) rfl rfl rfl (by decide +kernel) ⟨Nat.le_of_ble_eq_true rfl, Nat.le_of_ble_eq_true rfl⟩) ⟨pr_blind, tw_recv hK hP m_8 rfl rfl, pr_pre hP hK hN⟩ rfl rfl hl.1 rfl (lv_room (Nat.le_of_ble_eq_true rfl)) d_WM_absent_72 ⟨Nat.le_of_ble_eq_true rfl, Nat.le_of_ble_eq_true rfl⟩)) (fun r_13 er_13 => ?_)
                obtain ⟨er_13, hQ⟩ := er_13
                rcases er_13 with ⟨rfl, -⟩ | ⟨rfl, -⟩
                · have hQ := hQ.1 rfl
                  refine lv_if_eq (tgt := 81) hx hb d_WM_absent_75 (by decide) (fun _ => ?_) (fun h => absurd (by decide +kernel) h)
                  refine lv_aload hx hb d_WM_absent_81 (lv_at hl 0 rfl) ?_
                  refine tw_geti (D := (dC, dI)) (C := R_Bd) (T := F_Bd) (N := 5) (ci := 8) (kd := 21) (ct := ct) hx hb htb i_Bd hown hK hP hO_0 m_8 rfl rfl 4 (by decide) (htb (.fieldLink R_WM 130 "WaterMen$Bond" "gapCount" "I") tw_475) (fun _ h9 => h9) rfl d_WM_absent_83 (fun x_14 e_14 b_14 => ?_)
                  have hQ := hQ x_14 e_14
                  refine lv_bipush (v := 6) hx hb d_WM_absent_86 (by decide +kernel) ?_
                  refine lv_icmp_lt (tgt := 96) hx hb d_WM_absent_88 (by decide) (fun c_15 => ?_) (fun c_15 => ?_)
                  · have hQ := hQ.1 c_15
                    refine lv_aload hx hb d_WM_absent_96 (lv_at hl 0 rfl) ?_
                    refine lv_iload_n hx hb d_WM_absent_98 rfl (lv_at hl 4 rfl) ?_
                    refine lv_iload_n hx hb d_WM_absent_99 rfl (lv_at hl 5 rfl) ?_
                    have hFc := hb_free hD hS hA
                    refine va_calli (va_runV (As := [.int p_1, .int p_2]) (rest := []) ⟨hx, hb, hml, hown, htb⟩ (c_Bd_addGap_w l dC dI ct L f hO_0 q_8 m_8 _ p_1 p_2 (by rw [show ti f q_8 4 = x_14 from e_14]; first | done | exact (show ¬ (5 < x_14) from by have e0 := b_14.1; rw [Int32.lt_iff_toInt_lt] at e0; have e1 := c_15; rw [Int32.lt_iff_toInt_lt] at e1; have z0 : (0 : Int32).toInt = 0 := (by decide +kernel); have z1 : (5 : Int32).toInt = 5 := (by decide +kernel); have z2 : (6 : Int32).toInt = 6 := (by decide +kernel); rw [Int32.lt_iff_toInt_lt]; omega)) _ hQ) (cwV 2 htb (gd_V tw_477 tw_478 tw_479 tw_458 tw_476) rfl rfl rfl (by decide +kernel) ⟨Nat.le_of_ble_eq_true rfl, Nat.le_of_ble_eq_true rfl⟩) ⟨pc_blind, tw_recv hK hP m_8 rfl rfl, pc_pre hP hK hD hN⟩ rfl rfl hl.1 rfl (lv_room (Nat.le_of_ble_eq_true rfl)) d_WM_absent_100 ⟨Nat.le_of_ble_eq_true rfl, Nat.le_of_ble_eq_true rfl⟩) hS (fun q _ h => hFc q h) hFc (fun r_16 u t H locs ht hvm er hB hz1 hk1 hS => ?_)
                    obtain ⟨L_1, f_1⟩ := u
                    obtain ⟨hO_1, hE_1, er, hQ⟩ := er
                    obtain ⟨hP, hK1, hD1⟩ := hB
                    rw [ht] at hP
                    have hP : va_P (dC, dI) vwCl (TW ct L_1 f_1) H := hP
                    have hD : va_D A (TW ct L_1 f_1) := hD1.weaken (fun _ q _ h => hFc q.1 h)
                    have hO_1 : Ok L_1 f_1 := hO_1
                    have hE_1 : Ext W_Bd_addGap_w L f L_1 f_1 := hE_1
                    clear hK1 hD1 ht hvm hz1 hk1
                    have hA_1 := hA_0.trans hE_1
                    have hQ := hQ hO_1 hE_1
                    clear er
                    refine W.widen (k := 0) (n := 0) (Nat.le_of_ble_eq_true rfl) (Nat.le_of_ble_eq_true rfl) ?_
                    exact W.iret (v := r_16) hx hb hr (fun t ht hW => ⟨⟨r_16, (L_1, f_1), rfl, ⟨hO_1, hA_1.mono (by decide +kernel), trivial, hQ⟩, by rw [ht]; exact hP, va_K.moved hW.alike hK, by rw [hAe]; exact hD⟩, by rw [hAe]; exact hS.F ht⟩) (by rw [hAe]; exact hS.2.2) d_WM_absent_103
                  · have hQ := hQ.2 c_15
                    refine lv_bipush (v := (-3)) hx hb d_WM_absent_91 (by decide +kernel) ?_
                    refine lv_goto (tgt := 103) hx hb d_WM_absent_93 (by decide) ?_
                    refine W.widen (k := 0) (n := 0) (Nat.le_of_ble_eq_true rfl) (Nat.le_of_ble_eq_true rfl) ?_
                    exact W.iret (v := (-3)) hx hb hr (fun t ht hW => ⟨⟨(-3), (L, f), rfl, ⟨hO_0, hA_0.mono (by decide +kernel), trivial, hQ⟩, by rw [ht]; exact hP, va_K.moved hW.alike hK, by rw [hAe]; exact hD⟩, by rw [hAe]; exact hS.F ht⟩) (by rw [hAe]; exact hS.2.2) d_WM_absent_103
                · have hQ := hQ.2 rfl
                  refine lv_if_eq (tgt := 81) hx hb d_WM_absent_75 (by decide) (fun h => absurd h (by decide +kernel)) (fun _ => ?_)
                  refine lv_bipush (v := (-2)) hx hb d_WM_absent_78 (by decide +kernel) ?_
                  refine W.widen (k := 0) (n := 0) (Nat.le_of_ble_eq_true rfl) (Nat.le_of_ble_eq_true rfl) ?_
                  exact W.iret (v := (-2)) hx hb hr (fun t ht hW => ⟨⟨(-2), (L, f), rfl, ⟨hO_0, hA_0.mono (by decide +kernel), trivial, hQ⟩, by rw [ht]; exact hP, va_K.moved hW.alike hK, by rw [hAe]; exact hD⟩, by rw [hAe]; exact hS.F ht⟩) (by rw [hAe]; exact hS.2.2) d_WM_absent_80
            · have hQ := hQ.2 c_10
              refine lv_iconst (v := (-1)) hx hb d_WM_absent_52 (by decide +kernel) ?_
              refine W.widen (k := 0) (n := 0) (Nat.le_of_ble_eq_true rfl) (Nat.le_of_ble_eq_true rfl) ?_
              exact W.iret (v := (-1)) hx hb hr (fun t ht hW => ⟨⟨(-1), (L, f), rfl, ⟨hO_0, hA_0.mono (by decide +kernel), trivial, hQ⟩, by rw [ht]; exact hP, va_K.moved hW.alike hK, by rw [hAe]; exact hD⟩, by rw [hAe]; exact hS.F ht⟩) (by rw [hAe]; exact hS.2.2) d_WM_absent_53
        · have hQ := hQ.2 c_7
          refine lv_iconst (v := (-1)) hx hb d_WM_absent_29 (by decide +kernel) ?_
          refine W.widen (k := 0) (n := 0) (Nat.le_of_ble_eq_true rfl) (Nat.le_of_ble_eq_true rfl) ?_
          exact W.iret (v := (-1)) hx hb hr (fun t ht hW => ⟨⟨(-1), (L, f), rfl, ⟨hO_0, hA_0.mono (by decide +kernel), trivial, hQ⟩, by rw [ht]; exact hP, va_K.moved hW.alike hK, by rw [hAe]; exact hD⟩, by rw [hAe]; exact hS.F ht⟩) (by rw [hAe]; exact hS.2.2) d_WM_absent_30
def W_Md_absent_w : List (Nat × Nat) := [(36, 1000), (37, 1000), (38, 1000)]
def wpB_Md_absent_w_54_18 (L : List Nat) (f : TF) (q0 : Nat) (p_0 : Int32) (p_1 : Int32) (p_2 : Int32) (r_6 : Int32) (q_12 : Nat) (x_13 : Int32) (q_15 : Nat) (x_16 : Int32) (Q : Int32 → List Nat → TF → Prop) (rec_18 : Int32 → Prop) (v4_18 : Int32) : Prop := ∀ q_19 : Nat, tr f q0 12 = some q_19 → ∀ x_20 : Int32, ti f q_19 (p_0 : Int32).toNatClampNeg = x_20 → ((x_20 ≤ v4_18 → ((x_20 = 6 → Q (-3) L f) ∧ (¬ (x_20 = 6) → ∀ q_24 : Nat, tr f q0 13 = some q_24 → ∀ f_1 : TF, f_1 = sI f q_24 (((6 * p_0) + x_20) : Int32).toNatClampNeg p_1 → Ok L f_1 → ∀ q_27 : Nat, tr f_1 q0 14 = some q_27 → ∀ f_2 : TF, f_2 = sI f_1 q_27 (((6 * p_0) + x_20) : Int32).toNatClampNeg p_2 → Ok L f_2 → ∀ f_3 : TF, f_3 = sI f_2 q_19 (p_0 : Int32).toNatClampNeg (x_20 + 1) → Ok L f_3 → Q (x_20 + 1) L f_3))) ∧ (¬ (x_20 ≤ v4_18) → ∀ q_33 : Nat, tr f q0 14 = some q_33 → ∀ x_34 : Int32, ti f q_33 (((6 * p_0) + v4_18) : Int32).toNatClampNeg = x_34 → (((x_34 + 1) < p_1 → rec_18 (v4_18 + 1)) ∧ (¬ ((x_34 + 1) < p_1) → ∀ q_36 : Nat, tr f q0 13 = some q_36 → ∀ x_37 : Int32, ti f q_36 (((6 * p_0) + v4_18) : Int32).toNatClampNeg = x_37 → ((p_2 < (x_37 - 1) → rec_18 (v4_18 + 1)) ∧ (¬ (p_2 < (x_37 - 1)) → Q (-2) L f))))))
def wpL_Md_absent_w_54_18 (L : List Nat) (f : TF) (q0 : Nat) (p_0 : Int32) (p_1 : Int32) (p_2 : Int32) (r_6 : Int32) (q_12 : Nat) (x_13 : Int32) (q_15 : Nat) (x_16 : Int32) (Q : Int32 → List Nat → TF → Prop) : Nat → Int32 → Prop
  | 0 => fun v4_18 => wpB_Md_absent_w_54_18 L f q0 p_0 p_1 p_2 r_6 q_12 x_13 q_15 x_16 Q (fun _ => True) v4_18
  | n + 1 => fun v4_18 => wpB_Md_absent_w_54_18 L f q0 p_0 p_1 p_2 r_6 q_12 x_13 q_15 x_16 Q (wpL_Md_absent_w_54_18 L f q0 p_0 p_1 p_2 r_6 q_12 x_13 q_15 x_16 Q n) v4_18
def wpR_Md_absent_w_54_18 (L : List Nat) (f : TF) (q0 : Nat) (p_0 : Int32) (p_1 : Int32) (p_2 : Int32) (r_6 : Int32) (q_12 : Nat) (x_13 : Int32) (q_15 : Nat) (x_16 : Int32) (Q : Int32 → List Nat → TF → Prop) : Nat → Int32 → Prop
  | 0 => fun _ => True
  | n + 1 => wpL_Md_absent_w_54_18 L f q0 p_0 p_1 p_2 r_6 q_12 x_13 q_15 x_16 Q n
theorem wpL_Md_absent_w_54_18_eq {L : List Nat} {f : TF} {q0 : Nat} {p_0 : Int32} {p_1 : Int32} {p_2 : Int32} {r_6 : Int32} {q_12 : Nat} {x_13 : Int32} {q_15 : Nat} {x_16 : Int32} {Q : Int32 → List Nat → TF → Prop} {n : Nat} : wpL_Md_absent_w_54_18 L f q0 p_0 p_1 p_2 r_6 q_12 x_13 q_15 x_16 Q n = wpB_Md_absent_w_54_18 L f q0 p_0 p_1 p_2 r_6 q_12 x_13 q_15 x_16 Q (wpR_Md_absent_w_54_18 L f q0 p_0 p_1 p_2 r_6 q_12 x_13 q_15 x_16 Q n) := by cases n <;> rfl
theorem wpR_Md_absent_w_54_18_pos {L : List Nat} {f : TF} {q0 : Nat} {p_0 : Int32} {p_1 : Int32} {p_2 : Int32} {r_6 : Int32} {q_12 : Nat} {x_13 : Int32} {q_15 : Nat} {x_16 : Int32} {Q : Int32 → List Nat → TF → Prop} {n : Nat} (h : 0 < n) : wpR_Md_absent_w_54_18 L f q0 p_0 p_1 p_2 r_6 q_12 x_13 q_15 x_16 Q n = wpL_Md_absent_w_54_18 L f q0 p_0 p_1 p_2 r_6 q_12 x_13 q_15 x_16 Q (n - 1) := by
  cases n with
  | zero => omega
  | succ n => rfl
def wp_Md_absent_w (L : List Nat) (f : TF) (q0 : Nat) (p_0 : Int32) (p_1 : Int32) (p_2 : Int32) (Q : Int32 → List Nat → TF → Prop) : Prop := ((p_0 < 0 → Q (-1) L f) ∧ (¬ (p_0 < 0) → ((39 < p_0 → Q (-1) L f) ∧ (¬ (39 < p_0) → ((p_1 < 0 → Q (-1) L f) ∧ (¬ (p_1 < 0) → ((p_2 < p_1 → Q (-1) L f) ∧ (¬ (p_2 < p_1) → wp_Md_today_w L f q0 (fun (r_6 : Int32) => (((p_2 ≤ r_6 → ∀ q_12 : Nat, tr f q0 9 = some q_12 → ∀ x_13 : Int32, ti f q_12 (p_0 : Int32).toNatClampNeg = x_13 → ((x_13 = 1 → ∀ q_15 : Nat, tr f q0 11 = some q_15 → ∀ x_16 : Int32, ti f q_15 (p_0 : Int32).toNatClampNeg = x_16 → ((x_16 ≤ p_1 → wpL_Md_absent_w_54_18 L f q0 p_0 p_1 p_2 r_6 q_12 x_13 q_15 x_16 Q (((6 : Int32).toInt - (0 : Int32).toInt).toNat) (0 : Int32)) ∧ (¬ (x_16 ≤ p_1) → Q (-1) L f))) ∧ (¬ (x_13 = 1) → Q (-2) L f))) ∧ (¬ (p_2 ≤ r_6) → Q (-1) L f))))))))))))
set_option maxHeartbeats 4000000 in
set_option maxRecDepth 100000 in
theorem c_Md_absent_w (l : Launch) (dC : Nat → ClassId) (dI : Nat → Nat → Nat) (ct : Nat → ClassId) (L : List Nat) (f : TF) (hO_0 : Ok L f) (q0 : Nat) (m0 : q0 ∈ L ∧ tk f q0 = 27) (sz : Nat) (p_0 : Int32) (p_1 : Int32) (p_2 : Int32)   (Q : Int32 → List Nat → TF → Prop) (hQ : wp_Md_absent_w L f q0 p_0 p_1 p_2 Q) : Met l y_Md_absent (.code y_Md_absent b_Md_absent 5 (some .int) :: TB) ({ frames := 2, cells := 0, slots := 0, locals := 42 }) (va_Pc [.ref q0, .int p_0, .int p_1, .int p_2] (PC dC dI (TW ct L f) (TT ct) sz)) (va_Qi (fun r (u : TSt) => Ok u.1 u.2 ∧ Ext W_Md_absent_w L f u.1 u.2 ∧ (True) ∧ Q r u.1 u.2) (fun (u : TSt) t => va_P (dC, dI) vwCl (TW ct u.1 u.2) t.heap ∧ va_K (dC, dI) vwCl (TT ct) t ∧ va_D (va_A (TW ct L f) sz) (TW ct u.1 u.2)) (va_A (TW ct L f) sz)) 0 0 (va_A (TW ct L f) sz) := by
  refine Met.ofW (cc := b_Md_absent) (maxL := 5) (ret := (some .int)) (by decide) rfl ?_
  intro p e s m args below meth c s₁ B hml hv
  obtain ⟨rfl, hsz, hP, hK, hD0, hN⟩ := hv
  have hx := B.exec
  have hb := B.bytes
  have hr := B.returns
  have hts := atoms_spec (ws := (.code y_Md_absent b_Md_absent 5 (some .int) :: TB)) B.pre
  have htb := fun w (h : w ∈ TB) => hts w (List.mem_cons_of_mem _ h)
  have hown : s.vm.findClass R_Md = some m.cls := findClass_of_methodNamed B.named
  have hlocks := B.notSynchronized
  have hl := lv_entry ([.ref q0, .int p_0, .int p_1, .int p_2]) (n := 5) (Nat.le_of_ble_eq_true rfl)
  rw [lg_entry_eq]
  generalize (lg_sl ([.ref q0, .int p_0, .int p_1, .int p_2]) ++ List.replicate (5 - (lg_sl ([.ref q0, .int p_0, .int p_1, .int p_2])).length) Slot.unset).toArray = ls at hl ⊢
  have hl : lv_has ls 5 [(0, .ref q0), (1, .int p_0), (2, .int p_1), (3, .int p_2)] := hl
  subst hsz
  have hD := hD0.self (sz := s.heap.size)
  obtain ⟨A, hAe⟩ : ∃ A, va_A (TW ct L f) s.heap.size = A := ⟨_, rfl⟩
  rw [hAe] at hD
  have hA : ∀ q : Nat, s.heap.size ≤ q → A q := fun q h => by rw [← hAe]; exact Or.inr h
  have hS : va_S A s.heap s.heap [] := va_S.rf
  have hA_0 : Ext [] L f L f := Ext.rf
  suffices hGo : ∀ (H : Heap) (locs : List Loc), va_P (dC, dI) vwCl (TW ct L f) H → va_S A s.heap H locs → W p l e (headSpec (.code y_Md_absent b_Md_absent 5 (some .int) :: TB) ({ frames := 2, cells := 0, slots := 0, locals := 42 })).room s m [.ref q0, .int p_0, .int p_1, .int p_2].toArray below meth c H locs 0 0 (MQ below (va_Qi (fun r (u : TSt) => Ok u.1 u.2 ∧ Ext W_Md_absent_w L f u.1 u.2 ∧ (True) ∧ Q r u.1 u.2) (fun (u : TSt) t => va_P (dC, dI) vwCl (TW ct u.1 u.2) t.heap ∧ va_K (dC, dI) vwCl (TT ct) t ∧ va_D (va_A (TW ct L f) s.heap.size) (TW ct u.1 u.2)) (va_A (TW ct L f) s.heap.size)) [.ref q0, .int p_0, .int p_1, .int p_2].toArray s 0 0 (va_A (TW ct L f) s.heap.size)) (F0 m 0 ls []) from hGo _ _ hP hS
  clear hP hS
  intro H locs hP hS
  unfold wp_Md_absent_w at hQ
  refine lv_iload_n hx hb d_Md_absent_0 rfl (lv_at hl 1 rfl) ?_
  refine vp_callSi (va_Run.run (va_runS (As := [.int p_0]) (rest := []) ⟨hx, hb, hml, hown, htb⟩ (c_Md_isMan l p_0) (cwS 1 htb (gd_S tw_93 tw_94 tw_89 tw_92) rfl rfl rfl (by decide +kernel) ⟨Nat.le_of_ble_eq_true rfl, Nat.le_of_ble_eq_true rfl⟩) ⟨fun _ _ _ _ h => h, fun U _ _ => ⟨rfl, trivial⟩⟩ rfl rfl hl.1 rfl (lv_room (Nat.le_of_ble_eq_true rfl)) d_Md_absent_1 ⟨Nat.le_of_ble_eq_true rfl, Nat.le_of_ble_eq_true rfl⟩)) (fun r er => ?_)
  subst er
  by_cases c_2 : p_0 < 0
  · have hQ := hQ.1 c_2
    refine hb_ti 0 (by unfold f_Md_isMan; rw [if_pos c_2]; first | done | rfl) ?_
    refine lv_if_eq (tgt := 24) hx hb d_Md_absent_4 (by decide) (fun _ => ?_) (fun h => absurd (by decide +kernel) h)
    refine lv_iconst (v := (-1)) hx hb d_Md_absent_24 (by decide +kernel) ?_
    refine W.widen (k := 0) (n := 0) (Nat.le_of_ble_eq_true rfl) (Nat.le_of_ble_eq_true rfl) ?_
    exact W.iret (v := (-1)) hx hb hr (fun t ht hW => ⟨⟨(-1), (L, f), rfl, ⟨hO_0, hA_0.mono (by decide +kernel), trivial, hQ⟩, by rw [ht]; exact hP, va_K.moved hW.alike hK, by rw [hAe]; exact hD⟩, by rw [hAe]; exact hS.F ht⟩) (by rw [hAe]; exact hS.2.2) d_Md_absent_25
  · have hQ := hQ.2 c_2
    by_cases c_3 : 39 < p_0
    · have hQ := hQ.1 c_3
      refine hb_ti 0 (by unfold f_Md_isMan; rw [if_neg c_2, if_pos c_3]; first | done | rfl) ?_
      refine lv_if_eq (tgt := 24) hx hb d_Md_absent_4 (by decide) (fun _ => ?_) (fun h => absurd (by decide +kernel) h)
      refine lv_iconst (v := (-1)) hx hb d_Md_absent_24 (by decide +kernel) ?_
      refine W.widen (k := 0) (n := 0) (Nat.le_of_ble_eq_true rfl) (Nat.le_of_ble_eq_true rfl) ?_
      exact W.iret (v := (-1)) hx hb hr (fun t ht hW => ⟨⟨(-1), (L, f), rfl, ⟨hO_0, hA_0.mono (by decide +kernel), trivial, hQ⟩, by rw [ht]; exact hP, va_K.moved hW.alike hK, by rw [hAe]; exact hD⟩, by rw [hAe]; exact hS.F ht⟩) (by rw [hAe]; exact hS.2.2) d_Md_absent_25
    · have hQ := hQ.2 c_3
      refine hb_ti 1 (by unfold f_Md_isMan; rw [if_neg c_2, if_neg c_3]; first | done | rfl) ?_
      refine lv_if_eq (tgt := 24) hx hb d_Md_absent_4 (by decide) (fun h => absurd h (by decide +kernel)) (fun _ => ?_)
      refine lv_iload_n hx hb d_Md_absent_7 rfl (lv_at hl 2 rfl) ?_
      refine lv_if_lt (tgt := 24) hx hb d_Md_absent_8 (by decide) (fun c_4 => ?_) (fun c_4 => ?_)
      · have hQ := hQ.1 c_4
        refine lv_iconst (v := (-1)) hx hb d_Md_absent_24 (by decide +kernel) ?_
        refine W.widen (k := 0) (n := 0) (Nat.le_of_ble_eq_true rfl) (Nat.le_of_ble_eq_true rfl) ?_
        exact W.iret (v := (-1)) hx hb hr (fun t ht hW => ⟨⟨(-1), (L, f), rfl, ⟨hO_0, hA_0.mono (by decide +kernel), trivial, hQ⟩, by rw [ht]; exact hP, va_K.moved hW.alike hK, by rw [hAe]; exact hD⟩, by rw [hAe]; exact hS.F ht⟩) (by rw [hAe]; exact hS.2.2) d_Md_absent_25
      · have hQ := hQ.2 c_4
        refine lv_iload_n hx hb d_Md_absent_11 rfl (lv_at hl 2 rfl) ?_
        refine lv_iload_n hx hb d_Md_absent_12 rfl (lv_at hl 3 rfl) ?_
        refine lv_icmp_gt (tgt := 24) hx hb d_Md_absent_13 (by decide) (fun c_5 => ?_) (fun c_5 => ?_)
        · have hQ := hQ.1 c_5
          refine lv_iconst (v := (-1)) hx hb d_Md_absent_24 (by decide +kernel) ?_
          refine W.widen (k := 0) (n := 0) (Nat.le_of_ble_eq_true rfl) (Nat.le_of_ble_eq_true rfl) ?_
          exact W.iret (v := (-1)) hx hb hr (fun t ht hW => ⟨⟨(-1), (L, f), rfl, ⟨hO_0, hA_0.mono (by decide +kernel), trivial, hQ⟩, by rw [ht]; exact hP, va_K.moved hW.alike hK, by rw [hAe]; exact hD⟩, by rw [hAe]; exact hS.F ht⟩) (by rw [hAe]; exact hS.2.2) d_Md_absent_25
        · have hQ := hQ.2 c_5
          refine lv_iload_n hx hb d_Md_absent_16 rfl (lv_at hl 3 rfl) ?_
          refine lv_aload_n hx hb d_Md_absent_17 rfl (lv_at hl 0 rfl) ?_
          refine vp_callSi (va_Run.run (va_runV (As := []) (rest := [.int p_2]) ⟨hx, hb, hml, hown, htb⟩ (c_Md_today_w l dC dI ct L f hO_0 q0 m0 _ hQ) (cwV 0 htb (gd_V tw_113 tw_114 tw_115 tw_89 tw_112) rfl rfl rfl (by decide +kernel) ⟨Nat.le_of_ble_eq_true rfl, Nat.le_of_ble_eq_true rfl⟩) ⟨pr_blind, tw_recv hK hP m0 rfl rfl, pr_pre hP hK hN⟩ rfl rfl hl.1 rfl (lv_room (Nat.le_of_ble_eq_true rfl)) d_Md_absent_18 ⟨Nat.le_of_ble_eq_true rfl, Nat.le_of_ble_eq_true rfl⟩)) (fun r_6 er_6 => ?_)
          obtain ⟨er_6, hQ⟩ := er_6
          obtain ⟨po_7, po_8, po_9, po_10, -⟩ := er_6
          refine lv_icmp_le (tgt := 26) hx hb d_Md_absent_21 (by decide) (fun c_11 => ?_) (fun c_11 => ?_)
          · have hQ := hQ.1 c_11
            refine lv_aload_n hx hb d_Md_absent_26 rfl (lv_at hl 0 rfl) ?_
            refine tw_getr (D := (dC, dI)) (C := R_Md) (T := F_Md) (N := 64) (ci := 7) (kd := 27) (ct := ct) hx hb htb i_Md hown hK hP hO_0 m0 rfl rfl 9 (by decide) (htb (.fieldLink R_Md 58 "WaterMenModel" "state" "[I") tw_95) (fun _ h9 => h9) rfl d_Md_absent_27 (fun q_12 e_12 m_12 => ?_)
            have hQ := hQ q_12 e_12
            refine lv_iload_n hx hb d_Md_absent_30 rfl (lv_at hl 1 rfl) ?_
            refine tw_aldI (ct := ct) hx hb hK hP hO_0 m_12 rfl (hb_inl c_2 c_3 (by decide +kernel)) d_Md_absent_31 (fun x_13 e_13 b_13 => ?_)
            have hQ := hQ x_13 e_13
            refine lv_iconst (v := 1) hx hb d_Md_absent_32 (by decide +kernel) ?_
            refine lv_icmp_eq (tgt := 39) hx hb d_Md_absent_33 (by decide) (fun c_14 => ?_) (fun c_14 => ?_)
            · have hQ := hQ.1 c_14
              refine lv_iload_n hx hb d_Md_absent_39 rfl (lv_at hl 2 rfl) ?_
              refine lv_aload_n hx hb d_Md_absent_40 rfl (lv_at hl 0 rfl) ?_
              refine tw_getr (D := (dC, dI)) (C := R_Md) (T := F_Md) (N := 64) (ci := 7) (kd := 27) (ct := ct) hx hb htb i_Md hown hK hP hO_0 m0 rfl rfl 11 (by decide) (htb (.fieldLink R_Md 64 "WaterMenModel" "boundOn" "[I") tw_467) (fun _ h9 => h9) rfl d_Md_absent_41 (fun q_15 e_15 m_15 => ?_)
              have hQ := hQ q_15 e_15
              refine lv_iload_n hx hb d_Md_absent_44 rfl (lv_at hl 1 rfl) ?_
              refine tw_aldI (ct := ct) hx hb hK hP hO_0 m_15 rfl (hb_inl c_2 c_3 (by decide +kernel)) d_Md_absent_45 (fun x_16 e_16 b_16 => ?_)
              have hQ := hQ x_16 e_16
              refine lv_icmp_ge (tgt := 51) hx hb d_Md_absent_46 (by decide) (fun c_17 => ?_) (fun c_17 => ?_)
              · have hQ := hQ.1 c_17
                refine lv_iconst (v := 0) hx hb d_Md_absent_51 (by decide +kernel) ?_
                refine lv_istore (lv' := [(4, .int 0), (0, .ref q0), (1, .int p_0), (2, .int p_1), (3, .int p_2)]) hx hb d_Md_absent_52 hl (by decide) rfl (fun ls hl => ?_)
                have cut_18 : ∀ (n_18 : Nat) (v4_18 : Int32) (ls : Array Slot), ¬ (v4_18 < 0) → ¬ (6 < v4_18) → (6 : Int32).toInt - (v4_18 : Int32).toInt ≤ (n_18 : Int) → wpL_Md_absent_w_54_18 L f q0 p_0 p_1 p_2 r_6 q_12 x_13 q_15 x_16 Q n_18 v4_18 → lv_has ls 5 [(0, .ref q0), (1, .int p_0), (2, .int p_1), (3, .int p_2), (4, .int v4_18)] → W p l e (headSpec (.code y_Md_absent b_Md_absent 5 (some .int) :: TB) ({ frames := 2, cells := 0, slots := 0, locals := 42 })).room s m [.ref q0, .int p_0, .int p_1, .int p_2].toArray below meth c H locs 0 0 (MQ below (va_Qi (fun r (u : TSt) => Ok u.1 u.2 ∧ Ext W_Md_absent_w L f u.1 u.2 ∧ (True) ∧ Q r u.1 u.2) (fun (u : TSt) t => va_P (dC, dI) vwCl (TW ct u.1 u.2) t.heap ∧ va_K (dC, dI) vwCl (TT ct) t ∧ va_D (va_A (TW ct L f) s.heap.size) (TW ct u.1 u.2)) (va_A (TW ct L f) s.heap.size)) [.ref q0, .int p_0, .int p_1, .int p_2].toArray s 0 0 (va_A (TW ct L f) s.heap.size)) (F0 m 54 ls []) := by
                  intro n_18
                  induction n_18 using Nat.strongRecOn with
                  | _ n_18 ih_18 =>
                    intro v4_18 ls iv0_18 iv1_18 hm_18 hQ hl
                    rw [wpL_Md_absent_w_54_18_eq] at hQ
                    obtain ⟨rec_18, hrec_18⟩ : ∃ g, wpR_Md_absent_w_54_18 L f q0 p_0 p_1 p_2 r_6 q_12 x_13 q_15 x_16 Q n_18 = g := ⟨_, rfl⟩
                    rw [hrec_18] at hQ
                    unfold wpB_Md_absent_w_54_18 at hQ
                    refine lv_iload hx hb d_Md_absent_54 (lv_at hl 4 rfl) ?_
                    refine lv_aload_n hx hb d_Md_absent_56 rfl (lv_at hl 0 rfl) ?_
                    refine tw_getr (D := (dC, dI)) (C := R_Md) (T := F_Md) (N := 64) (ci := 7) (kd := 27) (ct := ct) hx hb htb i_Md hown hK hP hO_0 m0 rfl rfl 12 (by decide) (htb (.fieldLink R_Md 67 "WaterMenModel" "gaps" "[I") tw_468) (fun _ h9 => h9) rfl d_Md_absent_57 (fun q_19 e_19 m_19 => ?_)
                    have hQ := hQ q_19 e_19
                    refine lv_iload_n hx hb d_Md_absent_60 rfl (lv_at hl 1 rfl) ?_
                    refine tw_aldI (ct := ct) hx hb hK hP hO_0 m_19 rfl (hb_inl c_2 c_3 (by decide +kernel)) d_Md_absent_61 (fun x_20 e_20 b_20 => ?_)
                    have hQ := hQ x_20 e_20
                    refine lv_icmp_ge (tgt := 110) hx hb d_Md_absent_62 (by decide) (fun c_21 => ?_) (fun c_21 => ?_)
                    · have hQ := hQ.1 c_21
                      refine lv_aload_n hx hb d_Md_absent_110 rfl (lv_at hl 0 rfl) ?_
                      refine tw_getR (D := (dC, dI)) (C := R_Md) (T := F_Md) (N := 64) (ci := 7) (kd := 27) (ct := ct) hx hb htb i_Md hown hK hP m0 rfl rfl 12 e_19 (by decide) (htb (.fieldLink R_Md 67 "WaterMenModel" "gaps" "[I") tw_468) (fun _ h9 => h9) rfl d_Md_absent_111 ?_
                      refine hb_tv (.ref q_19) rfl ?_
                      refine lv_iload_n hx hb d_Md_absent_114 rfl (lv_at hl 1 rfl) ?_
                      refine tw_aldxI (ct := ct) (x := x_20) hx hb hK hP m_19 rfl (hb_inl c_2 c_3 (by decide +kernel)) e_20 d_Md_absent_115 ?_
                      refine lv_bipush (v := 6) hx hb d_Md_absent_116 (by decide +kernel) ?_
                      refine lv_icmp_ne (tgt := 124) hx hb d_Md_absent_118 (by decide) (fun c_23 => ?_) (fun c_23 => ?_)
                      · have hQ := hQ.2 c_23
                        refine lv_aload_n hx hb d_Md_absent_124 rfl (lv_at hl 0 rfl) ?_
                        refine tw_getr (D := (dC, dI)) (C := R_Md) (T := F_Md) (N := 64) (ci := 7) (kd := 27) (ct := ct) hx hb htb i_Md hown hK hP hO_0 m0 rfl rfl 13 (by decide) (htb (.fieldLink R_Md 70 "WaterMenModel" "gapFrom" "[I") tw_480) (fun _ h9 => h9) rfl d_Md_absent_125 (fun q_24 e_24 m_24 => ?_)
                        have hQ := hQ q_24 e_24
                        refine lv_bipush (v := 6) hx hb d_Md_absent_128 (by decide +kernel) ?_
                        refine lv_iload_n hx hb d_Md_absent_130 rfl (lv_at hl 1 rfl) ?_
                        refine lv_imul hx hb d_Md_absent_131 ?_
                        refine lv_aload_n hx hb d_Md_absent_132 rfl (lv_at hl 0 rfl) ?_
                        refine tw_getR (D := (dC, dI)) (C := R_Md) (T := F_Md) (N := 64) (ci := 7) (kd := 27) (ct := ct) hx hb htb i_Md hown hK hP m0 rfl rfl 12 e_19 (by decide) (htb (.fieldLink R_Md 67 "WaterMenModel" "gaps" "[I") tw_468) (fun _ h9 => h9) rfl d_Md_absent_133 ?_
                        refine hb_tv (.ref q_19) rfl ?_
                        refine lv_iload_n hx hb d_Md_absent_136 rfl (lv_at hl 1 rfl) ?_
                        refine tw_aldxI (ct := ct) (x := x_20) hx hb hK hP m_19 rfl (hb_inl c_2 c_3 (by decide +kernel)) e_20 d_Md_absent_137 ?_
                        refine lv_iadd hx hb d_Md_absent_138 ?_
                        refine lv_iload_n hx hb d_Md_absent_139 rfl (lv_at hl 2 rfl) ?_
                        refine tw_astI (ct := ct) (x := p_1) hx hb hK hP hD hS hO_0 m_24 rfl ((fun (a_0 : Int32) (a_1 : Int32) (a_2 : Int32) (k_0 : ¬ (a_0 < 0)) (k_1 : ¬ (39 < a_0)) (k_2 : ¬ (a_2 < 0)) (k_3 : a_2 ≤ a_1) (k_4 : ¬ (a_2 = 6)) (k_5 : ¬ (6 < a_1)) => (show vp_in (((6 * a_0) + a_2)) 240 from by have z0 : (0 : Int32).toInt = 0 := (by decide +kernel); have z1 : (6 : Int32).toInt = 6 := (by decide +kernel); have z2 : (39 : Int32).toInt = 39 := (by decide +kernel); have r0 := fb_rng (a_0); have r1 := fb_rng (a_1); have r2 := fb_rng (a_2); have e0 := k_0; rw [Int32.lt_iff_toInt_lt, z0] at e0; have e1 := k_1; rw [Int32.lt_iff_toInt_lt, z2] at e1; have e2 := k_2; rw [Int32.lt_iff_toInt_lt, z0] at e2; have e3 := k_3; rw [Int32.le_iff_toInt_le] at e3; have e4 := k_4; rw [← Int32.toInt_inj, z1] at e4; have e5 := k_5; rw [Int32.lt_iff_toInt_lt, z1] at e5; obtain ⟨n_0, hn_0, s0⟩ := nd_mul (x := (6 : Int32)) (y := (a_0)) (by (try rw [z1]); omega) (by (try rw [z1]); omega); rw [z1] at s0; obtain ⟨n_1, hn_1, s1⟩ := nd_add (x := n_0) (y := (a_2)) (by omega) (by omega); rw [hn_0, hn_1, vp_in_iff]; omega)) p_0 v4_18 x_20 c_2 c_3 b_20.1 c_21 c_23 iv1_18) (i32_full _) d_Md_absent_140 (fun f_1 H locs hP hD hS hO_1 hE_1 w_26 ow_26 hF_1 => ?_)
                        have hA_1 := hA_0.trans hE_1
                        have hQ := hQ f_1 hF_1
                        have hQ := hQ hO_1
                        refine lv_aload_n hx hb d_Md_absent_141 rfl (lv_at hl 0 rfl) ?_
                        refine tw_getr (D := (dC, dI)) (C := R_Md) (T := F_Md) (N := 64) (ci := 7) (kd := 27) (ct := ct) hx hb htb i_Md hown hK hP hO_1 (hA_1.m m0) rfl rfl 14 (by decide) (htb (.fieldLink R_Md 73 "WaterMenModel" "gapTo" "[I") tw_481) (fun _ h9 => h9) rfl d_Md_absent_142 (fun q_27 e_27 m_27 => ?_)
                        have hQ := hQ q_27 e_27
                        refine lv_bipush (v := 6) hx hb d_Md_absent_145 (by decide +kernel) ?_
                        refine lv_iload_n hx hb d_Md_absent_147 rfl (lv_at hl 1 rfl) ?_
                        refine lv_imul hx hb d_Md_absent_148 ?_
                        refine lv_aload_n hx hb d_Md_absent_149 rfl (lv_at hl 0 rfl) ?_
                        refine tw_getR (D := (dC, dI)) (C := R_Md) (T := F_Md) (N := 64) (ci := 7) (kd := 27) (ct := ct) hx hb htb i_Md hown hK hP (hA_1.m m0) rfl rfl 12 ((hA_1.er m0 rfl).trans e_19) (by decide) (htb (.fieldLink R_Md 67 "WaterMenModel" "gaps" "[I") tw_468) (fun _ h9 => h9) rfl d_Md_absent_150 ?_
                        refine hb_tv (.ref q_19) rfl ?_
                        refine lv_iload_n hx hb d_Md_absent_153 rfl (lv_at hl 1 rfl) ?_
                        refine tw_aldxI (ct := ct) (x := x_20) hx hb hK hP (hA_1.m m_19) rfl (hb_inl c_2 c_3 (by decide +kernel)) ((hA_1.ei m_19 rfl).trans e_20) d_Md_absent_154 ?_
                        refine lv_iadd hx hb d_Md_absent_155 ?_
                        refine lv_iload_n hx hb d_Md_absent_156 rfl (lv_at hl 3 rfl) ?_
                        refine tw_astI (ct := ct) (x := p_2) hx hb hK hP hD hS hO_1 m_27 rfl ((fun (a_0 : Int32) (a_1 : Int32) (a_2 : Int32) (k_0 : ¬ (a_0 < 0)) (k_1 : ¬ (39 < a_0)) (k_2 : ¬ (a_2 < 0)) (k_3 : a_2 ≤ a_1) (k_4 : ¬ (a_2 = 6)) (k_5 : ¬ (6 < a_1)) => (show vp_in (((6 * a_0) + a_2)) 240 from by have z0 : (0 : Int32).toInt = 0 := (by decide +kernel); have z1 : (6 : Int32).toInt = 6 := (by decide +kernel); have z2 : (39 : Int32).toInt = 39 := (by decide +kernel); have r0 := fb_rng (a_0); have r1 := fb_rng (a_1); have r2 := fb_rng (a_2); have e0 := k_0; rw [Int32.lt_iff_toInt_lt, z0] at e0; have e1 := k_1; rw [Int32.lt_iff_toInt_lt, z2] at e1; have e2 := k_2; rw [Int32.lt_iff_toInt_lt, z0] at e2; have e3 := k_3; rw [Int32.le_iff_toInt_le] at e3; have e4 := k_4; rw [← Int32.toInt_inj, z1] at e4; have e5 := k_5; rw [Int32.lt_iff_toInt_lt, z1] at e5; obtain ⟨n_0, hn_0, s0⟩ := nd_mul (x := (6 : Int32)) (y := (a_0)) (by (try rw [z1]); omega) (by (try rw [z1]); omega); rw [z1] at s0; obtain ⟨n_1, hn_1, s1⟩ := nd_add (x := n_0) (y := (a_2)) (by omega) (by omega); rw [hn_0, hn_1, vp_in_iff]; omega)) p_0 v4_18 x_20 c_2 c_3 b_20.1 c_21 c_23 iv1_18) (i32_full _) d_Md_absent_157 (fun f_2 H locs hP hD hS hO_2 hE_2 w_29 ow_29 hF_2 => ?_)
                        have hA_2 := hA_1.trans hE_2
                        have hQ := hQ f_2 hF_2
                        have hQ := hQ hO_2
                        refine lv_aload_n hx hb d_Md_absent_158 rfl (lv_at hl 0 rfl) ?_
                        refine tw_getR (D := (dC, dI)) (C := R_Md) (T := F_Md) (N := 64) (ci := 7) (kd := 27) (ct := ct) hx hb htb i_Md hown hK hP (hA_2.m m0) rfl rfl 12 ((hA_2.er m0 rfl).trans e_19) (by decide) (htb (.fieldLink R_Md 67 "WaterMenModel" "gaps" "[I") tw_468) (fun _ h9 => h9) rfl d_Md_absent_159 ?_
                        refine hb_tv (.ref q_19) rfl ?_
                        refine lv_iload_n hx hb d_Md_absent_162 rfl (lv_at hl 1 rfl) ?_
                        refine lv_dup2_11 hx hb d_Md_absent_163 rfl rfl ?_
                        refine tw_aldxI (ct := ct) (x := x_20) hx hb hK hP (hA_2.m m_19) rfl (hb_inl c_2 c_3 (by decide +kernel)) ((hA_2.ei m_19 rfl).trans e_20) d_Md_absent_164 ?_
                        refine lv_iconst (v := 1) hx hb d_Md_absent_165 (by decide +kernel) ?_
                        refine lv_iadd hx hb d_Md_absent_166 ?_
                        refine tw_astI (ct := ct) (x := (x_20 + 1)) hx hb hK hP hD hS hO_2 (hA_2.m m_19) rfl (hb_inl c_2 c_3 (by decide +kernel)) ⟨(show ¬ ((x_20 + 1) < 0) from by have e0 := b_20.1; rw [Int32.lt_iff_toInt_lt] at e0; have e1 := b_20.2; rw [Int32.lt_iff_toInt_lt] at e1; have e2 := c_23; rw [← Int32.toInt_inj] at e2; have z0 : (0 : Int32).toInt = 0 := (by decide +kernel); have z1 : (1 : Int32).toInt = 1 := (by decide +kernel); have z2 : (6 : Int32).toInt = 6 := (by decide +kernel); have ss := fb_addI (x := x_20) (y := 1) (by omega) (by omega); rw [Int32.lt_iff_toInt_lt]; omega), (show ¬ (6 < (x_20 + 1)) from by have e0 := b_20.1; rw [Int32.lt_iff_toInt_lt] at e0; have e1 := b_20.2; rw [Int32.lt_iff_toInt_lt] at e1; have e2 := c_23; rw [← Int32.toInt_inj] at e2; have z0 : (0 : Int32).toInt = 0 := (by decide +kernel); have z1 : (1 : Int32).toInt = 1 := (by decide +kernel); have z2 : (6 : Int32).toInt = 6 := (by decide +kernel); have ss := fb_addI (x := x_20) (y := 1) (by omega) (by omega); rw [Int32.lt_iff_toInt_lt]; omega)⟩ d_Md_absent_167 (fun f_3 H locs hP hD hS hO_3 hE_3 w_31 ow_31 hF_3 => ?_)
                        have hA_3 := hA_2.trans hE_3
                        have hQ := hQ f_3 hF_3
                        have hQ := hQ hO_3
                        refine lv_aload_n hx hb d_Md_absent_168 rfl (lv_at hl 0 rfl) ?_
                        refine tw_getR (D := (dC, dI)) (C := R_Md) (T := F_Md) (N := 64) (ci := 7) (kd := 27) (ct := ct) hx hb htb i_Md hown hK hP (hA_3.m m0) rfl rfl 12 ((hA_3.er m0 rfl).trans e_19) (by decide) (htb (.fieldLink R_Md 67 "WaterMenModel" "gaps" "[I") tw_468) (fun _ h9 => h9) rfl d_Md_absent_169 ?_
                        refine hb_tv (.ref q_19) rfl ?_
                        refine lv_iload_n hx hb d_Md_absent_172 rfl (lv_at hl 1 rfl) ?_
                        refine tw_aldxI (ct := ct) (x := (x_20 + 1)) hx hb hK hP (hA_3.m m_19) rfl (hb_inl c_2 c_3 (by decide +kernel)) w_31 d_Md_absent_173 ?_
                        refine W.widen (k := 0) (n := 0) (Nat.le_of_ble_eq_true rfl) (Nat.le_of_ble_eq_true rfl) ?_
                        exact W.iret (v := (x_20 + 1)) hx hb hr (fun t ht hW => ⟨⟨(x_20 + 1), (L, f_3), rfl, ⟨hO_3, hA_3.mono (by decide +kernel), trivial, hQ⟩, by rw [ht]; exact hP, va_K.moved hW.alike hK, by rw [hAe]; exact hD⟩, by rw [hAe]; exact hS.F ht⟩) (by rw [hAe]; exact hS.2.2) d_Md_absent_174
                      · have hQ := hQ.1 c_23
                        refine lv_bipush (v := (-3)) hx hb d_Md_absent_121 (by decide +kernel) ?_
                        refine W.widen (k := 0) (n := 0) (Nat.le_of_ble_eq_true rfl) (Nat.le_of_ble_eq_true rfl) ?_
                        exact W.iret (v := (-3)) hx hb hr (fun t ht hW => ⟨⟨(-3), (L, f), rfl, ⟨hO_0, hA_0.mono (by decide +kernel), trivial, hQ⟩, by rw [ht]; exact hP, va_K.moved hW.alike hK, by rw [hAe]; exact hD⟩, by rw [hAe]; exact hS.F ht⟩) (by rw [hAe]; exact hS.2.2) d_Md_absent_123
                    · have hQ := hQ.2 c_21
                      refine lv_iload_n hx hb d_Md_absent_65 rfl (lv_at hl 2 rfl) ?_
                      refine lv_aload_n hx hb d_Md_absent_66 rfl (lv_at hl 0 rfl) ?_
                      refine tw_getr (D := (dC, dI)) (C := R_Md) (T := F_Md) (N := 64) (ci := 7) (kd := 27) (ct := ct) hx hb htb i_Md hown hK hP hO_0 m0 rfl rfl 14 (by decide) (htb (.fieldLink R_Md 73 "WaterMenModel" "gapTo" "[I") tw_481) (fun _ h9 => h9) rfl d_Md_absent_67 (fun q_33 e_33 m_33 => ?_)
                      have hQ := hQ q_33 e_33
                      refine lv_bipush (v := 6) hx hb d_Md_absent_70 (by decide +kernel) ?_
                      refine lv_iload_n hx hb d_Md_absent_72 rfl (lv_at hl 1 rfl) ?_
                      refine lv_imul hx hb d_Md_absent_73 ?_
                      refine lv_iload hx hb d_Md_absent_74 (lv_at hl 4 rfl) ?_
                      refine lv_iadd hx hb d_Md_absent_76 ?_
                      refine tw_aldI (ct := ct) hx hb hK hP hO_0 m_33 rfl ((fun (a_0 : Int32) (a_1 : Int32) (a_2 : Int32) (k_0 : ¬ (a_0 < 0)) (k_1 : ¬ (39 < a_0)) (k_2 : ¬ (a_1 < 0)) (k_3 : ¬ (a_2 ≤ a_1)) (k_4 : ¬ (6 < a_2)) => (show vp_in (((6 * a_0) + a_1)) 240 from by have z0 : (0 : Int32).toInt = 0 := (by decide +kernel); have z1 : (6 : Int32).toInt = 6 := (by decide +kernel); have z2 : (39 : Int32).toInt = 39 := (by decide +kernel); have r0 := fb_rng (a_0); have r1 := fb_rng (a_1); have r2 := fb_rng (a_2); have e0 := k_0; rw [Int32.lt_iff_toInt_lt, z0] at e0; have e1 := k_1; rw [Int32.lt_iff_toInt_lt, z2] at e1; have e2 := k_2; rw [Int32.lt_iff_toInt_lt, z0] at e2; have e3 := k_3; rw [Int32.le_iff_toInt_le] at e3; have e4 := k_4; rw [Int32.lt_iff_toInt_lt, z1] at e4; obtain ⟨n_0, hn_0, s0⟩ := nd_mul (x := (6 : Int32)) (y := (a_0)) (by (try rw [z1]); omega) (by (try rw [z1]); omega); rw [z1] at s0; obtain ⟨n_1, hn_1, s1⟩ := nd_add (x := n_0) (y := (a_1)) (by omega) (by omega); rw [hn_0, hn_1, vp_in_iff]; omega)) p_0 v4_18 x_20 c_2 c_3 iv0_18 c_21 b_20.2) d_Md_absent_77 (fun x_34 e_34 b_34 => ?_)
                      have hQ := hQ x_34 e_34
                      refine lv_iconst (v := 1) hx hb d_Md_absent_78 (by decide +kernel) ?_
                      refine lv_iadd hx hb d_Md_absent_79 ?_
                      refine lv_icmp_gt (tgt := 104) hx hb d_Md_absent_80 (by decide) (fun c_35 => ?_) (fun c_35 => ?_)
                      · have hQ := hQ.1 c_35
                        refine lv_iinc (v := (v4_18 + 1)) (lv' := [(4, .int (v4_18 + 1)), (0, .ref q0), (1, .int p_0), (2, .int p_1), (3, .int p_2)]) hx hb d_Md_absent_104 hl (k := 4) rfl rfl (by decide) rfl (fun ls hl => ?_)
                        refine lv_goto (tgt := 54) hx hb d_Md_absent_107 (by decide) ?_
                        exact ih_18 (n_18 - 1) (ms_1 ((fun (a_0 : Int32) (a_1 : Int32) (k_0 : ¬ (a_1 ≤ a_0)) (k_1 : ¬ (6 < a_1)) => (show 1 ≤ (6 : Int32).toInt - (a_0).toInt ∧ (6 : Int32).toInt - ((a_0) + (1 : Int32)).toInt + 1 ≤ (6 : Int32).toInt - (a_0).toInt from by have z0 : (1 : Int32).toInt = 1 := (by decide +kernel); have z1 : (6 : Int32).toInt = 6 := (by decide +kernel); have r0 := fb_rng (a_0); have r1 := fb_rng (a_1); have e0 := k_0; rw [Int32.le_iff_toInt_le] at e0; have e1 := k_1; rw [Int32.lt_iff_toInt_lt, z1] at e1; obtain ⟨n_0, hn_0, s0⟩ := nd_add (x := (a_0)) (y := (1 : Int32)) (by (try rw [z0]); omega) (by (try rw [z0]); omega); rw [z0] at s0; rw [hn_0]; (try rw [z1]); omega)) v4_18 x_20 c_21 b_20.2) hm_18) (v4_18 + 1) _ (show ¬ ((v4_18 + 1) < 0) from by have e0 := iv0_18; rw [Int32.lt_iff_toInt_lt] at e0; have e1 := iv1_18; rw [Int32.lt_iff_toInt_lt] at e1; have z0 : (0 : Int32).toInt = 0 := (by decide +kernel); have z1 : (1 : Int32).toInt = 1 := (by decide +kernel); have z2 : (6 : Int32).toInt = 6 := (by decide +kernel); have ss := fb_addI (x := v4_18) (y := 1) (by omega) (by omega); rw [Int32.lt_iff_toInt_lt]; omega) (show ¬ (6 < (v4_18 + 1)) from ((fun (a_0 : Int32) (a_1 : Int32) (k_0 : ¬ (a_1 ≤ a_0)) (k_1 : ¬ (6 < a_1)) => (show ¬ (6 < (a_0 + 1)) from by have z0 : (1 : Int32).toInt = 1 := (by decide +kernel); have z1 : (6 : Int32).toInt = 6 := (by decide +kernel); have r0 := fb_rng (a_0); have r1 := fb_rng (a_1); have e0 := k_0; rw [Int32.le_iff_toInt_le] at e0; have e1 := k_1; rw [Int32.lt_iff_toInt_lt, z1] at e1; obtain ⟨n_0, hn_0, s0⟩ := nd_add (x := (a_0)) (y := (1 : Int32)) (by (try rw [z0]); omega) (by (try rw [z0]); omega); rw [z0] at s0; rw [hn_0, Int32.lt_iff_toInt_lt, z1]; omega)) v4_18 x_20 c_21 b_20.2)) (by exact ms_2 ((fun (a_0 : Int32) (a_1 : Int32) (k_0 : ¬ (a_1 ≤ a_0)) (k_1 : ¬ (6 < a_1)) => (show 1 ≤ (6 : Int32).toInt - (a_0).toInt ∧ (6 : Int32).toInt - ((a_0) + (1 : Int32)).toInt + 1 ≤ (6 : Int32).toInt - (a_0).toInt from by have z0 : (1 : Int32).toInt = 1 := (by decide +kernel); have z1 : (6 : Int32).toInt = 6 := (by decide +kernel); have r0 := fb_rng (a_0); have r1 := fb_rng (a_1); have e0 := k_0; rw [Int32.le_iff_toInt_le] at e0; have e1 := k_1; rw [Int32.lt_iff_toInt_lt, z1] at e1; obtain ⟨n_0, hn_0, s0⟩ := nd_add (x := (a_0)) (y := (1 : Int32)) (by (try rw [z0]); omega) (by (try rw [z0]); omega); rw [z0] at s0; rw [hn_0]; (try rw [z1]); omega)) v4_18 x_20 c_21 b_20.2) hm_18) (by rw [← hrec_18, wpR_Md_absent_w_54_18_pos (ms_3 ((fun (a_0 : Int32) (a_1 : Int32) (k_0 : ¬ (a_1 ≤ a_0)) (k_1 : ¬ (6 < a_1)) => (show 1 ≤ (6 : Int32).toInt - (a_0).toInt ∧ (6 : Int32).toInt - ((a_0) + (1 : Int32)).toInt + 1 ≤ (6 : Int32).toInt - (a_0).toInt from by have z0 : (1 : Int32).toInt = 1 := (by decide +kernel); have z1 : (6 : Int32).toInt = 6 := (by decide +kernel); have r0 := fb_rng (a_0); have r1 := fb_rng (a_1); have e0 := k_0; rw [Int32.le_iff_toInt_le] at e0; have e1 := k_1; rw [Int32.lt_iff_toInt_lt, z1] at e1; obtain ⟨n_0, hn_0, s0⟩ := nd_add (x := (a_0)) (y := (1 : Int32)) (by (try rw [z0]); omega) (by (try rw [z0]); omega); rw [z0] at s0; rw [hn_0]; (try rw [z1]); omega)) v4_18 x_20 c_21 b_20.2) hm_18)] at hQ; exact hQ) (lv_sub hl [1, 2, 3, 4, 0] rfl)
                      · have hQ := hQ.2 c_35
                        refine lv_iload_n hx hb d_Md_absent_83 rfl (lv_at hl 3 rfl) ?_
                        refine lv_aload_n hx hb d_Md_absent_84 rfl (lv_at hl 0 rfl) ?_
                        refine tw_getr (D := (dC, dI)) (C := R_Md) (T := F_Md) (N := 64) (ci := 7) (kd := 27) (ct := ct) hx hb htb i_Md hown hK hP hO_0 m0 rfl rfl 13 (by decide) (htb (.fieldLink R_Md 70 "WaterMenModel" "gapFrom" "[I") tw_480) (fun _ h9 => h9) rfl d_Md_absent_85 (fun q_36 e_36 m_36 => ?_)
                        have hQ := hQ q_36 e_36
                        refine lv_bipush (v := 6) hx hb d_Md_absent_88 (by decide +kernel) ?_
                        refine lv_iload_n hx hb d_Md_absent_90 rfl (lv_at hl 1 rfl) ?_
                        refine lv_imul hx hb d_Md_absent_91 ?_
                        refine lv_iload hx hb d_Md_absent_92 (lv_at hl 4 rfl) ?_
                        refine lv_iadd hx hb d_Md_absent_94 ?_
                        refine tw_aldI (ct := ct) hx hb hK hP hO_0 m_36 rfl ((fun (a_0 : Int32) (a_1 : Int32) (a_2 : Int32) (k_0 : ¬ (a_0 < 0)) (k_1 : ¬ (39 < a_0)) (k_2 : ¬ (a_1 < 0)) (k_3 : ¬ (a_2 ≤ a_1)) (k_4 : ¬ (6 < a_2)) => (show vp_in (((6 * a_0) + a_1)) 240 from by have z0 : (0 : Int32).toInt = 0 := (by decide +kernel); have z1 : (6 : Int32).toInt = 6 := (by decide +kernel); have z2 : (39 : Int32).toInt = 39 := (by decide +kernel); have r0 := fb_rng (a_0); have r1 := fb_rng (a_1); have r2 := fb_rng (a_2); have e0 := k_0; rw [Int32.lt_iff_toInt_lt, z0] at e0; have e1 := k_1; rw [Int32.lt_iff_toInt_lt, z2] at e1; have e2 := k_2; rw [Int32.lt_iff_toInt_lt, z0] at e2; have e3 := k_3; rw [Int32.le_iff_toInt_le] at e3; have e4 := k_4; rw [Int32.lt_iff_toInt_lt, z1] at e4; obtain ⟨n_0, hn_0, s0⟩ := nd_mul (x := (6 : Int32)) (y := (a_0)) (by (try rw [z1]); omega) (by (try rw [z1]); omega); rw [z1] at s0; obtain ⟨n_1, hn_1, s1⟩ := nd_add (x := n_0) (y := (a_1)) (by omega) (by omega); rw [hn_0, hn_1, vp_in_iff]; omega)) p_0 v4_18 x_20 c_2 c_3 iv0_18 c_21 b_20.2) d_Md_absent_95 (fun x_37 e_37 b_37 => ?_)
                        have hQ := hQ x_37 e_37
                        refine lv_iconst (v := 1) hx hb d_Md_absent_96 (by decide +kernel) ?_
                        refine lv_isub hx hb d_Md_absent_97 ?_
                        refine lv_icmp_lt (tgt := 104) hx hb d_Md_absent_98 (by decide) (fun c_38 => ?_) (fun c_38 => ?_)
                        · have hQ := hQ.1 c_38
                          refine lv_iinc (v := (v4_18 + 1)) (lv' := [(4, .int (v4_18 + 1)), (0, .ref q0), (1, .int p_0), (2, .int p_1), (3, .int p_2)]) hx hb d_Md_absent_104 hl (k := 4) rfl rfl (by decide) rfl (fun ls hl => ?_)
                          refine lv_goto (tgt := 54) hx hb d_Md_absent_107 (by decide) ?_
                          exact ih_18 (n_18 - 1) (ms_1 ((fun (a_0 : Int32) (a_1 : Int32) (k_0 : ¬ (a_1 ≤ a_0)) (k_1 : ¬ (6 < a_1)) => (show 1 ≤ (6 : Int32).toInt - (a_0).toInt ∧ (6 : Int32).toInt - ((a_0) + (1 : Int32)).toInt + 1 ≤ (6 : Int32).toInt - (a_0).toInt from by have z0 : (1 : Int32).toInt = 1 := (by decide +kernel); have z1 : (6 : Int32).toInt = 6 := (by decide +kernel); have r0 := fb_rng (a_0); have r1 := fb_rng (a_1); have e0 := k_0; rw [Int32.le_iff_toInt_le] at e0; have e1 := k_1; rw [Int32.lt_iff_toInt_lt, z1] at e1; obtain ⟨n_0, hn_0, s0⟩ := nd_add (x := (a_0)) (y := (1 : Int32)) (by (try rw [z0]); omega) (by (try rw [z0]); omega); rw [z0] at s0; rw [hn_0]; (try rw [z1]); omega)) v4_18 x_20 c_21 b_20.2) hm_18) (v4_18 + 1) _ (show ¬ ((v4_18 + 1) < 0) from by have e0 := iv0_18; rw [Int32.lt_iff_toInt_lt] at e0; have e1 := iv1_18; rw [Int32.lt_iff_toInt_lt] at e1; have z0 : (0 : Int32).toInt = 0 := (by decide +kernel); have z1 : (1 : Int32).toInt = 1 := (by decide +kernel); have z2 : (6 : Int32).toInt = 6 := (by decide +kernel); have ss := fb_addI (x := v4_18) (y := 1) (by omega) (by omega); rw [Int32.lt_iff_toInt_lt]; omega) (show ¬ (6 < (v4_18 + 1)) from ((fun (a_0 : Int32) (a_1 : Int32) (k_0 : ¬ (a_1 ≤ a_0)) (k_1 : ¬ (6 < a_1)) => (show ¬ (6 < (a_0 + 1)) from by have z0 : (1 : Int32).toInt = 1 := (by decide +kernel); have z1 : (6 : Int32).toInt = 6 := (by decide +kernel); have r0 := fb_rng (a_0); have r1 := fb_rng (a_1); have e0 := k_0; rw [Int32.le_iff_toInt_le] at e0; have e1 := k_1; rw [Int32.lt_iff_toInt_lt, z1] at e1; obtain ⟨n_0, hn_0, s0⟩ := nd_add (x := (a_0)) (y := (1 : Int32)) (by (try rw [z0]); omega) (by (try rw [z0]); omega); rw [z0] at s0; rw [hn_0, Int32.lt_iff_toInt_lt, z1]; omega)) v4_18 x_20 c_21 b_20.2)) (by exact ms_2 ((fun (a_0 : Int32) (a_1 : Int32) (k_0 : ¬ (a_1 ≤ a_0)) (k_1 : ¬ (6 < a_1)) => (show 1 ≤ (6 : Int32).toInt - (a_0).toInt ∧ (6 : Int32).toInt - ((a_0) + (1 : Int32)).toInt + 1 ≤ (6 : Int32).toInt - (a_0).toInt from by have z0 : (1 : Int32).toInt = 1 := (by decide +kernel); have z1 : (6 : Int32).toInt = 6 := (by decide +kernel); have r0 := fb_rng (a_0); have r1 := fb_rng (a_1); have e0 := k_0; rw [Int32.le_iff_toInt_le] at e0; have e1 := k_1; rw [Int32.lt_iff_toInt_lt, z1] at e1; obtain ⟨n_0, hn_0, s0⟩ := nd_add (x := (a_0)) (y := (1 : Int32)) (by (try rw [z0]); omega) (by (try rw [z0]); omega); rw [z0] at s0; rw [hn_0]; (try rw [z1]); omega)) v4_18 x_20 c_21 b_20.2) hm_18) (by rw [← hrec_18, wpR_Md_absent_w_54_18_pos (ms_3 ((fun (a_0 : Int32) (a_1 : Int32) (k_0 : ¬ (a_1 ≤ a_0)) (k_1 : ¬ (6 < a_1)) => (show 1 ≤ (6 : Int32).toInt - (a_0).toInt ∧ (6 : Int32).toInt - ((a_0) + (1 : Int32)).toInt + 1 ≤ (6 : Int32).toInt - (a_0).toInt from by have z0 : (1 : Int32).toInt = 1 := (by decide +kernel); have z1 : (6 : Int32).toInt = 6 := (by decide +kernel); have r0 := fb_rng (a_0); have r1 := fb_rng (a_1); have e0 := k_0; rw [Int32.le_iff_toInt_le] at e0; have e1 := k_1; rw [Int32.lt_iff_toInt_lt, z1] at e1; obtain ⟨n_0, hn_0, s0⟩ := nd_add (x := (a_0)) (y := (1 : Int32)) (by (try rw [z0]); omega) (by (try rw [z0]); omega); rw [z0] at s0; rw [hn_0]; (try rw [z1]); omega)) v4_18 x_20 c_21 b_20.2) hm_18)] at hQ; exact hQ) (lv_sub hl [1, 2, 3, 4, 0] rfl)
                        · have hQ := hQ.2 c_38
                          refine lv_bipush (v := (-2)) hx hb d_Md_absent_101 (by decide +kernel) ?_
                          refine W.widen (k := 0) (n := 0) (Nat.le_of_ble_eq_true rfl) (Nat.le_of_ble_eq_true rfl) ?_
                          exact W.iret (v := (-2)) hx hb hr (fun t ht hW => ⟨⟨(-2), (L, f), rfl, ⟨hO_0, hA_0.mono (by decide +kernel), trivial, hQ⟩, by rw [ht]; exact hP, va_K.moved hW.alike hK, by rw [hAe]; exact hD⟩, by rw [hAe]; exact hS.F ht⟩) (by rw [hAe]; exact hS.2.2) d_Md_absent_103
                exact cut_18 ((6 : Int32).toInt - (0 : Int32).toInt).toNat (0 : Int32) _ (by decide +kernel) (by decide +kernel) (by exact ms_e _ _) hQ (lv_sub hl [1, 2, 3, 4, 0] rfl)
              · have hQ := hQ.2 c_17
                refine lv_iconst (v := (-1)) hx hb d_Md_absent_49 (by decide +kernel) ?_
                refine W.widen (k := 0) (n := 0) (Nat.le_of_ble_eq_true rfl) (Nat.le_of_ble_eq_true rfl) ?_
                exact W.iret (v := (-1)) hx hb hr (fun t ht hW => ⟨⟨(-1), (L, f), rfl, ⟨hO_0, hA_0.mono (by decide +kernel), trivial, hQ⟩, by rw [ht]; exact hP, va_K.moved hW.alike hK, by rw [hAe]; exact hD⟩, by rw [hAe]; exact hS.F ht⟩) (by rw [hAe]; exact hS.2.2) d_Md_absent_50
            · have hQ := hQ.2 c_14
              refine lv_bipush (v := (-2)) hx hb d_Md_absent_36 (by decide +kernel) ?_
              refine W.widen (k := 0) (n := 0) (Nat.le_of_ble_eq_true rfl) (Nat.le_of_ble_eq_true rfl) ?_
              exact W.iret (v := (-2)) hx hb hr (fun t ht hW => ⟨⟨(-2), (L, f), rfl, ⟨hO_0, hA_0.mono (by decide +kernel), trivial, hQ⟩, by rw [ht]; exact hP, va_K.moved hW.alike hK, by rw [hAe]; exact hD⟩, by rw [hAe]; exact hS.F ht⟩) (by rw [hAe]; exact hS.2.2) d_Md_absent_38
          · have hQ := hQ.2 c_11
            refine lv_iconst (v := (-1)) hx hb d_Md_absent_24 (by decide +kernel) ?_
            refine W.widen (k := 0) (n := 0) (Nat.le_of_ble_eq_true rfl) (Nat.le_of_ble_eq_true rfl) ?_
            exact W.iret (v := (-1)) hx hb hr (fun t ht hW => ⟨⟨(-1), (L, f), rfl, ⟨hO_0, hA_0.mono (by decide +kernel), trivial, hQ⟩, by rw [ht]; exact hP, va_K.moved hW.alike hK, by rw [hAe]; exact hD⟩, by rw [hAe]; exact hS.F ht⟩) (by rw [hAe]; exact hS.2.2) d_Md_absent_25
