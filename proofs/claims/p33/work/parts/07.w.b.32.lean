def W_Md_sink_w : List (Nat × Nat) := [(27, 60), (33, 1000), (40, 1000), (48, 1000), (49, 1000), (70, 1000), (72, 1000), (73, 1000)]
def wp_Md_sink_w (L : List Nat) (f : TF) (q0 : Nat) (p_0 : Int32) (p_1 : Int32) (p_2 : Int32) (Q : Int32 → List Nat → TF → Prop) : Prop := wp_Md_isBoat_w L f q0 p_0 (fun (r_1 : Int32) => ((r_1 = 0 → Q (-1) L f) ∧ (r_1 = 1 → ((p_1 < 1 → Q (-1) L f) ∧ (¬ (p_1 < 1) → ((10000 < p_1 → Q (-1) L f) ∧ (¬ (10000 < p_1) → ((p_2 < 0 → Q (-1) L f) ∧ (¬ (p_2 < 0) → ((9999 < p_2 → Q (-1) L f) ∧ (¬ (9999 < p_2) → ∀ q_9 : Nat, tr f q0 25 = some q_9 → ∀ x_10 : Int32, ti f q_9 (p_0 : Int32).toNatClampNeg = x_10 → ((0 ≤ x_10 → ∀ x_12 : Int32, ti f q0 60 = x_12 → ((x_12 = 30 → Q (-3) L f) ∧ (¬ (x_12 = 30) → ∀ q_15 : Nat, tr f q0 55 = some q_15 → ∀ f_1 : TF, f_1 = sI f q_15 (x_10 : Int32).toNatClampNeg (vp_nar .boolean 1) → Ok L f_1 → ∀ q_17 : Nat, tr f_1 q0 26 = some q_17 → ∀ f_2 : TF, f_2 = sI f_1 q_17 (p_0 : Int32).toNatClampNeg (vp_nar .boolean 1) → Ok L f_2 → ∀ f_3 : TF, f_3 = sI f_2 q_9 (p_0 : Int32).toNatClampNeg (-1) → Ok L f_3 → ∀ q_20 : Nat, tr f_3 q0 9 = some q_20 → ∀ q_21 : Nat, tr f_3 q0 49 = some q_21 → ∀ x_22 : Int32, ti f_3 q_21 (x_10 : Int32).toNatClampNeg = x_22 → ∀ f_4 : TF, f_4 = sI f_3 q_20 (x_22 : Int32).toNatClampNeg 3 → Ok L f_4 → ∀ q_24 : Nat, tr f_4 q0 16 = some q_24 → ∀ f_5 : TF, f_5 = sI f_4 q_24 (x_22 : Int32).toNatClampNeg (-1) → Ok L f_5 → wp_Md_newPensioner_w L f_5 q0 p_1 p_2 (fun (r_27 : Int32) (L_6 : List Nat) (f_6 : TF) => Ok L_6 f_6 → Ext W_Md_newPensioner_w L f_5 L_6 f_6 → Q r_27 L_6 f_6)))) ∧ (¬ (0 ≤ x_10) → Q (-2) L f)))))))))))))
set_option maxHeartbeats 4000000 in
set_option maxRecDepth 100000 in
theorem c_Md_sink_w (l : Launch) (dC : Nat → ClassId) (dI : Nat → Nat → Nat) (ct : Nat → ClassId) (L : List Nat) (f : TF) (hO_0 : Ok L f) (q0 : Nat) (m0 : q0 ∈ L ∧ tk f q0 = 27) (sz : Nat) (p_0 : Int32) (p_1 : Int32) (p_2 : Int32)   (Q : Int32 → List Nat → TF → Prop) (hQ : wp_Md_sink_w L f q0 p_0 p_1 p_2 Q) : Met l y_Md_sink (.code y_Md_sink b_Md_sink 5 (some .int) :: TB) ({ frames := 2, cells := 0, slots := 0, locals := 43 }) (va_Pc [.ref q0, .int p_0, .int p_1, .int p_2] (PC dC dI (TW ct L f) (TT ct) sz)) (va_Qi (fun r (u : TSt) => Ok u.1 u.2 ∧ Ext W_Md_sink_w L f u.1 u.2 ∧ (True) ∧ Q r u.1 u.2) (fun (u : TSt) t => va_P (dC, dI) vwCl (TW ct u.1 u.2) t.heap ∧ va_K (dC, dI) vwCl (TT ct) t ∧ va_D (va_A (TW ct L f) sz) (TW ct u.1 u.2)) (va_A (TW ct L f) sz)) 0 0 (va_A (TW ct L f) sz) := by
  refine Met.ofW (cc := b_Md_sink) (maxL := 5) (ret := (some .int)) (by decide) rfl ?_
  intro p e s m args below meth c s₁ B hml hv
  obtain ⟨rfl, hsz, hP, hK, hD0, hN⟩ := hv
  have hx := B.exec
  have hb := B.bytes
  have hr := B.returns
  have hts := atoms_spec (ws := (.code y_Md_sink b_Md_sink 5 (some .int) :: TB)) B.pre
  have htb := fun w (h : w ∈ TB) => hts w (List.mem_cons_of_mem _ h)
  have hown : s.vm.findClass R_Md = some m.cls := findClass_of_methodNamed B.named
  have hlocks := B.notSynchronized
  have hl := lv_entry ([.ref q0, .int p_0, .int p_1, .int p_2]) (n := 5) (Nat.le_of_ble_eq_true rfl)
  rw [lg_entry_eq]
  generalize (lg_sl ([.ref q0, .int p_0, .int p_1, .int p_2]) ++ List.replicate (5 - (lg_sl ([.ref q0, .int p_0, .int p_1, .int p_2])).length) Slot.unset).toArray = ls at hl ⊢
  have hl : lv_has ls 5 [(0, .ref q0), (1, .int p_0), (2, .int p_1), (3, .int p_2)] := hl
  subst hsz
  have hD := hD0.self (sz := s.heap.size)
  obtain ⟨A, hAe⟩ : ∃ A, va_A (TW ct L f) s.heap.size = A := ⟨_, rfl⟩
  rw [hAe] at hD
  have hA : ∀ q : Nat, s.heap.size ≤ q → A q := fun q h => by rw [← hAe]; exact Or.inr h
  have hS : va_S A s.heap s.heap [] := va_S.rf
  have hA_0 : Ext [] L f L f := Ext.rf
  suffices hGo : ∀ (H : Heap) (locs : List Loc), va_P (dC, dI) vwCl (TW ct L f) H → va_S A s.heap H locs → W p l e (headSpec (.code y_Md_sink b_Md_sink 5 (some .int) :: TB) ({ frames := 2, cells := 0, slots := 0, locals := 43 })).room s m [.ref q0, .int p_0, .int p_1, .int p_2].toArray below meth c H locs 0 0 (MQ below (va_Qi (fun r (u : TSt) => Ok u.1 u.2 ∧ Ext W_Md_sink_w L f u.1 u.2 ∧ (True) ∧ Q r u.1 u.2) (fun (u : TSt) t => va_P (dC, dI) vwCl (TW ct u.1 u.2) t.heap ∧ va_K (dC, dI) vwCl (TT ct) t ∧ va_D (va_A (TW ct L f) s.heap.size) (TW ct u.1 u.2)) (va_A (TW ct L f) s.heap.size)) [.ref q0, .int p_0, .int p_1, .int p_2].toArray s 0 0 (va_A (TW ct L f) s.heap.size)) (F0 m 0 ls []) from hGo _ _ hP hS
  clear hP hS
  intro H locs hP hS
  unfold wp_Md_sink_w at hQ
  refine lv_aload_n hx hb d_Md_sink_0 rfl (lv_at hl 0 rfl) ?_
  refine lv_iload_n hx hb d_Md_sink_1 rfl (lv_at hl 1 rfl) ?_
  refine vp_callSi (va_Run.run (va_runV (As := [.int p_0]) (rest := []) ⟨hx, hb, hml, hown, htb⟩ (c_Md_isBoat_w l dC dI ct L f hO_0 q0 m0 p_0 _ hQ) (cwV 1 htb (gd_V tw_528 tw_529 tw_530 tw_89 tw_527) rfl rfl rfl (by decide +kernel) ⟨Nat.le_of_ble_eq_true rfl, Nat.le_of_ble_eq_true rfl⟩) ⟨pr_blind, tw_recv hK hP m0 rfl rfl, pr_pre hP hK hN⟩ rfl rfl hl.1 rfl (lv_room (Nat.le_of_ble_eq_true rfl)) d_Md_sink_2 ⟨Nat.le_of_ble_eq_true rfl, Nat.le_of_ble_eq_true rfl⟩)) (fun r_1 er_1 => ?_)
  obtain ⟨er_1, hQ⟩ := er_1
  rcases er_1 with ⟨rfl, -⟩ | ⟨rfl, po_2, po_3, -⟩
  · have hQ := hQ.1 rfl
    refine lv_if_eq (tgt := 16) hx hb d_Md_sink_5 (by decide) (fun _ => ?_) (fun h => absurd (by decide +kernel) h)
    refine lv_iconst (v := (-1)) hx hb d_Md_sink_16 (by decide +kernel) ?_
    refine W.widen (k := 0) (n := 0) (Nat.le_of_ble_eq_true rfl) (Nat.le_of_ble_eq_true rfl) ?_
    exact W.iret (v := (-1)) hx hb hr (fun t ht hW => ⟨⟨(-1), (L, f), rfl, ⟨hO_0, hA_0.mono (by decide +kernel), trivial, hQ⟩, by rw [ht]; exact hP, va_K.moved hW.alike hK, by rw [hAe]; exact hD⟩, by rw [hAe]; exact hS.F ht⟩) (by rw [hAe]; exact hS.2.2) d_Md_sink_17
  · have hQ := hQ.2 rfl
    refine lv_if_eq (tgt := 16) hx hb d_Md_sink_5 (by decide) (fun h => absurd h (by decide +kernel)) (fun _ => ?_)
    refine lv_iload_n hx hb d_Md_sink_8 rfl (lv_at hl 2 rfl) ?_
    refine lv_iload_n hx hb d_Md_sink_9 rfl (lv_at hl 3 rfl) ?_
    refine vp_callSi (va_Run.run (va_runS (As := [.int p_1, .int p_2]) (rest := []) ⟨hx, hb, hml, hown, htb⟩ (c_Md_isPension l p_1 p_2) (cwS 2 htb (gd_S tw_655 tw_656 tw_89 tw_654) rfl rfl rfl (by decide +kernel) ⟨Nat.le_of_ble_eq_true rfl, Nat.le_of_ble_eq_true rfl⟩) ⟨fun _ _ _ _ h => h, fun U _ _ => ⟨rfl, trivial⟩⟩ rfl rfl hl.1 rfl (lv_room (Nat.le_of_ble_eq_true rfl)) d_Md_sink_10 ⟨Nat.le_of_ble_eq_true rfl, Nat.le_of_ble_eq_true rfl⟩)) (fun r er => ?_)
    subst er
    by_cases c_5 : p_1 < 1
    · have hQ := hQ.1 c_5
      refine hb_ti 0 (by unfold f_Md_isPension; rw [if_pos c_5]; first | done | rfl) ?_
      refine lv_if_ne (tgt := 18) hx hb d_Md_sink_13 (by decide) (fun h => absurd (by decide +kernel) h) (fun _ => ?_)
      refine lv_iconst (v := (-1)) hx hb d_Md_sink_16 (by decide +kernel) ?_
      refine W.widen (k := 0) (n := 0) (Nat.le_of_ble_eq_true rfl) (Nat.le_of_ble_eq_true rfl) ?_
      exact W.iret (v := (-1)) hx hb hr (fun t ht hW => ⟨⟨(-1), (L, f), rfl, ⟨hO_0, hA_0.mono (by decide +kernel), trivial, hQ⟩, by rw [ht]; exact hP, va_K.moved hW.alike hK, by rw [hAe]; exact hD⟩, by rw [hAe]; exact hS.F ht⟩) (by rw [hAe]; exact hS.2.2) d_Md_sink_17
    · have hQ := hQ.2 c_5
      by_cases c_6 : 10000 < p_1
      · have hQ := hQ.1 c_6
        refine hb_ti 0 (by unfold f_Md_isPension; rw [if_neg c_5, if_pos c_6]; first | done | rfl) ?_
        refine lv_if_ne (tgt := 18) hx hb d_Md_sink_13 (by decide) (fun h => absurd (by decide +kernel) h) (fun _ => ?_)
        refine lv_iconst (v := (-1)) hx hb d_Md_sink_16 (by decide +kernel) ?_
        refine W.widen (k := 0) (n := 0) (Nat.le_of_ble_eq_true rfl) (Nat.le_of_ble_eq_true rfl) ?_
        exact W.iret (v := (-1)) hx hb hr (fun t ht hW => ⟨⟨(-1), (L, f), rfl, ⟨hO_0, hA_0.mono (by decide +kernel), trivial, hQ⟩, by rw [ht]; exact hP, va_K.moved hW.alike hK, by rw [hAe]; exact hD⟩, by rw [hAe]; exact hS.F ht⟩) (by rw [hAe]; exact hS.2.2) d_Md_sink_17
      · have hQ := hQ.2 c_6
        by_cases c_7 : p_2 < 0
        · have hQ := hQ.1 c_7
          refine hb_ti 0 (by unfold f_Md_isPension; rw [if_neg c_5, if_neg c_6, if_pos c_7]; first | done | rfl) ?_
          refine lv_if_ne (tgt := 18) hx hb d_Md_sink_13 (by decide) (fun h => absurd (by decide +kernel) h) (fun _ => ?_)
          refine lv_iconst (v := (-1)) hx hb d_Md_sink_16 (by decide +kernel) ?_
          refine W.widen (k := 0) (n := 0) (Nat.le_of_ble_eq_true rfl) (Nat.le_of_ble_eq_true rfl) ?_
          exact W.iret (v := (-1)) hx hb hr (fun t ht hW => ⟨⟨(-1), (L, f), rfl, ⟨hO_0, hA_0.mono (by decide +kernel), trivial, hQ⟩, by rw [ht]; exact hP, va_K.moved hW.alike hK, by rw [hAe]; exact hD⟩, by rw [hAe]; exact hS.F ht⟩) (by rw [hAe]; exact hS.2.2) d_Md_sink_17
        · have hQ := hQ.2 c_7
          by_cases c_8 : 9999 < p_2
          · have hQ := hQ.1 c_8
            refine hb_ti 0 (by unfold f_Md_isPension; rw [if_neg c_5, if_neg c_6, if_neg c_7, if_pos c_8]; first | done | rfl) ?_
            refine lv_if_ne (tgt := 18) hx hb d_Md_sink_13 (by decide) (fun h => absurd (by decide +kernel) h) (fun _ => ?_)
            refine lv_iconst (v := (-1)) hx hb d_Md_sink_16 (by decide +kernel) ?_
            refine W.widen (k := 0) (n := 0) (Nat.le_of_ble_eq_true rfl) (Nat.le_of_ble_eq_true rfl) ?_
            exact W.iret (v := (-1)) hx hb hr (fun t ht hW => ⟨⟨(-1), (L, f), rfl, ⟨hO_0, hA_0.mono (by decide +kernel), trivial, hQ⟩, by rw [ht]; exact hP, va_K.moved hW.alike hK, by rw [hAe]; exact hD⟩, by rw [hAe]; exact hS.F ht⟩) (by rw [hAe]; exact hS.2.2) d_Md_sink_17
          · have hQ := hQ.2 c_8
            refine hb_ti 1 (by unfold f_Md_isPension; rw [if_neg c_5, if_neg c_6, if_neg c_7, if_neg c_8]; first | done | rfl) ?_
            refine lv_if_ne (tgt := 18) hx hb d_Md_sink_13 (by decide) (fun _ => ?_) (fun h => absurd h (by decide +kernel))
            refine lv_aload_n hx hb d_Md_sink_18 rfl (lv_at hl 0 rfl) ?_
            refine tw_getr (D := (dC, dI)) (C := R_Md) (T := F_Md) (N := 64) (ci := 7) (kd := 27) (ct := ct) hx hb htb i_Md hown hK hP hO_0 m0 rfl rfl 25 (by decide) (htb (.fieldLink R_Md 103 "WaterMenModel" "boatTrip" "[I") tw_228) (fun _ h9 => h9) rfl d_Md_sink_19 (fun q_9 e_9 m_9 => ?_)
            have hQ := hQ q_9 e_9
            refine lv_iload_n hx hb d_Md_sink_22 rfl (lv_at hl 1 rfl) ?_
            refine tw_aldI (ct := ct) hx hb hK hP hO_0 m_9 rfl (hb_inl po_2 po_3 (by decide +kernel)) d_Md_sink_23 (fun x_10 e_10 b_10 => ?_)
            have hQ := hQ x_10 e_10
            refine lv_if_ge (tgt := 30) hx hb d_Md_sink_24 (by decide) (fun c_11 => ?_) (fun c_11 => ?_)
            · have hQ := hQ.1 c_11
              refine lv_aload_n hx hb d_Md_sink_30 rfl (lv_at hl 0 rfl) ?_
              refine tw_geti (D := (dC, dI)) (C := R_Md) (T := F_Md) (N := 64) (ci := 7) (kd := 27) (ct := ct) hx hb htb i_Md hown hK hP hO_0 m0 rfl rfl 60 (by decide) (htb (.fieldLink R_Md 323 "WaterMenModel" "pensioners" "I") tw_117) (fun _ h9 => h9) rfl d_Md_sink_31 (fun x_12 e_12 b_12 => ?_)
              have hQ := hQ x_12 e_12
              refine lv_bipush (v := 30) hx hb d_Md_sink_34 (by decide +kernel) ?_
              refine lv_icmp_ne (tgt := 42) hx hb d_Md_sink_36 (by decide) (fun c_13 => ?_) (fun c_13 => ?_)
              · have hQ := hQ.2 c_13
                refine lv_aload_n hx hb d_Md_sink_42 rfl (lv_at hl 0 rfl) ?_
                refine tw_getR (D := (dC, dI)) (C := R_Md) (T := F_Md) (N := 64) (ci := 7) (kd := 27) (ct := ct) hx hb htb i_Md hown hK hP m0 rfl rfl 25 e_9 (by decide) (htb (.fieldLink R_Md 103 "WaterMenModel" "boatTrip" "[I") tw_228) (fun _ h9 => h9) rfl d_Md_sink_43 ?_
                refine hb_tv (.ref q_9) rfl ?_
                refine lv_iload_n hx hb d_Md_sink_46 rfl (lv_at hl 1 rfl) ?_
                refine tw_aldxI (ct := ct) (x := x_10) hx hb hK hP m_9 rfl (hb_inl po_2 po_3 (by decide +kernel)) e_10 d_Md_sink_47 ?_
                refine lv_istore (lv' := [(4, .int x_10), (0, .ref q0), (1, .int p_0), (2, .int p_1), (3, .int p_2)]) hx hb d_Md_sink_48 hl (by decide) rfl (fun ls hl => ?_)
                refine lv_aload_n hx hb d_Md_sink_50 rfl (lv_at hl 1 rfl) ?_
                refine tw_getr (D := (dC, dI)) (C := R_Md) (T := F_Md) (N := 64) (ci := 7) (kd := 27) (ct := ct) hx hb htb i_Md hown hK hP hO_0 m0 rfl rfl 55 (by decide) (htb (.fieldLink R_Md 170 "WaterMenModel" "sank" "[Z") tw_629) (fun _ h9 => h9) rfl d_Md_sink_51 (fun q_15 e_15 m_15 => ?_)
                have hQ := hQ q_15 e_15
                refine lv_iload hx hb d_Md_sink_54 (lv_at hl 0 rfl) ?_
                refine lv_iconst (v := 1) hx hb d_Md_sink_56 (by decide +kernel) ?_
                refine tw_astZ (ct := ct) (x := 1) hx hb hK hP hD hS hO_0 m_15 rfl ((fun (a_0 : Int32) (k_0 : ¬ (599 < a_0)) (k_1 : 0 ≤ a_0) => (show vp_in (a_0) 600 from by have z0 : (0 : Int32).toInt = 0 := (by decide +kernel); have z1 : (599 : Int32).toInt = 599 := (by decide +kernel); have r0 := fb_rng (a_0); have e0 := k_0; rw [Int32.lt_iff_toInt_lt, z1] at e0; have e1 := k_1; rw [Int32.le_iff_toInt_le, z0] at e1; rw [vp_in_iff]; omega)) x_10 b_10.2 c_11) ⟨by decide +kernel, by decide +kernel⟩ d_Md_sink_57 (fun f_1 H locs hP hD hS hO_1 hE_1 w_16 ow_16 hF_1 => ?_)
                have hA_1 := hA_0.trans hE_1
                have hQ := hQ f_1 hF_1
                have hQ := hQ hO_1
                refine lv_aload_n hx hb d_Md_sink_58 rfl (lv_at hl 1 rfl) ?_
                refine tw_getr (D := (dC, dI)) (C := R_Md) (T := F_Md) (N := 64) (ci := 7) (kd := 27) (ct := ct) hx hb htb i_Md hown hK hP hO_1 (hA_1.m m0) rfl rfl 26 (by decide) (htb (.fieldLink R_Md 106 "WaterMenModel" "sunk" "[Z") tw_531) (fun _ h9 => h9) rfl d_Md_sink_59 (fun q_17 e_17 m_17 => ?_)
                have hQ := hQ q_17 e_17
                refine lv_iload_n hx hb d_Md_sink_62 rfl (lv_at hl 2 rfl) ?_
                refine lv_iconst (v := 1) hx hb d_Md_sink_63 (by decide +kernel) ?_
                refine tw_astZ (ct := ct) (x := 1) hx hb hK hP hD hS hO_1 m_17 rfl (hb_inl po_2 po_3 (by decide +kernel)) ⟨by decide +kernel, by decide +kernel⟩ d_Md_sink_64 (fun f_2 H locs hP hD hS hO_2 hE_2 w_18 ow_18 hF_2 => ?_)
                have hA_2 := hA_1.trans hE_2
                have hQ := hQ f_2 hF_2
                have hQ := hQ hO_2
                refine lv_aload_n hx hb d_Md_sink_65 rfl (lv_at hl 1 rfl) ?_
                refine tw_getR (D := (dC, dI)) (C := R_Md) (T := F_Md) (N := 64) (ci := 7) (kd := 27) (ct := ct) hx hb htb i_Md hown hK hP (hA_2.m m0) rfl rfl 25 ((hA_2.er m0 rfl).trans e_9) (by decide) (htb (.fieldLink R_Md 103 "WaterMenModel" "boatTrip" "[I") tw_228) (fun _ h9 => h9) rfl d_Md_sink_66 ?_
                refine hb_tv (.ref q_9) rfl ?_
                refine lv_iload_n hx hb d_Md_sink_69 rfl (lv_at hl 2 rfl) ?_
                refine lv_iconst (v := (-1)) hx hb d_Md_sink_70 (by decide +kernel) ?_
                refine tw_astI (ct := ct) (x := (-1)) hx hb hK hP hD hS hO_2 (hA_2.m m_9) rfl (hb_inl po_2 po_3 (by decide +kernel)) ⟨by decide +kernel, by decide +kernel⟩ d_Md_sink_71 (fun f_3 H locs hP hD hS hO_3 hE_3 w_19 ow_19 hF_3 => ?_)
                have hA_3 := hA_2.trans hE_3
                have hQ := hQ f_3 hF_3
                have hQ := hQ hO_3
                refine lv_aload_n hx hb d_Md_sink_72 rfl (lv_at hl 1 rfl) ?_
                refine tw_getr (D := (dC, dI)) (C := R_Md) (T := F_Md) (N := 64) (ci := 7) (kd := 27) (ct := ct) hx hb htb i_Md hown hK hP hO_3 (hA_3.m m0) rfl rfl 9 (by decide) (htb (.fieldLink R_Md 58 "WaterMenModel" "state" "[I") tw_95) (fun _ h9 => h9) rfl d_Md_sink_73 (fun q_20 e_20 m_20 => ?_)
                have hQ := hQ q_20 e_20
                refine lv_aload_n hx hb d_Md_sink_76 rfl (lv_at hl 1 rfl) ?_
                refine tw_getr (D := (dC, dI)) (C := R_Md) (T := F_Md) (N := 64) (ci := 7) (kd := 27) (ct := ct) hx hb htb i_Md hown hK hP hO_3 (hA_3.m m0) rfl rfl 49 (by decide) (htb (.fieldLink R_Md 152 "WaterMenModel" "tripMan" "[I") tw_230) (fun _ h9 => h9) rfl d_Md_sink_77 (fun q_21 e_21 m_21 => ?_)
                have hQ := hQ q_21 e_21
                refine lv_iload hx hb d_Md_sink_80 (lv_at hl 0 rfl) ?_
                refine tw_aldI (ct := ct) hx hb hK hP hO_3 m_21 rfl ((fun (a_0 : Int32) (k_0 : ¬ (599 < a_0)) (k_1 : 0 ≤ a_0) => (show vp_in (a_0) 600 from by have z0 : (0 : Int32).toInt = 0 := (by decide +kernel); have z1 : (599 : Int32).toInt = 599 := (by decide +kernel); have r0 := fb_rng (a_0); have e0 := k_0; rw [Int32.lt_iff_toInt_lt, z1] at e0; have e1 := k_1; rw [Int32.le_iff_toInt_le, z0] at e1; rw [vp_in_iff]; omega)) x_10 b_10.2 c_11) d_Md_sink_82 (fun x_22 e_22 b_22 => ?_)
                have hQ := hQ x_22 e_22
                refine lv_iconst (v := 3) hx hb d_Md_sink_83 (by decide +kernel) ?_
                refine tw_astI (ct := ct) (x := 3) hx hb hK hP hD hS hO_3 m_20 rfl (hb_inl b_22.1 b_22.2 (by decide +kernel)) (i32_full _) d_Md_sink_84 (fun f_4 H locs hP hD hS hO_4 hE_4 w_23 ow_23 hF_4 => ?_)
                have hA_4 := hA_3.trans hE_4
                have hQ := hQ f_4 hF_4
                have hQ := hQ hO_4
                refine lv_aload_n hx hb d_Md_sink_85 rfl (lv_at hl 1 rfl) ?_
                refine tw_getr (D := (dC, dI)) (C := R_Md) (T := F_Md) (N := 64) (ci := 7) (kd := 27) (ct := ct) hx hb htb i_Md hown hK hP hO_4 (hA_4.m m0) rfl rfl 16 (by decide) (htb (.fieldLink R_Md 79 "WaterMenModel" "wayOf" "[I") tw_109) (fun _ h9 => h9) rfl d_Md_sink_86 (fun q_24 e_24 m_24 => ?_)
                have hQ := hQ q_24 e_24
                refine lv_aload_n hx hb d_Md_sink_89 rfl (lv_at hl 1 rfl) ?_
                refine tw_getR (D := (dC, dI)) (C := R_Md) (T := F_Md) (N := 64) (ci := 7) (kd := 27) (ct := ct) hx hb htb i_Md hown hK hP (hA_4.m m0) rfl rfl 49 ((hE_4.er (hA_3.m m0) rfl).trans e_21) (by decide) (htb (.fieldLink R_Md 152 "WaterMenModel" "tripMan" "[I") tw_230) (fun _ h9 => h9) rfl d_Md_sink_90 ?_
                refine hb_tv (.ref q_21) rfl ?_
                refine lv_iload hx hb d_Md_sink_93 (lv_at hl 0 rfl) ?_
                refine tw_aldxI (ct := ct) (x := x_22) hx hb hK hP (hE_4.m m_21) rfl ((fun (a_0 : Int32) (k_0 : ¬ (599 < a_0)) (k_1 : 0 ≤ a_0) => (show vp_in (a_0) 600 from by have z0 : (0 : Int32).toInt = 0 := (by decide +kernel); have z1 : (599 : Int32).toInt = 599 := (by decide +kernel); have r0 := fb_rng (a_0); have e0 := k_0; rw [Int32.lt_iff_toInt_lt, z1] at e0; have e1 := k_1; rw [Int32.le_iff_toInt_le, z0] at e1; rw [vp_in_iff]; omega)) x_10 b_10.2 c_11) ((hE_4.ei m_21 rfl).trans e_22) d_Md_sink_95 ?_
                refine lv_iconst (v := (-1)) hx hb d_Md_sink_96 (by decide +kernel) ?_
                refine tw_astI (ct := ct) (x := (-1)) hx hb hK hP hD hS hO_4 m_24 rfl (hb_inl b_22.1 b_22.2 (by decide +kernel)) (i32_full _) d_Md_sink_97 (fun f_5 H locs hP hD hS hO_5 hE_5 w_26 ow_26 hF_5 => ?_)
                have hA_5 := hA_4.trans hE_5
                have hQ := hQ f_5 hF_5
                have hQ := hQ hO_5
                refine lv_aload_n hx hb d_Md_sink_98 rfl (lv_at hl 1 rfl) ?_
                refine lv_iload_n hx hb d_Md_sink_99 rfl (lv_at hl 3 rfl) ?_
                refine lv_iload_n hx hb d_Md_sink_100 rfl (lv_at hl 4 rfl) ?_
                have hFc := hb_free hD hS hA
                refine va_calli (va_runV (As := [.int p_1, .int p_2]) (rest := []) ⟨hx, hb, hml, hown, htb⟩ (c_Md_newPensioner_w l dC dI ct L f_5 hO_5 q0 (hA_5.m m0) _ p_1 p_2 (by rw [show ti f_5 q0 60 = x_12 from ((hA_5.ei m0 rfl).trans e_12)]; first | done | exact (show ¬ (29 < x_12) from ((fun (a_0 : Int32) (k_0 : ¬ (30 < a_0)) (k_1 : ¬ (a_0 = 30)) => (show ¬ (29 < a_0) from by have z0 : (29 : Int32).toInt = 29 := (by decide +kernel); have z1 : (30 : Int32).toInt = 30 := (by decide +kernel); have r0 := fb_rng (a_0); have e0 := k_0; rw [Int32.lt_iff_toInt_lt, z1] at e0; have e1 := k_1; rw [← Int32.toInt_inj, z1] at e1; rw [Int32.lt_iff_toInt_lt, z0]; omega)) x_12 b_12.2 c_13))) _ hQ) (cwV 2 htb (gd_V tw_658 tw_659 tw_660 tw_89 tw_657) rfl rfl rfl (by decide +kernel) ⟨Nat.le_of_ble_eq_true rfl, Nat.le_of_ble_eq_true rfl⟩) ⟨pc_blind, tw_recv hK hP (hA_5.m m0) rfl rfl, pc_pre hP hK hD hN⟩ rfl rfl hl.1 rfl (lv_room (Nat.le_of_ble_eq_true rfl)) d_Md_sink_101 ⟨Nat.le_of_ble_eq_true rfl, Nat.le_of_ble_eq_true rfl⟩) hS (fun q _ h => hFc q h) hFc (fun r_27 u t H locs ht hvm er hB hz1 hk1 hS => ?_)
                obtain ⟨L_6, f_6⟩ := u
                obtain ⟨hO_6, hE_6, er, hQ⟩ := er
                obtain ⟨hP, hK1, hD1⟩ := hB
                rw [ht] at hP
                have hP : va_P (dC, dI) vwCl (TW ct L_6 f_6) H := hP
                have hD : va_D A (TW ct L_6 f_6) := hD1.weaken (fun _ q _ h => hFc q.1 h)
                have hO_6 : Ok L_6 f_6 := hO_6
                have hE_6 : Ext W_Md_newPensioner_w L f_5 L_6 f_6 := hE_6
                clear hK1 hD1 ht hvm hz1 hk1
                have hA_6 := hA_5.trans hE_6
                have hQ := hQ hO_6 hE_6
                clear er
                refine W.widen (k := 0) (n := 0) (Nat.le_of_ble_eq_true rfl) (Nat.le_of_ble_eq_true rfl) ?_
                exact W.iret (v := r_27) hx hb hr (fun t ht hW => ⟨⟨r_27, (L_6, f_6), rfl, ⟨hO_6, hA_6.mono (by decide +kernel), trivial, hQ⟩, by rw [ht]; exact hP, va_K.moved hW.alike hK, by rw [hAe]; exact hD⟩, by rw [hAe]; exact hS.F ht⟩) (by rw [hAe]; exact hS.2.2) d_Md_sink_104
              · have hQ := hQ.1 c_13
                refine lv_bipush (v := (-3)) hx hb d_Md_sink_39 (by decide +kernel) ?_
                refine W.widen (k := 0) (n := 0) (Nat.le_of_ble_eq_true rfl) (Nat.le_of_ble_eq_true rfl) ?_
                exact W.iret (v := (-3)) hx hb hr (fun t ht hW => ⟨⟨(-3), (L, f), rfl, ⟨hO_0, hA_0.mono (by decide +kernel), trivial, hQ⟩, by rw [ht]; exact hP, va_K.moved hW.alike hK, by rw [hAe]; exact hD⟩, by rw [hAe]; exact hS.F ht⟩) (by rw [hAe]; exact hS.2.2) d_Md_sink_41
            · have hQ := hQ.2 c_11
              refine lv_bipush (v := (-2)) hx hb d_Md_sink_27 (by decide +kernel) ?_
              refine W.widen (k := 0) (n := 0) (Nat.le_of_ble_eq_true rfl) (Nat.le_of_ble_eq_true rfl) ?_
              exact W.iret (v := (-2)) hx hb hr (fun t ht hW => ⟨⟨(-2), (L, f), rfl, ⟨hO_0, hA_0.mono (by decide +kernel), trivial, hQ⟩, by rw [ht]; exact hP, va_K.moved hW.alike hK, by rw [hAe]; exact hD⟩, by rw [hAe]; exact hS.F ht⟩) (by rw [hAe]; exact hS.2.2) d_Md_sink_29
def wp_WM_trip_w (L : List Nat) (f : TF) (q0 : Nat) (p_0 : Int32) (p_1 : Int32) (Q : Int32 → Prop) : Prop := wp_WM_tripAt_w L f q0 p_0 (fun (r_1 : Option Nat) => ((r_1 = none → Q (-2)) ∧ (∀ q_1 : Nat, r_1 = some q_1 → ((p_1 = 0 → ∀ x_3 : Int32, ti f q_1 0 = x_3 → Q x_3) ∧ (¬ (p_1 = 0) → ((p_1 = 1 → ∀ x_5 : Int32, ti f q_1 1 = x_5 → Q x_5) ∧ (¬ (p_1 = 1) → ((p_1 = 2 → ∀ x_7 : Int32, ti f q_1 4 = x_7 → Q x_7) ∧ (¬ (p_1 = 2) → ((p_1 = 3 → ∀ x_9 : Int32, ti f q_1 5 = x_9 → Q x_9) ∧ (¬ (p_1 = 3) → ((p_1 = 4 → ∀ x_11 : Int32, ti f q_1 2 = x_11 → Q x_11) ∧ (¬ (p_1 = 4) → ((p_1 = 5 → ∀ x_13 : Int32, ti f q_1 6 = x_13 → Q x_13) ∧ (¬ (p_1 = 5) → ((p_1 = 6 → ∀ x_15 : Int32, ti f q_1 3 = x_15 → Q x_15) ∧ (¬ (p_1 = 6) → ((p_1 = 7 → ∀ x_17 : Int32, ti f q_1 7 = x_17 → ((x_17 = 0 → Q 0) ∧ (¬ (x_17 = 0) → Q 1))) ∧ (¬ (p_1 = 7) → Q (-2))))))))))))))))))))
set_option maxHeartbeats 4000000 in
set_option maxRecDepth 100000 in
theorem c_WM_trip_w (l : Launch) (dC : Nat → ClassId) (dI : Nat → Nat → Nat) (ct : Nat → ClassId) (L : List Nat) (f : TF) (hO_0 : Ok L f) (q0 : Nat) (m0 : q0 ∈ L ∧ tk f q0 = 0) (p_0 : Int32) (p_1 : Int32)   (Q : Int32 → Prop) (hQ : wp_WM_trip_w L f q0 p_0 p_1 Q) : Met l y_WM_trip (.code y_WM_trip b_WM_trip 4 (some .int) :: TB) ({ frames := 1, cells := 0, slots := 0, locals := 21 }) (va_Pc [.ref q0, .int p_0, .int p_1] (PR dC dI (TW ct L f) (TT ct))) (vp_Si (fun r => (True) ∧ Q r)) 0 0 (fun _ => False) := by
  refine Met.ofW (cc := b_WM_trip) (maxL := 4) (ret := (some .int)) (by decide) rfl ?_
  intro p e s m args below meth c s₁ B hml hv
  obtain ⟨rfl, hP, hK, hN⟩ := hv
  have hx := B.exec
  have hb := B.bytes
  have hr := B.returns
  have hts := atoms_spec (ws := (.code y_WM_trip b_WM_trip 4 (some .int) :: TB)) B.pre
  have htb := fun w (h : w ∈ TB) => hts w (List.mem_cons_of_mem _ h)
  have hown : s.vm.findClass R_WM = some m.cls := findClass_of_methodNamed B.named
  have hlocks := B.notSynchronized
  have hl := lv_entry ([.ref q0, .int p_0, .int p_1]) (n := 4) (Nat.le_of_ble_eq_true rfl)
  rw [lg_entry_eq]
  generalize (lg_sl ([.ref q0, .int p_0, .int p_1]) ++ List.replicate (4 - (lg_sl ([.ref q0, .int p_0, .int p_1])).length) Slot.unset).toArray = ls at hl ⊢
  have hl : lv_has ls 4 [(0, .ref q0), (1, .int p_0), (2, .int p_1)] := hl
  unfold wp_WM_trip_w at hQ
  refine lv_aload_n hx hb d_WM_trip_0 rfl (lv_at hl 0 rfl) ?_
  refine lv_iload_n hx hb d_WM_trip_1 rfl (lv_at hl 1 rfl) ?_
  refine va_csq (va_Run.run (va_runV (As := [.int p_0]) (rest := []) ⟨hx, hb, hml, hown, htb⟩ (c_WM_tripAt_w l dC dI ct L f hO_0 q0 m0 p_0 _ hQ) (cwV 1 htb (gd_V tw_637 tw_638 tw_639 tw_26 tw_636) rfl rfl rfl (by decide +kernel) ⟨Nat.le_of_ble_eq_true rfl, Nat.le_of_ble_eq_true rfl⟩) ⟨pr_blind, tw_recv hK hP m0 rfl rfl, pr_pre hP hK hN⟩ rfl rfl hl.1 rfl (lv_room (Nat.le_of_ble_eq_true rfl)) d_WM_trip_2 ⟨Nat.le_of_ble_eq_true rfl, Nat.le_of_ble_eq_true rfl⟩)) (fun r_1 er_1 => ?_)
  obtain ⟨er_1, hQ⟩ := er_1
  rcases er_1 with rfl | ⟨q_1, rfl, m_1⟩
  · have hQ := hQ.1 rfl
    refine hb_tv .null rfl ?_
    refine lv_astore_nN (lv' := [(3, .null), (0, .ref q0), (1, .int p_0), (2, .int p_1)]) hx hb d_WM_trip_5 rfl hl (by decide) rfl (fun ls hl => ?_)
    refine lv_aload_nN hx hb d_WM_trip_6 rfl (lv_at hl 0 rfl) ?_
    refine lv_ifnonnullN hx hb d_WM_trip_7 ?_
    refine lv_bipush (v := (-2)) hx hb d_WM_trip_10 (by decide +kernel) ?_
    exact W.iret (v := (-2)) hx hb hr (fun t ht hW => ⟨(-2), rfl, ⟨trivial, hQ⟩, ht⟩) t_nil d_WM_trip_12
  · have hQ := hQ.2 q_1 rfl
    refine hb_tv (.ref q_1) rfl ?_
    refine lv_astore_n (lv' := [(3, .ref q_1), (0, .ref q0), (1, .int p_0), (2, .int p_1)]) hx hb d_WM_trip_5 rfl hl (by decide) rfl (fun ls hl => ?_)
    refine lv_aload_n hx hb d_WM_trip_6 rfl (lv_at hl 0 rfl) ?_
    refine lv_ifnonnull (tgt := 13) hx hb d_WM_trip_7 (by decide) ?_
    refine lv_iload_n hx hb d_WM_trip_13 rfl (lv_at hl 3 rfl) ?_
    by_cases c_2 : p_1 = 0
    · have hQ := hQ.1 c_2
      refine lv_tableIn (off := 46) (tgt := 60) hx hb d_WM_trip_14 (by rw [c_2]; decide +kernel) (by rw [c_2]; decide +kernel) (by rw [c_2]; decide +kernel) (by decide) ?_
      refine lv_aload_n hx hb d_WM_trip_60 rfl (lv_at hl 0 rfl) ?_
      refine tw_geti (D := (dC, dI)) (C := R_Tr) (T := F_Tr) (N := 8) (ci := 10) (kd := 25) (ct := ct) hx hb htb i_Tr hown hK hP hO_0 m_1 rfl rfl 0 (by decide) (htb (.fieldLink R_WM 303 "WaterMen$Trip" "boat" "I") tw_661) (fun _ h9 => h9) rfl d_WM_trip_61 (fun x_3 e_3 b_3 => ?_)
      have hQ := hQ x_3 e_3
      exact W.iret (v := x_3) hx hb hr (fun t ht hW => ⟨x_3, rfl, ⟨trivial, hQ⟩, ht⟩) t_nil d_WM_trip_64
    · have hQ := hQ.2 c_2
      by_cases c_4 : p_1 = 1
      · have hQ := hQ.1 c_4
        refine lv_tableIn (off := 51) (tgt := 65) hx hb d_WM_trip_14 (by rw [c_4]; decide +kernel) (by rw [c_4]; decide +kernel) (by rw [c_4]; decide +kernel) (by decide) ?_
        refine lv_aload_n hx hb d_WM_trip_65 rfl (lv_at hl 0 rfl) ?_
        refine tw_geti (D := (dC, dI)) (C := R_Tr) (T := F_Tr) (N := 8) (ci := 10) (kd := 25) (ct := ct) hx hb htb i_Tr hown hK hP hO_0 m_1 rfl rfl 1 (by decide) (htb (.fieldLink R_WM 306 "WaterMen$Trip" "man" "I") tw_662) (fun _ h9 => h9) rfl d_WM_trip_66 (fun x_5 e_5 b_5 => ?_)
        have hQ := hQ x_5 e_5
        exact W.iret (v := x_5) hx hb hr (fun t ht hW => ⟨x_5, rfl, ⟨trivial, hQ⟩, ht⟩) t_nil d_WM_trip_69
      · have hQ := hQ.2 c_4
        by_cases c_6 : p_1 = 2
        · have hQ := hQ.1 c_6
          refine lv_tableIn (off := 56) (tgt := 70) hx hb d_WM_trip_14 (by rw [c_6]; decide +kernel) (by rw [c_6]; decide +kernel) (by rw [c_6]; decide +kernel) (by decide) ?_
          refine lv_aload_n hx hb d_WM_trip_70 rfl (lv_at hl 0 rfl) ?_
          refine tw_geti (D := (dC, dI)) (C := R_Tr) (T := F_Tr) (N := 8) (ci := 10) (kd := 25) (ct := ct) hx hb htb i_Tr hown hK hP hO_0 m_1 rfl rfl 4 (by decide) (htb (.fieldLink R_WM 247 "WaterMen$Trip" "from" "I") tw_604) (fun _ h9 => h9) rfl d_WM_trip_71 (fun x_7 e_7 b_7 => ?_)
          have hQ := hQ x_7 e_7
          exact W.iret (v := x_7) hx hb hr (fun t ht hW => ⟨x_7, rfl, ⟨trivial, hQ⟩, ht⟩) t_nil d_WM_trip_74
        · have hQ := hQ.2 c_6
          by_cases c_8 : p_1 = 3
          · have hQ := hQ.1 c_8
            refine lv_tableIn (off := 61) (tgt := 75) hx hb d_WM_trip_14 (by rw [c_8]; decide +kernel) (by rw [c_8]; decide +kernel) (by rw [c_8]; decide +kernel) (by decide) ?_
            refine lv_aload_n hx hb d_WM_trip_75 rfl (lv_at hl 0 rfl) ?_
            refine tw_geti (D := (dC, dI)) (C := R_Tr) (T := F_Tr) (N := 8) (ci := 10) (kd := 25) (ct := ct) hx hb htb i_Tr hown hK hP hO_0 m_1 rfl rfl 5 (by decide) (htb (.fieldLink R_WM 250 "WaterMen$Trip" "to" "I") tw_605) (fun _ h9 => h9) rfl d_WM_trip_76 (fun x_9 e_9 b_9 => ?_)
            have hQ := hQ x_9 e_9
            exact W.iret (v := x_9) hx hb hr (fun t ht hW => ⟨x_9, rfl, ⟨trivial, hQ⟩, ht⟩) t_nil d_WM_trip_79
          · have hQ := hQ.2 c_8
            by_cases c_10 : p_1 = 4
            · have hQ := hQ.1 c_10
              refine lv_tableIn (off := 66) (tgt := 80) hx hb d_WM_trip_14 (by rw [c_10]; decide +kernel) (by rw [c_10]; decide +kernel) (by rw [c_10]; decide +kernel) (by decide) ?_
              refine lv_aload_n hx hb d_WM_trip_80 rfl (lv_at hl 0 rfl) ?_
              refine tw_geti (D := (dC, dI)) (C := R_Tr) (T := F_Tr) (N := 8) (ci := 10) (kd := 25) (ct := ct) hx hb htb i_Tr hown hK hP hO_0 m_1 rfl rfl 2 (by decide) (htb (.fieldLink R_WM 309 "WaterMen$Trip" "start" "I") tw_663) (fun _ h9 => h9) rfl d_WM_trip_81 (fun x_11 e_11 b_11 => ?_)
              have hQ := hQ x_11 e_11
              exact W.iret (v := x_11) hx hb hr (fun t ht hW => ⟨x_11, rfl, ⟨trivial, hQ⟩, ht⟩) t_nil d_WM_trip_84
            · have hQ := hQ.2 c_10
              by_cases c_12 : p_1 = 5
              · have hQ := hQ.1 c_12
                refine lv_tableIn (off := 71) (tgt := 85) hx hb d_WM_trip_14 (by rw [c_12]; decide +kernel) (by rw [c_12]; decide +kernel) (by rw [c_12]; decide +kernel) (by decide) ?_
                refine lv_aload_n hx hb d_WM_trip_85 rfl (lv_at hl 0 rfl) ?_
                refine tw_geti (D := (dC, dI)) (C := R_Tr) (T := F_Tr) (N := 8) (ci := 10) (kd := 25) (ct := ct) hx hb htb i_Tr hown hK hP hO_0 m_1 rfl rfl 6 (by decide) (htb (.fieldLink R_WM 257 "WaterMen$Trip" "arrival" "I") tw_606) (fun _ h9 => h9) rfl d_WM_trip_86 (fun x_13 e_13 b_13 => ?_)
                have hQ := hQ x_13 e_13
                exact W.iret (v := x_13) hx hb hr (fun t ht hW => ⟨x_13, rfl, ⟨trivial, hQ⟩, ht⟩) t_nil d_WM_trip_89
              · have hQ := hQ.2 c_12
                by_cases c_14 : p_1 = 6
                · have hQ := hQ.1 c_14
                  refine lv_tableIn (off := 76) (tgt := 90) hx hb d_WM_trip_14 (by rw [c_14]; decide +kernel) (by rw [c_14]; decide +kernel) (by rw [c_14]; decide +kernel) (by decide) ?_
                  refine lv_aload_n hx hb d_WM_trip_90 rfl (lv_at hl 0 rfl) ?_
                  refine tw_geti (D := (dC, dI)) (C := R_Tr) (T := F_Tr) (N := 8) (ci := 10) (kd := 25) (ct := ct) hx hb htb i_Tr hown hK hP hO_0 m_1 rfl rfl 3 (by decide) (htb (.fieldLink R_WM 312 "WaterMen$Trip" "paid" "I") tw_664) (fun _ h9 => h9) rfl d_WM_trip_91 (fun x_15 e_15 b_15 => ?_)
                  have hQ := hQ x_15 e_15
                  exact W.iret (v := x_15) hx hb hr (fun t ht hW => ⟨x_15, rfl, ⟨trivial, hQ⟩, ht⟩) t_nil d_WM_trip_94
                · have hQ := hQ.2 c_14
                  by_cases c_16 : p_1 = 7
                  · have hQ := hQ.1 c_16
                    refine lv_tableIn (off := 81) (tgt := 95) hx hb d_WM_trip_14 (by rw [c_16]; decide +kernel) (by rw [c_16]; decide +kernel) (by rw [c_16]; decide +kernel) (by decide) ?_
                    refine lv_aload_n hx hb d_WM_trip_95 rfl (lv_at hl 0 rfl) ?_
                    refine tw_geti (D := (dC, dI)) (C := R_Tr) (T := F_Tr) (N := 8) (ci := 10) (kd := 25) (ct := ct) hx hb htb i_Tr hown hK hP hO_0 m_1 rfl rfl 7 (by decide) (htb (.fieldLink R_WM 297 "WaterMen$Trip" "sank" "Z") tw_653) (fun _ h9 => h9) rfl d_WM_trip_96 (fun x_17 e_17 b_17 => ?_)
                    have hQ := hQ x_17 e_17
                    refine lv_if_eq (tgt := 106) hx hb d_WM_trip_99 (by decide) (fun c_18 => ?_) (fun c_18 => ?_)
                    · have hQ := hQ.1 c_18
                      refine lv_iconst (v := 0) hx hb d_WM_trip_106 (by decide +kernel) ?_
                      exact W.iret (v := 0) hx hb hr (fun t ht hW => ⟨0, rfl, ⟨trivial, hQ⟩, ht⟩) t_nil d_WM_trip_107
                    · have hQ := hQ.2 c_18
                      refine lv_iconst (v := 1) hx hb d_WM_trip_102 (by decide +kernel) ?_
                      refine lv_goto (tgt := 107) hx hb d_WM_trip_103 (by decide) ?_
                      exact W.iret (v := 1) hx hb hr (fun t ht hW => ⟨1, rfl, ⟨trivial, hQ⟩, ht⟩) t_nil d_WM_trip_107
                  · have hQ := hQ.2 c_16
                    refine lv_tableOut (tgt := 108) hx hb d_WM_trip_14 (by have h0 := lv_neT c_2 (show (0 : Int32).toInt = 0 by decide +kernel); have h1 := lv_neT c_4 (show (1 : Int32).toInt = 1 by decide +kernel); have h2 := lv_neT c_6 (show (2 : Int32).toInt = 2 by decide +kernel); have h3 := lv_neT c_8 (show (3 : Int32).toInt = 3 by decide +kernel); have h4 := lv_neT c_10 (show (4 : Int32).toInt = 4 by decide +kernel); have h5 := lv_neT c_12 (show (5 : Int32).toInt = 5 by decide +kernel); have h6 := lv_neT c_14 (show (6 : Int32).toInt = 6 by decide +kernel); have h7 := lv_neT c_16 (show (7 : Int32).toInt = 7 by decide +kernel); omega) (by decide) ?_
                    refine lv_bipush (v := (-2)) hx hb d_WM_trip_108 (by decide +kernel) ?_
                    exact W.iret (v := (-2)) hx hb hr (fun t ht hW => ⟨(-2), rfl, ⟨trivial, hQ⟩, ht⟩) t_nil d_WM_trip_110
def wp_Md_trip_w (L : List Nat) (f : TF) (q0 : Nat) (p_0 : Int32) (p_1 : Int32) (Q : Int32 → Prop) : Prop := ∀ x_1 : Int32, ti f q0 47 = x_1 → ((p_0 < 0 → Q (-2)) ∧ (¬ (p_0 < 0) → (((x_1 - 1) < p_0 → Q (-2)) ∧ (¬ ((x_1 - 1) < p_0) → ((p_1 = 0 → ∀ q_6 : Nat, tr f q0 48 = some q_6 → ∀ x_7 : Int32, ti f q_6 (p_0 : Int32).toNatClampNeg = x_7 → Q x_7) ∧ (¬ (p_1 = 0) → ((p_1 = 1 → ∀ q_9 : Nat, tr f q0 49 = some q_9 → ∀ x_10 : Int32, ti f q_9 (p_0 : Int32).toNatClampNeg = x_10 → Q x_10) ∧ (¬ (p_1 = 1) → ((p_1 = 2 → ∀ q_12 : Nat, tr f q0 50 = some q_12 → ∀ x_13 : Int32, ti f q_12 (p_0 : Int32).toNatClampNeg = x_13 → Q x_13) ∧ (¬ (p_1 = 2) → ((p_1 = 3 → ∀ q_15 : Nat, tr f q0 51 = some q_15 → ∀ x_16 : Int32, ti f q_15 (p_0 : Int32).toNatClampNeg = x_16 → Q x_16) ∧ (¬ (p_1 = 3) → ((p_1 = 4 → ∀ q_18 : Nat, tr f q0 52 = some q_18 → ∀ x_19 : Int32, ti f q_18 (p_0 : Int32).toNatClampNeg = x_19 → Q x_19) ∧ (¬ (p_1 = 4) → ((p_1 = 5 → ∀ q_21 : Nat, tr f q0 53 = some q_21 → ∀ x_22 : Int32, ti f q_21 (p_0 : Int32).toNatClampNeg = x_22 → Q x_22) ∧ (¬ (p_1 = 5) → ((p_1 = 6 → ∀ q_24 : Nat, tr f q0 54 = some q_24 → ∀ x_25 : Int32, ti f q_24 (p_0 : Int32).toNatClampNeg = x_25 → Q x_25) ∧ (¬ (p_1 = 6) → ((p_1 = 7 → ∀ q_27 : Nat, tr f q0 55 = some q_27 → ∀ x_28 : Int32, ti f q_27 (p_0 : Int32).toNatClampNeg = x_28 → ((x_28 = 0 → Q 0) ∧ (¬ (x_28 = 0) → Q 1))) ∧ (¬ (p_1 = 7) → Q (-2)))))))))))))))))))))
set_option maxHeartbeats 4000000 in
set_option maxRecDepth 100000 in
theorem c_Md_trip_w (l : Launch) (dC : Nat → ClassId) (dI : Nat → Nat → Nat) (ct : Nat → ClassId) (L : List Nat) (f : TF) (hO_0 : Ok L f) (q0 : Nat) (m0 : q0 ∈ L ∧ tk f q0 = 27) (p_0 : Int32) (p_1 : Int32)   (Q : Int32 → Prop) (hQ : wp_Md_trip_w L f q0 p_0 p_1 Q) : Met l y_Md_trip (.code y_Md_trip b_Md_trip 3 (some .int) :: TB) ({ frames := 1, cells := 0, slots := 0, locals := 22 }) (va_Pc [.ref q0, .int p_0, .int p_1] (PR dC dI (TW ct L f) (TT ct))) (vp_Si (fun r => (True) ∧ Q r)) 0 0 (fun _ => False) := by
  refine Met.ofW (cc := b_Md_trip) (maxL := 3) (ret := (some .int)) (by decide) rfl ?_
  intro p e s m args below meth c s₁ B hml hv
  obtain ⟨rfl, hP, hK, hN⟩ := hv
  have hx := B.exec
  have hb := B.bytes
  have hr := B.returns
  have hts := atoms_spec (ws := (.code y_Md_trip b_Md_trip 3 (some .int) :: TB)) B.pre
  have htb := fun w (h : w ∈ TB) => hts w (List.mem_cons_of_mem _ h)
  have hown : s.vm.findClass R_Md = some m.cls := findClass_of_methodNamed B.named
  have hlocks := B.notSynchronized
  have hl := lv_entry ([.ref q0, .int p_0, .int p_1]) (n := 3) (Nat.le_of_ble_eq_true rfl)
  rw [lg_entry_eq]
  generalize (lg_sl ([.ref q0, .int p_0, .int p_1]) ++ List.replicate (3 - (lg_sl ([.ref q0, .int p_0, .int p_1])).length) Slot.unset).toArray = ls at hl ⊢
  have hl : lv_has ls 3 [(0, .ref q0), (1, .int p_0), (2, .int p_1)] := hl
  unfold wp_Md_trip_w at hQ
  refine lv_iload_n hx hb d_Md_trip_0 rfl (lv_at hl 1 rfl) ?_
  refine lv_iconst (v := 0) hx hb d_Md_trip_1 (by decide +kernel) ?_
  refine lv_aload_n hx hb d_Md_trip_2 rfl (lv_at hl 0 rfl) ?_
  refine tw_geti (D := (dC, dI)) (C := R_Md) (T := F_Md) (N := 64) (ci := 7) (kd := 27) (ct := ct) hx hb htb i_Md hown hK hP hO_0 m0 rfl rfl 47 (by decide) (htb (.fieldLink R_Md 313 "WaterMenModel" "trips" "I") tw_123) (fun _ h9 => h9) rfl d_Md_trip_3 (fun x_1 e_1 b_1 => ?_)
  have hQ := hQ x_1 e_1
  refine lv_iconst (v := 1) hx hb d_Md_trip_6 (by decide +kernel) ?_
  refine lv_isub hx hb d_Md_trip_7 ?_
  refine vp_callSi (va_Run.run (va_runS (As := [.int p_0, .int 0, .int (x_1 - 1)]) (rest := []) ⟨hx, hb, hml, hown, htb⟩ (c_Md_in l p_0 0 (x_1 - 1)) (cwS 3 htb (gd_S tw_90 tw_91 tw_89 tw_88) rfl rfl rfl (by decide +kernel) ⟨Nat.le_of_ble_eq_true rfl, Nat.le_of_ble_eq_true rfl⟩) ⟨fun _ _ _ _ h => h, fun U _ _ => ⟨rfl, trivial⟩⟩ rfl rfl hl.1 rfl (lv_room (Nat.le_of_ble_eq_true rfl)) d_Md_trip_8 ⟨Nat.le_of_ble_eq_true rfl, Nat.le_of_ble_eq_true rfl⟩)) (fun r er => ?_)
  subst er
  by_cases c_3 : p_0 < 0
  · have hQ := hQ.1 c_3
    refine hb_ti 0 (by unfold f_Md_in; rw [if_pos c_3]; first | done | rfl) ?_
    refine lv_if_ne (tgt := 17) hx hb d_Md_trip_11 (by decide) (fun h => absurd (by decide +kernel) h) (fun _ => ?_)
    refine lv_bipush (v := (-2)) hx hb d_Md_trip_14 (by decide +kernel) ?_
    exact W.iret (v := (-2)) hx hb hr (fun t ht hW => ⟨(-2), rfl, ⟨trivial, hQ⟩, ht⟩) t_nil d_Md_trip_16
  · have hQ := hQ.2 c_3
    by_cases c_4 : (x_1 - 1) < p_0
    · have hQ := hQ.1 c_4
      refine hb_ti 0 (by unfold f_Md_in; rw [if_neg c_3, if_pos c_4]; first | done | rfl) ?_
      refine lv_if_ne (tgt := 17) hx hb d_Md_trip_11 (by decide) (fun h => absurd (by decide +kernel) h) (fun _ => ?_)
      refine lv_bipush (v := (-2)) hx hb d_Md_trip_14 (by decide +kernel) ?_
      exact W.iret (v := (-2)) hx hb hr (fun t ht hW => ⟨(-2), rfl, ⟨trivial, hQ⟩, ht⟩) t_nil d_Md_trip_16
    · have hQ := hQ.2 c_4
      refine hb_ti 1 (by unfold f_Md_in; rw [if_neg c_3, if_neg c_4]; first | done | rfl) ?_
      refine lv_if_ne (tgt := 17) hx hb d_Md_trip_11 (by decide) (fun _ => ?_) (fun h => absurd h (by decide +kernel))
      refine lv_iload_n hx hb d_Md_trip_17 rfl (lv_at hl 2 rfl) ?_
      by_cases c_5 : p_1 = 0
      · have hQ := hQ.1 c_5
        refine lv_tableIn (off := 46) (tgt := 64) hx hb d_Md_trip_18 (by rw [c_5]; decide +kernel) (by rw [c_5]; decide +kernel) (by rw [c_5]; decide +kernel) (by decide) ?_
        refine lv_aload_n hx hb d_Md_trip_64 rfl (lv_at hl 0 rfl) ?_
        refine tw_getr (D := (dC, dI)) (C := R_Md) (T := F_Md) (N := 64) (ci := 7) (kd := 27) (ct := ct) hx hb htb i_Md hown hK hP hO_0 m0 rfl rfl 48 (by decide) (htb (.fieldLink R_Md 149 "WaterMenModel" "tripBoat" "[I") tw_625) (fun _ h9 => h9) rfl d_Md_trip_65 (fun q_6 e_6 m_6 => ?_)
        have hQ := hQ q_6 e_6
        refine lv_iload_n hx hb d_Md_trip_68 rfl (lv_at hl 1 rfl) ?_
        refine tw_aldI (ct := ct) hx hb hK hP hO_0 m_6 rfl ((fun (a_0 : Int32) (a_1 : Int32) (k_0 : ¬ (a_0 < 0)) (k_1 : ¬ (a_1 < 0)) (k_2 : ¬ (600 < a_1)) (k_3 : ¬ ((a_1 - 1) < a_0)) => (show vp_in (a_0) 600 from by have z0 : (0 : Int32).toInt = 0 := (by decide +kernel); have z1 : (1 : Int32).toInt = 1 := (by decide +kernel); have z2 : (600 : Int32).toInt = 600 := (by decide +kernel); have r0 := fb_rng (a_0); have r1 := fb_rng (a_1); have e0 := k_0; rw [Int32.lt_iff_toInt_lt, z0] at e0; have e1 := k_1; rw [Int32.lt_iff_toInt_lt, z0] at e1; have e2 := k_2; rw [Int32.lt_iff_toInt_lt, z2] at e2; obtain ⟨n_0, hn_0, s0⟩ := nd_sub (x := (a_1)) (y := (1 : Int32)) (by (try rw [z1]); omega) (by (try rw [z1]); omega); rw [z1] at s0; have e3 := k_3; rw [hn_0, Int32.lt_iff_toInt_lt] at e3; rw [vp_in_iff]; omega)) p_0 x_1 c_3 b_1.1 b_1.2 c_4) d_Md_trip_69 (fun x_7 e_7 b_7 => ?_)
        have hQ := hQ x_7 e_7
        exact W.iret (v := x_7) hx hb hr (fun t ht hW => ⟨x_7, rfl, ⟨trivial, hQ⟩, ht⟩) t_nil d_Md_trip_70
      · have hQ := hQ.2 c_5
        by_cases c_8 : p_1 = 1
        · have hQ := hQ.1 c_8
          refine lv_tableIn (off := 53) (tgt := 71) hx hb d_Md_trip_18 (by rw [c_8]; decide +kernel) (by rw [c_8]; decide +kernel) (by rw [c_8]; decide +kernel) (by decide) ?_
          refine lv_aload_n hx hb d_Md_trip_71 rfl (lv_at hl 0 rfl) ?_
          refine tw_getr (D := (dC, dI)) (C := R_Md) (T := F_Md) (N := 64) (ci := 7) (kd := 27) (ct := ct) hx hb htb i_Md hown hK hP hO_0 m0 rfl rfl 49 (by decide) (htb (.fieldLink R_Md 152 "WaterMenModel" "tripMan" "[I") tw_230) (fun _ h9 => h9) rfl d_Md_trip_72 (fun q_9 e_9 m_9 => ?_)
          have hQ := hQ q_9 e_9
          refine lv_iload_n hx hb d_Md_trip_75 rfl (lv_at hl 1 rfl) ?_
          refine tw_aldI (ct := ct) hx hb hK hP hO_0 m_9 rfl ((fun (a_0 : Int32) (a_1 : Int32) (k_0 : ¬ (a_0 < 0)) (k_1 : ¬ (a_1 < 0)) (k_2 : ¬ (600 < a_1)) (k_3 : ¬ ((a_1 - 1) < a_0)) => (show vp_in (a_0) 600 from by have z0 : (0 : Int32).toInt = 0 := (by decide +kernel); have z1 : (1 : Int32).toInt = 1 := (by decide +kernel); have z2 : (600 : Int32).toInt = 600 := (by decide +kernel); have r0 := fb_rng (a_0); have r1 := fb_rng (a_1); have e0 := k_0; rw [Int32.lt_iff_toInt_lt, z0] at e0; have e1 := k_1; rw [Int32.lt_iff_toInt_lt, z0] at e1; have e2 := k_2; rw [Int32.lt_iff_toInt_lt, z2] at e2; obtain ⟨n_0, hn_0, s0⟩ := nd_sub (x := (a_1)) (y := (1 : Int32)) (by (try rw [z1]); omega) (by (try rw [z1]); omega); rw [z1] at s0; have e3 := k_3; rw [hn_0, Int32.lt_iff_toInt_lt] at e3; rw [vp_in_iff]; omega)) p_0 x_1 c_3 b_1.1 b_1.2 c_4) d_Md_trip_76 (fun x_10 e_10 b_10 => ?_)
          have hQ := hQ x_10 e_10
          exact W.iret (v := x_10) hx hb hr (fun t ht hW => ⟨x_10, rfl, ⟨trivial, hQ⟩, ht⟩) t_nil d_Md_trip_77
        · have hQ := hQ.2 c_8
          by_cases c_11 : p_1 = 2
          · have hQ := hQ.1 c_11
            refine lv_tableIn (off := 60) (tgt := 78) hx hb d_Md_trip_18 (by rw [c_11]; decide +kernel) (by rw [c_11]; decide +kernel) (by rw [c_11]; decide +kernel) (by decide) ?_
            refine lv_aload_n hx hb d_Md_trip_78 rfl (lv_at hl 0 rfl) ?_
            refine tw_getr (D := (dC, dI)) (C := R_Md) (T := F_Md) (N := 64) (ci := 7) (kd := 27) (ct := ct) hx hb htb i_Md hown hK hP hO_0 m0 rfl rfl 50 (by decide) (htb (.fieldLink R_Md 155 "WaterMenModel" "tripFrom" "[I") tw_626) (fun _ h9 => h9) rfl d_Md_trip_79 (fun q_12 e_12 m_12 => ?_)
            have hQ := hQ q_12 e_12
            refine lv_iload_n hx hb d_Md_trip_82 rfl (lv_at hl 1 rfl) ?_
            refine tw_aldI (ct := ct) hx hb hK hP hO_0 m_12 rfl ((fun (a_0 : Int32) (a_1 : Int32) (k_0 : ¬ (a_0 < 0)) (k_1 : ¬ (a_1 < 0)) (k_2 : ¬ (600 < a_1)) (k_3 : ¬ ((a_1 - 1) < a_0)) => (show vp_in (a_0) 600 from by have z0 : (0 : Int32).toInt = 0 := (by decide +kernel); have z1 : (1 : Int32).toInt = 1 := (by decide +kernel); have z2 : (600 : Int32).toInt = 600 := (by decide +kernel); have r0 := fb_rng (a_0); have r1 := fb_rng (a_1); have e0 := k_0; rw [Int32.lt_iff_toInt_lt, z0] at e0; have e1 := k_1; rw [Int32.lt_iff_toInt_lt, z0] at e1; have e2 := k_2; rw [Int32.lt_iff_toInt_lt, z2] at e2; obtain ⟨n_0, hn_0, s0⟩ := nd_sub (x := (a_1)) (y := (1 : Int32)) (by (try rw [z1]); omega) (by (try rw [z1]); omega); rw [z1] at s0; have e3 := k_3; rw [hn_0, Int32.lt_iff_toInt_lt] at e3; rw [vp_in_iff]; omega)) p_0 x_1 c_3 b_1.1 b_1.2 c_4) d_Md_trip_83 (fun x_13 e_13 b_13 => ?_)
            have hQ := hQ x_13 e_13
            exact W.iret (v := x_13) hx hb hr (fun t ht hW => ⟨x_13, rfl, ⟨trivial, hQ⟩, ht⟩) t_nil d_Md_trip_84
          · have hQ := hQ.2 c_11
            by_cases c_14 : p_1 = 3
            · have hQ := hQ.1 c_14
              refine lv_tableIn (off := 67) (tgt := 85) hx hb d_Md_trip_18 (by rw [c_14]; decide +kernel) (by rw [c_14]; decide +kernel) (by rw [c_14]; decide +kernel) (by decide) ?_
              refine lv_aload_n hx hb d_Md_trip_85 rfl (lv_at hl 0 rfl) ?_
              refine tw_getr (D := (dC, dI)) (C := R_Md) (T := F_Md) (N := 64) (ci := 7) (kd := 27) (ct := ct) hx hb htb i_Md hown hK hP hO_0 m0 rfl rfl 51 (by decide) (htb (.fieldLink R_Md 158 "WaterMenModel" "tripTo" "[I") tw_627) (fun _ h9 => h9) rfl d_Md_trip_86 (fun q_15 e_15 m_15 => ?_)
              have hQ := hQ q_15 e_15
              refine lv_iload_n hx hb d_Md_trip_89 rfl (lv_at hl 1 rfl) ?_
              refine tw_aldI (ct := ct) hx hb hK hP hO_0 m_15 rfl ((fun (a_0 : Int32) (a_1 : Int32) (k_0 : ¬ (a_0 < 0)) (k_1 : ¬ (a_1 < 0)) (k_2 : ¬ (600 < a_1)) (k_3 : ¬ ((a_1 - 1) < a_0)) => (show vp_in (a_0) 600 from by have z0 : (0 : Int32).toInt = 0 := (by decide +kernel); have z1 : (1 : Int32).toInt = 1 := (by decide +kernel); have z2 : (600 : Int32).toInt = 600 := (by decide +kernel); have r0 := fb_rng (a_0); have r1 := fb_rng (a_1); have e0 := k_0; rw [Int32.lt_iff_toInt_lt, z0] at e0; have e1 := k_1; rw [Int32.lt_iff_toInt_lt, z0] at e1; have e2 := k_2; rw [Int32.lt_iff_toInt_lt, z2] at e2; obtain ⟨n_0, hn_0, s0⟩ := nd_sub (x := (a_1)) (y := (1 : Int32)) (by (try rw [z1]); omega) (by (try rw [z1]); omega); rw [z1] at s0; have e3 := k_3; rw [hn_0, Int32.lt_iff_toInt_lt] at e3; rw [vp_in_iff]; omega)) p_0 x_1 c_3 b_1.1 b_1.2 c_4) d_Md_trip_90 (fun x_16 e_16 b_16 => ?_)
              have hQ := hQ x_16 e_16
              exact W.iret (v := x_16) hx hb hr (fun t ht hW => ⟨x_16, rfl, ⟨trivial, hQ⟩, ht⟩) t_nil d_Md_trip_91
            · have hQ := hQ.2 c_14
              by_cases c_17 : p_1 = 4
              · have hQ := hQ.1 c_17
                refine lv_tableIn (off := 74) (tgt := 92) hx hb d_Md_trip_18 (by rw [c_17]; decide +kernel) (by rw [c_17]; decide +kernel) (by rw [c_17]; decide +kernel) (by decide) ?_
                refine lv_aload_n hx hb d_Md_trip_92 rfl (lv_at hl 0 rfl) ?_
                refine tw_getr (D := (dC, dI)) (C := R_Md) (T := F_Md) (N := 64) (ci := 7) (kd := 27) (ct := ct) hx hb htb i_Md hown hK hP hO_0 m0 rfl rfl 52 (by decide) (htb (.fieldLink R_Md 161 "WaterMenModel" "tripBegin" "[I") tw_628) (fun _ h9 => h9) rfl d_Md_trip_93 (fun q_18 e_18 m_18 => ?_)
                have hQ := hQ q_18 e_18
                refine lv_iload_n hx hb d_Md_trip_96 rfl (lv_at hl 1 rfl) ?_
                refine tw_aldI (ct := ct) hx hb hK hP hO_0 m_18 rfl ((fun (a_0 : Int32) (a_1 : Int32) (k_0 : ¬ (a_0 < 0)) (k_1 : ¬ (a_1 < 0)) (k_2 : ¬ (600 < a_1)) (k_3 : ¬ ((a_1 - 1) < a_0)) => (show vp_in (a_0) 600 from by have z0 : (0 : Int32).toInt = 0 := (by decide +kernel); have z1 : (1 : Int32).toInt = 1 := (by decide +kernel); have z2 : (600 : Int32).toInt = 600 := (by decide +kernel); have r0 := fb_rng (a_0); have r1 := fb_rng (a_1); have e0 := k_0; rw [Int32.lt_iff_toInt_lt, z0] at e0; have e1 := k_1; rw [Int32.lt_iff_toInt_lt, z0] at e1; have e2 := k_2; rw [Int32.lt_iff_toInt_lt, z2] at e2; obtain ⟨n_0, hn_0, s0⟩ := nd_sub (x := (a_1)) (y := (1 : Int32)) (by (try rw [z1]); omega) (by (try rw [z1]); omega); rw [z1] at s0; have e3 := k_3; rw [hn_0, Int32.lt_iff_toInt_lt] at e3; rw [vp_in_iff]; omega)) p_0 x_1 c_3 b_1.1 b_1.2 c_4) d_Md_trip_97 (fun x_19 e_19 b_19 => ?_)
                have hQ := hQ x_19 e_19
                exact W.iret (v := x_19) hx hb hr (fun t ht hW => ⟨x_19, rfl, ⟨trivial, hQ⟩, ht⟩) t_nil d_Md_trip_98
              · have hQ := hQ.2 c_17
                by_cases c_20 : p_1 = 5
                · have hQ := hQ.1 c_20
                  refine lv_tableIn (off := 81) (tgt := 99) hx hb d_Md_trip_18 (by rw [c_20]; decide +kernel) (by rw [c_20]; decide +kernel) (by rw [c_20]; decide +kernel) (by decide) ?_
                  refine lv_aload_n hx hb d_Md_trip_99 rfl (lv_at hl 0 rfl) ?_
                  refine tw_getr (D := (dC, dI)) (C := R_Md) (T := F_Md) (N := 64) (ci := 7) (kd := 27) (ct := ct) hx hb htb i_Md hown hK hP hO_0 m0 rfl rfl 53 (by decide) (htb (.fieldLink R_Md 164 "WaterMenModel" "tripThere" "[I") tw_229) (fun _ h9 => h9) rfl d_Md_trip_100 (fun q_21 e_21 m_21 => ?_)
                  have hQ := hQ q_21 e_21
                  refine lv_iload_n hx hb d_Md_trip_103 rfl (lv_at hl 1 rfl) ?_
                  refine tw_aldI (ct := ct) hx hb hK hP hO_0 m_21 rfl ((fun (a_0 : Int32) (a_1 : Int32) (k_0 : ¬ (a_0 < 0)) (k_1 : ¬ (a_1 < 0)) (k_2 : ¬ (600 < a_1)) (k_3 : ¬ ((a_1 - 1) < a_0)) => (show vp_in (a_0) 600 from by have z0 : (0 : Int32).toInt = 0 := (by decide +kernel); have z1 : (1 : Int32).toInt = 1 := (by decide +kernel); have z2 : (600 : Int32).toInt = 600 := (by decide +kernel); have r0 := fb_rng (a_0); have r1 := fb_rng (a_1); have e0 := k_0; rw [Int32.lt_iff_toInt_lt, z0] at e0; have e1 := k_1; rw [Int32.lt_iff_toInt_lt, z0] at e1; have e2 := k_2; rw [Int32.lt_iff_toInt_lt, z2] at e2; obtain ⟨n_0, hn_0, s0⟩ := nd_sub (x := (a_1)) (y := (1 : Int32)) (by (try rw [z1]); omega) (by (try rw [z1]); omega); rw [z1] at s0; have e3 := k_3; rw [hn_0, Int32.lt_iff_toInt_lt] at e3; rw [vp_in_iff]; omega)) p_0 x_1 c_3 b_1.1 b_1.2 c_4) d_Md_trip_104 (fun x_22 e_22 b_22 => ?_)
                  have hQ := hQ x_22 e_22
                  exact W.iret (v := x_22) hx hb hr (fun t ht hW => ⟨x_22, rfl, ⟨trivial, hQ⟩, ht⟩) t_nil d_Md_trip_105
                · have hQ := hQ.2 c_20
                  by_cases c_23 : p_1 = 6
                  · have hQ := hQ.1 c_23
                    refine lv_tableIn (off := 88) (tgt := 106) hx hb d_Md_trip_18 (by rw [c_23]; decide +kernel) (by rw [c_23]; decide +kernel) (by rw [c_23]; decide +kernel) (by decide) ?_
                    refine lv_aload_n hx hb d_Md_trip_106 rfl (lv_at hl 0 rfl) ?_
                    refine tw_getr (D := (dC, dI)) (C := R_Md) (T := F_Md) (N := 64) (ci := 7) (kd := 27) (ct := ct) hx hb htb i_Md hown hK hP hO_0 m0 rfl rfl 54 (by decide) (htb (.fieldLink R_Md 167 "WaterMenModel" "tripPaid" "[I") tw_124) (fun _ h9 => h9) rfl d_Md_trip_107 (fun q_24 e_24 m_24 => ?_)
                    have hQ := hQ q_24 e_24
                    refine lv_iload_n hx hb d_Md_trip_110 rfl (lv_at hl 1 rfl) ?_
                    refine tw_aldI (ct := ct) hx hb hK hP hO_0 m_24 rfl ((fun (a_0 : Int32) (a_1 : Int32) (k_0 : ¬ (a_0 < 0)) (k_1 : ¬ (a_1 < 0)) (k_2 : ¬ (600 < a_1)) (k_3 : ¬ ((a_1 - 1) < a_0)) => (show vp_in (a_0) 600 from by have z0 : (0 : Int32).toInt = 0 := (by decide +kernel); have z1 : (1 : Int32).toInt = 1 := (by decide +kernel); have z2 : (600 : Int32).toInt = 600 := (by decide +kernel); have r0 := fb_rng (a_0); have r1 := fb_rng (a_1); have e0 := k_0; rw [Int32.lt_iff_toInt_lt, z0] at e0; have e1 := k_1; rw [Int32.lt_iff_toInt_lt, z0] at e1; have e2 := k_2; rw [Int32.lt_iff_toInt_lt, z2] at e2; obtain ⟨n_0, hn_0, s0⟩ := nd_sub (x := (a_1)) (y := (1 : Int32)) (by (try rw [z1]); omega) (by (try rw [z1]); omega); rw [z1] at s0; have e3 := k_3; rw [hn_0, Int32.lt_iff_toInt_lt] at e3; rw [vp_in_iff]; omega)) p_0 x_1 c_3 b_1.1 b_1.2 c_4) d_Md_trip_111 (fun x_25 e_25 b_25 => ?_)
                    have hQ := hQ x_25 e_25
                    exact W.iret (v := x_25) hx hb hr (fun t ht hW => ⟨x_25, rfl, ⟨trivial, hQ⟩, ht⟩) t_nil d_Md_trip_112
                  · have hQ := hQ.2 c_23
                    by_cases c_26 : p_1 = 7
                    · have hQ := hQ.1 c_26
                      refine lv_tableIn (off := 95) (tgt := 113) hx hb d_Md_trip_18 (by rw [c_26]; decide +kernel) (by rw [c_26]; decide +kernel) (by rw [c_26]; decide +kernel) (by decide) ?_
                      refine lv_aload_n hx hb d_Md_trip_113 rfl (lv_at hl 0 rfl) ?_
                      refine tw_getr (D := (dC, dI)) (C := R_Md) (T := F_Md) (N := 64) (ci := 7) (kd := 27) (ct := ct) hx hb htb i_Md hown hK hP hO_0 m0 rfl rfl 55 (by decide) (htb (.fieldLink R_Md 170 "WaterMenModel" "sank" "[Z") tw_629) (fun _ h9 => h9) rfl d_Md_trip_114 (fun q_27 e_27 m_27 => ?_)
                      have hQ := hQ q_27 e_27
                      refine lv_iload_n hx hb d_Md_trip_117 rfl (lv_at hl 1 rfl) ?_
                      refine tw_aldZ (ct := ct) hx hb hK hP hO_0 m_27 rfl ((fun (a_0 : Int32) (a_1 : Int32) (k_0 : ¬ (a_0 < 0)) (k_1 : ¬ (a_1 < 0)) (k_2 : ¬ (600 < a_1)) (k_3 : ¬ ((a_1 - 1) < a_0)) => (show vp_in (a_0) 600 from by have z0 : (0 : Int32).toInt = 0 := (by decide +kernel); have z1 : (1 : Int32).toInt = 1 := (by decide +kernel); have z2 : (600 : Int32).toInt = 600 := (by decide +kernel); have r0 := fb_rng (a_0); have r1 := fb_rng (a_1); have e0 := k_0; rw [Int32.lt_iff_toInt_lt, z0] at e0; have e1 := k_1; rw [Int32.lt_iff_toInt_lt, z0] at e1; have e2 := k_2; rw [Int32.lt_iff_toInt_lt, z2] at e2; obtain ⟨n_0, hn_0, s0⟩ := nd_sub (x := (a_1)) (y := (1 : Int32)) (by (try rw [z1]); omega) (by (try rw [z1]); omega); rw [z1] at s0; have e3 := k_3; rw [hn_0, Int32.lt_iff_toInt_lt] at e3; rw [vp_in_iff]; omega)) p_0 x_1 c_3 b_1.1 b_1.2 c_4) d_Md_trip_118 (fun x_28 e_28 b_28 => ?_)
                      have hQ := hQ x_28 e_28
                      refine lv_if_eq (tgt := 126) hx hb d_Md_trip_119 (by decide) (fun c_29 => ?_) (fun c_29 => ?_)
                      · have hQ := hQ.1 c_29
                        refine lv_iconst (v := 0) hx hb d_Md_trip_126 (by decide +kernel) ?_
                        exact W.iret (v := 0) hx hb hr (fun t ht hW => ⟨0, rfl, ⟨trivial, hQ⟩, ht⟩) t_nil d_Md_trip_127
                      · have hQ := hQ.2 c_29
                        refine lv_iconst (v := 1) hx hb d_Md_trip_122 (by decide +kernel) ?_
                        refine lv_goto (tgt := 127) hx hb d_Md_trip_123 (by decide) ?_
                        exact W.iret (v := 1) hx hb hr (fun t ht hW => ⟨1, rfl, ⟨trivial, hQ⟩, ht⟩) t_nil d_Md_trip_127
                    · have hQ := hQ.2 c_26
                      refine lv_tableOut (tgt := 128) hx hb d_Md_trip_18 (by have h0 := lv_neT c_5 (show (0 : Int32).toInt = 0 by decide +kernel); have h1 := lv_neT c_8 (show (1 : Int32).toInt = 1 by decide +kernel); have h2 := lv_neT c_11 (show (2 : Int32).toInt = 2 by decide +kernel); have h3 := lv_neT c_14 (show (3 : Int32).toInt = 3 by decide +kernel); have h4 := lv_neT c_17 (show (4 : Int32).toInt = 4 by decide +kernel); have h5 := lv_neT c_20 (show (5 : Int32).toInt = 5 by decide +kernel); have h6 := lv_neT c_23 (show (6 : Int32).toInt = 6 by decide +kernel); have h7 := lv_neT c_26 (show (7 : Int32).toInt = 7 by decide +kernel); omega) (by decide) ?_
                      refine lv_bipush (v := (-2)) hx hb d_Md_trip_128 (by decide +kernel) ?_
                      exact W.iret (v := (-2)) hx hb hr (fun t ht hW => ⟨(-2), rfl, ⟨trivial, hQ⟩, ht⟩) t_nil d_Md_trip_130
def wp_WM_dueOf_w (L : List Nat) (f : TF) (q0 : Nat) (pq_0 : Nat) (p_1 : Int32) (Q : Int32 → Prop) : Prop := ∀ x_1 : Int32, ti f pq_0 2 = x_1 → ∀ y_2 : Int32, y_2 = x_1 / 720 → wp_WM_numberInForce_w L f q0 y_2 p_1 (fun (r_3 : Int32) => wp_WM_orderAt_w L f q0 r_3 (fun (r_4 : Option Nat) => ((r_4 = none → ∀ x_5 : Int32, ti f pq_0 0 = x_5 → wp_WM_boatAt_w L f q0 x_5 (fun (r_6 : Option Nat) => ((r_6 = none → Q (-1)) ∧ (∀ q_6 : Nat, r_6 = some q_6 → Q (-1))))) ∧ (∀ q_4 : Nat, r_4 = some q_4 → ∀ x_7 : Int32, ti f pq_0 0 = x_7 → wp_WM_boatAt_w L f q0 x_7 (fun (r_8 : Option Nat) => ((r_8 = none → Q (-1)) ∧ (∀ q_8 : Nat, r_8 = some q_8 → ∀ x_9 : Int32, ti f pq_0 4 = x_9 → ∀ x_10 : Int32, ti f pq_0 5 = x_10 → ∀ y_11 : Int32, y_11 = x_1 / 60 → ∀ x_12 : Int32, ti f q_8 0 = x_12 → wp_WM_priceOf_w L f q0 q_4 x_9 x_10 y_11 x_12 (fun (r_13 : Int32) => Q r_13))))))))
set_option maxHeartbeats 4000000 in
set_option maxRecDepth 100000 in
theorem c_WM_dueOf_w (l : Launch) (dC : Nat → ClassId) (dI : Nat → Nat → Nat) (ct : Nat → ClassId) (L : List Nat) (f : TF) (hO_0 : Ok L f) (q0 : Nat) (m0 : q0 ∈ L ∧ tk f q0 = 0) (pq_0 : Nat) (pm_0 : pq_0 ∈ L ∧ tk f pq_0 = 25) (p_1 : Int32)   (Q : Int32 → Prop) (hQ : wp_WM_dueOf_w L f q0 pq_0 p_1 Q) : Met l y_WM_dueOf (.code y_WM_dueOf b_WM_dueOf 5 (some .int) :: TB) ({ frames := 4, cells := 0, slots := 0, locals := 99 }) (va_Pc [.ref q0, .ref pq_0, .int p_1] (PR dC dI (TW ct L f) (TT ct))) (vp_Si (fun r => (True) ∧ Q r)) 0 0 (fun _ => False) := by
  refine Met.ofW (cc := b_WM_dueOf) (maxL := 5) (ret := (some .int)) (by decide) rfl ?_
  intro p e s m args below meth c s₁ B hml hv
  obtain ⟨rfl, hP, hK, hN⟩ := hv
  have hx := B.exec
  have hb := B.bytes
  have hr := B.returns
  have hts := atoms_spec (ws := (.code y_WM_dueOf b_WM_dueOf 5 (some .int) :: TB)) B.pre
  have htb := fun w (h : w ∈ TB) => hts w (List.mem_cons_of_mem _ h)
  have hown : s.vm.findClass R_WM = some m.cls := findClass_of_methodNamed B.named
  have hlocks := B.notSynchronized
  have hl := lv_entry ([.ref q0, .ref pq_0, .int p_1]) (n := 5) (Nat.le_of_ble_eq_true rfl)
  rw [lg_entry_eq]
  generalize (lg_sl ([.ref q0, .ref pq_0, .int p_1]) ++ List.replicate (5 - (lg_sl ([.ref q0, .ref pq_0, .int p_1])).length) Slot.unset).toArray = ls at hl ⊢
  have hl : lv_has ls 5 [(0, .ref q0), (1, .ref pq_0), (2, .int p_1)] := hl
  unfold wp_WM_dueOf_w at hQ
  refine lv_aload_n hx hb d_WM_dueOf_0 rfl (lv_at hl 0 rfl) ?_
  refine lv_aload_n hx hb d_WM_dueOf_1 rfl (lv_at hl 0 rfl) ?_
  refine lv_aload_n hx hb d_WM_dueOf_2 rfl (lv_at hl 1 rfl) ?_
  refine tw_geti (D := (dC, dI)) (C := R_Tr) (T := F_Tr) (N := 8) (ci := 10) (kd := 25) (ct := ct) hx hb htb i_Tr hown hK hP hO_0 pm_0 rfl rfl 2 (by decide) (htb (.fieldLink R_WM 309 "WaterMen$Trip" "start" "I") tw_663) (fun _ h9 => h9) rfl d_WM_dueOf_3 (fun x_1 e_1 b_1 => ?_)
  have hQ := hQ x_1 e_1
  refine lv_sipush (v := 720) hx hb d_WM_dueOf_6 (by decide +kernel) ?_
  refine lv_idiv hx hb d_WM_dueOf_9 (by decide) ?_
  refine hb_divn (U := 359999) (Qm := 499) (c := 720) (C1 := 719) (K := 2147482927) (by decide +kernel) (by decide +kernel) (by decide +kernel) b_1.1 (show ¬ (2147482927 < x_1) from by have e0 := b_1.1; rw [Int32.lt_iff_toInt_lt] at e0; have e1 := b_1.2; rw [Int32.lt_iff_toInt_lt] at e1; have z0 : (0 : Int32).toInt = 0 := (by decide +kernel); have z1 : (359999 : Int32).toInt = 359999 := (by decide +kernel); have z2 : (2147482927 : Int32).toInt = 2147482927 := (by decide +kernel); rw [Int32.lt_iff_toInt_lt]; omega) b_1.2 (by decide +kernel) (fun y_2 g1_2 g2_2 g3_2 g4_2 g5_2 g9_2 => ?_)
  have hQ := hQ y_2 g9_2
  refine lv_iload_n hx hb d_WM_dueOf_10 rfl (lv_at hl 2 rfl) ?_
  refine vp_callSi (va_Run.run (va_runV (As := [.int y_2, .int p_1]) (rest := [.ref q0]) ⟨hx, hb, hml, hown, htb⟩ (c_WM_numberInForce_w l dC dI ct L f hO_0 q0 m0 y_2 p_1 _ hQ) (cwV 2 htb (gd_V tw_390 tw_391 tw_392 tw_26 tw_389) rfl rfl rfl (by decide +kernel) ⟨Nat.le_of_ble_eq_true rfl, Nat.le_of_ble_eq_true rfl⟩) ⟨pr_blind, tw_recv hK hP m0 rfl rfl, pr_pre hP hK hN⟩ rfl rfl hl.1 rfl (lv_room (Nat.le_of_ble_eq_true rfl)) d_WM_dueOf_11 ⟨Nat.le_of_ble_eq_true rfl, Nat.le_of_ble_eq_true rfl⟩)) (fun r_3 er_3 => ?_)
  obtain ⟨er_3, hQ⟩ := er_3
  clear er_3
  refine va_csq (va_Run.run (va_runV (As := [.int r_3]) (rest := []) ⟨hx, hb, hml, hown, htb⟩ (c_WM_orderAt_w l dC dI ct L f hO_0 q0 m0 r_3 _ hQ) (cwV 1 htb (gd_V tw_386 tw_387 tw_388 tw_26 tw_385) rfl rfl rfl (by decide +kernel) ⟨Nat.le_of_ble_eq_true rfl, Nat.le_of_ble_eq_true rfl⟩) ⟨pr_blind, tw_recv hK hP m0 rfl rfl, pr_pre hP hK hN⟩ rfl rfl hl.1 rfl (lv_room (Nat.le_of_ble_eq_true rfl)) d_WM_dueOf_14 ⟨Nat.le_of_ble_eq_true rfl, Nat.le_of_ble_eq_true rfl⟩)) (fun r_4 er_4 => ?_)
  obtain ⟨er_4, hQ⟩ := er_4
  rcases er_4 with rfl | ⟨q_4, rfl, m_4⟩
  · have hQ := hQ.1 rfl
    refine hb_tv .null rfl ?_
    refine lv_astore_nN (lv' := [(3, .null), (0, .ref q0), (1, .ref pq_0), (2, .int p_1)]) hx hb d_WM_dueOf_17 rfl hl (by decide) rfl (fun ls hl => ?_)
    refine lv_aload_n hx hb d_WM_dueOf_18 rfl (lv_at hl 1 rfl) ?_
    refine lv_aload_n hx hb d_WM_dueOf_19 rfl (lv_at hl 2 rfl) ?_
    refine tw_geti (D := (dC, dI)) (C := R_Tr) (T := F_Tr) (N := 8) (ci := 10) (kd := 25) (ct := ct) hx hb htb i_Tr hown hK hP hO_0 pm_0 rfl rfl 0 (by decide) (htb (.fieldLink R_WM 303 "WaterMen$Trip" "boat" "I") tw_661) (fun _ h9 => h9) rfl d_WM_dueOf_20 (fun x_5 e_5 b_5 => ?_)
    have hQ := hQ x_5 e_5
    refine va_csq (va_Run.run (va_runV (As := [.int x_5]) (rest := []) ⟨hx, hb, hml, hown, htb⟩ (c_WM_boatAt_w l dC dI ct L f hO_0 q0 m0 x_5 _ hQ) (cwV 1 htb (gd_V tw_514 tw_515 tw_516 tw_26 tw_513) rfl rfl rfl (by decide +kernel) ⟨Nat.le_of_ble_eq_true rfl, Nat.le_of_ble_eq_true rfl⟩) ⟨pr_blind, tw_recv hK hP m0 rfl rfl, pr_pre hP hK hN⟩ rfl rfl hl.1 rfl (lv_room (Nat.le_of_ble_eq_true rfl)) d_WM_dueOf_23 ⟨Nat.le_of_ble_eq_true rfl, Nat.le_of_ble_eq_true rfl⟩)) (fun r_6 er_6 => ?_)
    obtain ⟨er_6, hQ⟩ := er_6
    rcases er_6 with rfl | ⟨q_6, rfl, m_6⟩
    · have hQ := hQ.1 rfl
      refine hb_tv .null rfl ?_
      refine lv_astoreN (lv' := [(4, .null), (3, .null), (0, .ref q0), (1, .ref pq_0), (2, .int p_1)]) hx hb d_WM_dueOf_26 hl (by decide) rfl (fun ls hl => ?_)
      refine lv_aload_nN hx hb d_WM_dueOf_28 rfl (lv_at hl 1 rfl) ?_
      refine lv_ifnullN (tgt := 37) hx hb d_WM_dueOf_29 (by decide) ?_
      refine lv_iconst (v := (-1)) hx hb d_WM_dueOf_37 (by decide +kernel) ?_
      exact W.iret (v := (-1)) hx hb hr (fun t ht hW => ⟨(-1), rfl, ⟨trivial, hQ⟩, ht⟩) t_nil d_WM_dueOf_38
    · have hQ := hQ.2 q_6 rfl
      refine hb_tv (.ref q_6) rfl ?_
      refine lv_astore (lv' := [(4, .ref q_6), (3, .null), (0, .ref q0), (1, .ref pq_0), (2, .int p_1)]) hx hb d_WM_dueOf_26 hl (by decide) rfl (fun ls hl => ?_)
      refine lv_aload_nN hx hb d_WM_dueOf_28 rfl (lv_at hl 1 rfl) ?_
      refine lv_ifnullN (tgt := 37) hx hb d_WM_dueOf_29 (by decide) ?_
      refine lv_iconst (v := (-1)) hx hb d_WM_dueOf_37 (by decide +kernel) ?_
      exact W.iret (v := (-1)) hx hb hr (fun t ht hW => ⟨(-1), rfl, ⟨trivial, hQ⟩, ht⟩) t_nil d_WM_dueOf_38
  · have hQ := hQ.2 q_4 rfl
    refine hb_tv (.ref q_4) rfl ?_
    refine lv_astore_n (lv' := [(3, .ref q_4), (0, .ref q0), (1, .ref pq_0), (2, .int p_1)]) hx hb d_WM_dueOf_17 rfl hl (by decide) rfl (fun ls hl => ?_)
    refine lv_aload_n hx hb d_WM_dueOf_18 rfl (lv_at hl 1 rfl) ?_
    refine lv_aload_n hx hb d_WM_dueOf_19 rfl (lv_at hl 2 rfl) ?_
    refine tw_geti (D := (dC, dI)) (C := R_Tr) (T := F_Tr) (N := 8) (ci := 10) (kd := 25) (ct := ct) hx hb htb i_Tr hown hK hP hO_0 pm_0 rfl rfl 0 (by decide) (htb (.fieldLink R_WM 303 "WaterMen$Trip" "boat" "I") tw_661) (fun _ h9 => h9) rfl d_WM_dueOf_20 (fun x_7 e_7 b_7 => ?_)
    have hQ := hQ x_7 e_7
    refine va_csq (va_Run.run (va_runV (As := [.int x_7]) (rest := []) ⟨hx, hb, hml, hown, htb⟩ (c_WM_boatAt_w l dC dI ct L f hO_0 q0 m0 x_7 _ hQ) (cwV 1 htb (gd_V tw_514 tw_515 tw_516 tw_26 tw_513) rfl rfl rfl (by decide +kernel) ⟨Nat.le_of_ble_eq_true rfl, Nat.le_of_ble_eq_true rfl⟩) ⟨pr_blind, tw_recv hK hP m0 rfl rfl, pr_pre hP hK hN⟩ rfl rfl hl.1 rfl (lv_room (Nat.le_of_ble_eq_true rfl)) d_WM_dueOf_23 ⟨Nat.le_of_ble_eq_true rfl, Nat.le_of_ble_eq_true rfl⟩)) (fun r_8 er_8 => ?_)
    obtain ⟨er_8, hQ⟩ := er_8
    rcases er_8 with rfl | ⟨q_8, rfl, m_8⟩
    · have hQ := hQ.1 rfl
      refine hb_tv .null rfl ?_
      refine lv_astoreN (lv' := [(4, .null), (3, .ref q_4), (0, .ref q0), (1, .ref pq_0), (2, .int p_1)]) hx hb d_WM_dueOf_26 hl (by decide) rfl (fun ls hl => ?_)
      refine lv_aload_n hx hb d_WM_dueOf_28 rfl (lv_at hl 1 rfl) ?_
      refine lv_ifnull hx hb d_WM_dueOf_29 ?_
      refine lv_aloadN hx hb d_WM_dueOf_32 (lv_at hl 0 rfl) ?_
      refine lv_ifnonnullN hx hb d_WM_dueOf_34 ?_
      refine lv_iconst (v := (-1)) hx hb d_WM_dueOf_37 (by decide +kernel) ?_
      exact W.iret (v := (-1)) hx hb hr (fun t ht hW => ⟨(-1), rfl, ⟨trivial, hQ⟩, ht⟩) t_nil d_WM_dueOf_38
    · have hQ := hQ.2 q_8 rfl
      refine hb_tv (.ref q_8) rfl ?_
      refine lv_astore (lv' := [(4, .ref q_8), (3, .ref q_4), (0, .ref q0), (1, .ref pq_0), (2, .int p_1)]) hx hb d_WM_dueOf_26 hl (by decide) rfl (fun ls hl => ?_)
      refine lv_aload_n hx hb d_WM_dueOf_28 rfl (lv_at hl 1 rfl) ?_
      refine lv_ifnull hx hb d_WM_dueOf_29 ?_
      refine lv_aload hx hb d_WM_dueOf_32 (lv_at hl 0 rfl) ?_
      refine lv_ifnonnull (tgt := 39) hx hb d_WM_dueOf_34 (by decide) ?_
      refine lv_aload_n hx hb d_WM_dueOf_39 rfl (lv_at hl 2 rfl) ?_
      refine lv_aload_n hx hb d_WM_dueOf_40 rfl (lv_at hl 1 rfl) ?_
      refine lv_aload_n hx hb d_WM_dueOf_41 rfl (lv_at hl 3 rfl) ?_
      refine tw_geti (D := (dC, dI)) (C := R_Tr) (T := F_Tr) (N := 8) (ci := 10) (kd := 25) (ct := ct) hx hb htb i_Tr hown hK hP hO_0 pm_0 rfl rfl 4 (by decide) (htb (.fieldLink R_WM 247 "WaterMen$Trip" "from" "I") tw_604) (fun _ h9 => h9) rfl d_WM_dueOf_42 (fun x_9 e_9 b_9 => ?_)
      have hQ := hQ x_9 e_9
      refine lv_aload_n hx hb d_WM_dueOf_45 rfl (lv_at hl 3 rfl) ?_
      refine tw_geti (D := (dC, dI)) (C := R_Tr) (T := F_Tr) (N := 8) (ci := 10) (kd := 25) (ct := ct) hx hb htb i_Tr hown hK hP hO_0 pm_0 rfl rfl 5 (by decide) (htb (.fieldLink R_WM 250 "WaterMen$Trip" "to" "I") tw_605) (fun _ h9 => h9) rfl d_WM_dueOf_46 (fun x_10 e_10 b_10 => ?_)
      have hQ := hQ x_10 e_10
      refine lv_aload_n hx hb d_WM_dueOf_49 rfl (lv_at hl 3 rfl) ?_
      refine tw_getI (x := x_1) (D := (dC, dI)) (C := R_Tr) (T := F_Tr) (N := 8) (ci := 10) (kd := 25) (ct := ct) hx hb htb i_Tr hown hK hP pm_0 rfl rfl 2 e_1 (by decide) (htb (.fieldLink R_WM 309 "WaterMen$Trip" "start" "I") tw_663) (fun _ h9 => h9) rfl d_WM_dueOf_50 ?_
      refine lv_bipush (v := 60) hx hb d_WM_dueOf_53 (by decide +kernel) ?_
      refine lv_idiv hx hb d_WM_dueOf_55 (by decide) ?_
      refine hb_divn (U := 359999) (Qm := 5999) (c := 60) (C1 := 59) (K := 2147483587) (by decide +kernel) (by decide +kernel) (by decide +kernel) b_1.1 (show ¬ (2147483587 < x_1) from by have e0 := b_1.1; rw [Int32.lt_iff_toInt_lt] at e0; have e1 := b_1.2; rw [Int32.lt_iff_toInt_lt] at e1; have z0 : (0 : Int32).toInt = 0 := (by decide +kernel); have z1 : (359999 : Int32).toInt = 359999 := (by decide +kernel); have z2 : (2147483587 : Int32).toInt = 2147483587 := (by decide +kernel); rw [Int32.lt_iff_toInt_lt]; omega) b_1.2 (by decide +kernel) (fun y_11 g1_11 g2_11 g3_11 g4_11 g5_11 g9_11 => ?_)
      have hQ := hQ y_11 g9_11
      refine lv_aload hx hb d_WM_dueOf_56 (lv_at hl 0 rfl) ?_
      refine tw_geti (D := (dC, dI)) (C := R_Bt) (T := F_Bt) (N := 6) (ci := 9) (kd := 24) (ct := ct) hx hb htb i_Bt hown hK hP hO_0 m_8 rfl rfl 0 (by decide) (htb (.fieldLink R_WM 181 "WaterMen$Boat" "oars" "I") tw_518) (fun _ h9 => h9) rfl d_WM_dueOf_58 (fun x_12 e_12 b_12 => ?_)
      have hQ := hQ x_12 e_12
      refine vp_callSi (va_Run.run (va_runV (As := [.ref q_4, .int x_9, .int x_10, .int y_11, .int x_12]) (rest := []) ⟨hx, hb, hml, hown, htb⟩ (c_WM_priceOf_w l dC dI ct L f hO_0 q0 m0 q_4 m_4 x_9 x_10 y_11 x_12 b_9.1 b_9.2 b_10.1 b_10.2 g1_11 g5_11 _ hQ) (cwV 5 htb (gd_V tw_435 tw_436 tw_437 tw_26 tw_434) rfl rfl rfl (by decide +kernel) ⟨Nat.le_of_ble_eq_true rfl, Nat.le_of_ble_eq_true rfl⟩) ⟨pr_blind, tw_recv hK hP m0 rfl rfl, pr_pre hP hK hN⟩ rfl rfl hl.1 rfl (lv_room (Nat.le_of_ble_eq_true rfl)) d_WM_dueOf_61 ⟨Nat.le_of_ble_eq_true rfl, Nat.le_of_ble_eq_true rfl⟩)) (fun r_13 er_13 => ?_)
      obtain ⟨er_13, hQ⟩ := er_13
      clear er_13
      exact W.iret (v := r_13) hx hb hr (fun t ht hW => ⟨r_13, rfl, ⟨trivial, hQ⟩, ht⟩) t_nil d_WM_dueOf_64
