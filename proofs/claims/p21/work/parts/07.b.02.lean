def W_Md_absent_t : List (Nat × Nat) := [(36, 1000), (37, 1000), (38, 1000)]
set_option maxHeartbeats 4000000 in
set_option maxRecDepth 100000 in
theorem c_Md_absent_t (l : Launch) (dC : Nat → ClassId) (dI : Nat → Nat → Nat) (ct : Nat → ClassId) (L : List Nat) (f : TF) (hO_0 : Ok L f) (q0 : Nat) (m0 : q0 ∈ L ∧ tk f q0 = 27) (sz : Nat) (p_0 : Int32) (p_1 : Int32) (p_2 : Int32)   : Met l y_Md_absent (.code y_Md_absent b_Md_absent 5 (some .int) :: TB) ({ frames := 2, cells := 0, slots := 0, locals := 42 }) (va_Pc [.ref q0, .int p_0, .int p_1, .int p_2] (PC dC dI (TW ct L f) (TT ct) sz)) (va_Qi (fun r (u : TSt) => Ok u.1 u.2 ∧ Ext W_Md_absent_t L f u.1 u.2 ∧ (True)) (fun (u : TSt) t => va_P (dC, dI) vwCl (TW ct u.1 u.2) t.heap ∧ va_K (dC, dI) vwCl (TT ct) t ∧ va_D (va_A (TW ct L f) sz) (TW ct u.1 u.2)) (va_A (TW ct L f) sz)) 0 0 (va_A (TW ct L f) sz) := by
  refine Met.ofW (cc := b_Md_absent) (maxL := 5) (ret := (some .int)) (by decide) rfl ?_
  intro p e s m args below meth c s₁ B hml hv
  obtain ⟨rfl, hsz, hP, hK, hD0, hN⟩ := hv
  have hx := B.exec
  have hb := B.bytes
  have hr := B.returns
  have hts := atoms_spec (ws := (.code y_Md_absent b_Md_absent 5 (some .int) :: TB)) B.pre
  have htb := fun w (h : w ∈ TB) => hts w (List.mem_cons_of_mem _ h)
  have hown : s.vm.findClass R_Md = some m.cls := findClass_of_methodNamed B.named
  have hlocks := B.notSynchronized
  have hl := lv_entry ([.ref q0, .int p_0, .int p_1, .int p_2]) (n := 5) (Nat.le_of_ble_eq_true rfl)
  rw [lg_entry_eq]
  generalize (lg_sl ([.ref q0, .int p_0, .int p_1, .int p_2]) ++ List.replicate (5 - (lg_sl ([.ref q0, .int p_0, .int p_1, .int p_2])).length) Slot.unset).toArray = ls at hl ⊢
  have hl : lv_has ls 5 [(0, .ref q0), (1, .int p_0), (2, .int p_1), (3, .int p_2)] := hl
  subst hsz
  have hD := hD0.self (sz := s.heap.size)
  obtain ⟨A, hAe⟩ : ∃ A, va_A (TW ct L f) s.heap.size = A := ⟨_, rfl⟩
  rw [hAe] at hD
  have hA : ∀ q : Nat, s.heap.size ≤ q → A q := fun q h => by rw [← hAe]; exact Or.inr h
  have hS : va_S A s.heap s.heap [] := va_S.rf
  have hA_0 : Ext [] L f L f := Ext.rf
  suffices hGo : ∀ (H : Heap) (locs : List Loc), va_P (dC, dI) vwCl (TW ct L f) H → va_S A s.heap H locs → W p l e (headSpec (.code y_Md_absent b_Md_absent 5 (some .int) :: TB) ({ frames := 2, cells := 0, slots := 0, locals := 42 })).room s m [.ref q0, .int p_0, .int p_1, .int p_2].toArray below meth c H locs 0 0 (MQ below (va_Qi (fun r (u : TSt) => Ok u.1 u.2 ∧ Ext W_Md_absent_t L f u.1 u.2 ∧ (True)) (fun (u : TSt) t => va_P (dC, dI) vwCl (TW ct u.1 u.2) t.heap ∧ va_K (dC, dI) vwCl (TT ct) t ∧ va_D (va_A (TW ct L f) s.heap.size) (TW ct u.1 u.2)) (va_A (TW ct L f) s.heap.size)) [.ref q0, .int p_0, .int p_1, .int p_2].toArray s 0 0 (va_A (TW ct L f) s.heap.size)) (F0 m 0 ls []) from hGo _ _ hP hS
  clear hP hS
  intro H locs hP hS
  refine lv_iload_n hx hb d_Md_absent_0 rfl (lv_at hl 1 rfl) ?_
  refine vp_callSi (va_Run.run (va_runS (As := [.int p_0]) (rest := []) ⟨hx, hb, hml, hown, htb⟩ (c_Md_isMan l p_0) (cwS 1 htb (gd_S tw_504 tw_505 tw_479 tw_503) rfl rfl rfl (by decide +kernel) ⟨Nat.le_of_ble_eq_true rfl, Nat.le_of_ble_eq_true rfl⟩) ⟨fun _ _ _ _ h => h, fun U _ _ => ⟨rfl, trivial⟩⟩ rfl rfl hl.1 rfl (lv_room (Nat.le_of_ble_eq_true rfl)) d_Md_absent_1 ⟨Nat.le_of_ble_eq_true rfl, Nat.le_of_ble_eq_true rfl⟩)) (fun r er => ?_)
  subst er
  by_cases c_2 : p_0 < 0
  · refine hb_ti 0 (by unfold f_Md_isMan; rw [if_pos c_2]; first | done | rfl) ?_
    refine lv_if_eq (tgt := 24) hx hb d_Md_absent_4 (by decide) (fun _ => ?_) (fun h => absurd (by decide +kernel) h)
    refine lv_iconst (v := (-1)) hx hb d_Md_absent_24 (by decide +kernel) ?_
    refine W.widen (k := 0) (n := 0) (Nat.le_of_ble_eq_true rfl) (Nat.le_of_ble_eq_true rfl) ?_
    exact W.iret (v := (-1)) hx hb hr (fun t ht hW => ⟨⟨(-1), (L, f), rfl, ⟨hO_0, hA_0.mono (by decide +kernel), trivial⟩, by rw [ht]; exact hP, va_K.moved hW.alike hK, by rw [hAe]; exact hD⟩, by rw [hAe]; exact hS.F ht⟩) (by rw [hAe]; exact hS.2.2) d_Md_absent_25
  · by_cases c_3 : 39 < p_0
    · refine hb_ti 0 (by unfold f_Md_isMan; rw [if_neg c_2, if_pos c_3]; first | done | rfl) ?_
      refine lv_if_eq (tgt := 24) hx hb d_Md_absent_4 (by decide) (fun _ => ?_) (fun h => absurd (by decide +kernel) h)
      refine lv_iconst (v := (-1)) hx hb d_Md_absent_24 (by decide +kernel) ?_
      refine W.widen (k := 0) (n := 0) (Nat.le_of_ble_eq_true rfl) (Nat.le_of_ble_eq_true rfl) ?_
      exact W.iret (v := (-1)) hx hb hr (fun t ht hW => ⟨⟨(-1), (L, f), rfl, ⟨hO_0, hA_0.mono (by decide +kernel), trivial⟩, by rw [ht]; exact hP, va_K.moved hW.alike hK, by rw [hAe]; exact hD⟩, by rw [hAe]; exact hS.F ht⟩) (by rw [hAe]; exact hS.2.2) d_Md_absent_25
    · refine hb_ti 1 (by unfold f_Md_isMan; rw [if_neg c_2, if_neg c_3]; first | done | rfl) ?_
      refine lv_if_eq (tgt := 24) hx hb d_Md_absent_4 (by decide) (fun h => absurd h (by decide +kernel)) (fun _ => ?_)
      refine lv_iload_n hx hb d_Md_absent_7 rfl (lv_at hl 2 rfl) ?_
      refine lv_if_lt (tgt := 24) hx hb d_Md_absent_8 (by decide) (fun c_4 => ?_) (fun c_4 => ?_)
      · refine lv_iconst (v := (-1)) hx hb d_Md_absent_24 (by decide +kernel) ?_
        refine W.widen (k := 0) (n := 0) (Nat.le_of_ble_eq_true rfl) (Nat.le_of_ble_eq_true rfl) ?_
        exact W.iret (v := (-1)) hx hb hr (fun t ht hW => ⟨⟨(-1), (L, f), rfl, ⟨hO_0, hA_0.mono (by decide +kernel), trivial⟩, by rw [ht]; exact hP, va_K.moved hW.alike hK, by rw [hAe]; exact hD⟩, by rw [hAe]; exact hS.F ht⟩) (by rw [hAe]; exact hS.2.2) d_Md_absent_25
      · refine lv_iload_n hx hb d_Md_absent_11 rfl (lv_at hl 2 rfl) ?_
        refine lv_iload_n hx hb d_Md_absent_12 rfl (lv_at hl 3 rfl) ?_
        refine lv_icmp_gt (tgt := 24) hx hb d_Md_absent_13 (by decide) (fun c_5 => ?_) (fun c_5 => ?_)
        · refine lv_iconst (v := (-1)) hx hb d_Md_absent_24 (by decide +kernel) ?_
          refine W.widen (k := 0) (n := 0) (Nat.le_of_ble_eq_true rfl) (Nat.le_of_ble_eq_true rfl) ?_
          exact W.iret (v := (-1)) hx hb hr (fun t ht hW => ⟨⟨(-1), (L, f), rfl, ⟨hO_0, hA_0.mono (by decide +kernel), trivial⟩, by rw [ht]; exact hP, va_K.moved hW.alike hK, by rw [hAe]; exact hD⟩, by rw [hAe]; exact hS.F ht⟩) (by rw [hAe]; exact hS.2.2) d_Md_absent_25
        · refine lv_iload_n hx hb d_Md_absent_16 rfl (lv_at hl 3 rfl) ?_
          refine lv_aload_n hx hb d_Md_absent_17 rfl (lv_at hl 0 rfl) ?_
          refine vp_callSi (va_Run.run (va_runV (As := []) (rest := [.int p_2]) ⟨hx, hb, hml, hown, htb⟩ (c_Md_today_t l dC dI ct L f hO_0 q0 m0) (cwV 0 htb (gd_V tw_499 tw_500 tw_501 tw_479 tw_498) rfl rfl rfl (by decide +kernel) ⟨Nat.le_of_ble_eq_true rfl, Nat.le_of_ble_eq_true rfl⟩) ⟨pr_blind, tw_recv hK hP m0 rfl rfl, pr_pre hP hK hN⟩ rfl rfl hl.1 rfl (lv_room (Nat.le_of_ble_eq_true rfl)) d_Md_absent_18 ⟨Nat.le_of_ble_eq_true rfl, Nat.le_of_ble_eq_true rfl⟩)) (fun r_6 er_6 => ?_)
          obtain ⟨po_7, po_8, po_9, po_10, -⟩ := er_6
          refine lv_icmp_le (tgt := 26) hx hb d_Md_absent_21 (by decide) (fun c_11 => ?_) (fun c_11 => ?_)
          · refine lv_aload_n hx hb d_Md_absent_26 rfl (lv_at hl 0 rfl) ?_
            refine tw_getr (D := (dC, dI)) (C := R_Md) (T := F_Md) (N := 64) (ci := 7) (kd := 27) (ct := ct) hx hb htb i_Md hown hK hP hO_0 m0 rfl rfl 9 (by decide) (htb (.fieldLink R_Md 58 "WaterMenModel" "state" "[I") tw_506) (fun _ h9 => h9) rfl d_Md_absent_27 (fun q_12 e_12 m_12 => ?_)
            refine lv_iload_n hx hb d_Md_absent_30 rfl (lv_at hl 1 rfl) ?_
            refine tw_aldI (ct := ct) hx hb hK hP hO_0 m_12 rfl (hb_inl c_2 c_3 (by decide +kernel)) d_Md_absent_31 (fun x_13 e_13 b_13 => ?_)
            refine lv_iconst (v := 1) hx hb d_Md_absent_32 (by decide +kernel) ?_
            refine lv_icmp_eq (tgt := 39) hx hb d_Md_absent_33 (by decide) (fun c_14 => ?_) (fun c_14 => ?_)
            · refine lv_iload_n hx hb d_Md_absent_39 rfl (lv_at hl 2 rfl) ?_
              refine lv_aload_n hx hb d_Md_absent_40 rfl (lv_at hl 0 rfl) ?_
              refine tw_getr (D := (dC, dI)) (C := R_Md) (T := F_Md) (N := 64) (ci := 7) (kd := 27) (ct := ct) hx hb htb i_Md hown hK hP hO_0 m0 rfl rfl 11 (by decide) (htb (.fieldLink R_Md 64 "WaterMenModel" "boundOn" "[I") tw_508) (fun _ h9 => h9) rfl d_Md_absent_41 (fun q_15 e_15 m_15 => ?_)
              refine lv_iload_n hx hb d_Md_absent_44 rfl (lv_at hl 1 rfl) ?_
              refine tw_aldI (ct := ct) hx hb hK hP hO_0 m_15 rfl (hb_inl c_2 c_3 (by decide +kernel)) d_Md_absent_45 (fun x_16 e_16 b_16 => ?_)
              refine lv_icmp_ge (tgt := 51) hx hb d_Md_absent_46 (by decide) (fun c_17 => ?_) (fun c_17 => ?_)
              · refine lv_iconst (v := 0) hx hb d_Md_absent_51 (by decide +kernel) ?_
                refine lv_istore (lv' := [(4, .int 0), (0, .ref q0), (1, .int p_0), (2, .int p_1), (3, .int p_2)]) hx hb d_Md_absent_52 hl (by decide) rfl (fun ls hl => ?_)
                have cut_18 : ∀ (n_18 : Nat) (v4_18 : Int32) (ls : Array Slot), ¬ (v4_18 < 0) → ¬ (6 < v4_18) → (6 : Int32).toInt - (v4_18 : Int32).toInt ≤ (n_18 : Int) → lv_has ls 5 [(0, .ref q0), (1, .int p_0), (2, .int p_1), (3, .int p_2), (4, .int v4_18)] → W p l e (headSpec (.code y_Md_absent b_Md_absent 5 (some .int) :: TB) ({ frames := 2, cells := 0, slots := 0, locals := 42 })).room s m [.ref q0, .int p_0, .int p_1, .int p_2].toArray below meth c H locs 0 0 (MQ below (va_Qi (fun r (u : TSt) => Ok u.1 u.2 ∧ Ext W_Md_absent_t L f u.1 u.2 ∧ (True)) (fun (u : TSt) t => va_P (dC, dI) vwCl (TW ct u.1 u.2) t.heap ∧ va_K (dC, dI) vwCl (TT ct) t ∧ va_D (va_A (TW ct L f) s.heap.size) (TW ct u.1 u.2)) (va_A (TW ct L f) s.heap.size)) [.ref q0, .int p_0, .int p_1, .int p_2].toArray s 0 0 (va_A (TW ct L f) s.heap.size)) (F0 m 54 ls []) := by
                  intro n_18
                  induction n_18 using Nat.strongRecOn with
                  | _ n_18 ih_18 =>
                    intro v4_18 ls iv0_18 iv1_18 hm_18 hl
                    refine lv_iload hx hb d_Md_absent_54 (lv_at hl 4 rfl) ?_
                    refine lv_aload_n hx hb d_Md_absent_56 rfl (lv_at hl 0 rfl) ?_
                    refine tw_getr (D := (dC, dI)) (C := R_Md) (T := F_Md) (N := 64) (ci := 7) (kd := 27) (ct := ct) hx hb htb i_Md hown hK hP hO_0 m0 rfl rfl 12 (by decide) (htb (.fieldLink R_Md 67 "WaterMenModel" "gaps" "[I") tw_509) (fun _ h9 => h9) rfl d_Md_absent_57 (fun q_19 e_19 m_19 => ?_)
                    refine lv_iload_n hx hb d_Md_absent_60 rfl (lv_at hl 1 rfl) ?_
                    refine tw_aldI (ct := ct) hx hb hK hP hO_0 m_19 rfl (hb_inl c_2 c_3 (by decide +kernel)) d_Md_absent_61 (fun x_20 e_20 b_20 => ?_)
                    refine lv_icmp_ge (tgt := 110) hx hb d_Md_absent_62 (by decide) (fun c_21 => ?_) (fun c_21 => ?_)
                    · refine lv_aload_n hx hb d_Md_absent_110 rfl (lv_at hl 0 rfl) ?_
                      refine tw_getR (D := (dC, dI)) (C := R_Md) (T := F_Md) (N := 64) (ci := 7) (kd := 27) (ct := ct) hx hb htb i_Md hown hK hP m0 rfl rfl 12 e_19 (by decide) (htb (.fieldLink R_Md 67 "WaterMenModel" "gaps" "[I") tw_509) (fun _ h9 => h9) rfl d_Md_absent_111 ?_
                      refine hb_tv (.ref q_19) rfl ?_
                      refine lv_iload_n hx hb d_Md_absent_114 rfl (lv_at hl 1 rfl) ?_
                      refine tw_aldxI (ct := ct) (x := x_20) hx hb hK hP m_19 rfl (hb_inl c_2 c_3 (by decide +kernel)) e_20 d_Md_absent_115 ?_
                      refine lv_bipush (v := 6) hx hb d_Md_absent_116 (by decide +kernel) ?_
                      refine lv_icmp_ne (tgt := 124) hx hb d_Md_absent_118 (by decide) (fun c_23 => ?_) (fun c_23 => ?_)
                      · refine lv_aload_n hx hb d_Md_absent_124 rfl (lv_at hl 0 rfl) ?_
                        refine tw_getr (D := (dC, dI)) (C := R_Md) (T := F_Md) (N := 64) (ci := 7) (kd := 27) (ct := ct) hx hb htb i_Md hown hK hP hO_0 m0 rfl rfl 13 (by decide) (htb (.fieldLink R_Md 70 "WaterMenModel" "gapFrom" "[I") tw_510) (fun _ h9 => h9) rfl d_Md_absent_125 (fun q_24 e_24 m_24 => ?_)
                        refine lv_bipush (v := 6) hx hb d_Md_absent_128 (by decide +kernel) ?_
                        refine lv_iload_n hx hb d_Md_absent_130 rfl (lv_at hl 1 rfl) ?_
                        refine lv_imul hx hb d_Md_absent_131 ?_
                        refine lv_aload_n hx hb d_Md_absent_132 rfl (lv_at hl 0 rfl) ?_
                        refine tw_getR (D := (dC, dI)) (C := R_Md) (T := F_Md) (N := 64) (ci := 7) (kd := 27) (ct := ct) hx hb htb i_Md hown hK hP m0 rfl rfl 12 e_19 (by decide) (htb (.fieldLink R_Md 67 "WaterMenModel" "gaps" "[I") tw_509) (fun _ h9 => h9) rfl d_Md_absent_133 ?_
                        refine hb_tv (.ref q_19) rfl ?_
                        refine lv_iload_n hx hb d_Md_absent_136 rfl (lv_at hl 1 rfl) ?_
                        refine tw_aldxI (ct := ct) (x := x_20) hx hb hK hP m_19 rfl (hb_inl c_2 c_3 (by decide +kernel)) e_20 d_Md_absent_137 ?_
                        refine lv_iadd hx hb d_Md_absent_138 ?_
                        refine lv_iload_n hx hb d_Md_absent_139 rfl (lv_at hl 2 rfl) ?_
                        refine tw_astI (ct := ct) (x := p_1) hx hb hK hP hD hS hO_0 m_24 rfl ((fun (a_0 : Int32) (a_1 : Int32) (a_2 : Int32) (k_0 : ¬ (a_0 < 0)) (k_1 : ¬ (39 < a_0)) (k_2 : ¬ (a_2 < 0)) (k_3 : a_2 ≤ a_1) (k_4 : ¬ (a_2 = 6)) (k_5 : ¬ (6 < a_1)) => (show vp_in (((6 * a_0) + a_2)) 240 from by have z0 : (0 : Int32).toInt = 0 := (by decide +kernel); have z1 : (6 : Int32).toInt = 6 := (by decide +kernel); have z2 : (39 : Int32).toInt = 39 := (by decide +kernel); have r0 := fb_rng (a_0); have r1 := fb_rng (a_1); have r2 := fb_rng (a_2); have e0 := k_0; rw [Int32.lt_iff_toInt_lt, z0] at e0; have e1 := k_1; rw [Int32.lt_iff_toInt_lt, z2] at e1; have e2 := k_2; rw [Int32.lt_iff_toInt_lt, z0] at e2; have e3 := k_3; rw [Int32.le_iff_toInt_le] at e3; have e4 := k_4; rw [← Int32.toInt_inj, z1] at e4; have e5 := k_5; rw [Int32.lt_iff_toInt_lt, z1] at e5; obtain ⟨n_0, hn_0, s0⟩ := nd_mul (x := (6 : Int32)) (y := (a_0)) (by (try rw [z1]); omega) (by (try rw [z1]); omega); rw [z1] at s0; obtain ⟨n_1, hn_1, s1⟩ := nd_add (x := n_0) (y := (a_2)) (by omega) (by omega); rw [hn_0, hn_1, vp_in_iff]; omega)) p_0 v4_18 x_20 c_2 c_3 b_20.1 c_21 c_23 iv1_18) (i32_full _) d_Md_absent_140 (fun f_1 H locs hP hD hS hO_1 hE_1 w_26 ow_26 hF_1 => ?_)
                        have hA_1 := hA_0.trans hE_1
                        refine lv_aload_n hx hb d_Md_absent_141 rfl (lv_at hl 0 rfl) ?_
                        refine tw_getr (D := (dC, dI)) (C := R_Md) (T := F_Md) (N := 64) (ci := 7) (kd := 27) (ct := ct) hx hb htb i_Md hown hK hP hO_1 (hA_1.m m0) rfl rfl 14 (by decide) (htb (.fieldLink R_Md 73 "WaterMenModel" "gapTo" "[I") tw_511) (fun _ h9 => h9) rfl d_Md_absent_142 (fun q_27 e_27 m_27 => ?_)
                        refine lv_bipush (v := 6) hx hb d_Md_absent_145 (by decide +kernel) ?_
                        refine lv_iload_n hx hb d_Md_absent_147 rfl (lv_at hl 1 rfl) ?_
                        refine lv_imul hx hb d_Md_absent_148 ?_
                        refine lv_aload_n hx hb d_Md_absent_149 rfl (lv_at hl 0 rfl) ?_
                        refine tw_getR (D := (dC, dI)) (C := R_Md) (T := F_Md) (N := 64) (ci := 7) (kd := 27) (ct := ct) hx hb htb i_Md hown hK hP (hA_1.m m0) rfl rfl 12 ((hA_1.er m0 rfl).trans e_19) (by decide) (htb (.fieldLink R_Md 67 "WaterMenModel" "gaps" "[I") tw_509) (fun _ h9 => h9) rfl d_Md_absent_150 ?_
                        refine hb_tv (.ref q_19) rfl ?_
                        refine lv_iload_n hx hb d_Md_absent_153 rfl (lv_at hl 1 rfl) ?_
                        refine tw_aldxI (ct := ct) (x := x_20) hx hb hK hP (hA_1.m m_19) rfl (hb_inl c_2 c_3 (by decide +kernel)) ((hA_1.ei m_19 rfl).trans e_20) d_Md_absent_154 ?_
                        refine lv_iadd hx hb d_Md_absent_155 ?_
                        refine lv_iload_n hx hb d_Md_absent_156 rfl (lv_at hl 3 rfl) ?_
                        refine tw_astI (ct := ct) (x := p_2) hx hb hK hP hD hS hO_1 m_27 rfl ((fun (a_0 : Int32) (a_1 : Int32) (a_2 : Int32) (k_0 : ¬ (a_0 < 0)) (k_1 : ¬ (39 < a_0)) (k_2 : ¬ (a_2 < 0)) (k_3 : a_2 ≤ a_1) (k_4 : ¬ (a_2 = 6)) (k_5 : ¬ (6 < a_1)) => (show vp_in (((6 * a_0) + a_2)) 240 from by have z0 : (0 : Int32).toInt = 0 := (by decide +kernel); have z1 : (6 : Int32).toInt = 6 := (by decide +kernel); have z2 : (39 : Int32).toInt = 39 := (by decide +kernel); have r0 := fb_rng (a_0); have r1 := fb_rng (a_1); have r2 := fb_rng (a_2); have e0 := k_0; rw [Int32.lt_iff_toInt_lt, z0] at e0; have e1 := k_1; rw [Int32.lt_iff_toInt_lt, z2] at e1; have e2 := k_2; rw [Int32.lt_iff_toInt_lt, z0] at e2; have e3 := k_3; rw [Int32.le_iff_toInt_le] at e3; have e4 := k_4; rw [← Int32.toInt_inj, z1] at e4; have e5 := k_5; rw [Int32.lt_iff_toInt_lt, z1] at e5; obtain ⟨n_0, hn_0, s0⟩ := nd_mul (x := (6 : Int32)) (y := (a_0)) (by (try rw [z1]); omega) (by (try rw [z1]); omega); rw [z1] at s0; obtain ⟨n_1, hn_1, s1⟩ := nd_add (x := n_0) (y := (a_2)) (by omega) (by omega); rw [hn_0, hn_1, vp_in_iff]; omega)) p_0 v4_18 x_20 c_2 c_3 b_20.1 c_21 c_23 iv1_18) (i32_full _) d_Md_absent_157 (fun f_2 H locs hP hD hS hO_2 hE_2 w_29 ow_29 hF_2 => ?_)
                        have hA_2 := hA_1.trans hE_2
                        refine lv_aload_n hx hb d_Md_absent_158 rfl (lv_at hl 0 rfl) ?_
                        refine tw_getR (D := (dC, dI)) (C := R_Md) (T := F_Md) (N := 64) (ci := 7) (kd := 27) (ct := ct) hx hb htb i_Md hown hK hP (hA_2.m m0) rfl rfl 12 ((hA_2.er m0 rfl).trans e_19) (by decide) (htb (.fieldLink R_Md 67 "WaterMenModel" "gaps" "[I") tw_509) (fun _ h9 => h9) rfl d_Md_absent_159 ?_
                        refine hb_tv (.ref q_19) rfl ?_
                        refine lv_iload_n hx hb d_Md_absent_162 rfl (lv_at hl 1 rfl) ?_
                        refine lv_dup2_11 hx hb d_Md_absent_163 rfl rfl ?_
                        refine tw_aldxI (ct := ct) (x := x_20) hx hb hK hP (hA_2.m m_19) rfl (hb_inl c_2 c_3 (by decide +kernel)) ((hA_2.ei m_19 rfl).trans e_20) d_Md_absent_164 ?_
                        refine lv_iconst (v := 1) hx hb d_Md_absent_165 (by decide +kernel) ?_
                        refine lv_iadd hx hb d_Md_absent_166 ?_
                        refine tw_astI (ct := ct) (x := (x_20 + 1)) hx hb hK hP hD hS hO_2 (hA_2.m m_19) rfl (hb_inl c_2 c_3 (by decide +kernel)) ⟨(show ¬ ((x_20 + 1) < 0) from by have e0 := b_20.1; rw [Int32.lt_iff_toInt_lt] at e0; have e1 := b_20.2; rw [Int32.lt_iff_toInt_lt] at e1; have e2 := c_23; rw [← Int32.toInt_inj] at e2; have z0 : (0 : Int32).toInt = 0 := (by decide +kernel); have z1 : (1 : Int32).toInt = 1 := (by decide +kernel); have z2 : (6 : Int32).toInt = 6 := (by decide +kernel); have ss := fb_addI (x := x_20) (y := 1) (by omega) (by omega); rw [Int32.lt_iff_toInt_lt]; omega), (show ¬ (6 < (x_20 + 1)) from by have e0 := b_20.1; rw [Int32.lt_iff_toInt_lt] at e0; have e1 := b_20.2; rw [Int32.lt_iff_toInt_lt] at e1; have e2 := c_23; rw [← Int32.toInt_inj] at e2; have z0 : (0 : Int32).toInt = 0 := (by decide +kernel); have z1 : (1 : Int32).toInt = 1 := (by decide +kernel); have z2 : (6 : Int32).toInt = 6 := (by decide +kernel); have ss := fb_addI (x := x_20) (y := 1) (by omega) (by omega); rw [Int32.lt_iff_toInt_lt]; omega)⟩ d_Md_absent_167 (fun f_3 H locs hP hD hS hO_3 hE_3 w_31 ow_31 hF_3 => ?_)
                        have hA_3 := hA_2.trans hE_3
                        refine lv_aload_n hx hb d_Md_absent_168 rfl (lv_at hl 0 rfl) ?_
                        refine tw_getR (D := (dC, dI)) (C := R_Md) (T := F_Md) (N := 64) (ci := 7) (kd := 27) (ct := ct) hx hb htb i_Md hown hK hP (hA_3.m m0) rfl rfl 12 ((hA_3.er m0 rfl).trans e_19) (by decide) (htb (.fieldLink R_Md 67 "WaterMenModel" "gaps" "[I") tw_509) (fun _ h9 => h9) rfl d_Md_absent_169 ?_
                        refine hb_tv (.ref q_19) rfl ?_
                        refine lv_iload_n hx hb d_Md_absent_172 rfl (lv_at hl 1 rfl) ?_
                        refine tw_aldxI (ct := ct) (x := (x_20 + 1)) hx hb hK hP (hA_3.m m_19) rfl (hb_inl c_2 c_3 (by decide +kernel)) w_31 d_Md_absent_173 ?_
                        refine W.widen (k := 0) (n := 0) (Nat.le_of_ble_eq_true rfl) (Nat.le_of_ble_eq_true rfl) ?_
                        exact W.iret (v := (x_20 + 1)) hx hb hr (fun t ht hW => ⟨⟨(x_20 + 1), (L, f_3), rfl, ⟨hO_3, hA_3.mono (by decide +kernel), trivial⟩, by rw [ht]; exact hP, va_K.moved hW.alike hK, by rw [hAe]; exact hD⟩, by rw [hAe]; exact hS.F ht⟩) (by rw [hAe]; exact hS.2.2) d_Md_absent_174
                      · refine lv_bipush (v := (-3)) hx hb d_Md_absent_121 (by decide +kernel) ?_
                        refine W.widen (k := 0) (n := 0) (Nat.le_of_ble_eq_true rfl) (Nat.le_of_ble_eq_true rfl) ?_
                        exact W.iret (v := (-3)) hx hb hr (fun t ht hW => ⟨⟨(-3), (L, f), rfl, ⟨hO_0, hA_0.mono (by decide +kernel), trivial⟩, by rw [ht]; exact hP, va_K.moved hW.alike hK, by rw [hAe]; exact hD⟩, by rw [hAe]; exact hS.F ht⟩) (by rw [hAe]; exact hS.2.2) d_Md_absent_123
                    · refine lv_iload_n hx hb d_Md_absent_65 rfl (lv_at hl 2 rfl) ?_
                      refine lv_aload_n hx hb d_Md_absent_66 rfl (lv_at hl 0 rfl) ?_
                      refine tw_getr (D := (dC, dI)) (C := R_Md) (T := F_Md) (N := 64) (ci := 7) (kd := 27) (ct := ct) hx hb htb i_Md hown hK hP hO_0 m0 rfl rfl 14 (by decide) (htb (.fieldLink R_Md 73 "WaterMenModel" "gapTo" "[I") tw_511) (fun _ h9 => h9) rfl d_Md_absent_67 (fun q_33 e_33 m_33 => ?_)
                      refine lv_bipush (v := 6) hx hb d_Md_absent_70 (by decide +kernel) ?_
                      refine lv_iload_n hx hb d_Md_absent_72 rfl (lv_at hl 1 rfl) ?_
                      refine lv_imul hx hb d_Md_absent_73 ?_
                      refine lv_iload hx hb d_Md_absent_74 (lv_at hl 4 rfl) ?_
                      refine lv_iadd hx hb d_Md_absent_76 ?_
                      refine tw_aldI (ct := ct) hx hb hK hP hO_0 m_33 rfl ((fun (a_0 : Int32) (a_1 : Int32) (a_2 : Int32) (k_0 : ¬ (a_0 < 0)) (k_1 : ¬ (39 < a_0)) (k_2 : ¬ (a_1 < 0)) (k_3 : ¬ (a_2 ≤ a_1)) (k_4 : ¬ (6 < a_2)) => (show vp_in (((6 * a_0) + a_1)) 240 from by have z0 : (0 : Int32).toInt = 0 := (by decide +kernel); have z1 : (6 : Int32).toInt = 6 := (by decide +kernel); have z2 : (39 : Int32).toInt = 39 := (by decide +kernel); have r0 := fb_rng (a_0); have r1 := fb_rng (a_1); have r2 := fb_rng (a_2); have e0 := k_0; rw [Int32.lt_iff_toInt_lt, z0] at e0; have e1 := k_1; rw [Int32.lt_iff_toInt_lt, z2] at e1; have e2 := k_2; rw [Int32.lt_iff_toInt_lt, z0] at e2; have e3 := k_3; rw [Int32.le_iff_toInt_le] at e3; have e4 := k_4; rw [Int32.lt_iff_toInt_lt, z1] at e4; obtain ⟨n_0, hn_0, s0⟩ := nd_mul (x := (6 : Int32)) (y := (a_0)) (by (try rw [z1]); omega) (by (try rw [z1]); omega); rw [z1] at s0; obtain ⟨n_1, hn_1, s1⟩ := nd_add (x := n_0) (y := (a_1)) (by omega) (by omega); rw [hn_0, hn_1, vp_in_iff]; omega)) p_0 v4_18 x_20 c_2 c_3 iv0_18 c_21 b_20.2) d_Md_absent_77 (fun x_34 e_34 b_34 => ?_)
                      refine lv_iconst (v := 1) hx hb d_Md_absent_78 (by decide +kernel) ?_
                      refine lv_iadd hx hb d_Md_absent_79 ?_
                      refine lv_icmp_gt (tgt := 104) hx hb d_Md_absent_80 (by decide) (fun c_35 => ?_) (fun c_35 => ?_)
                      · refine lv_iinc (v := (v4_18 + 1)) (lv' := [(4, .int (v4_18 + 1)), (0, .ref q0), (1, .int p_0), (2, .int p_1), (3, .int p_2)]) hx hb d_Md_absent_104 hl (k := 4) rfl rfl (by decide) rfl (fun ls hl => ?_)
                        refine lv_goto (tgt := 54) hx hb d_Md_absent_107 (by decide) ?_
                        exact ih_18 (n_18 - 1) (ms_1 ((fun (a_0 : Int32) (a_1 : Int32) (k_0 : ¬ (a_1 ≤ a_0)) (k_1 : ¬ (6 < a_1)) => (show 1 ≤ (6 : Int32).toInt - (a_0).toInt ∧ (6 : Int32).toInt - ((a_0) + (1 : Int32)).toInt + 1 ≤ (6 : Int32).toInt - (a_0).toInt from by have z0 : (1 : Int32).toInt = 1 := (by decide +kernel); have z1 : (6 : Int32).toInt = 6 := (by decide +kernel); have r0 := fb_rng (a_0); have r1 := fb_rng (a_1); have e0 := k_0; rw [Int32.le_iff_toInt_le] at e0; have e1 := k_1; rw [Int32.lt_iff_toInt_lt, z1] at e1; obtain ⟨n_0, hn_0, s0⟩ := nd_add (x := (a_0)) (y := (1 : Int32)) (by (try rw [z0]); omega) (by (try rw [z0]); omega); rw [z0] at s0; rw [hn_0]; (try rw [z1]); omega)) v4_18 x_20 c_21 b_20.2) hm_18) (v4_18 + 1) _ (show ¬ ((v4_18 + 1) < 0) from by have e0 := iv0_18; rw [Int32.lt_iff_toInt_lt] at e0; have e1 := iv1_18; rw [Int32.lt_iff_toInt_lt] at e1; have z0 : (0 : Int32).toInt = 0 := (by decide +kernel); have z1 : (1 : Int32).toInt = 1 := (by decide +kernel); have z2 : (6 : Int32).toInt = 6 := (by decide +kernel); have ss := fb_addI (x := v4_18) (y := 1) (by omega) (by omega); rw [Int32.lt_iff_toInt_lt]; omega) (show ¬ (6 < (v4_18 + 1)) from ((fun (a_0 : Int32) (a_1 : Int32) (k_0 : ¬ (a_1 ≤ a_0)) (k_1 : ¬ (6 < a_1)) => (show ¬ (6 < (a_0 + 1)) from by have z0 : (1 : Int32).toInt = 1 := (by decide +kernel); have z1 : (6 : Int32).toInt = 6 := (by decide +kernel); have r0 := fb_rng (a_0); have r1 := fb_rng (a_1); have e0 := k_0; rw [Int32.le_iff_toInt_le] at e0; have e1 := k_1; rw [Int32.lt_iff_toInt_lt, z1] at e1; obtain ⟨n_0, hn_0, s0⟩ := nd_add (x := (a_0)) (y := (1 : Int32)) (by (try rw [z0]); omega) (by (try rw [z0]); omega); rw [z0] at s0; rw [hn_0, Int32.lt_iff_toInt_lt, z1]; omega)) v4_18 x_20 c_21 b_20.2)) (by exact ms_2 ((fun (a_0 : Int32) (a_1 : Int32) (k_0 : ¬ (a_1 ≤ a_0)) (k_1 : ¬ (6 < a_1)) => (show 1 ≤ (6 : Int32).toInt - (a_0).toInt ∧ (6 : Int32).toInt - ((a_0) + (1 : Int32)).toInt + 1 ≤ (6 : Int32).toInt - (a_0).toInt from by have z0 : (1 : Int32).toInt = 1 := (by decide +kernel); have z1 : (6 : Int32).toInt = 6 := (by decide +kernel); have r0 := fb_rng (a_0); have r1 := fb_rng (a_1); have e0 := k_0; rw [Int32.le_iff_toInt_le] at e0; have e1 := k_1; rw [Int32.lt_iff_toInt_lt, z1] at e1; obtain ⟨n_0, hn_0, s0⟩ := nd_add (x := (a_0)) (y := (1 : Int32)) (by (try rw [z0]); omega) (by (try rw [z0]); omega); rw [z0] at s0; rw [hn_0]; (try rw [z1]); omega)) v4_18 x_20 c_21 b_20.2) hm_18) (lv_sub hl [1, 2, 3, 4, 0] rfl)
                      · refine lv_iload_n hx hb d_Md_absent_83 rfl (lv_at hl 3 rfl) ?_
                        refine lv_aload_n hx hb d_Md_absent_84 rfl (lv_at hl 0 rfl) ?_
                        refine tw_getr (D := (dC, dI)) (C := R_Md) (T := F_Md) (N := 64) (ci := 7) (kd := 27) (ct := ct) hx hb htb i_Md hown hK hP hO_0 m0 rfl rfl 13 (by decide) (htb (.fieldLink R_Md 70 "WaterMenModel" "gapFrom" "[I") tw_510) (fun _ h9 => h9) rfl d_Md_absent_85 (fun q_36 e_36 m_36 => ?_)
                        refine lv_bipush (v := 6) hx hb d_Md_absent_88 (by decide +kernel) ?_
                        refine lv_iload_n hx hb d_Md_absent_90 rfl (lv_at hl 1 rfl) ?_
                        refine lv_imul hx hb d_Md_absent_91 ?_
                        refine lv_iload hx hb d_Md_absent_92 (lv_at hl 4 rfl) ?_
                        refine lv_iadd hx hb d_Md_absent_94 ?_
                        refine tw_aldI (ct := ct) hx hb hK hP hO_0 m_36 rfl ((fun (a_0 : Int32) (a_1 : Int32) (a_2 : Int32) (k_0 : ¬ (a_0 < 0)) (k_1 : ¬ (39 < a_0)) (k_2 : ¬ (a_1 < 0)) (k_3 : ¬ (a_2 ≤ a_1)) (k_4 : ¬ (6 < a_2)) => (show vp_in (((6 * a_0) + a_1)) 240 from by have z0 : (0 : Int32).toInt = 0 := (by decide +kernel); have z1 : (6 : Int32).toInt = 6 := (by decide +kernel); have z2 : (39 : Int32).toInt = 39 := (by decide +kernel); have r0 := fb_rng (a_0); have r1 := fb_rng (a_1); have r2 := fb_rng (a_2); have e0 := k_0; rw [Int32.lt_iff_toInt_lt, z0] at e0; have e1 := k_1; rw [Int32.lt_iff_toInt_lt, z2] at e1; have e2 := k_2; rw [Int32.lt_iff_toInt_lt, z0] at e2; have e3 := k_3; rw [Int32.le_iff_toInt_le] at e3; have e4 := k_4; rw [Int32.lt_iff_toInt_lt, z1] at e4; obtain ⟨n_0, hn_0, s0⟩ := nd_mul (x := (6 : Int32)) (y := (a_0)) (by (try rw [z1]); omega) (by (try rw [z1]); omega); rw [z1] at s0; obtain ⟨n_1, hn_1, s1⟩ := nd_add (x := n_0) (y := (a_1)) (by omega) (by omega); rw [hn_0, hn_1, vp_in_iff]; omega)) p_0 v4_18 x_20 c_2 c_3 iv0_18 c_21 b_20.2) d_Md_absent_95 (fun x_37 e_37 b_37 => ?_)
                        refine lv_iconst (v := 1) hx hb d_Md_absent_96 (by decide +kernel) ?_
                        refine lv_isub hx hb d_Md_absent_97 ?_
                        refine lv_icmp_lt (tgt := 104) hx hb d_Md_absent_98 (by decide) (fun c_38 => ?_) (fun c_38 => ?_)
                        · refine lv_iinc (v := (v4_18 + 1)) (lv' := [(4, .int (v4_18 + 1)), (0, .ref q0), (1, .int p_0), (2, .int p_1), (3, .int p_2)]) hx hb d_Md_absent_104 hl (k := 4) rfl rfl (by decide) rfl (fun ls hl => ?_)
                          refine lv_goto (tgt := 54) hx hb d_Md_absent_107 (by decide) ?_
                          exact ih_18 (n_18 - 1) (ms_1 ((fun (a_0 : Int32) (a_1 : Int32) (k_0 : ¬ (a_1 ≤ a_0)) (k_1 : ¬ (6 < a_1)) => (show 1 ≤ (6 : Int32).toInt - (a_0).toInt ∧ (6 : Int32).toInt - ((a_0) + (1 : Int32)).toInt + 1 ≤ (6 : Int32).toInt - (a_0).toInt from by have z0 : (1 : Int32).toInt = 1 := (by decide +kernel); have z1 : (6 : Int32).toInt = 6 := (by decide +kernel); have r0 := fb_rng (a_0); have r1 := fb_rng (a_1); have e0 := k_0; rw [Int32.le_iff_toInt_le] at e0; have e1 := k_1; rw [Int32.lt_iff_toInt_lt, z1] at e1; obtain ⟨n_0, hn_0, s0⟩ := nd_add (x := (a_0)) (y := (1 : Int32)) (by (try rw [z0]); omega) (by (try rw [z0]); omega); rw [z0] at s0; rw [hn_0]; (try rw [z1]); omega)) v4_18 x_20 c_21 b_20.2) hm_18) (v4_18 + 1) _ (show ¬ ((v4_18 + 1) < 0) from by have e0 := iv0_18; rw [Int32.lt_iff_toInt_lt] at e0; have e1 := iv1_18; rw [Int32.lt_iff_toInt_lt] at e1; have z0 : (0 : Int32).toInt = 0 := (by decide +kernel); have z1 : (1 : Int32).toInt = 1 := (by decide +kernel); have z2 : (6 : Int32).toInt = 6 := (by decide +kernel); have ss := fb_addI (x := v4_18) (y := 1) (by omega) (by omega); rw [Int32.lt_iff_toInt_lt]; omega) (show ¬ (6 < (v4_18 + 1)) from ((fun (a_0 : Int32) (a_1 : Int32) (k_0 : ¬ (a_1 ≤ a_0)) (k_1 : ¬ (6 < a_1)) => (show ¬ (6 < (a_0 + 1)) from by have z0 : (1 : Int32).toInt = 1 := (by decide +kernel); have z1 : (6 : Int32).toInt = 6 := (by decide +kernel); have r0 := fb_rng (a_0); have r1 := fb_rng (a_1); have e0 := k_0; rw [Int32.le_iff_toInt_le] at e0; have e1 := k_1; rw [Int32.lt_iff_toInt_lt, z1] at e1; obtain ⟨n_0, hn_0, s0⟩ := nd_add (x := (a_0)) (y := (1 : Int32)) (by (try rw [z0]); omega) (by (try rw [z0]); omega); rw [z0] at s0; rw [hn_0, Int32.lt_iff_toInt_lt, z1]; omega)) v4_18 x_20 c_21 b_20.2)) (by exact ms_2 ((fun (a_0 : Int32) (a_1 : Int32) (k_0 : ¬ (a_1 ≤ a_0)) (k_1 : ¬ (6 < a_1)) => (show 1 ≤ (6 : Int32).toInt - (a_0).toInt ∧ (6 : Int32).toInt - ((a_0) + (1 : Int32)).toInt + 1 ≤ (6 : Int32).toInt - (a_0).toInt from by have z0 : (1 : Int32).toInt = 1 := (by decide +kernel); have z1 : (6 : Int32).toInt = 6 := (by decide +kernel); have r0 := fb_rng (a_0); have r1 := fb_rng (a_1); have e0 := k_0; rw [Int32.le_iff_toInt_le] at e0; have e1 := k_1; rw [Int32.lt_iff_toInt_lt, z1] at e1; obtain ⟨n_0, hn_0, s0⟩ := nd_add (x := (a_0)) (y := (1 : Int32)) (by (try rw [z0]); omega) (by (try rw [z0]); omega); rw [z0] at s0; rw [hn_0]; (try rw [z1]); omega)) v4_18 x_20 c_21 b_20.2) hm_18) (lv_sub hl [1, 2, 3, 4, 0] rfl)
                        · refine lv_bipush (v := (-2)) hx hb d_Md_absent_101 (by decide +kernel) ?_
                          refine W.widen (k := 0) (n := 0) (Nat.le_of_ble_eq_true rfl) (Nat.le_of_ble_eq_true rfl) ?_
                          exact W.iret (v := (-2)) hx hb hr (fun t ht hW => ⟨⟨(-2), (L, f), rfl, ⟨hO_0, hA_0.mono (by decide +kernel), trivial⟩, by rw [ht]; exact hP, va_K.moved hW.alike hK, by rw [hAe]; exact hD⟩, by rw [hAe]; exact hS.F ht⟩) (by rw [hAe]; exact hS.2.2) d_Md_absent_103
                exact cut_18 4294967296 (0 : Int32) _ (by decide +kernel) (by decide +kernel) (by exact ms_0 _ _) (lv_sub hl [1, 2, 3, 4, 0] rfl)
              · refine lv_iconst (v := (-1)) hx hb d_Md_absent_49 (by decide +kernel) ?_
                refine W.widen (k := 0) (n := 0) (Nat.le_of_ble_eq_true rfl) (Nat.le_of_ble_eq_true rfl) ?_
                exact W.iret (v := (-1)) hx hb hr (fun t ht hW => ⟨⟨(-1), (L, f), rfl, ⟨hO_0, hA_0.mono (by decide +kernel), trivial⟩, by rw [ht]; exact hP, va_K.moved hW.alike hK, by rw [hAe]; exact hD⟩, by rw [hAe]; exact hS.F ht⟩) (by rw [hAe]; exact hS.2.2) d_Md_absent_50
            · refine lv_bipush (v := (-2)) hx hb d_Md_absent_36 (by decide +kernel) ?_
              refine W.widen (k := 0) (n := 0) (Nat.le_of_ble_eq_true rfl) (Nat.le_of_ble_eq_true rfl) ?_
              exact W.iret (v := (-2)) hx hb hr (fun t ht hW => ⟨⟨(-2), (L, f), rfl, ⟨hO_0, hA_0.mono (by decide +kernel), trivial⟩, by rw [ht]; exact hP, va_K.moved hW.alike hK, by rw [hAe]; exact hD⟩, by rw [hAe]; exact hS.F ht⟩) (by rw [hAe]; exact hS.2.2) d_Md_absent_38
          · refine lv_iconst (v := (-1)) hx hb d_Md_absent_24 (by decide +kernel) ?_
            refine W.widen (k := 0) (n := 0) (Nat.le_of_ble_eq_true rfl) (Nat.le_of_ble_eq_true rfl) ?_
            exact W.iret (v := (-1)) hx hb hr (fun t ht hW => ⟨⟨(-1), (L, f), rfl, ⟨hO_0, hA_0.mono (by decide +kernel), trivial⟩, by rw [ht]; exact hP, va_K.moved hW.alike hK, by rw [hAe]; exact hD⟩, by rw [hAe]; exact hS.F ht⟩) (by rw [hAe]; exact hS.2.2) d_Md_absent_25
set_option maxHeartbeats 4000000 in
set_option maxRecDepth 100000 in
theorem c_Md_servedOf_t (l : Launch) (dC : Nat → ClassId) (dI : Nat → Nat → Nat) (ct : Nat → ClassId) (L : List Nat) (f : TF) (hO_0 : Ok L f) (q0 : Nat) (m0 : q0 ∈ L ∧ tk f q0 = 27) (p_0 : Int32)  (as_0 : ¬ (p_0 < 0)) (as_1 : ¬ (39 < p_0)) : Met l y_Md_servedOf (.code y_Md_servedOf b_Md_servedOf 5 (some .int) :: TB) ({ frames := 1, cells := 0, slots := 0, locals := 20 }) (va_Pc [.ref q0, .int p_0] (PR dC dI (TW ct L f) (TT ct))) (vp_Si (fun r => True)) 0 0 (fun _ => False) := by
  refine Met.ofW (cc := b_Md_servedOf) (maxL := 5) (ret := (some .int)) (by decide) rfl ?_
  intro p e s m args below meth c s₁ B hml hv
  obtain ⟨rfl, hP, hK, hN⟩ := hv
  have hx := B.exec
  have hb := B.bytes
  have hr := B.returns
  have hts := atoms_spec (ws := (.code y_Md_servedOf b_Md_servedOf 5 (some .int) :: TB)) B.pre
  have htb := fun w (h : w ∈ TB) => hts w (List.mem_cons_of_mem _ h)
  have hown : s.vm.findClass R_Md = some m.cls := findClass_of_methodNamed B.named
  have hlocks := B.notSynchronized
  have hl := lv_entry ([.ref q0, .int p_0]) (n := 5) (Nat.le_of_ble_eq_true rfl)
  rw [lg_entry_eq]
  generalize (lg_sl ([.ref q0, .int p_0]) ++ List.replicate (5 - (lg_sl ([.ref q0, .int p_0])).length) Slot.unset).toArray = ls at hl ⊢
  have hl : lv_has ls 5 [(0, .ref q0), (1, .int p_0)] := hl
  refine lv_aload_n hx hb d_Md_servedOf_0 rfl (lv_at hl 0 rfl) ?_
  refine vp_callSi (va_Run.run (va_runV (As := []) (rest := []) ⟨hx, hb, hml, hown, htb⟩ (c_Md_today_t l dC dI ct L f hO_0 q0 m0) (cwV 0 htb (gd_V tw_499 tw_500 tw_501 tw_479 tw_498) rfl rfl rfl (by decide +kernel) ⟨Nat.le_of_ble_eq_true rfl, Nat.le_of_ble_eq_true rfl⟩) ⟨pr_blind, tw_recv hK hP m0 rfl rfl, pr_pre hP hK hN⟩ rfl rfl hl.1 rfl (lv_room (Nat.le_of_ble_eq_true rfl)) d_Md_servedOf_1 ⟨Nat.le_of_ble_eq_true rfl, Nat.le_of_ble_eq_true rfl⟩)) (fun r_1 er_1 => ?_)
  obtain ⟨po_2, po_3, po_4, po_5, -⟩ := er_1
  refine lv_aload_n hx hb d_Md_servedOf_4 rfl (lv_at hl 0 rfl) ?_
  refine tw_getr (D := (dC, dI)) (C := R_Md) (T := F_Md) (N := 64) (ci := 7) (kd := 27) (ct := ct) hx hb htb i_Md hown hK hP hO_0 m0 rfl rfl 11 (by decide) (htb (.fieldLink R_Md 64 "WaterMenModel" "boundOn" "[I") tw_508) (fun _ h9 => h9) rfl d_Md_servedOf_5 (fun q_6 e_6 m_6 => ?_)
  refine lv_iload_n hx hb d_Md_servedOf_8 rfl (lv_at hl 1 rfl) ?_
  refine tw_aldI (ct := ct) hx hb hK hP hO_0 m_6 rfl (hb_inl as_0 as_1 (by decide +kernel)) d_Md_servedOf_9 (fun x_7 e_7 b_7 => ?_)
  refine lv_isub hx hb d_Md_servedOf_10 ?_
  refine lv_istore_n (lv' := [(2, .int (r_1 - x_7)), (0, .ref q0), (1, .int p_0)]) hx hb d_Md_servedOf_11 rfl hl (by decide) rfl (fun ls hl => ?_)
  refine lv_iconst (v := 0) hx hb d_Md_servedOf_12 (by decide +kernel) ?_
  refine lv_istore_n (lv' := [(3, .int 0), (2, .int (r_1 - x_7)), (0, .ref q0), (1, .int p_0)]) hx hb d_Md_servedOf_13 rfl hl (by decide) rfl (fun ls hl => ?_)
  have cut_8 : ∀ (n_8 : Nat) (v2_8 v3_8 : Int32) (ls : Array Slot), ¬ (v3_8 < 0) → ¬ (6 < v3_8) → (6 : Int32).toInt - (v3_8 : Int32).toInt ≤ (n_8 : Int) → lv_has ls 5 [(0, .ref q0), (1, .int p_0), (2, .int v2_8), (3, .int v3_8)] → W p l e (headSpec (.code y_Md_servedOf b_Md_servedOf 5 (some .int) :: TB) ({ frames := 1, cells := 0, slots := 0, locals := 20 })).room s m [.ref q0, .int p_0].toArray below meth c s.heap [] 0 0 (MQ below (vp_Si (fun r => True)) [.ref q0, .int p_0].toArray s 0 0 (fun _ => False)) (F0 m 14 ls []) := by
    intro n_8
    induction n_8 using Nat.strongRecOn with
    | _ n_8 ih_8 =>
      intro v2_8 v3_8 ls iv0_8 iv1_8 hm_8 hl
      refine lv_iload_n hx hb d_Md_servedOf_14 rfl (lv_at hl 3 rfl) ?_
      refine lv_aload_n hx hb d_Md_servedOf_15 rfl (lv_at hl 0 rfl) ?_
      refine tw_getr (D := (dC, dI)) (C := R_Md) (T := F_Md) (N := 64) (ci := 7) (kd := 27) (ct := ct) hx hb htb i_Md hown hK hP hO_0 m0 rfl rfl 12 (by decide) (htb (.fieldLink R_Md 67 "WaterMenModel" "gaps" "[I") tw_509) (fun _ h9 => h9) rfl d_Md_servedOf_16 (fun q_9 e_9 m_9 => ?_)
      refine lv_iload_n hx hb d_Md_servedOf_19 rfl (lv_at hl 1 rfl) ?_
      refine tw_aldI (ct := ct) hx hb hK hP hO_0 m_9 rfl (hb_inl as_0 as_1 (by decide +kernel)) d_Md_servedOf_20 (fun x_10 e_10 b_10 => ?_)
      refine lv_icmp_ge (tgt := 89) hx hb d_Md_servedOf_21 (by decide) (fun c_11 => ?_) (fun c_11 => ?_)
      · refine lv_iload_n hx hb d_Md_servedOf_89 rfl (lv_at hl 2 rfl) ?_
        exact W.iret (v := v2_8) hx hb hr (fun t ht hW => ⟨v2_8, rfl, trivial, ht⟩) t_nil d_Md_servedOf_90
      · refine lv_aload_n hx hb d_Md_servedOf_24 rfl (lv_at hl 0 rfl) ?_
        refine tw_getr (D := (dC, dI)) (C := R_Md) (T := F_Md) (N := 64) (ci := 7) (kd := 27) (ct := ct) hx hb htb i_Md hown hK hP hO_0 m0 rfl rfl 14 (by decide) (htb (.fieldLink R_Md 73 "WaterMenModel" "gapTo" "[I") tw_511) (fun _ h9 => h9) rfl d_Md_servedOf_25 (fun q_12 e_12 m_12 => ?_)
        refine lv_bipush (v := 6) hx hb d_Md_servedOf_28 (by decide +kernel) ?_
        refine lv_iload_n hx hb d_Md_servedOf_30 rfl (lv_at hl 1 rfl) ?_
        refine lv_imul hx hb d_Md_servedOf_31 ?_
        refine lv_iload_n hx hb d_Md_servedOf_32 rfl (lv_at hl 3 rfl) ?_
        refine lv_iadd hx hb d_Md_servedOf_33 ?_
        refine tw_aldI (ct := ct) hx hb hK hP hO_0 m_12 rfl ((fun (a_0 : Int32) (a_1 : Int32) (a_2 : Int32) (k_0 : ¬ (a_0 < 0)) (k_1 : ¬ (39 < a_0)) (k_2 : ¬ (a_1 < 0)) (k_3 : ¬ (a_2 ≤ a_1)) (k_4 : ¬ (6 < a_2)) => (show vp_in (((6 * a_0) + a_1)) 240 from by have z0 : (0 : Int32).toInt = 0 := (by decide +kernel); have z1 : (6 : Int32).toInt = 6 := (by decide +kernel); have z2 : (39 : Int32).toInt = 39 := (by decide +kernel); have r0 := fb_rng (a_0); have r1 := fb_rng (a_1); have r2 := fb_rng (a_2); have e0 := k_0; rw [Int32.lt_iff_toInt_lt, z0] at e0; have e1 := k_1; rw [Int32.lt_iff_toInt_lt, z2] at e1; have e2 := k_2; rw [Int32.lt_iff_toInt_lt, z0] at e2; have e3 := k_3; rw [Int32.le_iff_toInt_le] at e3; have e4 := k_4; rw [Int32.lt_iff_toInt_lt, z1] at e4; obtain ⟨n_0, hn_0, s0⟩ := nd_mul (x := (6 : Int32)) (y := (a_0)) (by (try rw [z1]); omega) (by (try rw [z1]); omega); rw [z1] at s0; obtain ⟨n_1, hn_1, s1⟩ := nd_add (x := n_0) (y := (a_1)) (by omega) (by omega); rw [hn_0, hn_1, vp_in_iff]; omega)) p_0 v3_8 x_10 as_0 as_1 iv0_8 c_11 b_10.2) d_Md_servedOf_34 (fun x_13 e_13 b_13 => ?_)
        refine lv_aload_n hx hb d_Md_servedOf_35 rfl (lv_at hl 0 rfl) ?_
        refine vp_callSi (va_Run.run (va_runV (As := []) (rest := [.int x_13]) ⟨hx, hb, hml, hown, htb⟩ (c_Md_today_t l dC dI ct L f hO_0 q0 m0) (cwV 0 htb (gd_V tw_499 tw_500 tw_501 tw_479 tw_498) rfl rfl rfl (by decide +kernel) ⟨Nat.le_of_ble_eq_true rfl, Nat.le_of_ble_eq_true rfl⟩) ⟨pr_blind, tw_recv hK hP m0 rfl rfl, pr_pre hP hK hN⟩ rfl rfl hl.1 rfl (lv_room (Nat.le_of_ble_eq_true rfl)) d_Md_servedOf_36 ⟨Nat.le_of_ble_eq_true rfl, Nat.le_of_ble_eq_true rfl⟩)) (fun r_14 er_14 => ?_)
        obtain ⟨po_15, po_16, po_17, po_18, -⟩ := er_14
        refine lv_icmp_ge (tgt := 56) hx hb d_Md_servedOf_39 (by decide) (fun c_19 => ?_) (fun c_19 => ?_)
        · refine lv_aload_n hx hb d_Md_servedOf_56 rfl (lv_at hl 0 rfl) ?_
          refine vp_callSi (va_Run.run (va_runV (As := []) (rest := []) ⟨hx, hb, hml, hown, htb⟩ (c_Md_today_t l dC dI ct L f hO_0 q0 m0) (cwV 0 htb (gd_V tw_499 tw_500 tw_501 tw_479 tw_498) rfl rfl rfl (by decide +kernel) ⟨Nat.le_of_ble_eq_true rfl, Nat.le_of_ble_eq_true rfl⟩) ⟨pr_blind, tw_recv hK hP m0 rfl rfl, pr_pre hP hK hN⟩ rfl rfl hl.1 rfl (lv_room (Nat.le_of_ble_eq_true rfl)) d_Md_servedOf_57 ⟨Nat.le_of_ble_eq_true rfl, Nat.le_of_ble_eq_true rfl⟩)) (fun r_20 er_20 => ?_)
          obtain ⟨po_21, po_22, po_23, po_24, -⟩ := er_20
          refine lv_iconst (v := 1) hx hb d_Md_servedOf_60 (by decide +kernel) ?_
          refine lv_isub hx hb d_Md_servedOf_61 ?_
          refine lv_istore (lv' := [(4, .int (r_20 - 1)), (0, .ref q0), (1, .int p_0), (2, .int v2_8), (3, .int v3_8)]) hx hb d_Md_servedOf_62 hl (by decide) rfl (fun ls hl => ?_)
          refine lv_iload_n hx hb d_Md_servedOf_64 rfl (lv_at hl 3 rfl) ?_
          refine lv_iload hx hb d_Md_servedOf_65 (lv_at hl 0 rfl) ?_
          refine lv_aload_n hx hb d_Md_servedOf_67 rfl (lv_at hl 1 rfl) ?_
          refine tw_getr (D := (dC, dI)) (C := R_Md) (T := F_Md) (N := 64) (ci := 7) (kd := 27) (ct := ct) hx hb htb i_Md hown hK hP hO_0 m0 rfl rfl 13 (by decide) (htb (.fieldLink R_Md 70 "WaterMenModel" "gapFrom" "[I") tw_510) (fun _ h9 => h9) rfl d_Md_servedOf_68 (fun q_25 e_25 m_25 => ?_)
          refine lv_bipush (v := 6) hx hb d_Md_servedOf_71 (by decide +kernel) ?_
          refine lv_iload_n hx hb d_Md_servedOf_73 rfl (lv_at hl 2 rfl) ?_
          refine lv_imul hx hb d_Md_servedOf_74 ?_
          refine lv_iload_n hx hb d_Md_servedOf_75 rfl (lv_at hl 4 rfl) ?_
          refine lv_iadd hx hb d_Md_servedOf_76 ?_
          refine tw_aldI (ct := ct) hx hb hK hP hO_0 m_25 rfl ((fun (a_0 : Int32) (a_1 : Int32) (a_2 : Int32) (k_0 : ¬ (a_0 < 0)) (k_1 : ¬ (39 < a_0)) (k_2 : ¬ (a_1 < 0)) (k_3 : ¬ (a_2 ≤ a_1)) (k_4 : ¬ (6 < a_2)) => (show vp_in (((6 * a_0) + a_1)) 240 from by have z0 : (0 : Int32).toInt = 0 := (by decide +kernel); have z1 : (6 : Int32).toInt = 6 := (by decide +kernel); have z2 : (39 : Int32).toInt = 39 := (by decide +kernel); have r0 := fb_rng (a_0); have r1 := fb_rng (a_1); have r2 := fb_rng (a_2); have e0 := k_0; rw [Int32.lt_iff_toInt_lt, z0] at e0; have e1 := k_1; rw [Int32.lt_iff_toInt_lt, z2] at e1; have e2 := k_2; rw [Int32.lt_iff_toInt_lt, z0] at e2; have e3 := k_3; rw [Int32.le_iff_toInt_le] at e3; have e4 := k_4; rw [Int32.lt_iff_toInt_lt, z1] at e4; obtain ⟨n_0, hn_0, s0⟩ := nd_mul (x := (6 : Int32)) (y := (a_0)) (by (try rw [z1]); omega) (by (try rw [z1]); omega); rw [z1] at s0; obtain ⟨n_1, hn_1, s1⟩ := nd_add (x := n_0) (y := (a_1)) (by omega) (by omega); rw [hn_0, hn_1, vp_in_iff]; omega)) p_0 v3_8 x_10 as_0 as_1 iv0_8 c_11 b_10.2) d_Md_servedOf_77 (fun x_26 e_26 b_26 => ?_)
          refine lv_isub hx hb d_Md_servedOf_78 ?_
          refine lv_iconst (v := 1) hx hb d_Md_servedOf_79 (by decide +kernel) ?_
          refine lv_iadd hx hb d_Md_servedOf_80 ?_
          refine lv_isub hx hb d_Md_servedOf_81 ?_
          refine lv_istore_n (lv' := [(2, .int (v2_8 - (((r_20 - 1) - x_26) + 1))), (4, .int (r_20 - 1)), (0, .ref q0), (1, .int p_0), (3, .int v3_8)]) hx hb d_Md_servedOf_82 rfl hl (by decide) rfl (fun ls hl => ?_)
          refine lv_iinc (v := (v3_8 + 1)) (lv' := [(3, .int (v3_8 + 1)), (2, .int (v2_8 - (((r_20 - 1) - x_26) + 1))), (4, .int (r_20 - 1)), (0, .ref q0), (1, .int p_0)]) hx hb d_Md_servedOf_83 hl (k := 4) rfl rfl (by decide) rfl (fun ls hl => ?_)
          refine lv_goto (tgt := 14) hx hb d_Md_servedOf_86 (by decide) ?_
          exact ih_8 (n_8 - 1) (ms_1 ((fun (a_0 : Int32) (a_1 : Int32) (k_0 : ¬ (a_1 ≤ a_0)) (k_1 : ¬ (6 < a_1)) => (show 1 ≤ (6 : Int32).toInt - (a_0).toInt ∧ (6 : Int32).toInt - ((a_0) + (1 : Int32)).toInt + 1 ≤ (6 : Int32).toInt - (a_0).toInt from by have z0 : (1 : Int32).toInt = 1 := (by decide +kernel); have z1 : (6 : Int32).toInt = 6 := (by decide +kernel); have r0 := fb_rng (a_0); have r1 := fb_rng (a_1); have e0 := k_0; rw [Int32.le_iff_toInt_le] at e0; have e1 := k_1; rw [Int32.lt_iff_toInt_lt, z1] at e1; obtain ⟨n_0, hn_0, s0⟩ := nd_add (x := (a_0)) (y := (1 : Int32)) (by (try rw [z0]); omega) (by (try rw [z0]); omega); rw [z0] at s0; rw [hn_0]; (try rw [z1]); omega)) v3_8 x_10 c_11 b_10.2) hm_8) (v2_8 - (((r_20 - 1) - x_26) + 1)) (v3_8 + 1) _ (show ¬ ((v3_8 + 1) < 0) from by have e0 := iv0_8; rw [Int32.lt_iff_toInt_lt] at e0; have e1 := iv1_8; rw [Int32.lt_iff_toInt_lt] at e1; have z0 : (0 : Int32).toInt = 0 := (by decide +kernel); have z1 : (1 : Int32).toInt = 1 := (by decide +kernel); have z2 : (6 : Int32).toInt = 6 := (by decide +kernel); have ss := fb_addI (x := v3_8) (y := 1) (by omega) (by omega); rw [Int32.lt_iff_toInt_lt]; omega) (show ¬ (6 < (v3_8 + 1)) from ((fun (a_0 : Int32) (a_1 : Int32) (k_0 : ¬ (a_1 ≤ a_0)) (k_1 : ¬ (6 < a_1)) => (show ¬ (6 < (a_0 + 1)) from by have z0 : (1 : Int32).toInt = 1 := (by decide +kernel); have z1 : (6 : Int32).toInt = 6 := (by decide +kernel); have r0 := fb_rng (a_0); have r1 := fb_rng (a_1); have e0 := k_0; rw [Int32.le_iff_toInt_le] at e0; have e1 := k_1; rw [Int32.lt_iff_toInt_lt, z1] at e1; obtain ⟨n_0, hn_0, s0⟩ := nd_add (x := (a_0)) (y := (1 : Int32)) (by (try rw [z0]); omega) (by (try rw [z0]); omega); rw [z0] at s0; rw [hn_0, Int32.lt_iff_toInt_lt, z1]; omega)) v3_8 x_10 c_11 b_10.2)) (by exact ms_2 ((fun (a_0 : Int32) (a_1 : Int32) (k_0 : ¬ (a_1 ≤ a_0)) (k_1 : ¬ (6 < a_1)) => (show 1 ≤ (6 : Int32).toInt - (a_0).toInt ∧ (6 : Int32).toInt - ((a_0) + (1 : Int32)).toInt + 1 ≤ (6 : Int32).toInt - (a_0).toInt from by have z0 : (1 : Int32).toInt = 1 := (by decide +kernel); have z1 : (6 : Int32).toInt = 6 := (by decide +kernel); have r0 := fb_rng (a_0); have r1 := fb_rng (a_1); have e0 := k_0; rw [Int32.le_iff_toInt_le] at e0; have e1 := k_1; rw [Int32.lt_iff_toInt_lt, z1] at e1; obtain ⟨n_0, hn_0, s0⟩ := nd_add (x := (a_0)) (y := (1 : Int32)) (by (try rw [z0]); omega) (by (try rw [z0]); omega); rw [z0] at s0; rw [hn_0]; (try rw [z1]); omega)) v3_8 x_10 c_11 b_10.2) hm_8) (lv_sub hl [3, 4, 1, 0] rfl)
        · refine lv_aload_n hx hb d_Md_servedOf_42 rfl (lv_at hl 0 rfl) ?_
          refine tw_getR (D := (dC, dI)) (C := R_Md) (T := F_Md) (N := 64) (ci := 7) (kd := 27) (ct := ct) hx hb htb i_Md hown hK hP m0 rfl rfl 14 e_12 (by decide) (htb (.fieldLink R_Md 73 "WaterMenModel" "gapTo" "[I") tw_511) (fun _ h9 => h9) rfl d_Md_servedOf_43 ?_
          refine hb_tv (.ref q_12) rfl ?_
          refine lv_bipush (v := 6) hx hb d_Md_servedOf_46 (by decide +kernel) ?_
          refine lv_iload_n hx hb d_Md_servedOf_48 rfl (lv_at hl 1 rfl) ?_
          refine lv_imul hx hb d_Md_servedOf_49 ?_
          refine lv_iload_n hx hb d_Md_servedOf_50 rfl (lv_at hl 3 rfl) ?_
          refine lv_iadd hx hb d_Md_servedOf_51 ?_
          refine tw_aldxI (ct := ct) (x := x_13) hx hb hK hP m_12 rfl ((fun (a_0 : Int32) (a_1 : Int32) (a_2 : Int32) (k_0 : ¬ (a_0 < 0)) (k_1 : ¬ (39 < a_0)) (k_2 : ¬ (a_1 < 0)) (k_3 : ¬ (a_2 ≤ a_1)) (k_4 : ¬ (6 < a_2)) => (show vp_in (((6 * a_0) + a_1)) 240 from by have z0 : (0 : Int32).toInt = 0 := (by decide +kernel); have z1 : (6 : Int32).toInt = 6 := (by decide +kernel); have z2 : (39 : Int32).toInt = 39 := (by decide +kernel); have r0 := fb_rng (a_0); have r1 := fb_rng (a_1); have r2 := fb_rng (a_2); have e0 := k_0; rw [Int32.lt_iff_toInt_lt, z0] at e0; have e1 := k_1; rw [Int32.lt_iff_toInt_lt, z2] at e1; have e2 := k_2; rw [Int32.lt_iff_toInt_lt, z0] at e2; have e3 := k_3; rw [Int32.le_iff_toInt_le] at e3; have e4 := k_4; rw [Int32.lt_iff_toInt_lt, z1] at e4; obtain ⟨n_0, hn_0, s0⟩ := nd_mul (x := (6 : Int32)) (y := (a_0)) (by (try rw [z1]); omega) (by (try rw [z1]); omega); rw [z1] at s0; obtain ⟨n_1, hn_1, s1⟩ := nd_add (x := n_0) (y := (a_1)) (by omega) (by omega); rw [hn_0, hn_1, vp_in_iff]; omega)) p_0 v3_8 x_10 as_0 as_1 iv0_8 c_11 b_10.2) e_13 d_Md_servedOf_52 ?_
          refine lv_goto (tgt := 62) hx hb d_Md_servedOf_53 (by decide) ?_
          refine lv_istore (lv' := [(4, .int x_13), (0, .ref q0), (1, .int p_0), (2, .int v2_8), (3, .int v3_8)]) hx hb d_Md_servedOf_62 hl (by decide) rfl (fun ls hl => ?_)
          refine lv_iload_n hx hb d_Md_servedOf_64 rfl (lv_at hl 3 rfl) ?_
          refine lv_iload hx hb d_Md_servedOf_65 (lv_at hl 0 rfl) ?_
          refine lv_aload_n hx hb d_Md_servedOf_67 rfl (lv_at hl 1 rfl) ?_
          refine tw_getr (D := (dC, dI)) (C := R_Md) (T := F_Md) (N := 64) (ci := 7) (kd := 27) (ct := ct) hx hb htb i_Md hown hK hP hO_0 m0 rfl rfl 13 (by decide) (htb (.fieldLink R_Md 70 "WaterMenModel" "gapFrom" "[I") tw_510) (fun _ h9 => h9) rfl d_Md_servedOf_68 (fun q_28 e_28 m_28 => ?_)
          refine lv_bipush (v := 6) hx hb d_Md_servedOf_71 (by decide +kernel) ?_
          refine lv_iload_n hx hb d_Md_servedOf_73 rfl (lv_at hl 2 rfl) ?_
          refine lv_imul hx hb d_Md_servedOf_74 ?_
          refine lv_iload_n hx hb d_Md_servedOf_75 rfl (lv_at hl 4 rfl) ?_
          refine lv_iadd hx hb d_Md_servedOf_76 ?_
          refine tw_aldI (ct := ct) hx hb hK hP hO_0 m_28 rfl ((fun (a_0 : Int32) (a_1 : Int32) (a_2 : Int32) (k_0 : ¬ (a_0 < 0)) (k_1 : ¬ (39 < a_0)) (k_2 : ¬ (a_1 < 0)) (k_3 : ¬ (a_2 ≤ a_1)) (k_4 : ¬ (6 < a_2)) => (show vp_in (((6 * a_0) + a_1)) 240 from by have z0 : (0 : Int32).toInt = 0 := (by decide +kernel); have z1 : (6 : Int32).toInt = 6 := (by decide +kernel); have z2 : (39 : Int32).toInt = 39 := (by decide +kernel); have r0 := fb_rng (a_0); have r1 := fb_rng (a_1); have r2 := fb_rng (a_2); have e0 := k_0; rw [Int32.lt_iff_toInt_lt, z0] at e0; have e1 := k_1; rw [Int32.lt_iff_toInt_lt, z2] at e1; have e2 := k_2; rw [Int32.lt_iff_toInt_lt, z0] at e2; have e3 := k_3; rw [Int32.le_iff_toInt_le] at e3; have e4 := k_4; rw [Int32.lt_iff_toInt_lt, z1] at e4; obtain ⟨n_0, hn_0, s0⟩ := nd_mul (x := (6 : Int32)) (y := (a_0)) (by (try rw [z1]); omega) (by (try rw [z1]); omega); rw [z1] at s0; obtain ⟨n_1, hn_1, s1⟩ := nd_add (x := n_0) (y := (a_1)) (by omega) (by omega); rw [hn_0, hn_1, vp_in_iff]; omega)) p_0 v3_8 x_10 as_0 as_1 iv0_8 c_11 b_10.2) d_Md_servedOf_77 (fun x_29 e_29 b_29 => ?_)
          refine lv_isub hx hb d_Md_servedOf_78 ?_
          refine lv_iconst (v := 1) hx hb d_Md_servedOf_79 (by decide +kernel) ?_
          refine lv_iadd hx hb d_Md_servedOf_80 ?_
          refine lv_isub hx hb d_Md_servedOf_81 ?_
          refine lv_istore_n (lv' := [(2, .int (v2_8 - ((x_13 - x_29) + 1))), (4, .int x_13), (0, .ref q0), (1, .int p_0), (3, .int v3_8)]) hx hb d_Md_servedOf_82 rfl hl (by decide) rfl (fun ls hl => ?_)
          refine lv_iinc (v := (v3_8 + 1)) (lv' := [(3, .int (v3_8 + 1)), (2, .int (v2_8 - ((x_13 - x_29) + 1))), (4, .int x_13), (0, .ref q0), (1, .int p_0)]) hx hb d_Md_servedOf_83 hl (k := 4) rfl rfl (by decide) rfl (fun ls hl => ?_)
          refine lv_goto (tgt := 14) hx hb d_Md_servedOf_86 (by decide) ?_
          exact ih_8 (n_8 - 1) (ms_1 ((fun (a_0 : Int32) (a_1 : Int32) (k_0 : ¬ (a_1 ≤ a_0)) (k_1 : ¬ (6 < a_1)) => (show 1 ≤ (6 : Int32).toInt - (a_0).toInt ∧ (6 : Int32).toInt - ((a_0) + (1 : Int32)).toInt + 1 ≤ (6 : Int32).toInt - (a_0).toInt from by have z0 : (1 : Int32).toInt = 1 := (by decide +kernel); have z1 : (6 : Int32).toInt = 6 := (by decide +kernel); have r0 := fb_rng (a_0); have r1 := fb_rng (a_1); have e0 := k_0; rw [Int32.le_iff_toInt_le] at e0; have e1 := k_1; rw [Int32.lt_iff_toInt_lt, z1] at e1; obtain ⟨n_0, hn_0, s0⟩ := nd_add (x := (a_0)) (y := (1 : Int32)) (by (try rw [z0]); omega) (by (try rw [z0]); omega); rw [z0] at s0; rw [hn_0]; (try rw [z1]); omega)) v3_8 x_10 c_11 b_10.2) hm_8) (v2_8 - ((x_13 - x_29) + 1)) (v3_8 + 1) _ (show ¬ ((v3_8 + 1) < 0) from by have e0 := iv0_8; rw [Int32.lt_iff_toInt_lt] at e0; have e1 := iv1_8; rw [Int32.lt_iff_toInt_lt] at e1; have z0 : (0 : Int32).toInt = 0 := (by decide +kernel); have z1 : (1 : Int32).toInt = 1 := (by decide +kernel); have z2 : (6 : Int32).toInt = 6 := (by decide +kernel); have ss := fb_addI (x := v3_8) (y := 1) (by omega) (by omega); rw [Int32.lt_iff_toInt_lt]; omega) (show ¬ (6 < (v3_8 + 1)) from ((fun (a_0 : Int32) (a_1 : Int32) (k_0 : ¬ (a_1 ≤ a_0)) (k_1 : ¬ (6 < a_1)) => (show ¬ (6 < (a_0 + 1)) from by have z0 : (1 : Int32).toInt = 1 := (by decide +kernel); have z1 : (6 : Int32).toInt = 6 := (by decide +kernel); have r0 := fb_rng (a_0); have r1 := fb_rng (a_1); have e0 := k_0; rw [Int32.le_iff_toInt_le] at e0; have e1 := k_1; rw [Int32.lt_iff_toInt_lt, z1] at e1; obtain ⟨n_0, hn_0, s0⟩ := nd_add (x := (a_0)) (y := (1 : Int32)) (by (try rw [z0]); omega) (by (try rw [z0]); omega); rw [z0] at s0; rw [hn_0, Int32.lt_iff_toInt_lt, z1]; omega)) v3_8 x_10 c_11 b_10.2)) (by exact ms_2 ((fun (a_0 : Int32) (a_1 : Int32) (k_0 : ¬ (a_1 ≤ a_0)) (k_1 : ¬ (6 < a_1)) => (show 1 ≤ (6 : Int32).toInt - (a_0).toInt ∧ (6 : Int32).toInt - ((a_0) + (1 : Int32)).toInt + 1 ≤ (6 : Int32).toInt - (a_0).toInt from by have z0 : (1 : Int32).toInt = 1 := (by decide +kernel); have z1 : (6 : Int32).toInt = 6 := (by decide +kernel); have r0 := fb_rng (a_0); have r1 := fb_rng (a_1); have e0 := k_0; rw [Int32.le_iff_toInt_le] at e0; have e1 := k_1; rw [Int32.lt_iff_toInt_lt, z1] at e1; obtain ⟨n_0, hn_0, s0⟩ := nd_add (x := (a_0)) (y := (1 : Int32)) (by (try rw [z0]); omega) (by (try rw [z0]); omega); rw [z0] at s0; rw [hn_0]; (try rw [z1]); omega)) v3_8 x_10 c_11 b_10.2) hm_8) (lv_sub hl [3, 4, 1, 0] rfl)
  exact cut_8 4294967296 (r_1 - x_7) (0 : Int32) _ (by decide +kernel) (by decide +kernel) (by exact ms_0 _ _) (lv_sub hl [2, 3, 1, 0] rfl)
set_option maxHeartbeats 4000000 in
set_option maxRecDepth 100000 in
theorem c_Md_served_t (l : Launch) (dC : Nat → ClassId) (dI : Nat → Nat → Nat) (ct : Nat → ClassId) (L : List Nat) (f : TF) (hO_0 : Ok L f) (q0 : Nat) (m0 : q0 ∈ L ∧ tk f q0 = 27) (p_0 : Int32)   : Met l y_Md_served (.code y_Md_served b_Md_served 2 (some .int) :: TB) ({ frames := 2, cells := 0, slots := 0, locals := 44 }) (va_Pc [.ref q0, .int p_0] (PR dC dI (TW ct L f) (TT ct))) (vp_Si (fun r => True)) 0 0 (fun _ => False) := by
  refine Met.ofW (cc := b_Md_served) (maxL := 2) (ret := (some .int)) (by decide) rfl ?_
  intro p e s m args below meth c s₁ B hml hv
  obtain ⟨rfl, hP, hK, hN⟩ := hv
  have hx := B.exec
  have hb := B.bytes
  have hr := B.returns
  have hts := atoms_spec (ws := (.code y_Md_served b_Md_served 2 (some .int) :: TB)) B.pre
  have htb := fun w (h : w ∈ TB) => hts w (List.mem_cons_of_mem _ h)
  have hown : s.vm.findClass R_Md = some m.cls := findClass_of_methodNamed B.named
  have hlocks := B.notSynchronized
  have hl := lv_entry ([.ref q0, .int p_0]) (n := 2) (Nat.le_of_ble_eq_true rfl)
  rw [lg_entry_eq]
  generalize (lg_sl ([.ref q0, .int p_0]) ++ List.replicate (2 - (lg_sl ([.ref q0, .int p_0])).length) Slot.unset).toArray = ls at hl ⊢
  have hl : lv_has ls 2 [(0, .ref q0), (1, .int p_0)] := hl
  refine lv_iload_n hx hb d_Md_served_0 rfl (lv_at hl 1 rfl) ?_
  refine vp_callSi (va_Run.run (va_runS (As := [.int p_0]) (rest := []) ⟨hx, hb, hml, hown, htb⟩ (c_Md_isMan l p_0) (cwS 1 htb (gd_S tw_504 tw_505 tw_479 tw_503) rfl rfl rfl (by decide +kernel) ⟨Nat.le_of_ble_eq_true rfl, Nat.le_of_ble_eq_true rfl⟩) ⟨fun _ _ _ _ h => h, fun U _ _ => ⟨rfl, trivial⟩⟩ rfl rfl hl.1 rfl (lv_room (Nat.le_of_ble_eq_true rfl)) d_Md_served_1 ⟨Nat.le_of_ble_eq_true rfl, Nat.le_of_ble_eq_true rfl⟩)) (fun r er => ?_)
  subst er
  by_cases c_2 : p_0 < 0
  · refine hb_ti 0 (by unfold f_Md_isMan; rw [if_pos c_2]; first | done | rfl) ?_
    refine lv_if_ne (tgt := 11) hx hb d_Md_served_4 (by decide) (fun h => absurd (by decide +kernel) h) (fun _ => ?_)
    refine lv_iconst (v := (-1)) hx hb d_Md_served_7 (by decide +kernel) ?_
    refine lv_goto (tgt := 31) hx hb d_Md_served_8 (by decide) ?_
    exact W.iret (v := (-1)) hx hb hr (fun t ht hW => ⟨(-1), rfl, trivial, ht⟩) t_nil d_Md_served_31
  · by_cases c_3 : 39 < p_0
    · refine hb_ti 0 (by unfold f_Md_isMan; rw [if_neg c_2, if_pos c_3]; first | done | rfl) ?_
      refine lv_if_ne (tgt := 11) hx hb d_Md_served_4 (by decide) (fun h => absurd (by decide +kernel) h) (fun _ => ?_)
      refine lv_iconst (v := (-1)) hx hb d_Md_served_7 (by decide +kernel) ?_
      refine lv_goto (tgt := 31) hx hb d_Md_served_8 (by decide) ?_
      exact W.iret (v := (-1)) hx hb hr (fun t ht hW => ⟨(-1), rfl, trivial, ht⟩) t_nil d_Md_served_31
    · refine hb_ti 1 (by unfold f_Md_isMan; rw [if_neg c_2, if_neg c_3]; first | done | rfl) ?_
      refine lv_if_ne (tgt := 11) hx hb d_Md_served_4 (by decide) (fun _ => ?_) (fun h => absurd h (by decide +kernel))
      refine lv_aload_n hx hb d_Md_served_11 rfl (lv_at hl 0 rfl) ?_
      refine tw_getr (D := (dC, dI)) (C := R_Md) (T := F_Md) (N := 64) (ci := 7) (kd := 27) (ct := ct) hx hb htb i_Md hown hK hP hO_0 m0 rfl rfl 9 (by decide) (htb (.fieldLink R_Md 58 "WaterMenModel" "state" "[I") tw_506) (fun _ h9 => h9) rfl d_Md_served_12 (fun q_4 e_4 m_4 => ?_)
      refine lv_iload_n hx hb d_Md_served_15 rfl (lv_at hl 1 rfl) ?_
      refine tw_aldI (ct := ct) hx hb hK hP hO_0 m_4 rfl (hb_inl c_2 c_3 (by decide +kernel)) d_Md_served_16 (fun x_5 e_5 b_5 => ?_)
      refine lv_iconst (v := 1) hx hb d_Md_served_17 (by decide +kernel) ?_
      refine lv_icmp_eq (tgt := 26) hx hb d_Md_served_18 (by decide) (fun c_6 => ?_) (fun c_6 => ?_)
      · refine lv_aload_n hx hb d_Md_served_26 rfl (lv_at hl 0 rfl) ?_
        refine lv_iload_n hx hb d_Md_served_27 rfl (lv_at hl 1 rfl) ?_
        refine vp_callSi (va_Run.run (va_runV (As := [.int p_0]) (rest := []) ⟨hx, hb, hml, hown, htb⟩ (c_Md_servedOf_t l dC dI ct L f hO_0 q0 m0 p_0 c_2 c_3) (cwV 1 htb (gd_V tw_513 tw_514 tw_515 tw_479 tw_512) rfl rfl rfl (by decide +kernel) ⟨Nat.le_of_ble_eq_true rfl, Nat.le_of_ble_eq_true rfl⟩) ⟨pr_blind, tw_recv hK hP m0 rfl rfl, pr_pre hP hK hN⟩ rfl rfl hl.1 rfl (lv_room (Nat.le_of_ble_eq_true rfl)) d_Md_served_28 ⟨Nat.le_of_ble_eq_true rfl, Nat.le_of_ble_eq_true rfl⟩)) (fun r_7 er_7 => ?_)
        clear er_7
        exact W.iret (v := r_7) hx hb hr (fun t ht hW => ⟨r_7, rfl, trivial, ht⟩) t_nil d_Md_served_31
      · refine lv_bipush (v := (-2)) hx hb d_Md_served_21 (by decide +kernel) ?_
        refine lv_goto (tgt := 31) hx hb d_Md_served_23 (by decide) ?_
        exact W.iret (v := (-2)) hx hb hr (fun t ht hW => ⟨(-2), rfl, trivial, ht⟩) t_nil d_Md_served_31
def W_Md_pass_t : List (Nat × Nat) := [(33, 1000), (34, 1000)]
set_option maxHeartbeats 4000000 in
set_option maxRecDepth 100000 in
theorem c_Md_pass_t (l : Launch) (dC : Nat → ClassId) (dI : Nat → Nat → Nat) (ct : Nat → ClassId) (L : List Nat) (f : TF) (hO_0 : Ok L f) (q0 : Nat) (m0 : q0 ∈ L ∧ tk f q0 = 27) (sz : Nat) (p_0 : Int32)   : Met l y_Md_pass (.code y_Md_pass b_Md_pass 3 (some .int) :: TB) ({ frames := 2, cells := 0, slots := 0, locals := 44 }) (va_Pc [.ref q0, .int p_0] (PC dC dI (TW ct L f) (TT ct) sz)) (va_Qi (fun r (u : TSt) => Ok u.1 u.2 ∧ Ext W_Md_pass_t L f u.1 u.2 ∧ (True)) (fun (u : TSt) t => va_P (dC, dI) vwCl (TW ct u.1 u.2) t.heap ∧ va_K (dC, dI) vwCl (TT ct) t ∧ va_D (va_A (TW ct L f) sz) (TW ct u.1 u.2)) (va_A (TW ct L f) sz)) 0 0 (va_A (TW ct L f) sz) := by
  refine Met.ofW (cc := b_Md_pass) (maxL := 3) (ret := (some .int)) (by decide) rfl ?_
  intro p e s m args below meth c s₁ B hml hv
  obtain ⟨rfl, hsz, hP, hK, hD0, hN⟩ := hv
  have hx := B.exec
  have hb := B.bytes
  have hr := B.returns
  have hts := atoms_spec (ws := (.code y_Md_pass b_Md_pass 3 (some .int) :: TB)) B.pre
  have htb := fun w (h : w ∈ TB) => hts w (List.mem_cons_of_mem _ h)
  have hown : s.vm.findClass R_Md = some m.cls := findClass_of_methodNamed B.named
  have hlocks := B.notSynchronized
  have hl := lv_entry ([.ref q0, .int p_0]) (n := 3) (Nat.le_of_ble_eq_true rfl)
  rw [lg_entry_eq]
  generalize (lg_sl ([.ref q0, .int p_0]) ++ List.replicate (3 - (lg_sl ([.ref q0, .int p_0])).length) Slot.unset).toArray = ls at hl ⊢
  have hl : lv_has ls 3 [(0, .ref q0), (1, .int p_0)] := hl
  subst hsz
  have hD := hD0.self (sz := s.heap.size)
  obtain ⟨A, hAe⟩ : ∃ A, va_A (TW ct L f) s.heap.size = A := ⟨_, rfl⟩
  rw [hAe] at hD
  have hA : ∀ q : Nat, s.heap.size ≤ q → A q := fun q h => by rw [← hAe]; exact Or.inr h
  have hS : va_S A s.heap s.heap [] := va_S.rf
  have hA_0 : Ext [] L f L f := Ext.rf
  suffices hGo : ∀ (H : Heap) (locs : List Loc), va_P (dC, dI) vwCl (TW ct L f) H → va_S A s.heap H locs → W p l e (headSpec (.code y_Md_pass b_Md_pass 3 (some .int) :: TB) ({ frames := 2, cells := 0, slots := 0, locals := 44 })).room s m [.ref q0, .int p_0].toArray below meth c H locs 0 0 (MQ below (va_Qi (fun r (u : TSt) => Ok u.1 u.2 ∧ Ext W_Md_pass_t L f u.1 u.2 ∧ (True)) (fun (u : TSt) t => va_P (dC, dI) vwCl (TW ct u.1 u.2) t.heap ∧ va_K (dC, dI) vwCl (TT ct) t ∧ va_D (va_A (TW ct L f) s.heap.size) (TW ct u.1 u.2)) (va_A (TW ct L f) s.heap.size)) [.ref q0, .int p_0].toArray s 0 0 (va_A (TW ct L f) s.heap.size)) (F0 m 0 ls []) from hGo _ _ hP hS
  clear hP hS
  intro H locs hP hS
  refine lv_iload_n hx hb d_Md_pass_0 rfl (lv_at hl 1 rfl) ?_
  refine vp_callSi (va_Run.run (va_runS (As := [.int p_0]) (rest := []) ⟨hx, hb, hml, hown, htb⟩ (c_Md_isMan l p_0) (cwS 1 htb (gd_S tw_504 tw_505 tw_479 tw_503) rfl rfl rfl (by decide +kernel) ⟨Nat.le_of_ble_eq_true rfl, Nat.le_of_ble_eq_true rfl⟩) ⟨fun _ _ _ _ h => h, fun U _ _ => ⟨rfl, trivial⟩⟩ rfl rfl hl.1 rfl (lv_room (Nat.le_of_ble_eq_true rfl)) d_Md_pass_1 ⟨Nat.le_of_ble_eq_true rfl, Nat.le_of_ble_eq_true rfl⟩)) (fun r er => ?_)
  subst er
  by_cases c_2 : p_0 < 0
  · refine hb_ti 0 (by unfold f_Md_isMan; rw [if_pos c_2]; first | done | rfl) ?_
    refine lv_if_ne (tgt := 9) hx hb d_Md_pass_4 (by decide) (fun h => absurd (by decide +kernel) h) (fun _ => ?_)
    refine lv_iconst (v := (-1)) hx hb d_Md_pass_7 (by decide +kernel) ?_
    refine W.widen (k := 0) (n := 0) (Nat.le_of_ble_eq_true rfl) (Nat.le_of_ble_eq_true rfl) ?_
    exact W.iret (v := (-1)) hx hb hr (fun t ht hW => ⟨⟨(-1), (L, f), rfl, ⟨hO_0, hA_0.mono (by decide +kernel), trivial⟩, by rw [ht]; exact hP, va_K.moved hW.alike hK, by rw [hAe]; exact hD⟩, by rw [hAe]; exact hS.F ht⟩) (by rw [hAe]; exact hS.2.2) d_Md_pass_8
  · by_cases c_3 : 39 < p_0
    · refine hb_ti 0 (by unfold f_Md_isMan; rw [if_neg c_2, if_pos c_3]; first | done | rfl) ?_
      refine lv_if_ne (tgt := 9) hx hb d_Md_pass_4 (by decide) (fun h => absurd (by decide +kernel) h) (fun _ => ?_)
      refine lv_iconst (v := (-1)) hx hb d_Md_pass_7 (by decide +kernel) ?_
      refine W.widen (k := 0) (n := 0) (Nat.le_of_ble_eq_true rfl) (Nat.le_of_ble_eq_true rfl) ?_
      exact W.iret (v := (-1)) hx hb hr (fun t ht hW => ⟨⟨(-1), (L, f), rfl, ⟨hO_0, hA_0.mono (by decide +kernel), trivial⟩, by rw [ht]; exact hP, va_K.moved hW.alike hK, by rw [hAe]; exact hD⟩, by rw [hAe]; exact hS.F ht⟩) (by rw [hAe]; exact hS.2.2) d_Md_pass_8
    · refine hb_ti 1 (by unfold f_Md_isMan; rw [if_neg c_2, if_neg c_3]; first | done | rfl) ?_
      refine lv_if_ne (tgt := 9) hx hb d_Md_pass_4 (by decide) (fun _ => ?_) (fun h => absurd h (by decide +kernel))
      refine lv_aload_n hx hb d_Md_pass_9 rfl (lv_at hl 0 rfl) ?_
      refine tw_getr (D := (dC, dI)) (C := R_Md) (T := F_Md) (N := 64) (ci := 7) (kd := 27) (ct := ct) hx hb htb i_Md hown hK hP hO_0 m0 rfl rfl 9 (by decide) (htb (.fieldLink R_Md 58 "WaterMenModel" "state" "[I") tw_506) (fun _ h9 => h9) rfl d_Md_pass_10 (fun q_4 e_4 m_4 => ?_)
      refine lv_iload_n hx hb d_Md_pass_13 rfl (lv_at hl 1 rfl) ?_
      refine tw_aldI (ct := ct) hx hb hK hP hO_0 m_4 rfl (hb_inl c_2 c_3 (by decide +kernel)) d_Md_pass_14 (fun x_5 e_5 b_5 => ?_)
      refine lv_iconst (v := 1) hx hb d_Md_pass_15 (by decide +kernel) ?_
      refine lv_icmp_eq (tgt := 22) hx hb d_Md_pass_16 (by decide) (fun c_6 => ?_) (fun c_6 => ?_)
      · refine lv_aload_n hx hb d_Md_pass_22 rfl (lv_at hl 0 rfl) ?_
        refine lv_iload_n hx hb d_Md_pass_23 rfl (lv_at hl 1 rfl) ?_
        refine vp_callSi (va_Run.run (va_runV (As := [.int p_0]) (rest := []) ⟨hx, hb, hml, hown, htb⟩ (c_Md_servedOf_t l dC dI ct L f hO_0 q0 m0 p_0 c_2 c_3) (cwV 1 htb (gd_V tw_513 tw_514 tw_515 tw_479 tw_512) rfl rfl rfl (by decide +kernel) ⟨Nat.le_of_ble_eq_true rfl, Nat.le_of_ble_eq_true rfl⟩) ⟨pr_blind, tw_recv hK hP m0 rfl rfl, pr_pre hP hK hN⟩ rfl rfl hl.1 rfl (lv_room (Nat.le_of_ble_eq_true rfl)) d_Md_pass_24 ⟨Nat.le_of_ble_eq_true rfl, Nat.le_of_ble_eq_true rfl⟩)) (fun r_7 er_7 => ?_)
        clear er_7
        refine lv_istore_n (lv' := [(2, .int r_7), (0, .ref q0), (1, .int p_0)]) hx hb d_Md_pass_27 rfl hl (by decide) rfl (fun ls hl => ?_)
        refine lv_iload_n hx hb d_Md_pass_28 rfl (lv_at hl 0 rfl) ?_
        refine lv_sipush (v := 300) hx hb d_Md_pass_29 (by decide +kernel) ?_
        refine lv_icmp_ge (tgt := 44) hx hb d_Md_pass_32 (by decide) (fun c_8 => ?_) (fun c_8 => ?_)
        · refine lv_aload_n hx hb d_Md_pass_44 rfl (lv_at hl 1 rfl) ?_
          refine tw_getR (D := (dC, dI)) (C := R_Md) (T := F_Md) (N := 64) (ci := 7) (kd := 27) (ct := ct) hx hb htb i_Md hown hK hP m0 rfl rfl 9 e_4 (by decide) (htb (.fieldLink R_Md 58 "WaterMenModel" "state" "[I") tw_506) (fun _ h9 => h9) rfl d_Md_pass_45 ?_
          refine hb_tv (.ref q_4) rfl ?_
          refine lv_iload_n hx hb d_Md_pass_48 rfl (lv_at hl 2 rfl) ?_
          refine lv_iconst (v := 2) hx hb d_Md_pass_49 (by decide +kernel) ?_
          refine tw_astI (ct := ct) (x := 2) hx hb hK hP hD hS hO_0 m_4 rfl (hb_inl c_2 c_3 (by decide +kernel)) (i32_full _) d_Md_pass_50 (fun f_1 H locs hP hD hS hO_1 hE_1 w_9 ow_9 hF_1 => ?_)
          have hA_1 := hA_0.trans hE_1
          refine lv_aload_n hx hb d_Md_pass_51 rfl (lv_at hl 1 rfl) ?_
          refine tw_getr (D := (dC, dI)) (C := R_Md) (T := F_Md) (N := 64) (ci := 7) (kd := 27) (ct := ct) hx hb htb i_Md hown hK hP hO_1 (hA_1.m m0) rfl rfl 10 (by decide) (htb (.fieldLink R_Md 61 "WaterMenModel" "master" "[I") tw_507) (fun _ h9 => h9) rfl d_Md_pass_52 (fun q_10 e_10 m_10 => ?_)
          refine lv_iload_n hx hb d_Md_pass_55 rfl (lv_at hl 2 rfl) ?_
          refine lv_iconst (v := (-1)) hx hb d_Md_pass_56 (by decide +kernel) ?_
          refine tw_astI (ct := ct) (x := (-1)) hx hb hK hP hD hS hO_1 m_10 rfl (hb_inl c_2 c_3 (by decide +kernel)) (i32_full _) d_Md_pass_57 (fun f_2 H locs hP hD hS hO_2 hE_2 w_11 ow_11 hF_2 => ?_)
          have hA_2 := hA_1.trans hE_2
          refine lv_iconst (v := 1) hx hb d_Md_pass_58 (by decide +kernel) ?_
          refine W.widen (k := 0) (n := 0) (Nat.le_of_ble_eq_true rfl) (Nat.le_of_ble_eq_true rfl) ?_
          exact W.iret (v := 1) hx hb hr (fun t ht hW => ⟨⟨1, (L, f_2), rfl, ⟨hO_2, hA_2.mono (by decide +kernel), trivial⟩, by rw [ht]; exact hP, va_K.moved hW.alike hK, by rw [hAe]; exact hD⟩, by rw [hAe]; exact hS.F ht⟩) (by rw [hAe]; exact hS.2.2) d_Md_pass_59
        · refine lv_bipush (v := (-100)) hx hb d_Md_pass_35 (by decide +kernel) ?_
          refine lv_sipush (v := 300) hx hb d_Md_pass_37 (by decide +kernel) ?_
          refine lv_iload_n hx hb d_Md_pass_40 rfl (lv_at hl 0 rfl) ?_
          refine lv_isub hx hb d_Md_pass_41 ?_
          refine lv_isub hx hb d_Md_pass_42 ?_
          refine W.widen (k := 0) (n := 0) (Nat.le_of_ble_eq_true rfl) (Nat.le_of_ble_eq_true rfl) ?_
          exact W.iret (v := ((-100) - (300 - r_7))) hx hb hr (fun t ht hW => ⟨⟨((-100) - (300 - r_7)), (L, f), rfl, ⟨hO_0, hA_0.mono (by decide +kernel), trivial⟩, by rw [ht]; exact hP, va_K.moved hW.alike hK, by rw [hAe]; exact hD⟩, by rw [hAe]; exact hS.F ht⟩) (by rw [hAe]; exact hS.2.2) d_Md_pass_43
      · refine lv_bipush (v := (-2)) hx hb d_Md_pass_19 (by decide +kernel) ?_
        refine W.widen (k := 0) (n := 0) (Nat.le_of_ble_eq_true rfl) (Nat.le_of_ble_eq_true rfl) ?_
        exact W.iret (v := (-2)) hx hb hr (fun t ht hW => ⟨⟨(-2), (L, f), rfl, ⟨hO_0, hA_0.mono (by decide +kernel), trivial⟩, by rw [ht]; exact hP, va_K.moved hW.alike hK, by rw [hAe]; exact hD⟩, by rw [hAe]; exact hS.F ht⟩) (by rw [hAe]; exact hS.2.2) d_Md_pass_21
set_option maxHeartbeats 4000000 in
set_option maxRecDepth 100000 in
theorem c_Md_rowOf_t (l : Launch) (dC : Nat → ClassId) (dI : Nat → Nat → Nat) (ct : Nat → ClassId) (L : List Nat) (f : TF) (hO_0 : Ok L f) (q0 : Nat) (m0 : q0 ∈ L ∧ tk f q0 = 27) (p_0 : Int32)   : Met l y_Md_rowOf (.code y_Md_rowOf b_Md_rowOf 4 (some .int) :: TB) ({ frames := 0, cells := 0, slots := 0, locals := 0 }) (va_Pc [.ref q0, .int p_0] (PR dC dI (TW ct L f) (TT ct))) (vp_Si (fun r => (r = (-1) ∧ NotIn f q0 (ti f q0 2) p_0 ∧ True) ∨ (¬ (r < 0) ∧ ¬ (11 < r) ∧ ¬ ((ti f q0 2) ≤ r) ∧ IsIn f q0 r p_0 ∧ True))) 0 0 (fun _ => False) := by
  refine Met.ofW (cc := b_Md_rowOf) (maxL := 4) (ret := (some .int)) (by decide) rfl ?_
  intro p e s m args below meth c s₁ B hml hv
  obtain ⟨rfl, hP, hK, hN⟩ := hv
  have hx := B.exec
  have hb := B.bytes
  have hr := B.returns
  have hts := atoms_spec (ws := (.code y_Md_rowOf b_Md_rowOf 4 (some .int) :: TB)) B.pre
  have htb := fun w (h : w ∈ TB) => hts w (List.mem_cons_of_mem _ h)
  have hown : s.vm.findClass R_Md = some m.cls := findClass_of_methodNamed B.named
  have hlocks := B.notSynchronized
  have hl := lv_entry ([.ref q0, .int p_0]) (n := 4) (Nat.le_of_ble_eq_true rfl)
  rw [lg_entry_eq]
  generalize (lg_sl ([.ref q0, .int p_0]) ++ List.replicate (4 - (lg_sl ([.ref q0, .int p_0])).length) Slot.unset).toArray = ls at hl ⊢
  have hl : lv_has ls 4 [(0, .ref q0), (1, .int p_0)] := hl
  obtain ⟨qT, eqT, mqT⟩ := hO_0.r m0 (j := 20) (k' := 44) rfl
  obtain ⟨qS, eqS, mqS⟩ := hO_0.r m0 (j := 19) (k' := 43) rfl
  have bs_1 := hO_0.i m0 (show slotD 27 2 = some (.inl (0, 12)) from rfl)
  refine lv_iconst (v := 0) hx hb d_Md_rowOf_0 (by decide +kernel) ?_
  refine lv_istore_n (lv' := [(2, .int 0), (0, .ref q0), (1, .int p_0)]) hx hb d_Md_rowOf_1 rfl hl (by decide) rfl (fun ls hl => ?_)
  have cut_2 : ∀ (n_2 : Nat) (v2_2 : Int32) (ls : Array Slot), ¬ (v2_2 < 0) → ¬ (12 < v2_2) → TRows f qT qS p_0 (v2_2 : Int32).toNatClampNeg → (12 : Int32).toInt - (v2_2 : Int32).toInt ≤ (n_2 : Int) → lv_has ls 4 [(0, .ref q0), (1, .int p_0), (2, .int v2_2)] → W p l e (headSpec (.code y_Md_rowOf b_Md_rowOf 4 (some .int) :: TB) ({ frames := 0, cells := 0, slots := 0, locals := 0 })).room s m [.ref q0, .int p_0].toArray below meth c s.heap [] 0 0 (MQ below (vp_Si (fun r => (r = (-1) ∧ NotIn f q0 (ti f q0 2) p_0 ∧ True) ∨ (¬ (r < 0) ∧ ¬ (11 < r) ∧ ¬ ((ti f q0 2) ≤ r) ∧ IsIn f q0 r p_0 ∧ True))) [.ref q0, .int p_0].toArray s 0 0 (fun _ => False)) (F0 m 2 ls []) := by
    intro n_2
    induction n_2 using Nat.strongRecOn with
    | _ n_2 ih_2 =>
      intro v2_2 ls iv0_2 iv1_2 rw_2 hm_2 hl
      refine lv_iload_n hx hb d_Md_rowOf_2 rfl (lv_at hl 2 rfl) ?_
      refine lv_aload_n hx hb d_Md_rowOf_3 rfl (lv_at hl 0 rfl) ?_
      refine tw_getI (x := (ti f q0 2)) (D := (dC, dI)) (C := R_Md) (T := F_Md) (N := 64) (ci := 7) (kd := 27) (ct := ct) hx hb htb i_Md hown hK hP m0 rfl rfl 2 rfl (by decide) (htb (.fieldLink R_Md 14 "WaterMenModel" "stairs" "I") tw_477) (fun _ h9 => h9) rfl d_Md_rowOf_4 ?_
      refine lv_icmp_ge (tgt := 51) hx hb d_Md_rowOf_7 (by decide) (fun c_3 => ?_) (fun c_3 => ?_)
      · refine lv_iconst (v := (-1)) hx hb d_Md_rowOf_51 (by decide +kernel) ?_
        exact W.iret (v := (-1)) hx hb hr (fun t ht hW => ⟨(-1), rfl, (Or.inl ⟨rfl, (notin_end eqT eqS rw_2 iv0_2 c_3), trivial⟩), ht⟩) t_nil d_Md_rowOf_52
      · refine lv_iconst (v := 0) hx hb d_Md_rowOf_10 (by decide +kernel) ?_
        refine lv_istore_n (lv' := [(3, .int 0), (0, .ref q0), (1, .int p_0), (2, .int v2_2)]) hx hb d_Md_rowOf_11 rfl hl (by decide) rfl (fun ls hl => ?_)
        have cut_4 : ∀ (n_4 : Nat) (v3_4 : Int32) (ls : Array Slot), ¬ (v3_4 < 0) → ¬ (40 < v3_4) → TOut f qT (v2_2 : Int32).toNatClampNeg p_0 (v3_4 : Int32).toNatClampNeg → (40 : Int32).toInt - (v3_4 : Int32).toInt ≤ (n_4 : Int) → lv_has ls 4 [(0, .ref q0), (1, .int p_0), (2, .int v2_2), (3, .int v3_4)] → W p l e (headSpec (.code y_Md_rowOf b_Md_rowOf 4 (some .int) :: TB) ({ frames := 0, cells := 0, slots := 0, locals := 0 })).room s m [.ref q0, .int p_0].toArray below meth c s.heap [] 0 0 (MQ below (vp_Si (fun r => (r = (-1) ∧ NotIn f q0 (ti f q0 2) p_0 ∧ True) ∨ (¬ (r < 0) ∧ ¬ (11 < r) ∧ ¬ ((ti f q0 2) ≤ r) ∧ IsIn f q0 r p_0 ∧ True))) [.ref q0, .int p_0].toArray s 0 0 (fun _ => False)) (F0 m 12 ls []) := by
          intro n_4
          induction n_4 using Nat.strongRecOn with
          | _ n_4 ih_4 =>
            intro v3_4 ls iv0_4 iv1_4 rw_4 hm_4 hl
            refine lv_iload_n hx hb d_Md_rowOf_12 rfl (lv_at hl 3 rfl) ?_
            refine lv_aload_n hx hb d_Md_rowOf_13 rfl (lv_at hl 0 rfl) ?_
            refine tw_getR (D := (dC, dI)) (C := R_Md) (T := F_Md) (N := 64) (ci := 7) (kd := 27) (ct := ct) hx hb htb i_Md hown hK hP m0 rfl rfl 19 eqS (by decide) (htb (.fieldLink R_Md 88 "WaterMenModel" "turns" "[I") tw_516) (fun _ h9 => h9) rfl d_Md_rowOf_14 ?_
            refine hb_tv (.ref qS) rfl ?_
            refine lv_iload_n hx hb d_Md_rowOf_17 rfl (lv_at hl 2 rfl) ?_
            refine tw_aldI (ct := ct) hx hb hK hP hO_0 mqS rfl ((fun (a_0 : Int32) (a_1 : Int32) (k_0 : ¬ (a_1 < 0)) (k_1 : ¬ (a_0 ≤ a_1)) (k_2 : ¬ (12 < a_0)) => (show vp_in (a_1) 12 from by have z0 : (0 : Int32).toInt = 0 := (by decide +kernel); have z1 : (12 : Int32).toInt = 12 := (by decide +kernel); have r0 := fb_rng (a_0); have r1 := fb_rng (a_1); have e0 := k_0; rw [Int32.lt_iff_toInt_lt, z0] at e0; have e1 := k_1; rw [Int32.le_iff_toInt_le] at e1; have e2 := k_2; rw [Int32.lt_iff_toInt_lt, z1] at e2; rw [vp_in_iff]; omega)) (ti f q0 2) v2_2 iv0_2 c_3 bs_1.2) d_Md_rowOf_18 (fun x_5 e_5 b_5 => ?_)
            refine lv_icmp_ge (tgt := 45) hx hb d_Md_rowOf_19 (by decide) (fun c_6 => ?_) (fun c_6 => ?_)
            · refine lv_iinc (v := (v2_2 + 1)) (lv' := [(2, .int (v2_2 + 1)), (0, .ref q0), (1, .int p_0), (3, .int v3_4)]) hx hb d_Md_rowOf_45 hl (k := 2) rfl rfl (by decide) rfl (fun ls hl => ?_)
              refine lv_goto (tgt := 2) hx hb d_Md_rowOf_48 (by decide) ?_
              exact ih_2 (n_2 - 1) (ms_1 ((fun (a_0 : Int32) (a_1 : Int32) (k_0 : ¬ (a_0 ≤ a_1)) (k_1 : ¬ (12 < a_0)) => (show 1 ≤ (12 : Int32).toInt - (a_1).toInt ∧ (12 : Int32).toInt - ((a_1) + (1 : Int32)).toInt + 1 ≤ (12 : Int32).toInt - (a_1).toInt from by have z0 : (1 : Int32).toInt = 1 := (by decide +kernel); have z1 : (12 : Int32).toInt = 12 := (by decide +kernel); have r0 := fb_rng (a_0); have r1 := fb_rng (a_1); have e0 := k_0; rw [Int32.le_iff_toInt_le] at e0; have e1 := k_1; rw [Int32.lt_iff_toInt_lt, z1] at e1; obtain ⟨n_0, hn_0, s0⟩ := nd_add (x := (a_1)) (y := (1 : Int32)) (by (try rw [z0]); omega) (by (try rw [z0]); omega); rw [z0] at s0; rw [hn_0]; (try rw [z1]); omega)) (ti f q0 2) v2_2 c_3 bs_1.2) hm_2) (v2_2 + 1) _ (show ¬ ((v2_2 + 1) < 0) from by have e0 := iv0_2; rw [Int32.lt_iff_toInt_lt] at e0; have e1 := iv1_2; rw [Int32.lt_iff_toInt_lt] at e1; have z0 : (0 : Int32).toInt = 0 := (by decide +kernel); have z1 : (1 : Int32).toInt = 1 := (by decide +kernel); have z2 : (12 : Int32).toInt = 12 := (by decide +kernel); have ss := fb_addI (x := v2_2) (y := 1) (by omega) (by omega); rw [Int32.lt_iff_toInt_lt]; omega) (show ¬ (12 < (v2_2 + 1)) from ((fun (a_0 : Int32) (a_1 : Int32) (k_0 : ¬ (a_0 ≤ a_1)) (k_1 : ¬ (12 < a_0)) => (show ¬ (12 < (a_1 + 1)) from by have z0 : (1 : Int32).toInt = 1 := (by decide +kernel); have z1 : (12 : Int32).toInt = 12 := (by decide +kernel); have r0 := fb_rng (a_0); have r1 := fb_rng (a_1); have e0 := k_0; rw [Int32.le_iff_toInt_le] at e0; have e1 := k_1; rw [Int32.lt_iff_toInt_lt, z1] at e1; obtain ⟨n_0, hn_0, s0⟩ := nd_add (x := (a_1)) (y := (1 : Int32)) (by (try rw [z0]); omega) (by (try rw [z0]); omega); rw [z0] at s0; rw [hn_0, Int32.lt_iff_toInt_lt, z1]; omega)) (ti f q0 2) v2_2 c_3 bs_1.2)) (rows_next rw_2 rw_4 iv0_2 (show ¬ (11 < v2_2) from ((fun (a_0 : Int32) (a_1 : Int32) (k_0 : ¬ (a_0 ≤ a_1)) (k_1 : ¬ (12 < a_0)) => (show ¬ (11 < a_1) from by have z0 : (11 : Int32).toInt = 11 := (by decide +kernel); have z1 : (12 : Int32).toInt = 12 := (by decide +kernel); have r0 := fb_rng (a_0); have r1 := fb_rng (a_1); have e0 := k_0; rw [Int32.le_iff_toInt_le] at e0; have e1 := k_1; rw [Int32.lt_iff_toInt_lt, z1] at e1; rw [Int32.lt_iff_toInt_lt, z0]; omega)) (ti f q0 2) v2_2 c_3 bs_1.2)) iv0_4 b_5.1 e_5 c_6) (by exact ms_2 ((fun (a_0 : Int32) (a_1 : Int32) (k_0 : ¬ (a_0 ≤ a_1)) (k_1 : ¬ (12 < a_0)) => (show 1 ≤ (12 : Int32).toInt - (a_1).toInt ∧ (12 : Int32).toInt - ((a_1) + (1 : Int32)).toInt + 1 ≤ (12 : Int32).toInt - (a_1).toInt from by have z0 : (1 : Int32).toInt = 1 := (by decide +kernel); have z1 : (12 : Int32).toInt = 12 := (by decide +kernel); have r0 := fb_rng (a_0); have r1 := fb_rng (a_1); have e0 := k_0; rw [Int32.le_iff_toInt_le] at e0; have e1 := k_1; rw [Int32.lt_iff_toInt_lt, z1] at e1; obtain ⟨n_0, hn_0, s0⟩ := nd_add (x := (a_1)) (y := (1 : Int32)) (by (try rw [z0]); omega) (by (try rw [z0]); omega); rw [z0] at s0; rw [hn_0]; (try rw [z1]); omega)) (ti f q0 2) v2_2 c_3 bs_1.2) hm_2) (lv_sub hl [1, 2, 0] rfl)
            · refine lv_aload_n hx hb d_Md_rowOf_22 rfl (lv_at hl 0 rfl) ?_
              refine tw_getR (D := (dC, dI)) (C := R_Md) (T := F_Md) (N := 64) (ci := 7) (kd := 27) (ct := ct) hx hb htb i_Md hown hK hP m0 rfl rfl 20 eqT (by decide) (htb (.fieldLink R_Md 91 "WaterMenModel" "turn" "[I") tw_517) (fun _ h9 => h9) rfl d_Md_rowOf_23 ?_
              refine hb_tv (.ref qT) rfl ?_
              refine lv_bipush (v := 40) hx hb d_Md_rowOf_26 (by decide +kernel) ?_
              refine lv_iload_n hx hb d_Md_rowOf_28 rfl (lv_at hl 2 rfl) ?_
              refine lv_imul hx hb d_Md_rowOf_29 ?_
              refine lv_iload_n hx hb d_Md_rowOf_30 rfl (lv_at hl 3 rfl) ?_
              refine lv_iadd hx hb d_Md_rowOf_31 ?_
              refine tw_aldI (ct := ct) hx hb hK hP hO_0 mqT rfl ((fun (a_0 : Int32) (a_1 : Int32) (a_2 : Int32) (a_3 : Int32) (k_0 : ¬ (a_1 < 0)) (k_1 : ¬ (a_0 ≤ a_1)) (k_2 : ¬ (a_2 < 0)) (k_3 : ¬ (a_3 ≤ a_2)) (k_4 : ¬ (12 < a_0)) (k_5 : ¬ (40 < a_3)) => (show vp_in (((40 * a_1) + a_2)) 480 from by have z0 : (0 : Int32).toInt = 0 := (by decide +kernel); have z1 : (12 : Int32).toInt = 12 := (by decide +kernel); have z2 : (40 : Int32).toInt = 40 := (by decide +kernel); have r0 := fb_rng (a_0); have r1 := fb_rng (a_1); have r2 := fb_rng (a_2); have r3 := fb_rng (a_3); have e0 := k_0; rw [Int32.lt_iff_toInt_lt, z0] at e0; have e1 := k_1; rw [Int32.le_iff_toInt_le] at e1; have e2 := k_2; rw [Int32.lt_iff_toInt_lt, z0] at e2; have e3 := k_3; rw [Int32.le_iff_toInt_le] at e3; have e4 := k_4; rw [Int32.lt_iff_toInt_lt, z1] at e4; have e5 := k_5; rw [Int32.lt_iff_toInt_lt, z2] at e5; obtain ⟨n_0, hn_0, s0⟩ := nd_mul (x := (40 : Int32)) (y := (a_1)) (by (try rw [z2]); omega) (by (try rw [z2]); omega); rw [z2] at s0; obtain ⟨n_1, hn_1, s1⟩ := nd_add (x := n_0) (y := (a_2)) (by omega) (by omega); rw [hn_0, hn_1, vp_in_iff]; omega)) (ti f q0 2) v2_2 v3_4 x_5 iv0_2 c_3 iv0_4 c_6 bs_1.2 b_5.2) d_Md_rowOf_32 (fun x_7 e_7 b_7 => ?_)
              refine lv_iload_n hx hb d_Md_rowOf_33 rfl (lv_at hl 1 rfl) ?_
              refine lv_icmp_ne (tgt := 39) hx hb d_Md_rowOf_34 (by decide) (fun c_8 => ?_) (fun c_8 => ?_)
              · refine lv_iinc (v := (v3_4 + 1)) (lv' := [(3, .int (v3_4 + 1)), (0, .ref q0), (1, .int p_0), (2, .int v2_2)]) hx hb d_Md_rowOf_39 hl (k := 3) rfl rfl (by decide) rfl (fun ls hl => ?_)
                refine lv_goto (tgt := 12) hx hb d_Md_rowOf_42 (by decide) ?_
                exact ih_4 (n_4 - 1) (ms_1 ((fun (a_0 : Int32) (a_1 : Int32) (k_0 : ¬ (a_1 ≤ a_0)) (k_1 : ¬ (40 < a_1)) => (show 1 ≤ (40 : Int32).toInt - (a_0).toInt ∧ (40 : Int32).toInt - ((a_0) + (1 : Int32)).toInt + 1 ≤ (40 : Int32).toInt - (a_0).toInt from by have z0 : (1 : Int32).toInt = 1 := (by decide +kernel); have z1 : (40 : Int32).toInt = 40 := (by decide +kernel); have r0 := fb_rng (a_0); have r1 := fb_rng (a_1); have e0 := k_0; rw [Int32.le_iff_toInt_le] at e0; have e1 := k_1; rw [Int32.lt_iff_toInt_lt, z1] at e1; obtain ⟨n_0, hn_0, s0⟩ := nd_add (x := (a_0)) (y := (1 : Int32)) (by (try rw [z0]); omega) (by (try rw [z0]); omega); rw [z0] at s0; rw [hn_0]; (try rw [z1]); omega)) v3_4 x_5 c_6 b_5.2) hm_4) (v3_4 + 1) _ (show ¬ ((v3_4 + 1) < 0) from by have e0 := iv0_4; rw [Int32.lt_iff_toInt_lt] at e0; have e1 := iv1_4; rw [Int32.lt_iff_toInt_lt] at e1; have z0 : (0 : Int32).toInt = 0 := (by decide +kernel); have z1 : (1 : Int32).toInt = 1 := (by decide +kernel); have z2 : (40 : Int32).toInt = 40 := (by decide +kernel); have ss := fb_addI (x := v3_4) (y := 1) (by omega) (by omega); rw [Int32.lt_iff_toInt_lt]; omega) (show ¬ (40 < (v3_4 + 1)) from ((fun (a_0 : Int32) (a_1 : Int32) (k_0 : ¬ (a_1 ≤ a_0)) (k_1 : ¬ (40 < a_1)) => (show ¬ (40 < (a_0 + 1)) from by have z0 : (1 : Int32).toInt = 1 := (by decide +kernel); have z1 : (40 : Int32).toInt = 40 := (by decide +kernel); have r0 := fb_rng (a_0); have r1 := fb_rng (a_1); have e0 := k_0; rw [Int32.le_iff_toInt_le] at e0; have e1 := k_1; rw [Int32.lt_iff_toInt_lt, z1] at e1; obtain ⟨n_0, hn_0, s0⟩ := nd_add (x := (a_0)) (y := (1 : Int32)) (by (try rw [z0]); omega) (by (try rw [z0]); omega); rw [z0] at s0; rw [hn_0, Int32.lt_iff_toInt_lt, z1]; omega)) v3_4 x_5 c_6 b_5.2)) (out_next rw_4 iv0_2 (show ¬ (11 < v2_2) from ((fun (a_0 : Int32) (a_1 : Int32) (k_0 : ¬ (a_0 ≤ a_1)) (k_1 : ¬ (12 < a_0)) => (show ¬ (11 < a_1) from by have z0 : (11 : Int32).toInt = 11 := (by decide +kernel); have z1 : (12 : Int32).toInt = 12 := (by decide +kernel); have r0 := fb_rng (a_0); have r1 := fb_rng (a_1); have e0 := k_0; rw [Int32.le_iff_toInt_le] at e0; have e1 := k_1; rw [Int32.lt_iff_toInt_lt, z1] at e1; rw [Int32.lt_iff_toInt_lt, z0]; omega)) (ti f q0 2) v2_2 c_3 bs_1.2)) iv0_4 iv1_4 e_7 c_8) (by exact ms_2 ((fun (a_0 : Int32) (a_1 : Int32) (k_0 : ¬ (a_1 ≤ a_0)) (k_1 : ¬ (40 < a_1)) => (show 1 ≤ (40 : Int32).toInt - (a_0).toInt ∧ (40 : Int32).toInt - ((a_0) + (1 : Int32)).toInt + 1 ≤ (40 : Int32).toInt - (a_0).toInt from by have z0 : (1 : Int32).toInt = 1 := (by decide +kernel); have z1 : (40 : Int32).toInt = 40 := (by decide +kernel); have r0 := fb_rng (a_0); have r1 := fb_rng (a_1); have e0 := k_0; rw [Int32.le_iff_toInt_le] at e0; have e1 := k_1; rw [Int32.lt_iff_toInt_lt, z1] at e1; obtain ⟨n_0, hn_0, s0⟩ := nd_add (x := (a_0)) (y := (1 : Int32)) (by (try rw [z0]); omega) (by (try rw [z0]); omega); rw [z0] at s0; rw [hn_0]; (try rw [z1]); omega)) v3_4 x_5 c_6 b_5.2) hm_4) (lv_sub hl [1, 2, 3, 0] rfl)
              · refine lv_iload_n hx hb d_Md_rowOf_37 rfl (lv_at hl 2 rfl) ?_
                exact W.iret (v := v2_2) hx hb hr (fun t ht hW => ⟨v2_2, rfl, (Or.inr ⟨iv0_2, (show ¬ (11 < v2_2) from ((fun (a_0 : Int32) (a_1 : Int32) (k_0 : ¬ (a_0 ≤ a_1)) (k_1 : ¬ (12 < a_0)) => (show ¬ (11 < a_1) from by have z0 : (11 : Int32).toInt = 11 := (by decide +kernel); have z1 : (12 : Int32).toInt = 12 := (by decide +kernel); have r0 := fb_rng (a_0); have r1 := fb_rng (a_1); have e0 := k_0; rw [Int32.le_iff_toInt_le] at e0; have e1 := k_1; rw [Int32.lt_iff_toInt_lt, z1] at e1; rw [Int32.lt_iff_toInt_lt, z0]; omega)) (ti f q0 2) v2_2 c_3 bs_1.2)), c_3, (isin_end eqT eqS iv0_2 (show ¬ (11 < v2_2) from ((fun (a_0 : Int32) (a_1 : Int32) (k_0 : ¬ (a_0 ≤ a_1)) (k_1 : ¬ (12 < a_0)) => (show ¬ (11 < a_1) from by have z0 : (11 : Int32).toInt = 11 := (by decide +kernel); have z1 : (12 : Int32).toInt = 12 := (by decide +kernel); have r0 := fb_rng (a_0); have r1 := fb_rng (a_1); have e0 := k_0; rw [Int32.le_iff_toInt_le] at e0; have e1 := k_1; rw [Int32.lt_iff_toInt_lt, z1] at e1; rw [Int32.lt_iff_toInt_lt, z0]; omega)) (ti f q0 2) v2_2 c_3 bs_1.2)) iv0_4 iv1_4 e_5 c_6 e_7 c_8), trivial⟩), ht⟩) t_nil d_Md_rowOf_38
        exact cut_4 4294967296 (0 : Int32) _ (by decide +kernel) (by decide +kernel) out_0 (by exact ms_0 _ _) (lv_sub hl [1, 2, 3, 0] rfl)
  exact cut_2 4294967296 (0 : Int32) _ (by decide +kernel) (by decide +kernel) rows_0 (by exact ms_0 _ _) (lv_sub hl [1, 2, 0] rfl)
