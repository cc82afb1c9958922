set_option maxHeartbeats 4000000 in
set_option maxRecDepth 100000 in
theorem c_WM_manAt_t (l : Launch) (dC : Nat → ClassId) (dI : Nat → Nat → Nat) (ct : Nat → ClassId) (L : List Nat) (f : TF) (hO_0 : Ok L f) (q0 : Nat) (m0 : q0 ∈ L ∧ tk f q0 = 0) (p_0 : Int32)   : Met l y_WM_manAt (.code y_WM_manAt b_WM_manAt 2 (some (.object "WaterMen$Man")) :: TB) ({ frames := 0, cells := 0, slots := 0, locals := 0 }) (va_Pc [.ref q0, .int p_0] (PR dC dI (TW ct L f) (TT ct))) (va_Sq (fun r => r = none ∨ ∃ b, r = some b ∧ b ∈ L ∧ tk f b = 20)) 0 0 (fun _ => False) := by
  refine Met.ofW (cc := b_WM_manAt) (maxL := 2) (ret := (some (.object "WaterMen$Man"))) (by decide) rfl ?_
  intro p e s m args below meth c s₁ B hml hv
  obtain ⟨rfl, hP, hK, hN⟩ := hv
  have hx := B.exec
  have hb := B.bytes
  have hr := B.returns
  have hts := atoms_spec (ws := (.code y_WM_manAt b_WM_manAt 2 (some (.object "WaterMen$Man")) :: TB)) B.pre
  have htb := fun w (h : w ∈ TB) => hts w (List.mem_cons_of_mem _ h)
  have hown : s.vm.findClass R_WM = some m.cls := findClass_of_methodNamed B.named
  have hlocks := B.notSynchronized
  have hl := lv_entry ([.ref q0, .int p_0]) (n := 2) (Nat.le_of_ble_eq_true rfl)
  rw [lg_entry_eq]
  generalize (lg_sl ([.ref q0, .int p_0]) ++ List.replicate (2 - (lg_sl ([.ref q0, .int p_0])).length) Slot.unset).toArray = ls at hl ⊢
  have hl : lv_has ls 2 [(0, .ref q0), (1, .int p_0)] := hl
  refine lv_iload_n hx hb d_WM_manAt_0 rfl (lv_at hl 1 rfl) ?_
  refine lv_if_lt (tgt := 19) hx hb d_WM_manAt_1 (by decide) (fun c_1 => ?_) (fun c_1 => ?_)
  · refine lv_null hx hb d_WM_manAt_19 ?_
    exact W.aret (v := .null) (rt := .object "WaterMen$Man") hx hb hr (Or.inl ⟨_, rfl⟩) (Or.inl rfl) (fun t ht hW => ⟨none, rfl, Or.inl rfl, ht⟩) t_nil d_WM_manAt_20
  · refine lv_iload_n hx hb d_WM_manAt_4 rfl (lv_at hl 1 rfl) ?_
    refine lv_bipush (v := 40) hx hb d_WM_manAt_5 (by decide +kernel) ?_
    refine lv_icmp_ge (tgt := 19) hx hb d_WM_manAt_7 (by decide) (fun c_2 => ?_) (fun c_2 => ?_)
    · refine lv_null hx hb d_WM_manAt_19 ?_
      exact W.aret (v := .null) (rt := .object "WaterMen$Man") hx hb hr (Or.inl ⟨_, rfl⟩) (Or.inl rfl) (fun t ht hW => ⟨none, rfl, Or.inl rfl, ht⟩) t_nil d_WM_manAt_20
    · refine lv_aload_n hx hb d_WM_manAt_10 rfl (lv_at hl 0 rfl) ?_
      refine tw_getr (D := (dC, dI)) (C := R_WM) (T := F_WM) (N := 13) (ci := 0) (kd := 0) (ct := ct) hx hb htb i_WM hown hK hP hO_0 m0 rfl rfl 1 (by decide) (htb (.fieldLink R_WM 18 "WaterMen" "men" "[LWaterMen$Man;") tw_24) (fun _ h9 => h9) rfl d_WM_manAt_11 (fun q_3 e_3 m_3 => ?_)
      refine lv_iload_n hx hb d_WM_manAt_14 rfl (lv_at hl 1 rfl) ?_
      refine tw_aldq (ct := ct) hx hb hK hP hO_0 m_3 rfl rfl (hb_in c_1 c_2 (by decide +kernel)) d_WM_manAt_15 (fun e_4 => ?_) (fun q_4 e_4 m_4 => ?_)
      · refine lv_goto (tgt := 20) hx hb d_WM_manAt_16 (by decide) ?_
        exact W.aret (v := .null) (rt := .object "WaterMen$Man") hx hb hr (Or.inl ⟨_, rfl⟩) (Or.inl rfl) (fun t ht hW => ⟨none, rfl, Or.inl rfl, ht⟩) t_nil d_WM_manAt_20
      · refine lv_goto (tgt := 20) hx hb d_WM_manAt_16 (by decide) ?_
        exact W.aret (v := .ref q_4) (rt := .object "WaterMen$Man") hx hb hr (Or.inl ⟨_, rfl⟩) (Or.inr ⟨_, rfl⟩) (fun t ht hW => ⟨some q_4, rfl, Or.inr ⟨q_4, rfl, m_4⟩, ht⟩) t_nil d_WM_manAt_20
set_option maxHeartbeats 4000000 in
set_option maxRecDepth 100000 in
theorem c_WM_placeInTurns_t (l : Launch) (dC : Nat → ClassId) (dI : Nat → Nat → Nat) (ct : Nat → ClassId) (L : List Nat) (f : TF) (hO_0 : Ok L f) (q0 : Nat) (m0 : q0 ∈ L ∧ tk f q0 = 0) (pq_0 : Nat) (pm_0 : pq_0 ∈ L ∧ tk f pq_0 = 20)    : Met l y_WM_placeInTurns (.code y_WM_placeInTurns b_WM_placeInTurns 5 (some .int) :: TB) ({ frames := 0, cells := 0, slots := 0, locals := 0 }) (va_Pc [.ref q0, .ref pq_0] (PR dC dI (TW ct L f) (TT ct))) (vp_Si (fun r => True)) 0 0 (fun _ => False) := by
  refine Met.ofW (cc := b_WM_placeInTurns) (maxL := 5) (ret := (some .int)) (by decide) rfl ?_
  intro p e s m args below meth c s₁ B hml hv
  obtain ⟨rfl, hP, hK, hN⟩ := hv
  have hx := B.exec
  have hb := B.bytes
  have hr := B.returns
  have hts := atoms_spec (ws := (.code y_WM_placeInTurns b_WM_placeInTurns 5 (some .int) :: TB)) B.pre
  have htb := fun w (h : w ∈ TB) => hts w (List.mem_cons_of_mem _ h)
  have hown : s.vm.findClass R_WM = some m.cls := findClass_of_methodNamed B.named
  have hlocks := B.notSynchronized
  have hl := lv_entry ([.ref q0, .ref pq_0]) (n := 5) (Nat.le_of_ble_eq_true rfl)
  rw [lg_entry_eq]
  generalize (lg_sl ([.ref q0, .ref pq_0]) ++ List.replicate (5 - (lg_sl ([.ref q0, .ref pq_0])).length) Slot.unset).toArray = ls at hl ⊢
  have hl : lv_has ls 5 [(0, .ref q0), (1, .ref pq_0)] := hl
  refine lv_aload_n hx hb d_WM_placeInTurns_0 rfl (lv_at hl 1 rfl) ?_
  refine tw_geti (D := (dC, dI)) (C := R_Mn) (T := F_Mn) (N := 8) (ci := 2) (kd := 20) (ct := ct) hx hb htb i_Mn hown hK hP hO_0 pm_0 rfl rfl 2 (by decide) (htb (.fieldLink R_WM 145 "WaterMen$Man" "turnStairs" "I") tw_33) (fun _ h9 => h9) rfl d_WM_placeInTurns_1 (fun x_1 e_1 b_1 => ?_)
  refine lv_iconst (v := (-1)) hx hb d_WM_placeInTurns_4 (by decide +kernel) ?_
  refine lv_icmp_ne (tgt := 10) hx hb d_WM_placeInTurns_5 (by decide) (fun c_2 => ?_) (fun c_2 => ?_)
  · refine lv_iconst (v := 0) hx hb d_WM_placeInTurns_10 (by decide +kernel) ?_
    refine lv_istore_n (lv' := [(2, .int 0), (0, .ref q0), (1, .ref pq_0)]) hx hb d_WM_placeInTurns_11 rfl hl (by decide) rfl (fun ls hl => ?_)
    refine lv_iconst (v := 0) hx hb d_WM_placeInTurns_12 (by decide +kernel) ?_
    refine lv_istore_n (lv' := [(3, .int 0), (2, .int 0), (0, .ref q0), (1, .ref pq_0)]) hx hb d_WM_placeInTurns_13 rfl hl (by decide) rfl (fun ls hl => ?_)
    have cut_3 : ∀ (n_3 : Nat) (v2_3 v3_3 : Int32) (ls : Array Slot), ¬ (v3_3 < 0) → ¬ (40 < v3_3) → (40 : Int32).toInt - (v3_3 : Int32).toInt ≤ (n_3 : Int) → lv_has ls 5 [(0, .ref q0), (1, .ref pq_0), (2, .int v2_3), (3, .int v3_3)] → W p l e (headSpec (.code y_WM_placeInTurns b_WM_placeInTurns 5 (some .int) :: TB) ({ frames := 0, cells := 0, slots := 0, locals := 0 })).room s m [.ref q0, .ref pq_0].toArray below meth c s.heap [] 0 0 (MQ below (vp_Si (fun r => True)) [.ref q0, .ref pq_0].toArray s 0 0 (fun _ => False)) (F0 m 14 ls []) := by
      intro n_3
      induction n_3 using Nat.strongRecOn with
      | _ n_3 ih_3 =>
        intro v2_3 v3_3 ls iv0_3 iv1_3 hm_3 hl
        refine lv_iload_n hx hb d_WM_placeInTurns_14 rfl (lv_at hl 3 rfl) ?_
        refine lv_bipush (v := 40) hx hb d_WM_placeInTurns_15 (by decide +kernel) ?_
        refine lv_icmp_ge (tgt := 66) hx hb d_WM_placeInTurns_17 (by decide) (fun c_4 => ?_) (fun c_4 => ?_)
        · refine lv_iload_n hx hb d_WM_placeInTurns_66 rfl (lv_at hl 2 rfl) ?_
          exact W.iret (v := v2_3) hx hb hr (fun t ht hW => ⟨v2_3, rfl, trivial, ht⟩) t_nil d_WM_placeInTurns_67
        · refine lv_aload_n hx hb d_WM_placeInTurns_20 rfl (lv_at hl 0 rfl) ?_
          refine tw_getr (D := (dC, dI)) (C := R_WM) (T := F_WM) (N := 13) (ci := 0) (kd := 0) (ct := ct) hx hb htb i_WM hown hK hP hO_0 m0 rfl rfl 1 (by decide) (htb (.fieldLink R_WM 18 "WaterMen" "men" "[LWaterMen$Man;") tw_24) (fun _ h9 => h9) rfl d_WM_placeInTurns_21 (fun q_5 e_5 m_5 => ?_)
          refine lv_iload_n hx hb d_WM_placeInTurns_24 rfl (lv_at hl 3 rfl) ?_
          refine tw_aldq (ct := ct) hx hb hK hP hO_0 m_5 rfl rfl (hb_in iv0_3 c_4 (by decide +kernel)) d_WM_placeInTurns_25 (fun e_6 => ?_) (fun q_6 e_6 m_6 => ?_)
          · refine lv_astoreN (lv' := [(4, .null), (0, .ref q0), (1, .ref pq_0), (2, .int v2_3), (3, .int v3_3)]) hx hb d_WM_placeInTurns_26 hl (by decide) rfl (fun ls hl => ?_)
            refine lv_aloadN hx hb d_WM_placeInTurns_28 (lv_at hl 0 rfl) ?_
            refine lv_ifnullN (tgt := 60) hx hb d_WM_placeInTurns_30 (by decide) ?_
            refine lv_iinc (v := (v3_3 + 1)) (lv' := [(3, .int (v3_3 + 1)), (4, .null), (0, .ref q0), (1, .ref pq_0), (2, .int v2_3)]) hx hb d_WM_placeInTurns_60 hl (k := 4) rfl rfl (by decide) rfl (fun ls hl => ?_)
            refine lv_goto (tgt := 14) hx hb d_WM_placeInTurns_63 (by decide) ?_
            exact ih_3 (n_3 - 1) (ms_1 ((fun (a_0 : Int32) (k_0 : ¬ (40 ≤ a_0)) => (show 1 ≤ (40 : Int32).toInt - (a_0).toInt ∧ (40 : Int32).toInt - ((a_0) + (1 : Int32)).toInt + 1 ≤ (40 : Int32).toInt - (a_0).toInt from by have z0 : (1 : Int32).toInt = 1 := (by decide +kernel); have z1 : (40 : Int32).toInt = 40 := (by decide +kernel); have r0 := fb_rng (a_0); have e0 := k_0; rw [Int32.le_iff_toInt_le, z1] at e0; obtain ⟨n_0, hn_0, s0⟩ := nd_add (x := (a_0)) (y := (1 : Int32)) (by (try rw [z0]); omega) (by (try rw [z0]); omega); rw [z0] at s0; rw [hn_0]; (try rw [z1]); omega)) v3_3 c_4) hm_3) v2_3 (v3_3 + 1) _ (show ¬ ((v3_3 + 1) < 0) from by have e0 := iv0_3; rw [Int32.lt_iff_toInt_lt] at e0; have e1 := c_4; rw [Int32.le_iff_toInt_le] at e1; have z0 : (0 : Int32).toInt = 0 := (by decide +kernel); have z1 : (1 : Int32).toInt = 1 := (by decide +kernel); have z2 : (40 : Int32).toInt = 40 := (by decide +kernel); have ss := fb_addI (x := v3_3) (y := 1) (by omega) (by omega); rw [Int32.lt_iff_toInt_lt]; omega) (show ¬ (40 < (v3_3 + 1)) from by have e0 := iv0_3; rw [Int32.lt_iff_toInt_lt] at e0; have e1 := c_4; rw [Int32.le_iff_toInt_le] at e1; have z0 : (0 : Int32).toInt = 0 := (by decide +kernel); have z1 : (1 : Int32).toInt = 1 := (by decide +kernel); have z2 : (40 : Int32).toInt = 40 := (by decide +kernel); have ss := fb_addI (x := v3_3) (y := 1) (by omega) (by omega); rw [Int32.lt_iff_toInt_lt]; omega) (by exact ms_2 ((fun (a_0 : Int32) (k_0 : ¬ (40 ≤ a_0)) => (show 1 ≤ (40 : Int32).toInt - (a_0).toInt ∧ (40 : Int32).toInt - ((a_0) + (1 : Int32)).toInt + 1 ≤ (40 : Int32).toInt - (a_0).toInt from by have z0 : (1 : Int32).toInt = 1 := (by decide +kernel); have z1 : (40 : Int32).toInt = 40 := (by decide +kernel); have r0 := fb_rng (a_0); have e0 := k_0; rw [Int32.le_iff_toInt_le, z1] at e0; obtain ⟨n_0, hn_0, s0⟩ := nd_add (x := (a_0)) (y := (1 : Int32)) (by (try rw [z0]); omega) (by (try rw [z0]); omega); rw [z0] at s0; rw [hn_0]; (try rw [z1]); omega)) v3_3 c_4) hm_3) (lv_sub hl [2, 3, 4, 0] rfl)
          · refine lv_astore (lv' := [(4, .ref q_6), (0, .ref q0), (1, .ref pq_0), (2, .int v2_3), (3, .int v3_3)]) hx hb d_WM_placeInTurns_26 hl (by decide) rfl (fun ls hl => ?_)
            refine lv_aload hx hb d_WM_placeInTurns_28 (lv_at hl 0 rfl) ?_
            refine lv_ifnull hx hb d_WM_placeInTurns_30 ?_
            refine lv_aload hx hb d_WM_placeInTurns_33 (lv_at hl 0 rfl) ?_
            refine tw_geti (D := (dC, dI)) (C := R_Mn) (T := F_Mn) (N := 8) (ci := 2) (kd := 20) (ct := ct) hx hb htb i_Mn hown hK hP hO_0 m_6 rfl rfl 2 (by decide) (htb (.fieldLink R_WM 145 "WaterMen$Man" "turnStairs" "I") tw_33) (fun _ h9 => h9) rfl d_WM_placeInTurns_35 (fun x_7 e_7 b_7 => ?_)
            refine lv_aload_n hx hb d_WM_placeInTurns_38 rfl (lv_at hl 2 rfl) ?_
            refine tw_getI (x := x_1) (D := (dC, dI)) (C := R_Mn) (T := F_Mn) (N := 8) (ci := 2) (kd := 20) (ct := ct) hx hb htb i_Mn hown hK hP pm_0 rfl rfl 2 e_1 (by decide) (htb (.fieldLink R_WM 145 "WaterMen$Man" "turnStairs" "I") tw_33) (fun _ h9 => h9) rfl d_WM_placeInTurns_39 ?_
            refine lv_icmp_ne (tgt := 60) hx hb d_WM_placeInTurns_42 (by decide) (fun c_8 => ?_) (fun c_8 => ?_)
            · refine lv_iinc (v := (v3_3 + 1)) (lv' := [(3, .int (v3_3 + 1)), (4, .ref q_6), (0, .ref q0), (1, .ref pq_0), (2, .int v2_3)]) hx hb d_WM_placeInTurns_60 hl (k := 4) rfl rfl (by decide) rfl (fun ls hl => ?_)
              refine lv_goto (tgt := 14) hx hb d_WM_placeInTurns_63 (by decide) ?_
              exact ih_3 (n_3 - 1) (ms_1 ((fun (a_0 : Int32) (k_0 : ¬ (40 ≤ a_0)) => (show 1 ≤ (40 : Int32).toInt - (a_0).toInt ∧ (40 : Int32).toInt - ((a_0) + (1 : Int32)).toInt + 1 ≤ (40 : Int32).toInt - (a_0).toInt from by have z0 : (1 : Int32).toInt = 1 := (by decide +kernel); have z1 : (40 : Int32).toInt = 40 := (by decide +kernel); have r0 := fb_rng (a_0); have e0 := k_0; rw [Int32.le_iff_toInt_le, z1] at e0; obtain ⟨n_0, hn_0, s0⟩ := nd_add (x := (a_0)) (y := (1 : Int32)) (by (try rw [z0]); omega) (by (try rw [z0]); omega); rw [z0] at s0; rw [hn_0]; (try rw [z1]); omega)) v3_3 c_4) hm_3) v2_3 (v3_3 + 1) _ (show ¬ ((v3_3 + 1) < 0) from by have e0 := iv0_3; rw [Int32.lt_iff_toInt_lt] at e0; have e1 := c_4; rw [Int32.le_iff_toInt_le] at e1; have z0 : (0 : Int32).toInt = 0 := (by decide +kernel); have z1 : (1 : Int32).toInt = 1 := (by decide +kernel); have z2 : (40 : Int32).toInt = 40 := (by decide +kernel); have ss := fb_addI (x := v3_3) (y := 1) (by omega) (by omega); rw [Int32.lt_iff_toInt_lt]; omega) (show ¬ (40 < (v3_3 + 1)) from by have e0 := iv0_3; rw [Int32.lt_iff_toInt_lt] at e0; have e1 := c_4; rw [Int32.le_iff_toInt_le] at e1; have z0 : (0 : Int32).toInt = 0 := (by decide +kernel); have z1 : (1 : Int32).toInt = 1 := (by decide +kernel); have z2 : (40 : Int32).toInt = 40 := (by decide +kernel); have ss := fb_addI (x := v3_3) (y := 1) (by omega) (by omega); rw [Int32.lt_iff_toInt_lt]; omega) (by exact ms_2 ((fun (a_0 : Int32) (k_0 : ¬ (40 ≤ a_0)) => (show 1 ≤ (40 : Int32).toInt - (a_0).toInt ∧ (40 : Int32).toInt - ((a_0) + (1 : Int32)).toInt + 1 ≤ (40 : Int32).toInt - (a_0).toInt from by have z0 : (1 : Int32).toInt = 1 := (by decide +kernel); have z1 : (40 : Int32).toInt = 40 := (by decide +kernel); have r0 := fb_rng (a_0); have e0 := k_0; rw [Int32.le_iff_toInt_le, z1] at e0; obtain ⟨n_0, hn_0, s0⟩ := nd_add (x := (a_0)) (y := (1 : Int32)) (by (try rw [z0]); omega) (by (try rw [z0]); omega); rw [z0] at s0; rw [hn_0]; (try rw [z1]); omega)) v3_3 c_4) hm_3) (lv_sub hl [2, 3, 4, 0] rfl)
            · refine lv_aload hx hb d_WM_placeInTurns_45 (lv_at hl 0 rfl) ?_
              refine tw_geti (D := (dC, dI)) (C := R_Mn) (T := F_Mn) (N := 8) (ci := 2) (kd := 20) (ct := ct) hx hb htb i_Mn hown hK hP hO_0 m_6 rfl rfl 3 (by decide) (htb (.fieldLink R_WM 196 "WaterMen$Man" "turnTicket" "I") tw_34) (fun _ h9 => h9) rfl d_WM_placeInTurns_47 (fun x_9 e_9 b_9 => ?_)
              refine lv_aload_n hx hb d_WM_placeInTurns_50 rfl (lv_at hl 2 rfl) ?_
              refine tw_geti (D := (dC, dI)) (C := R_Mn) (T := F_Mn) (N := 8) (ci := 2) (kd := 20) (ct := ct) hx hb htb i_Mn hown hK hP hO_0 pm_0 rfl rfl 3 (by decide) (htb (.fieldLink R_WM 196 "WaterMen$Man" "turnTicket" "I") tw_34) (fun _ h9 => h9) rfl d_WM_placeInTurns_51 (fun x_10 e_10 b_10 => ?_)
              refine lv_icmp_ge (tgt := 60) hx hb d_WM_placeInTurns_54 (by decide) (fun c_11 => ?_) (fun c_11 => ?_)
              · refine lv_iinc (v := (v3_3 + 1)) (lv' := [(3, .int (v3_3 + 1)), (4, .ref q_6), (0, .ref q0), (1, .ref pq_0), (2, .int v2_3)]) hx hb d_WM_placeInTurns_60 hl (k := 4) rfl rfl (by decide) rfl (fun ls hl => ?_)
                refine lv_goto (tgt := 14) hx hb d_WM_placeInTurns_63 (by decide) ?_
                exact ih_3 (n_3 - 1) (ms_1 ((fun (a_0 : Int32) (k_0 : ¬ (40 ≤ a_0)) => (show 1 ≤ (40 : Int32).toInt - (a_0).toInt ∧ (40 : Int32).toInt - ((a_0) + (1 : Int32)).toInt + 1 ≤ (40 : Int32).toInt - (a_0).toInt from by have z0 : (1 : Int32).toInt = 1 := (by decide +kernel); have z1 : (40 : Int32).toInt = 40 := (by decide +kernel); have r0 := fb_rng (a_0); have e0 := k_0; rw [Int32.le_iff_toInt_le, z1] at e0; obtain ⟨n_0, hn_0, s0⟩ := nd_add (x := (a_0)) (y := (1 : Int32)) (by (try rw [z0]); omega) (by (try rw [z0]); omega); rw [z0] at s0; rw [hn_0]; (try rw [z1]); omega)) v3_3 c_4) hm_3) v2_3 (v3_3 + 1) _ (show ¬ ((v3_3 + 1) < 0) from by have e0 := iv0_3; rw [Int32.lt_iff_toInt_lt] at e0; have e1 := c_4; rw [Int32.le_iff_toInt_le] at e1; have z0 : (0 : Int32).toInt = 0 := (by decide +kernel); have z1 : (1 : Int32).toInt = 1 := (by decide +kernel); have z2 : (40 : Int32).toInt = 40 := (by decide +kernel); have ss := fb_addI (x := v3_3) (y := 1) (by omega) (by omega); rw [Int32.lt_iff_toInt_lt]; omega) (show ¬ (40 < (v3_3 + 1)) from by have e0 := iv0_3; rw [Int32.lt_iff_toInt_lt] at e0; have e1 := c_4; rw [Int32.le_iff_toInt_le] at e1; have z0 : (0 : Int32).toInt = 0 := (by decide +kernel); have z1 : (1 : Int32).toInt = 1 := (by decide +kernel); have z2 : (40 : Int32).toInt = 40 := (by decide +kernel); have ss := fb_addI (x := v3_3) (y := 1) (by omega) (by omega); rw [Int32.lt_iff_toInt_lt]; omega) (by exact ms_2 ((fun (a_0 : Int32) (k_0 : ¬ (40 ≤ a_0)) => (show 1 ≤ (40 : Int32).toInt - (a_0).toInt ∧ (40 : Int32).toInt - ((a_0) + (1 : Int32)).toInt + 1 ≤ (40 : Int32).toInt - (a_0).toInt from by have z0 : (1 : Int32).toInt = 1 := (by decide +kernel); have z1 : (40 : Int32).toInt = 40 := (by decide +kernel); have r0 := fb_rng (a_0); have e0 := k_0; rw [Int32.le_iff_toInt_le, z1] at e0; obtain ⟨n_0, hn_0, s0⟩ := nd_add (x := (a_0)) (y := (1 : Int32)) (by (try rw [z0]); omega) (by (try rw [z0]); omega); rw [z0] at s0; rw [hn_0]; (try rw [z1]); omega)) v3_3 c_4) hm_3) (lv_sub hl [2, 3, 4, 0] rfl)
              · refine lv_iinc (v := (v2_3 + 1)) (lv' := [(2, .int (v2_3 + 1)), (4, .ref q_6), (0, .ref q0), (1, .ref pq_0), (3, .int v3_3)]) hx hb d_WM_placeInTurns_57 hl (k := 3) rfl rfl (by decide) rfl (fun ls hl => ?_)
                refine lv_iinc (v := (v3_3 + 1)) (lv' := [(3, .int (v3_3 + 1)), (2, .int (v2_3 + 1)), (4, .ref q_6), (0, .ref q0), (1, .ref pq_0)]) hx hb d_WM_placeInTurns_60 hl (k := 4) rfl rfl (by decide) rfl (fun ls hl => ?_)
                refine lv_goto (tgt := 14) hx hb d_WM_placeInTurns_63 (by decide) ?_
                exact ih_3 (n_3 - 1) (ms_1 ((fun (a_0 : Int32) (k_0 : ¬ (40 ≤ a_0)) => (show 1 ≤ (40 : Int32).toInt - (a_0).toInt ∧ (40 : Int32).toInt - ((a_0) + (1 : Int32)).toInt + 1 ≤ (40 : Int32).toInt - (a_0).toInt from by have z0 : (1 : Int32).toInt = 1 := (by decide +kernel); have z1 : (40 : Int32).toInt = 40 := (by decide +kernel); have r0 := fb_rng (a_0); have e0 := k_0; rw [Int32.le_iff_toInt_le, z1] at e0; obtain ⟨n_0, hn_0, s0⟩ := nd_add (x := (a_0)) (y := (1 : Int32)) (by (try rw [z0]); omega) (by (try rw [z0]); omega); rw [z0] at s0; rw [hn_0]; (try rw [z1]); omega)) v3_3 c_4) hm_3) (v2_3 + 1) (v3_3 + 1) _ (show ¬ ((v3_3 + 1) < 0) from by have e0 := iv0_3; rw [Int32.lt_iff_toInt_lt] at e0; have e1 := c_4; rw [Int32.le_iff_toInt_le] at e1; have z0 : (0 : Int32).toInt = 0 := (by decide +kernel); have z1 : (1 : Int32).toInt = 1 := (by decide +kernel); have z2 : (40 : Int32).toInt = 40 := (by decide +kernel); have ss := fb_addI (x := v3_3) (y := 1) (by omega) (by omega); rw [Int32.lt_iff_toInt_lt]; omega) (show ¬ (40 < (v3_3 + 1)) from by have e0 := iv0_3; rw [Int32.lt_iff_toInt_lt] at e0; have e1 := c_4; rw [Int32.le_iff_toInt_le] at e1; have z0 : (0 : Int32).toInt = 0 := (by decide +kernel); have z1 : (1 : Int32).toInt = 1 := (by decide +kernel); have z2 : (40 : Int32).toInt = 40 := (by decide +kernel); have ss := fb_addI (x := v3_3) (y := 1) (by omega) (by omega); rw [Int32.lt_iff_toInt_lt]; omega) (by exact ms_2 ((fun (a_0 : Int32) (k_0 : ¬ (40 ≤ a_0)) => (show 1 ≤ (40 : Int32).toInt - (a_0).toInt ∧ (40 : Int32).toInt - ((a_0) + (1 : Int32)).toInt + 1 ≤ (40 : Int32).toInt - (a_0).toInt from by have z0 : (1 : Int32).toInt = 1 := (by decide +kernel); have z1 : (40 : Int32).toInt = 40 := (by decide +kernel); have r0 := fb_rng (a_0); have e0 := k_0; rw [Int32.le_iff_toInt_le, z1] at e0; obtain ⟨n_0, hn_0, s0⟩ := nd_add (x := (a_0)) (y := (1 : Int32)) (by (try rw [z0]); omega) (by (try rw [z0]); omega); rw [z0] at s0; rw [hn_0]; (try rw [z1]); omega)) v3_3 c_4) hm_3) (lv_sub hl [3, 4, 1, 0] rfl)
    exact cut_3 4294967296 (0 : Int32) (0 : Int32) _ (by decide +kernel) (by decide +kernel) (by exact ms_0 _ _) (lv_sub hl [2, 3, 1, 0] rfl)
  · refine lv_iconst (v := (-1)) hx hb d_WM_placeInTurns_8 (by decide +kernel) ?_
    exact W.iret (v := (-1)) hx hb hr (fun t ht hW => ⟨(-1), rfl, trivial, ht⟩) t_nil d_WM_placeInTurns_9
set_option maxHeartbeats 4000000 in
set_option maxRecDepth 100000 in
theorem c_Mn_isOnWay_t (l : Launch) (dC : Nat → ClassId) (dI : Nat → Nat → Nat) (ct : Nat → ClassId) (L : List Nat) (f : TF) (hO_0 : Ok L f) (q0 : Nat) (m0 : q0 ∈ L ∧ tk f q0 = 20) (p_0 : Int32)   : Met l y_Mn_isOnWay (.code y_Mn_isOnWay b_Mn_isOnWay 2 (some .boolean) :: TB) ({ frames := 0, cells := 0, slots := 0, locals := 0 }) (va_Pc [.ref q0, .int p_0] (PR dC dI (TW ct L f) (TT ct))) (vp_Si (fun r => (r = 0 ∧ True) ∨ (r = 1 ∧ True))) 0 0 (fun _ => False) := by
  refine Met.ofW (cc := b_Mn_isOnWay) (maxL := 2) (ret := (some .boolean)) (by decide) rfl ?_
  intro p e s m args below meth c s₁ B hml hv
  obtain ⟨rfl, hP, hK, hN⟩ := hv
  have hx := B.exec
  have hb := B.bytes
  have hr := B.returns
  have hts := atoms_spec (ws := (.code y_Mn_isOnWay b_Mn_isOnWay 2 (some .boolean) :: TB)) B.pre
  have htb := fun w (h : w ∈ TB) => hts w (List.mem_cons_of_mem _ h)
  have hown : s.vm.findClass R_Mn = some m.cls := findClass_of_methodNamed B.named
  have hlocks := B.notSynchronized
  have hl := lv_entry ([.ref q0, .int p_0]) (n := 2) (Nat.le_of_ble_eq_true rfl)
  rw [lg_entry_eq]
  generalize (lg_sl ([.ref q0, .int p_0]) ++ List.replicate (2 - (lg_sl ([.ref q0, .int p_0])).length) Slot.unset).toArray = ls at hl ⊢
  have hl : lv_has ls 2 [(0, .ref q0), (1, .int p_0)] := hl
  refine lv_iload_n hx hb d_Mn_isOnWay_0 rfl (lv_at hl 1 rfl) ?_
  refine lv_aload_n hx hb d_Mn_isOnWay_1 rfl (lv_at hl 0 rfl) ?_
  refine tw_geti (D := (dC, dI)) (C := R_Mn) (T := F_Mn) (N := 8) (ci := 2) (kd := 20) (ct := ct) hx hb htb i_Mn hown hK hP hO_0 m0 rfl rfl 5 (by decide) (htb (.fieldLink R_Mn 21 "WaterMen$Man" "busyUntil" "I") tw_41) (fun _ h9 => h9) rfl d_Mn_isOnWay_2 (fun x_1 e_1 b_1 => ?_)
  refine lv_icmp_ge (tgt := 12) hx hb d_Mn_isOnWay_5 (by decide) (fun c_2 => ?_) (fun c_2 => ?_)
  · refine lv_iconst (v := 0) hx hb d_Mn_isOnWay_12 (by decide +kernel) ?_
    exact W.zret (v := 0) hx hb hr (by decide +kernel) (fun t ht hW => ⟨0, rfl, (Or.inl ⟨rfl, trivial⟩), ht⟩) t_nil d_Mn_isOnWay_13
  · refine lv_iconst (v := 1) hx hb d_Mn_isOnWay_8 (by decide +kernel) ?_
    refine lv_goto (tgt := 13) hx hb d_Mn_isOnWay_9 (by decide) ?_
    exact W.zret (v := 1) hx hb hr (by decide +kernel) (fun t ht hW => ⟨1, rfl, (Or.inr ⟨rfl, trivial⟩), ht⟩) t_nil d_Mn_isOnWay_13
set_option maxHeartbeats 4000000 in
set_option maxRecDepth 100000 in
theorem c_WM_man_t (l : Launch) (dC : Nat → ClassId) (dI : Nat → Nat → Nat) (ct : Nat → ClassId) (L : List Nat) (f : TF) (hO_0 : Ok L f) (q0 : Nat) (m0 : q0 ∈ L ∧ tk f q0 = 0) (p_0 : Int32) (p_1 : Int32)   : Met l y_WM_man (.code y_WM_man b_WM_man 4 (some .int) :: TB) ({ frames := 1, cells := 0, slots := 0, locals := 24 }) (va_Pc [.ref q0, .int p_0, .int p_1] (PR dC dI (TW ct L f) (TT ct))) (vp_Si (fun r => True)) 0 0 (fun _ => False) := by
  refine Met.ofW (cc := b_WM_man) (maxL := 4) (ret := (some .int)) (by decide) rfl ?_
  intro p e s m args below meth c s₁ B hml hv
  obtain ⟨rfl, hP, hK, hN⟩ := hv
  have hx := B.exec
  have hb := B.bytes
  have hr := B.returns
  have hts := atoms_spec (ws := (.code y_WM_man b_WM_man 4 (some .int) :: TB)) B.pre
  have htb := fun w (h : w ∈ TB) => hts w (List.mem_cons_of_mem _ h)
  have hown : s.vm.findClass R_WM = some m.cls := findClass_of_methodNamed B.named
  have hlocks := B.notSynchronized
  have hl := lv_entry ([.ref q0, .int p_0, .int p_1]) (n := 4) (Nat.le_of_ble_eq_true rfl)
  rw [lg_entry_eq]
  generalize (lg_sl ([.ref q0, .int p_0, .int p_1]) ++ List.replicate (4 - (lg_sl ([.ref q0, .int p_0, .int p_1])).length) Slot.unset).toArray = ls at hl ⊢
  have hl : lv_has ls 4 [(0, .ref q0), (1, .int p_0), (2, .int p_1)] := hl
  refine lv_aload_n hx hb d_WM_man_0 rfl (lv_at hl 0 rfl) ?_
  refine lv_iload_n hx hb d_WM_man_1 rfl (lv_at hl 1 rfl) ?_
  refine va_csq (va_Run.run (va_runV (As := [.int p_0]) (rest := []) ⟨hx, hb, hml, hown, htb⟩ (c_WM_manAt_t l dC dI ct L f hO_0 q0 m0 p_0) (cwV 1 htb (gd_V tw_27 tw_28 tw_29 tw_26 tw_25) rfl rfl rfl (by decide +kernel) ⟨Nat.le_of_ble_eq_true rfl, Nat.le_of_ble_eq_true rfl⟩) ⟨pr_blind, tw_recv hK hP m0 rfl rfl, pr_pre hP hK hN⟩ rfl rfl hl.1 rfl (lv_room (Nat.le_of_ble_eq_true rfl)) d_WM_man_2 ⟨Nat.le_of_ble_eq_true rfl, Nat.le_of_ble_eq_true rfl⟩)) (fun r_1 er_1 => ?_)
  rcases er_1 with rfl | ⟨q_1, rfl, m_1⟩
  · refine hb_tv .null rfl ?_
    refine lv_astore_nN (lv' := [(3, .null), (0, .ref q0), (1, .int p_0), (2, .int p_1)]) hx hb d_WM_man_5 rfl hl (by decide) rfl (fun ls hl => ?_)
    refine lv_aload_nN hx hb d_WM_man_6 rfl (lv_at hl 0 rfl) ?_
    refine lv_ifnonnullN hx hb d_WM_man_7 ?_
    refine lv_bipush (v := (-2)) hx hb d_WM_man_10 (by decide +kernel) ?_
    exact W.iret (v := (-2)) hx hb hr (fun t ht hW => ⟨(-2), rfl, trivial, ht⟩) t_nil d_WM_man_12
  · refine hb_tv (.ref q_1) rfl ?_
    refine lv_astore_n (lv' := [(3, .ref q_1), (0, .ref q0), (1, .int p_0), (2, .int p_1)]) hx hb d_WM_man_5 rfl hl (by decide) rfl (fun ls hl => ?_)
    refine lv_aload_n hx hb d_WM_man_6 rfl (lv_at hl 0 rfl) ?_
    refine lv_ifnonnull (tgt := 13) hx hb d_WM_man_7 (by decide) ?_
    refine lv_iload_n hx hb d_WM_man_13 rfl (lv_at hl 3 rfl) ?_
    by_cases c_2 : p_1 = 0
    · refine lv_tableIn (off := 42) (tgt := 56) hx hb d_WM_man_14 (by rw [c_2]; decide +kernel) (by rw [c_2]; decide +kernel) (by rw [c_2]; decide +kernel) (by decide) ?_
      refine lv_aload_n hx hb d_WM_man_56 rfl (lv_at hl 0 rfl) ?_
      refine tw_geti (D := (dC, dI)) (C := R_Mn) (T := F_Mn) (N := 8) (ci := 2) (kd := 20) (ct := ct) hx hb htb i_Mn hown hK hP hO_0 m_1 rfl rfl 0 (by decide) (htb (.fieldLink R_WM 111 "WaterMen$Man" "state" "I") tw_30) (fun _ h9 => h9) rfl d_WM_man_57 (fun x_3 e_3 b_3 => ?_)
      exact W.iret (v := x_3) hx hb hr (fun t ht hW => ⟨x_3, rfl, trivial, ht⟩) t_nil d_WM_man_60
    · by_cases c_4 : p_1 = 1
      · refine lv_tableIn (off := 47) (tgt := 61) hx hb d_WM_man_14 (by rw [c_4]; decide +kernel) (by rw [c_4]; decide +kernel) (by rw [c_4]; decide +kernel) (by decide) ?_
        refine lv_aload_n hx hb d_WM_man_61 rfl (lv_at hl 0 rfl) ?_
        refine tw_getq (D := (dC, dI)) (C := R_Mn) (T := F_Mn) (N := 8) (ci := 2) (kd := 20) (ct := ct) hx hb htb i_Mn hown hK hP hO_0 m_1 rfl rfl 1 (by decide) (htb (.fieldLink R_WM 119 "WaterMen$Man" "bond" "LWaterMen$Bond;") tw_31) (fun _ h9 => h9) rfl d_WM_man_62 (fun e_5 => ?_) (fun q_5 e_5 m_5 => ?_)
        · refine lv_ifnullN (tgt := 86) hx hb d_WM_man_65 (by decide) ?_
          refine lv_iconst (v := (-1)) hx hb d_WM_man_86 (by decide +kernel) ?_
          exact W.iret (v := (-1)) hx hb hr (fun t ht hW => ⟨(-1), rfl, trivial, ht⟩) t_nil d_WM_man_87
        · refine lv_ifnull hx hb d_WM_man_65 ?_
          refine lv_aload_n hx hb d_WM_man_68 rfl (lv_at hl 0 rfl) ?_
          refine tw_geti (D := (dC, dI)) (C := R_Mn) (T := F_Mn) (N := 8) (ci := 2) (kd := 20) (ct := ct) hx hb htb i_Mn hown hK hP hO_0 m_1 rfl rfl 0 (by decide) (htb (.fieldLink R_WM 111 "WaterMen$Man" "state" "I") tw_30) (fun _ h9 => h9) rfl d_WM_man_69 (fun x_6 e_6 b_6 => ?_)
          refine lv_iconst (v := 1) hx hb d_WM_man_72 (by decide +kernel) ?_
          refine lv_icmp_ne (tgt := 86) hx hb d_WM_man_73 (by decide) (fun c_7 => ?_) (fun c_7 => ?_)
          · refine lv_iconst (v := (-1)) hx hb d_WM_man_86 (by decide +kernel) ?_
            exact W.iret (v := (-1)) hx hb hr (fun t ht hW => ⟨(-1), rfl, trivial, ht⟩) t_nil d_WM_man_87
          · refine lv_aload_n hx hb d_WM_man_76 rfl (lv_at hl 0 rfl) ?_
            refine tw_getR (D := (dC, dI)) (C := R_Mn) (T := F_Mn) (N := 8) (ci := 2) (kd := 20) (ct := ct) hx hb htb i_Mn hown hK hP m_1 rfl rfl 1 e_5 (by decide) (htb (.fieldLink R_WM 119 "WaterMen$Man" "bond" "LWaterMen$Bond;") tw_31) (fun _ h9 => h9) rfl d_WM_man_77 ?_
            refine hb_tv (.ref q_5) rfl ?_
            refine tw_geti (D := (dC, dI)) (C := R_Bd) (T := F_Bd) (N := 5) (ci := 8) (kd := 21) (ct := ct) hx hb htb i_Bd hown hK hP hO_0 m_5 rfl rfl 0 (by decide) (htb (.fieldLink R_WM 142 "WaterMen$Bond" "master" "I") tw_32) (fun _ h9 => h9) rfl d_WM_man_80 (fun x_8 e_8 b_8 => ?_)
            refine lv_goto (tgt := 87) hx hb d_WM_man_83 (by decide) ?_
            exact W.iret (v := x_8) hx hb hr (fun t ht hW => ⟨x_8, rfl, trivial, ht⟩) t_nil d_WM_man_87
      · by_cases c_9 : p_1 = 2
        · refine lv_tableIn (off := 74) (tgt := 88) hx hb d_WM_man_14 (by rw [c_9]; decide +kernel) (by rw [c_9]; decide +kernel) (by rw [c_9]; decide +kernel) (by decide) ?_
          refine lv_aload_n hx hb d_WM_man_88 rfl (lv_at hl 0 rfl) ?_
          refine tw_geti (D := (dC, dI)) (C := R_Mn) (T := F_Mn) (N := 8) (ci := 2) (kd := 20) (ct := ct) hx hb htb i_Mn hown hK hP hO_0 m_1 rfl rfl 2 (by decide) (htb (.fieldLink R_WM 145 "WaterMen$Man" "turnStairs" "I") tw_33) (fun _ h9 => h9) rfl d_WM_man_89 (fun x_10 e_10 b_10 => ?_)
          exact W.iret (v := x_10) hx hb hr (fun t ht hW => ⟨x_10, rfl, trivial, ht⟩) t_nil d_WM_man_92
        · by_cases c_11 : p_1 = 3
          · refine lv_tableIn (off := 79) (tgt := 93) hx hb d_WM_man_14 (by rw [c_11]; decide +kernel) (by rw [c_11]; decide +kernel) (by rw [c_11]; decide +kernel) (by decide) ?_
            refine lv_aload_n hx hb d_WM_man_93 rfl (lv_at hl 1 rfl) ?_
            refine lv_aload_n hx hb d_WM_man_94 rfl (lv_at hl 0 rfl) ?_
            refine vp_callSi (va_Run.run (va_runV (As := [.ref q_1]) (rest := []) ⟨hx, hb, hml, hown, htb⟩ (c_WM_placeInTurns_t l dC dI ct L f hO_0 q0 m0 q_1 m_1) (cwV 1 htb (gd_V tw_36 tw_37 tw_38 tw_26 tw_35) rfl rfl rfl (by decide +kernel) ⟨Nat.le_of_ble_eq_true rfl, Nat.le_of_ble_eq_true rfl⟩) ⟨pr_blind, tw_recv hK hP m0 rfl rfl, pr_pre hP hK hN⟩ rfl rfl hl.1 rfl (lv_room (Nat.le_of_ble_eq_true rfl)) d_WM_man_95 ⟨Nat.le_of_ble_eq_true rfl, Nat.le_of_ble_eq_true rfl⟩)) (fun r_12 er_12 => ?_)
            clear er_12
            exact W.iret (v := r_12) hx hb hr (fun t ht hW => ⟨r_12, rfl, trivial, ht⟩) t_nil d_WM_man_98
          · by_cases c_13 : p_1 = 4
            · refine lv_tableIn (off := 85) (tgt := 99) hx hb d_WM_man_14 (by rw [c_13]; decide +kernel) (by rw [c_13]; decide +kernel) (by rw [c_13]; decide +kernel) (by decide) ?_
              refine lv_aload_n hx hb d_WM_man_99 rfl (lv_at hl 0 rfl) ?_
              refine tw_geti (D := (dC, dI)) (C := R_Mn) (T := F_Mn) (N := 8) (ci := 2) (kd := 20) (ct := ct) hx hb htb i_Mn hown hK hP hO_0 m_1 rfl rfl 4 (by decide) (htb (.fieldLink R_WM 152 "WaterMen$Man" "coins" "I") tw_39) (fun _ h9 => h9) rfl d_WM_man_100 (fun x_14 e_14 b_14 => ?_)
              exact W.iret (v := x_14) hx hb hr (fun t ht hW => ⟨x_14, rfl, trivial, ht⟩) t_nil d_WM_man_103
            · by_cases c_15 : p_1 = 5
              · refine lv_tableIn (off := 90) (tgt := 104) hx hb d_WM_man_14 (by rw [c_15]; decide +kernel) (by rw [c_15]; decide +kernel) (by rw [c_15]; decide +kernel) (by decide) ?_
                refine lv_aload_n hx hb d_WM_man_104 rfl (lv_at hl 0 rfl) ?_
                refine lv_aload_n hx hb d_WM_man_105 rfl (lv_at hl 1 rfl) ?_
                refine tw_geti (D := (dC, dI)) (C := R_WM) (T := F_WM) (N := 13) (ci := 0) (kd := 0) (ct := ct) hx hb htb i_WM hown hK hP hO_0 m0 rfl rfl 10 (by decide) (htb (.fieldLink R_WM 155 "WaterMen" "now" "I") tw_40) (fun _ h9 => h9) rfl d_WM_man_106 (fun x_16 e_16 b_16 => ?_)
                refine vp_callSi (va_Run.run (va_runV (As := [.int x_16]) (rest := []) ⟨hx, hb, hml, hown, htb⟩ (c_Mn_isOnWay_t l dC dI ct L f hO_0 q_1 m_1 x_16) (cwV 1 htb (gd_V tw_44 tw_45 tw_46 tw_43 tw_42) rfl rfl rfl (by decide +kernel) ⟨Nat.le_of_ble_eq_true rfl, Nat.le_of_ble_eq_true rfl⟩) ⟨pr_blind, tw_recv hK hP m_1 rfl rfl, pr_pre hP hK hN⟩ rfl rfl hl.1 rfl (lv_room (Nat.le_of_ble_eq_true rfl)) d_WM_man_109 ⟨Nat.le_of_ble_eq_true rfl, Nat.le_of_ble_eq_true rfl⟩)) (fun r_17 er_17 => ?_)
                rcases er_17 with ⟨rfl, -⟩ | ⟨rfl, -⟩
                · refine lv_if_eq (tgt := 119) hx hb d_WM_man_112 (by decide) (fun _ => ?_) (fun h => absurd (by decide +kernel) h)
                  refine lv_iconst (v := 0) hx hb d_WM_man_119 (by decide +kernel) ?_
                  exact W.iret (v := 0) hx hb hr (fun t ht hW => ⟨0, rfl, trivial, ht⟩) t_nil d_WM_man_120
                · refine lv_if_eq (tgt := 119) hx hb d_WM_man_112 (by decide) (fun h => absurd h (by decide +kernel)) (fun _ => ?_)
                  refine lv_iconst (v := 1) hx hb d_WM_man_115 (by decide +kernel) ?_
                  refine lv_goto (tgt := 120) hx hb d_WM_man_116 (by decide) ?_
                  exact W.iret (v := 1) hx hb hr (fun t ht hW => ⟨1, rfl, trivial, ht⟩) t_nil d_WM_man_120
              · by_cases c_18 : p_1 = 6
                · refine lv_tableIn (off := 107) (tgt := 121) hx hb d_WM_man_14 (by rw [c_18]; decide +kernel) (by rw [c_18]; decide +kernel) (by rw [c_18]; decide +kernel) (by decide) ?_
                  refine lv_aload_n hx hb d_WM_man_121 rfl (lv_at hl 0 rfl) ?_
                  refine tw_geti (D := (dC, dI)) (C := R_Mn) (T := F_Mn) (N := 8) (ci := 2) (kd := 20) (ct := ct) hx hb htb i_Mn hown hK hP hO_0 m_1 rfl rfl 6 (by decide) (htb (.fieldLink R_WM 161 "WaterMen$Man" "tripCount" "I") tw_47) (fun _ h9 => h9) rfl d_WM_man_122 (fun x_19 e_19 b_19 => ?_)
                  exact W.iret (v := x_19) hx hb hr (fun t ht hW => ⟨x_19, rfl, trivial, ht⟩) t_nil d_WM_man_125
                · refine lv_tableOut (tgt := 126) hx hb d_WM_man_14 (by have h0 := lv_neT c_2 (show (0 : Int32).toInt = 0 by decide +kernel); have h1 := lv_neT c_4 (show (1 : Int32).toInt = 1 by decide +kernel); have h2 := lv_neT c_9 (show (2 : Int32).toInt = 2 by decide +kernel); have h3 := lv_neT c_11 (show (3 : Int32).toInt = 3 by decide +kernel); have h4 := lv_neT c_13 (show (4 : Int32).toInt = 4 by decide +kernel); have h5 := lv_neT c_15 (show (5 : Int32).toInt = 5 by decide +kernel); have h6 := lv_neT c_18 (show (6 : Int32).toInt = 6 by decide +kernel); omega) (by decide) ?_
                  refine lv_bipush (v := (-2)) hx hb d_WM_man_126 (by decide +kernel) ?_
                  exact W.iret (v := (-2)) hx hb hr (fun t ht hW => ⟨(-2), rfl, trivial, ht⟩) t_nil d_WM_man_128
set_option maxHeartbeats 4000000 in
set_option maxRecDepth 100000 in
theorem c_WM_today_t (l : Launch) (dC : Nat → ClassId) (dI : Nat → Nat → Nat) (ct : Nat → ClassId) (L : List Nat) (f : TF) (hO_0 : Ok L f) (q0 : Nat) (m0 : q0 ∈ L ∧ tk f q0 = 0)    : Met l y_WM_today (.code y_WM_today b_WM_today 1 (some .int) :: TB) ({ frames := 0, cells := 0, slots := 0, locals := 0 }) (va_Pc [.ref q0] (PR dC dI (TW ct L f) (TT ct))) (vp_Si (fun r => (¬ (r < 0) ∧ ¬ (499 < r) ∧ True))) 0 0 (fun _ => False) := by
  refine Met.ofW (cc := b_WM_today) (maxL := 1) (ret := (some .int)) (by decide) rfl ?_
  intro p e s m args below meth c s₁ B hml hv
  obtain ⟨rfl, hP, hK, hN⟩ := hv
  have hx := B.exec
  have hb := B.bytes
  have hr := B.returns
  have hts := atoms_spec (ws := (.code y_WM_today b_WM_today 1 (some .int) :: TB)) B.pre
  have htb := fun w (h : w ∈ TB) => hts w (List.mem_cons_of_mem _ h)
  have hown : s.vm.findClass R_WM = some m.cls := findClass_of_methodNamed B.named
  have hlocks := B.notSynchronized
  have hl := lv_entry ([.ref q0]) (n := 1) (Nat.le_of_ble_eq_true rfl)
  rw [lg_entry_eq]
  generalize (lg_sl ([.ref q0]) ++ List.replicate (1 - (lg_sl ([.ref q0])).length) Slot.unset).toArray = ls at hl ⊢
  have hl : lv_has ls 1 [(0, .ref q0)] := hl
  refine lv_aload_n hx hb d_WM_today_0 rfl (lv_at hl 0 rfl) ?_
  refine tw_geti (D := (dC, dI)) (C := R_WM) (T := F_WM) (N := 13) (ci := 0) (kd := 0) (ct := ct) hx hb htb i_WM hown hK hP hO_0 m0 rfl rfl 10 (by decide) (htb (.fieldLink R_WM 155 "WaterMen" "now" "I") tw_40) (fun _ h9 => h9) rfl d_WM_today_1 (fun x_1 e_1 b_1 => ?_)
  refine lv_sipush (v := 720) hx hb d_WM_today_4 (by decide +kernel) ?_
  refine lv_idiv hx hb d_WM_today_7 (by decide) ?_
  refine hb_divn (U := 359999) (Qm := 499) (c := 720) (C1 := 719) (K := 2147482927) (by decide +kernel) (by decide +kernel) (by decide +kernel) b_1.1 (show ¬ (2147482927 < x_1) from by have e0 := b_1.1; rw [Int32.lt_iff_toInt_lt] at e0; have e1 := b_1.2; rw [Int32.lt_iff_toInt_lt] at e1; have z0 : (0 : Int32).toInt = 0 := (by decide +kernel); have z1 : (359999 : Int32).toInt = 359999 := (by decide +kernel); have z2 : (2147482927 : Int32).toInt = 2147482927 := (by decide +kernel); rw [Int32.lt_iff_toInt_lt]; omega) b_1.2 (by decide +kernel) (fun y_2 g1_2 g2_2 g3_2 g4_2 g5_2 g9_2 => ?_)
  exact W.iret (v := y_2) hx hb hr (fun t ht hW => ⟨y_2, rfl, ⟨g1_2, g5_2, trivial⟩, ht⟩) t_nil d_WM_today_8
set_option maxHeartbeats 4000000 in
set_option maxRecDepth 100000 in
theorem c_Bx_pensionerAt_t (l : Launch) (dC : Nat → ClassId) (dI : Nat → Nat → Nat) (ct : Nat → ClassId) (L : List Nat) (f : TF) (hO_0 : Ok L f) (q0 : Nat) (m0 : q0 ∈ L ∧ tk f q0 = 12) (p_0 : Int32)   : Met l y_Bx_pensionerAt (.code y_Bx_pensionerAt b_Bx_pensionerAt 2 (some (.object "WaterMen$Pensioner")) :: TB) ({ frames := 0, cells := 0, slots := 0, locals := 0 }) (va_Pc [.ref q0, .int p_0] (PR dC dI (TW ct L f) (TT ct))) (va_Sq (fun r => r = none ∨ ∃ b, r = some b ∧ b ∈ L ∧ tk f b = 26)) 0 0 (fun _ => False) := by
  refine Met.ofW (cc := b_Bx_pensionerAt) (maxL := 2) (ret := (some (.object "WaterMen$Pensioner"))) (by decide) rfl ?_
  intro p e s m args below meth c s₁ B hml hv
  obtain ⟨rfl, hP, hK, hN⟩ := hv
  have hx := B.exec
  have hb := B.bytes
  have hr := B.returns
  have hts := atoms_spec (ws := (.code y_Bx_pensionerAt b_Bx_pensionerAt 2 (some (.object "WaterMen$Pensioner")) :: TB)) B.pre
  have htb := fun w (h : w ∈ TB) => hts w (List.mem_cons_of_mem _ h)
  have hown : s.vm.findClass R_Bx = some m.cls := findClass_of_methodNamed B.named
  have hlocks := B.notSynchronized
  have hl := lv_entry ([.ref q0, .int p_0]) (n := 2) (Nat.le_of_ble_eq_true rfl)
  rw [lg_entry_eq]
  generalize (lg_sl ([.ref q0, .int p_0]) ++ List.replicate (2 - (lg_sl ([.ref q0, .int p_0])).length) Slot.unset).toArray = ls at hl ⊢
  have hl : lv_has ls 2 [(0, .ref q0), (1, .int p_0)] := hl
  refine lv_iload_n hx hb d_Bx_pensionerAt_0 rfl (lv_at hl 1 rfl) ?_
  refine lv_if_lt (tgt := 21) hx hb d_Bx_pensionerAt_1 (by decide) (fun c_1 => ?_) (fun c_1 => ?_)
  · refine lv_null hx hb d_Bx_pensionerAt_21 ?_
    exact W.aret (v := .null) (rt := .object "WaterMen$Pensioner") hx hb hr (Or.inl ⟨_, rfl⟩) (Or.inl rfl) (fun t ht hW => ⟨none, rfl, Or.inl rfl, ht⟩) t_nil d_Bx_pensionerAt_22
  · refine lv_iload_n hx hb d_Bx_pensionerAt_4 rfl (lv_at hl 1 rfl) ?_
    refine lv_aload_n hx hb d_Bx_pensionerAt_5 rfl (lv_at hl 0 rfl) ?_
    refine tw_geti (D := (dC, dI)) (C := R_Bx) (T := F_Bx) (N := 7) (ci := 5) (kd := 12) (ct := ct) hx hb htb i_Bx hown hK hP hO_0 m0 rfl rfl 6 (by decide) (htb (.fieldLink R_Bx 29 "WaterMen$Box" "pensionerCount" "I") tw_58) (fun _ h9 => h9) rfl d_Bx_pensionerAt_6 (fun x_2 e_2 b_2 => ?_)
    refine lv_icmp_ge (tgt := 21) hx hb d_Bx_pensionerAt_9 (by decide) (fun c_3 => ?_) (fun c_3 => ?_)
    · refine lv_null hx hb d_Bx_pensionerAt_21 ?_
      exact W.aret (v := .null) (rt := .object "WaterMen$Pensioner") hx hb hr (Or.inl ⟨_, rfl⟩) (Or.inl rfl) (fun t ht hW => ⟨none, rfl, Or.inl rfl, ht⟩) t_nil d_Bx_pensionerAt_22
    · refine lv_aload_n hx hb d_Bx_pensionerAt_12 rfl (lv_at hl 0 rfl) ?_
      refine tw_getr (D := (dC, dI)) (C := R_Bx) (T := F_Bx) (N := 7) (ci := 5) (kd := 12) (ct := ct) hx hb htb i_Bx hown hK hP hO_0 m0 rfl rfl 5 (by decide) (htb (.fieldLink R_Bx 17 "WaterMen$Box" "pensioners" "[LWaterMen$Pensioner;") tw_59) (fun _ h9 => h9) rfl d_Bx_pensionerAt_13 (fun q_4 e_4 m_4 => ?_)
      refine lv_iload_n hx hb d_Bx_pensionerAt_16 rfl (lv_at hl 1 rfl) ?_
      refine tw_aldq (ct := ct) hx hb hK hP hO_0 m_4 rfl rfl ((fun (a_0 : Int32) (a_1 : Int32) (k_0 : ¬ (a_0 < 0)) (k_1 : ¬ (a_1 ≤ a_0)) (k_2 : ¬ (30 < a_1)) => (show vp_in (a_0) 30 from by have z0 : (0 : Int32).toInt = 0 := (by decide +kernel); have z1 : (30 : Int32).toInt = 30 := (by decide +kernel); have r0 := fb_rng (a_0); have r1 := fb_rng (a_1); have e0 := k_0; rw [Int32.lt_iff_toInt_lt, z0] at e0; have e1 := k_1; rw [Int32.le_iff_toInt_le] at e1; have e2 := k_2; rw [Int32.lt_iff_toInt_lt, z1] at e2; rw [vp_in_iff]; omega)) p_0 x_2 c_1 c_3 b_2.2) d_Bx_pensionerAt_17 (fun e_5 => ?_) (fun q_5 e_5 m_5 => ?_)
      · refine lv_goto (tgt := 22) hx hb d_Bx_pensionerAt_18 (by decide) ?_
        exact W.aret (v := .null) (rt := .object "WaterMen$Pensioner") hx hb hr (Or.inl ⟨_, rfl⟩) (Or.inl rfl) (fun t ht hW => ⟨none, rfl, Or.inl rfl, ht⟩) t_nil d_Bx_pensionerAt_22
      · refine lv_goto (tgt := 22) hx hb d_Bx_pensionerAt_18 (by decide) ?_
        exact W.aret (v := .ref q_5) (rt := .object "WaterMen$Pensioner") hx hb hr (Or.inl ⟨_, rfl⟩) (Or.inr ⟨_, rfl⟩) (fun t ht hW => ⟨some q_5, rfl, Or.inr ⟨q_5, rfl, m_5⟩, ht⟩) t_nil d_Bx_pensionerAt_22
set_option maxHeartbeats 4000000 in
set_option maxRecDepth 100000 in
theorem c_Bx_owedOn_t (l : Launch) (dC : Nat → ClassId) (dI : Nat → Nat → Nat) (ct : Nat → ClassId) (L : List Nat) (f : TF) (hO_0 : Ok L f) (q0 : Nat) (m0 : q0 ∈ L ∧ tk f q0 = 12) (p_0 : Int32)   : Met l y_Bx_owedOn (.code y_Bx_owedOn b_Bx_owedOn 5 (some .int) :: TB) ({ frames := 1, cells := 0, slots := 0, locals := 21 }) (va_Pc [.ref q0, .int p_0] (PR dC dI (TW ct L f) (TT ct))) (vp_Si (fun r => True)) 0 0 (fun _ => False) := by
  refine Met.ofW (cc := b_Bx_owedOn) (maxL := 5) (ret := (some .int)) (by decide) rfl ?_
  intro p e s m args below meth c s₁ B hml hv
  obtain ⟨rfl, hP, hK, hN⟩ := hv
  have hx := B.exec
  have hb := B.bytes
  have hr := B.returns
  have hts := atoms_spec (ws := (.code y_Bx_owedOn b_Bx_owedOn 5 (some .int) :: TB)) B.pre
  have htb := fun w (h : w ∈ TB) => hts w (List.mem_cons_of_mem _ h)
  have hown : s.vm.findClass R_Bx = some m.cls := findClass_of_methodNamed B.named
  have hlocks := B.notSynchronized
  have hl := lv_entry ([.ref q0, .int p_0]) (n := 5) (Nat.le_of_ble_eq_true rfl)
  rw [lg_entry_eq]
  generalize (lg_sl ([.ref q0, .int p_0]) ++ List.replicate (5 - (lg_sl ([.ref q0, .int p_0])).length) Slot.unset).toArray = ls at hl ⊢
  have hl : lv_has ls 5 [(0, .ref q0), (1, .int p_0)] := hl
  refine lv_iconst (v := 0) hx hb d_Bx_owedOn_0 (by decide +kernel) ?_
  refine lv_istore_n (lv' := [(2, .int 0), (0, .ref q0), (1, .int p_0)]) hx hb d_Bx_owedOn_1 rfl hl (by decide) rfl (fun ls hl => ?_)
  refine lv_iconst (v := 0) hx hb d_Bx_owedOn_2 (by decide +kernel) ?_
  refine lv_istore_n (lv' := [(3, .int 0), (2, .int 0), (0, .ref q0), (1, .int p_0)]) hx hb d_Bx_owedOn_3 rfl hl (by decide) rfl (fun ls hl => ?_)
  have cut_1 : ∀ (n_1 : Nat) (v2_1 v3_1 : Int32) (ls : Array Slot), ¬ (v3_1 < 0) → ¬ (30 < v3_1) → (30 : Int32).toInt - (v3_1 : Int32).toInt ≤ (n_1 : Int) → lv_has ls 5 [(0, .ref q0), (1, .int p_0), (2, .int v2_1), (3, .int v3_1)] → W p l e (headSpec (.code y_Bx_owedOn b_Bx_owedOn 5 (some .int) :: TB) ({ frames := 1, cells := 0, slots := 0, locals := 21 })).room s m [.ref q0, .int p_0].toArray below meth c s.heap [] 0 0 (MQ below (vp_Si (fun r => True)) [.ref q0, .int p_0].toArray s 0 0 (fun _ => False)) (F0 m 4 ls []) := by
    intro n_1
    induction n_1 using Nat.strongRecOn with
    | _ n_1 ih_1 =>
      intro v2_1 v3_1 ls iv0_1 iv1_1 hm_1 hl
      refine lv_iload_n hx hb d_Bx_owedOn_4 rfl (lv_at hl 3 rfl) ?_
      refine lv_aload_n hx hb d_Bx_owedOn_5 rfl (lv_at hl 0 rfl) ?_
      refine tw_geti (D := (dC, dI)) (C := R_Bx) (T := F_Bx) (N := 7) (ci := 5) (kd := 12) (ct := ct) hx hb htb i_Bx hown hK hP hO_0 m0 rfl rfl 6 (by decide) (htb (.fieldLink R_Bx 29 "WaterMen$Box" "pensionerCount" "I") tw_58) (fun _ h9 => h9) rfl d_Bx_owedOn_6 (fun x_2 e_2 b_2 => ?_)
      refine lv_icmp_ge (tgt := 47) hx hb d_Bx_owedOn_9 (by decide) (fun c_3 => ?_) (fun c_3 => ?_)
      · refine lv_iload_n hx hb d_Bx_owedOn_47 rfl (lv_at hl 2 rfl) ?_
        exact W.iret (v := v2_1) hx hb hr (fun t ht hW => ⟨v2_1, rfl, trivial, ht⟩) t_nil d_Bx_owedOn_48
      · refine lv_aload_n hx hb d_Bx_owedOn_12 rfl (lv_at hl 0 rfl) ?_
        refine lv_iload_n hx hb d_Bx_owedOn_13 rfl (lv_at hl 3 rfl) ?_
        refine va_csq (va_Run.run (va_runV (As := [.int v3_1]) (rest := []) ⟨hx, hb, hml, hown, htb⟩ (c_Bx_pensionerAt_t l dC dI ct L f hO_0 q0 m0 v3_1) (cwV 1 htb (gd_V tw_62 tw_63 tw_64 tw_61 tw_60) rfl rfl rfl (by decide +kernel) ⟨Nat.le_of_ble_eq_true rfl, Nat.le_of_ble_eq_true rfl⟩) ⟨pr_blind, tw_recv hK hP m0 rfl rfl, pr_pre hP hK hN⟩ rfl rfl hl.1 rfl (lv_room (Nat.le_of_ble_eq_true rfl)) d_Bx_owedOn_14 ⟨Nat.le_of_ble_eq_true rfl, Nat.le_of_ble_eq_true rfl⟩)) (fun r_4 er_4 => ?_)
        rcases er_4 with rfl | ⟨q_4, rfl, m_4⟩
        · refine hb_tv .null rfl ?_
          refine lv_astoreN (lv' := [(4, .null), (0, .ref q0), (1, .int p_0), (2, .int v2_1), (3, .int v3_1)]) hx hb d_Bx_owedOn_17 hl (by decide) rfl (fun ls hl => ?_)
          refine lv_aloadN hx hb d_Bx_owedOn_19 (lv_at hl 0 rfl) ?_
          refine lv_ifnullN (tgt := 41) hx hb d_Bx_owedOn_21 (by decide) ?_
          refine lv_iinc (v := (v3_1 + 1)) (lv' := [(3, .int (v3_1 + 1)), (4, .null), (0, .ref q0), (1, .int p_0), (2, .int v2_1)]) hx hb d_Bx_owedOn_41 hl (k := 4) rfl rfl (by decide) rfl (fun ls hl => ?_)
          refine lv_goto (tgt := 4) hx hb d_Bx_owedOn_44 (by decide) ?_
          exact ih_1 (n_1 - 1) (ms_1 ((fun (a_0 : Int32) (a_1 : Int32) (k_0 : ¬ (a_1 ≤ a_0)) (k_1 : ¬ (30 < a_1)) => (show 1 ≤ (30 : Int32).toInt - (a_0).toInt ∧ (30 : Int32).toInt - ((a_0) + (1 : Int32)).toInt + 1 ≤ (30 : Int32).toInt - (a_0).toInt from by have z0 : (1 : Int32).toInt = 1 := (by decide +kernel); have z1 : (30 : Int32).toInt = 30 := (by decide +kernel); have r0 := fb_rng (a_0); have r1 := fb_rng (a_1); have e0 := k_0; rw [Int32.le_iff_toInt_le] at e0; have e1 := k_1; rw [Int32.lt_iff_toInt_lt, z1] at e1; obtain ⟨n_0, hn_0, s0⟩ := nd_add (x := (a_0)) (y := (1 : Int32)) (by (try rw [z0]); omega) (by (try rw [z0]); omega); rw [z0] at s0; rw [hn_0]; (try rw [z1]); omega)) v3_1 x_2 c_3 b_2.2) hm_1) v2_1 (v3_1 + 1) _ (show ¬ ((v3_1 + 1) < 0) from by have e0 := iv0_1; rw [Int32.lt_iff_toInt_lt] at e0; have e1 := iv1_1; rw [Int32.lt_iff_toInt_lt] at e1; have z0 : (0 : Int32).toInt = 0 := (by decide +kernel); have z1 : (1 : Int32).toInt = 1 := (by decide +kernel); have z2 : (30 : Int32).toInt = 30 := (by decide +kernel); have ss := fb_addI (x := v3_1) (y := 1) (by omega) (by omega); rw [Int32.lt_iff_toInt_lt]; omega) (show ¬ (30 < (v3_1 + 1)) from ((fun (a_0 : Int32) (a_1 : Int32) (k_0 : ¬ (a_1 ≤ a_0)) (k_1 : ¬ (30 < a_1)) => (show ¬ (30 < (a_0 + 1)) from by have z0 : (1 : Int32).toInt = 1 := (by decide +kernel); have z1 : (30 : Int32).toInt = 30 := (by decide +kernel); have r0 := fb_rng (a_0); have r1 := fb_rng (a_1); have e0 := k_0; rw [Int32.le_iff_toInt_le] at e0; have e1 := k_1; rw [Int32.lt_iff_toInt_lt, z1] at e1; obtain ⟨n_0, hn_0, s0⟩ := nd_add (x := (a_0)) (y := (1 : Int32)) (by (try rw [z0]); omega) (by (try rw [z0]); omega); rw [z0] at s0; rw [hn_0, Int32.lt_iff_toInt_lt, z1]; omega)) v3_1 x_2 c_3 b_2.2)) (by exact ms_2 ((fun (a_0 : Int32) (a_1 : Int32) (k_0 : ¬ (a_1 ≤ a_0)) (k_1 : ¬ (30 < a_1)) => (show 1 ≤ (30 : Int32).toInt - (a_0).toInt ∧ (30 : Int32).toInt - ((a_0) + (1 : Int32)).toInt + 1 ≤ (30 : Int32).toInt - (a_0).toInt from by have z0 : (1 : Int32).toInt = 1 := (by decide +kernel); have z1 : (30 : Int32).toInt = 30 := (by decide +kernel); have r0 := fb_rng (a_0); have r1 := fb_rng (a_1); have e0 := k_0; rw [Int32.le_iff_toInt_le] at e0; have e1 := k_1; rw [Int32.lt_iff_toInt_lt, z1] at e1; obtain ⟨n_0, hn_0, s0⟩ := nd_add (x := (a_0)) (y := (1 : Int32)) (by (try rw [z0]); omega) (by (try rw [z0]); omega); rw [z0] at s0; rw [hn_0]; (try rw [z1]); omega)) v3_1 x_2 c_3 b_2.2) hm_1) (lv_sub hl [2, 3, 4, 0] rfl)
        · refine hb_tv (.ref q_4) rfl ?_
          refine lv_astore (lv' := [(4, .ref q_4), (0, .ref q0), (1, .int p_0), (2, .int v2_1), (3, .int v3_1)]) hx hb d_Bx_owedOn_17 hl (by decide) rfl (fun ls hl => ?_)
          refine lv_aload hx hb d_Bx_owedOn_19 (lv_at hl 0 rfl) ?_
          refine lv_ifnull hx hb d_Bx_owedOn_21 ?_
          refine lv_iload_n hx hb d_Bx_owedOn_24 rfl (lv_at hl 2 rfl) ?_
          refine lv_aload hx hb d_Bx_owedOn_25 (lv_at hl 0 rfl) ?_
          refine tw_geti (D := (dC, dI)) (C := R_Pn) (T := F_Pn) (N := 3) (ci := 6) (kd := 26) (ct := ct) hx hb htb i_Pn hown hK hP hO_0 m_4 rfl rfl 1 (by decide) (htb (.fieldLink R_Bx 39 "WaterMen$Pensioner" "end" "I") tw_65) (fun _ h9 => h9) rfl d_Bx_owedOn_27 (fun x_5 e_5 b_5 => ?_)
          refine lv_icmp_ge (tgt := 41) hx hb d_Bx_owedOn_30 (by decide) (fun c_6 => ?_) (fun c_6 => ?_)
          · refine lv_iinc (v := (v3_1 + 1)) (lv' := [(3, .int (v3_1 + 1)), (4, .ref q_4), (0, .ref q0), (1, .int p_0), (2, .int v2_1)]) hx hb d_Bx_owedOn_41 hl (k := 4) rfl rfl (by decide) rfl (fun ls hl => ?_)
            refine lv_goto (tgt := 4) hx hb d_Bx_owedOn_44 (by decide) ?_
            exact ih_1 (n_1 - 1) (ms_1 ((fun (a_0 : Int32) (a_1 : Int32) (k_0 : ¬ (a_1 ≤ a_0)) (k_1 : ¬ (30 < a_1)) => (show 1 ≤ (30 : Int32).toInt - (a_0).toInt ∧ (30 : Int32).toInt - ((a_0) + (1 : Int32)).toInt + 1 ≤ (30 : Int32).toInt - (a_0).toInt from by have z0 : (1 : Int32).toInt = 1 := (by decide +kernel); have z1 : (30 : Int32).toInt = 30 := (by decide +kernel); have r0 := fb_rng (a_0); have r1 := fb_rng (a_1); have e0 := k_0; rw [Int32.le_iff_toInt_le] at e0; have e1 := k_1; rw [Int32.lt_iff_toInt_lt, z1] at e1; obtain ⟨n_0, hn_0, s0⟩ := nd_add (x := (a_0)) (y := (1 : Int32)) (by (try rw [z0]); omega) (by (try rw [z0]); omega); rw [z0] at s0; rw [hn_0]; (try rw [z1]); omega)) v3_1 x_2 c_3 b_2.2) hm_1) v2_1 (v3_1 + 1) _ (show ¬ ((v3_1 + 1) < 0) from by have e0 := iv0_1; rw [Int32.lt_iff_toInt_lt] at e0; have e1 := iv1_1; rw [Int32.lt_iff_toInt_lt] at e1; have z0 : (0 : Int32).toInt = 0 := (by decide +kernel); have z1 : (1 : Int32).toInt = 1 := (by decide +kernel); have z2 : (30 : Int32).toInt = 30 := (by decide +kernel); have ss := fb_addI (x := v3_1) (y := 1) (by omega) (by omega); rw [Int32.lt_iff_toInt_lt]; omega) (show ¬ (30 < (v3_1 + 1)) from ((fun (a_0 : Int32) (a_1 : Int32) (k_0 : ¬ (a_1 ≤ a_0)) (k_1 : ¬ (30 < a_1)) => (show ¬ (30 < (a_0 + 1)) from by have z0 : (1 : Int32).toInt = 1 := (by decide +kernel); have z1 : (30 : Int32).toInt = 30 := (by decide +kernel); have r0 := fb_rng (a_0); have r1 := fb_rng (a_1); have e0 := k_0; rw [Int32.le_iff_toInt_le] at e0; have e1 := k_1; rw [Int32.lt_iff_toInt_lt, z1] at e1; obtain ⟨n_0, hn_0, s0⟩ := nd_add (x := (a_0)) (y := (1 : Int32)) (by (try rw [z0]); omega) (by (try rw [z0]); omega); rw [z0] at s0; rw [hn_0, Int32.lt_iff_toInt_lt, z1]; omega)) v3_1 x_2 c_3 b_2.2)) (by exact ms_2 ((fun (a_0 : Int32) (a_1 : Int32) (k_0 : ¬ (a_1 ≤ a_0)) (k_1 : ¬ (30 < a_1)) => (show 1 ≤ (30 : Int32).toInt - (a_0).toInt ∧ (30 : Int32).toInt - ((a_0) + (1 : Int32)).toInt + 1 ≤ (30 : Int32).toInt - (a_0).toInt from by have z0 : (1 : Int32).toInt = 1 := (by decide +kernel); have z1 : (30 : Int32).toInt = 30 := (by decide +kernel); have r0 := fb_rng (a_0); have r1 := fb_rng (a_1); have e0 := k_0; rw [Int32.le_iff_toInt_le] at e0; have e1 := k_1; rw [Int32.lt_iff_toInt_lt, z1] at e1; obtain ⟨n_0, hn_0, s0⟩ := nd_add (x := (a_0)) (y := (1 : Int32)) (by (try rw [z0]); omega) (by (try rw [z0]); omega); rw [z0] at s0; rw [hn_0]; (try rw [z1]); omega)) v3_1 x_2 c_3 b_2.2) hm_1) (lv_sub hl [2, 3, 4, 0] rfl)
          · refine lv_iload_n hx hb d_Bx_owedOn_33 rfl (lv_at hl 3 rfl) ?_
            refine lv_aload hx hb d_Bx_owedOn_34 (lv_at hl 0 rfl) ?_
            refine tw_geti (D := (dC, dI)) (C := R_Pn) (T := F_Pn) (N := 3) (ci := 6) (kd := 26) (ct := ct) hx hb htb i_Pn hown hK hP hO_0 m_4 rfl rfl 0 (by decide) (htb (.fieldLink R_Bx 42 "WaterMen$Pensioner" "pension" "I") tw_66) (fun _ h9 => h9) rfl d_Bx_owedOn_36 (fun x_7 e_7 b_7 => ?_)
            refine lv_iadd hx hb d_Bx_owedOn_39 ?_
            refine lv_istore_n (lv' := [(2, .int (v2_1 + x_7)), (4, .ref q_4), (0, .ref q0), (1, .int p_0), (3, .int v3_1)]) hx hb d_Bx_owedOn_40 rfl hl (by decide) rfl (fun ls hl => ?_)
            refine lv_iinc (v := (v3_1 + 1)) (lv' := [(3, .int (v3_1 + 1)), (2, .int (v2_1 + x_7)), (4, .ref q_4), (0, .ref q0), (1, .int p_0)]) hx hb d_Bx_owedOn_41 hl (k := 4) rfl rfl (by decide) rfl (fun ls hl => ?_)
            refine lv_goto (tgt := 4) hx hb d_Bx_owedOn_44 (by decide) ?_
            exact ih_1 (n_1 - 1) (ms_1 ((fun (a_0 : Int32) (a_1 : Int32) (k_0 : ¬ (a_1 ≤ a_0)) (k_1 : ¬ (30 < a_1)) => (show 1 ≤ (30 : Int32).toInt - (a_0).toInt ∧ (30 : Int32).toInt - ((a_0) + (1 : Int32)).toInt + 1 ≤ (30 : Int32).toInt - (a_0).toInt from by have z0 : (1 : Int32).toInt = 1 := (by decide +kernel); have z1 : (30 : Int32).toInt = 30 := (by decide +kernel); have r0 := fb_rng (a_0); have r1 := fb_rng (a_1); have e0 := k_0; rw [Int32.le_iff_toInt_le] at e0; have e1 := k_1; rw [Int32.lt_iff_toInt_lt, z1] at e1; obtain ⟨n_0, hn_0, s0⟩ := nd_add (x := (a_0)) (y := (1 : Int32)) (by (try rw [z0]); omega) (by (try rw [z0]); omega); rw [z0] at s0; rw [hn_0]; (try rw [z1]); omega)) v3_1 x_2 c_3 b_2.2) hm_1) (v2_1 + x_7) (v3_1 + 1) _ (show ¬ ((v3_1 + 1) < 0) from by have e0 := iv0_1; rw [Int32.lt_iff_toInt_lt] at e0; have e1 := iv1_1; rw [Int32.lt_iff_toInt_lt] at e1; have z0 : (0 : Int32).toInt = 0 := (by decide +kernel); have z1 : (1 : Int32).toInt = 1 := (by decide +kernel); have z2 : (30 : Int32).toInt = 30 := (by decide +kernel); have ss := fb_addI (x := v3_1) (y := 1) (by omega) (by omega); rw [Int32.lt_iff_toInt_lt]; omega) (show ¬ (30 < (v3_1 + 1)) from ((fun (a_0 : Int32) (a_1 : Int32) (k_0 : ¬ (a_1 ≤ a_0)) (k_1 : ¬ (30 < a_1)) => (show ¬ (30 < (a_0 + 1)) from by have z0 : (1 : Int32).toInt = 1 := (by decide +kernel); have z1 : (30 : Int32).toInt = 30 := (by decide +kernel); have r0 := fb_rng (a_0); have r1 := fb_rng (a_1); have e0 := k_0; rw [Int32.le_iff_toInt_le] at e0; have e1 := k_1; rw [Int32.lt_iff_toInt_lt, z1] at e1; obtain ⟨n_0, hn_0, s0⟩ := nd_add (x := (a_0)) (y := (1 : Int32)) (by (try rw [z0]); omega) (by (try rw [z0]); omega); rw [z0] at s0; rw [hn_0, Int32.lt_iff_toInt_lt, z1]; omega)) v3_1 x_2 c_3 b_2.2)) (by exact ms_2 ((fun (a_0 : Int32) (a_1 : Int32) (k_0 : ¬ (a_1 ≤ a_0)) (k_1 : ¬ (30 < a_1)) => (show 1 ≤ (30 : Int32).toInt - (a_0).toInt ∧ (30 : Int32).toInt - ((a_0) + (1 : Int32)).toInt + 1 ≤ (30 : Int32).toInt - (a_0).toInt from by have z0 : (1 : Int32).toInt = 1 := (by decide +kernel); have z1 : (30 : Int32).toInt = 30 := (by decide +kernel); have r0 := fb_rng (a_0); have r1 := fb_rng (a_1); have e0 := k_0; rw [Int32.le_iff_toInt_le] at e0; have e1 := k_1; rw [Int32.lt_iff_toInt_lt, z1] at e1; obtain ⟨n_0, hn_0, s0⟩ := nd_add (x := (a_0)) (y := (1 : Int32)) (by (try rw [z0]); omega) (by (try rw [z0]); omega); rw [z0] at s0; rw [hn_0]; (try rw [z1]); omega)) v3_1 x_2 c_3 b_2.2) hm_1) (lv_sub hl [3, 4, 1, 0] rfl)
  exact cut_1 4294967296 (0 : Int32) (0 : Int32) _ (by decide +kernel) (by decide +kernel) (by exact ms_0 _ _) (lv_sub hl [2, 3, 1, 0] rfl)
set_option maxHeartbeats 4000000 in
set_option maxRecDepth 100000 in
theorem c_Bx_firstShortDay_t (l : Launch) (dC : Nat → ClassId) (dI : Nat → Nat → Nat) (ct : Nat → ClassId) (L : List Nat) (f : TF) (hO_0 : Ok L f) (q0 : Nat) (m0 : q0 ∈ L ∧ tk f q0 = 12) (p_0 : Int32)  (as_0 : ¬ (p_0 < 0)) (as_1 : ¬ (499 < p_0)) : Met l y_Bx_firstShortDay (.code y_Bx_firstShortDay b_Bx_firstShortDay 8 (some .int) :: TB) ({ frames := 2, cells := 0, slots := 0, locals := 45 }) (va_Pc [.ref q0, .int p_0] (PR dC dI (TW ct L f) (TT ct))) (vp_Si (fun r => True)) 0 0 (fun _ => False) := by
  refine Met.ofW (cc := b_Bx_firstShortDay) (maxL := 8) (ret := (some .int)) (by decide) rfl ?_
  intro p e s m args below meth c s₁ B hml hv
  obtain ⟨rfl, hP, hK, hN⟩ := hv
  have hx := B.exec
  have hb := B.bytes
  have hr := B.returns
  have hts := atoms_spec (ws := (.code y_Bx_firstShortDay b_Bx_firstShortDay 8 (some .int) :: TB)) B.pre
  have htb := fun w (h : w ∈ TB) => hts w (List.mem_cons_of_mem _ h)
  have hown : s.vm.findClass R_Bx = some m.cls := findClass_of_methodNamed B.named
  have hlocks := B.notSynchronized
  have hl := lv_entry ([.ref q0, .int p_0]) (n := 8) (Nat.le_of_ble_eq_true rfl)
  rw [lg_entry_eq]
  generalize (lg_sl ([.ref q0, .int p_0]) ++ List.replicate (8 - (lg_sl ([.ref q0, .int p_0])).length) Slot.unset).toArray = ls at hl ⊢
  have hl : lv_has ls 8 [(0, .ref q0), (1, .int p_0)] := hl
  refine lv_lconst (v := 0) hx hb d_Bx_firstShortDay_0 (by decide +kernel) ?_
  refine lv_lstore_n (lv' := [(2, .long 0), (0, .ref q0), (1, .int p_0)]) hx hb d_Bx_firstShortDay_1 rfl hl (by decide) rfl (fun ls hl => ?_)
  refine lv_iconst (v := 0) hx hb d_Bx_firstShortDay_2 (by decide +kernel) ?_
  refine lv_iload_n hx hb d_Bx_firstShortDay_3 rfl (lv_at hl 2 rfl) ?_
  refine lv_bipush (v := 100) hx hb d_Bx_firstShortDay_4 (by decide +kernel) ?_
  refine lv_isub hx hb d_Bx_firstShortDay_6 ?_
  refine va_mmax hx hb (hml.trans hl.1.symm) hown (htb (.methodLink R_Bx 51 Lib.Math.max.name) tw_53) (htb (.static Lib.Math.max.name) tw_54) (htb (.initialized "java/lang/Math") tw_55) (htb (.code Lib.Math.max.name Lib.Math.max.code 2 (some .int)) tw_56) (Nat.le_of_ble_eq_true rfl) (Nat.le_of_ble_eq_true rfl) (Nat.le_of_ble_eq_true rfl) (Nat.le_of_ble_eq_true rfl) d_Bx_firstShortDay_7 ?_
  by_cases c_1 : 0 < (p_0 - 100)
  · refine hb_ti (p_0 - 100) (if_pos c_1) ?_
    refine lv_istore (lv' := [(4, .int (p_0 - 100)), (2, .long 0), (0, .ref q0), (1, .int p_0)]) hx hb d_Bx_firstShortDay_10 hl (by decide) rfl (fun ls hl => ?_)
    have cut_2 : ∀ (n_2 : Nat) (v4_2 : Int32) (v2_2 : Int64) (ls : Array Slot), ¬ (v4_2 < 0) → ¬ (500 < v4_2) → (500 : Int32).toInt - (v4_2 : Int32).toInt ≤ (n_2 : Int) → lv_has ls 8 [(0, .ref q0), (1, .int p_0), (2, .long v2_2), (4, .int v4_2)] → W p l e (headSpec (.code y_Bx_firstShortDay b_Bx_firstShortDay 8 (some .int) :: TB) ({ frames := 2, cells := 0, slots := 0, locals := 45 })).room s m [.ref q0, .int p_0].toArray below meth c s.heap [] 0 0 (MQ below (vp_Si (fun r => True)) [.ref q0, .int p_0].toArray s 0 0 (fun _ => False)) (F0 m 12 ls []) := by
      intro n_2
      induction n_2 using Nat.strongRecOn with
      | _ n_2 ih_2 =>
        intro v4_2 v2_2 ls iv0_2 iv1_2 hm_2 hl
        refine lv_iload hx hb d_Bx_firstShortDay_12 (lv_at hl 3 rfl) ?_
        refine lv_iload_n hx hb d_Bx_firstShortDay_14 rfl (lv_at hl 1 rfl) ?_
        refine lv_icmp_gt (tgt := 35) hx hb d_Bx_firstShortDay_15 (by decide) (fun c_3 => ?_) (fun c_3 => ?_)
        · refine lv_aload_n hx hb d_Bx_firstShortDay_35 rfl (lv_at hl 0 rfl) ?_
          refine tw_geti (D := (dC, dI)) (C := R_Bx) (T := F_Bx) (N := 7) (ci := 5) (kd := 12) (ct := ct) hx hb htb i_Bx hown hK hP hO_0 m0 rfl rfl 0 (by decide) (htb (.fieldLink R_Bx 21 "WaterMen$Box" "coins" "I") tw_57) (fun _ h9 => h9) rfl d_Bx_firstShortDay_36 (fun x_4 e_4 b_4 => ?_)
          refine lv_i2l hx hb d_Bx_firstShortDay_39 rfl ?_
          refine lv_lstore (lv' := [(4, .long ((x_4 : Int32).toInt64)), (0, .ref q0), (1, .int p_0), (2, .long v2_2)]) hx hb d_Bx_firstShortDay_40 hl (by decide) rfl (fun ls hl => ?_)
          refine lv_iload_n hx hb d_Bx_firstShortDay_42 rfl (lv_at hl 2 rfl) ?_
          refine lv_iload_n hx hb d_Bx_firstShortDay_43 rfl (lv_at hl 2 rfl) ?_
          refine lv_bipush (v := 100) hx hb d_Bx_firstShortDay_44 (by decide +kernel) ?_
          refine lv_irem hx hb d_Bx_firstShortDay_46 (by decide) ?_
          refine hb_remn (c := 100) (C1 := 99) (K := 2147483547) (by decide +kernel) (by decide +kernel) (by decide +kernel) as_0 (show ¬ (2147483547 < p_0) from by have e0 := as_0; rw [Int32.lt_iff_toInt_lt] at e0; have e1 := as_1; rw [Int32.lt_iff_toInt_lt] at e1; have z0 : (0 : Int32).toInt = 0 := (by decide +kernel); have z1 : (499 : Int32).toInt = 499 := (by decide +kernel); have z2 : (2147483547 : Int32).toInt = 2147483547 := (by decide +kernel); rw [Int32.lt_iff_toInt_lt]; omega) (fun y_5 qu_5 g1_5 g2_5 g3_5 g4_5 g5_5 g9_5 => ?_)
          refine lv_isub hx hb d_Bx_firstShortDay_47 ?_
          refine lv_istore (lv' := [(6, .int (p_0 - y_5)), (4, .long ((x_4 : Int32).toInt64)), (0, .ref q0), (1, .int p_0), (2, .long v2_2)]) hx hb d_Bx_firstShortDay_48 hl (by decide) rfl (fun ls hl => ?_)
          refine lv_iconst (v := 0) hx hb d_Bx_firstShortDay_50 (by decide +kernel) ?_
          refine lv_istore (lv' := [(7, .int 0), (6, .int (p_0 - y_5)), (4, .long ((x_4 : Int32).toInt64)), (0, .ref q0), (1, .int p_0), (2, .long v2_2)]) hx hb d_Bx_firstShortDay_51 hl (by decide) rfl (fun ls hl => ?_)
          have cut_6 : ∀ (n_6 : Nat) (v6_6 v7_6 : Int32) (v4_6 : Int64) (ls : Array Slot), ¬ (v7_6 < 0) → ¬ (40 < v7_6) → (40 : Int32).toInt - (v7_6 : Int32).toInt ≤ (n_6 : Int) → lv_has ls 8 [(0, .ref q0), (2, .long v2_2), (4, .long v4_6), (6, .int v6_6), (7, .int v7_6)] → W p l e (headSpec (.code y_Bx_firstShortDay b_Bx_firstShortDay 8 (some .int) :: TB) ({ frames := 2, cells := 0, slots := 0, locals := 45 })).room s m [.ref q0, .int p_0].toArray below meth c s.heap [] 0 0 (MQ below (vp_Si (fun r => True)) [.ref q0, .int p_0].toArray s 0 0 (fun _ => False)) (F0 m 53 ls []) := by
            intro n_6
            induction n_6 using Nat.strongRecOn with
            | _ n_6 ih_6 =>
              intro v6_6 v7_6 v4_6 ls iv0_6 iv1_6 hm_6 hl
              refine lv_iload hx hb d_Bx_firstShortDay_53 (lv_at hl 4 rfl) ?_
              refine lv_bipush (v := 40) hx hb d_Bx_firstShortDay_55 (by decide +kernel) ?_
              refine lv_icmp_ge (tgt := 93) hx hb d_Bx_firstShortDay_57 (by decide) (fun c_7 => ?_) (fun c_7 => ?_)
              · refine lv_iconst (v := (-1)) hx hb d_Bx_firstShortDay_93 (by decide +kernel) ?_
                exact W.iret (v := (-1)) hx hb hr (fun t ht hW => ⟨(-1), rfl, trivial, ht⟩) t_nil d_Bx_firstShortDay_94
              · refine lv_iinc (v := (v6_6 + 100)) (lv' := [(6, .int (v6_6 + 100)), (0, .ref q0), (2, .long v2_2), (4, .long v4_6), (7, .int v7_6)]) hx hb d_Bx_firstShortDay_60 hl (k := 3) rfl rfl (by decide) rfl (fun ls hl => ?_)
                refine lv_lload hx hb d_Bx_firstShortDay_63 (lv_at hl 3 rfl) ?_
                refine lv_lload_n hx hb d_Bx_firstShortDay_65 rfl (lv_at hl 2 rfl) ?_
                refine lv_aload_n hx hb d_Bx_firstShortDay_66 rfl (lv_at hl 1 rfl) ?_
                refine lv_iload hx hb d_Bx_firstShortDay_67 (lv_at hl 0 rfl) ?_
                refine vp_callSi (va_Run.run (va_runV (As := [.int (v6_6 + 100)]) (rest := [.long v2_2, .long v4_6]) ⟨hx, hb, hml, hown, htb⟩ (c_Bx_owedOn_t l dC dI ct L f hO_0 q0 m0 (v6_6 + 100)) (cwV 1 htb (gd_V tw_68 tw_69 tw_70 tw_61 tw_67) rfl rfl rfl (by decide +kernel) ⟨Nat.le_of_ble_eq_true rfl, Nat.le_of_ble_eq_true rfl⟩) ⟨pr_blind, tw_recv hK hP m0 rfl rfl, pr_pre hP hK hN⟩ rfl rfl hl.1 rfl (lv_room (Nat.le_of_ble_eq_true rfl)) d_Bx_firstShortDay_69 ⟨Nat.le_of_ble_eq_true rfl, Nat.le_of_ble_eq_true rfl⟩)) (fun r_8 er_8 => ?_)
                clear er_8
                refine lv_i2l hx hb d_Bx_firstShortDay_72 rfl ?_
                refine lv_lsub hx hb d_Bx_firstShortDay_73 ?_
                refine hb_anyl (fun y_9 => ?_)
                refine lv_ladd hx hb d_Bx_firstShortDay_74 ?_
                refine hb_anyl (fun y_10 => ?_)
                refine lv_lstore (lv' := [(4, .long y_10), (6, .int (v6_6 + 100)), (0, .ref q0), (2, .long v2_2), (7, .int v7_6)]) hx hb d_Bx_firstShortDay_75 hl (by decide) rfl (fun ls hl => ?_)
                refine lv_lload hx hb d_Bx_firstShortDay_77 (lv_at hl 0 rfl) ?_
                refine lv_lconst (v := 0) hx hb d_Bx_firstShortDay_79 (by decide +kernel) ?_
                refine W.lcmp hx hb d_Bx_firstShortDay_80 ?_
                refine hb_anyi (fun y_11 => ?_)
                refine lv_if_ge (tgt := 87) hx hb d_Bx_firstShortDay_81 (by decide) (fun c_12 => ?_) (fun c_12 => ?_)
                · refine lv_iinc (v := (v7_6 + 1)) (lv' := [(7, .int (v7_6 + 1)), (4, .long y_10), (6, .int (v6_6 + 100)), (0, .ref q0), (2, .long v2_2)]) hx hb d_Bx_firstShortDay_87 hl (k := 4) rfl rfl (by decide) rfl (fun ls hl => ?_)
                  refine lv_goto (tgt := 53) hx hb d_Bx_firstShortDay_90 (by decide) ?_
                  exact ih_6 (n_6 - 1) (ms_1 ((fun (a_0 : Int32) (k_0 : ¬ (40 ≤ a_0)) => (show 1 ≤ (40 : Int32).toInt - (a_0).toInt ∧ (40 : Int32).toInt - ((a_0) + (1 : Int32)).toInt + 1 ≤ (40 : Int32).toInt - (a_0).toInt from by have z0 : (1 : Int32).toInt = 1 := (by decide +kernel); have z1 : (40 : Int32).toInt = 40 := (by decide +kernel); have r0 := fb_rng (a_0); have e0 := k_0; rw [Int32.le_iff_toInt_le, z1] at e0; obtain ⟨n_0, hn_0, s0⟩ := nd_add (x := (a_0)) (y := (1 : Int32)) (by (try rw [z0]); omega) (by (try rw [z0]); omega); rw [z0] at s0; rw [hn_0]; (try rw [z1]); omega)) v7_6 c_7) hm_6) (v6_6 + 100) (v7_6 + 1) y_10 _ (show ¬ ((v7_6 + 1) < 0) from by have e0 := iv0_6; rw [Int32.lt_iff_toInt_lt] at e0; have e1 := c_7; rw [Int32.le_iff_toInt_le] at e1; have z0 : (0 : Int32).toInt = 0 := (by decide +kernel); have z1 : (1 : Int32).toInt = 1 := (by decide +kernel); have z2 : (40 : Int32).toInt = 40 := (by decide +kernel); have ss := fb_addI (x := v7_6) (y := 1) (by omega) (by omega); rw [Int32.lt_iff_toInt_lt]; omega) (show ¬ (40 < (v7_6 + 1)) from by have e0 := iv0_6; rw [Int32.lt_iff_toInt_lt] at e0; have e1 := c_7; rw [Int32.le_iff_toInt_le] at e1; have z0 : (0 : Int32).toInt = 0 := (by decide +kernel); have z1 : (1 : Int32).toInt = 1 := (by decide +kernel); have z2 : (40 : Int32).toInt = 40 := (by decide +kernel); have ss := fb_addI (x := v7_6) (y := 1) (by omega) (by omega); rw [Int32.lt_iff_toInt_lt]; omega) (by exact ms_2 ((fun (a_0 : Int32) (k_0 : ¬ (40 ≤ a_0)) => (show 1 ≤ (40 : Int32).toInt - (a_0).toInt ∧ (40 : Int32).toInt - ((a_0) + (1 : Int32)).toInt + 1 ≤ (40 : Int32).toInt - (a_0).toInt from by have z0 : (1 : Int32).toInt = 1 := (by decide +kernel); have z1 : (40 : Int32).toInt = 40 := (by decide +kernel); have r0 := fb_rng (a_0); have e0 := k_0; rw [Int32.le_iff_toInt_le, z1] at e0; obtain ⟨n_0, hn_0, s0⟩ := nd_add (x := (a_0)) (y := (1 : Int32)) (by (try rw [z0]); omega) (by (try rw [z0]); omega); rw [z0] at s0; rw [hn_0]; (try rw [z1]); omega)) v7_6 c_7) hm_6) (lv_sub hl [3, 4, 1, 2, 0] rfl)
                · refine lv_iload hx hb d_Bx_firstShortDay_84 (lv_at hl 1 rfl) ?_
                  exact W.iret (v := (v6_6 + 100)) hx hb hr (fun t ht hW => ⟨(v6_6 + 100), rfl, trivial, ht⟩) t_nil d_Bx_firstShortDay_86
          exact cut_6 4294967296 (p_0 - y_5) (0 : Int32) ((x_4 : Int32).toInt64) _ (by decide +kernel) (by decide +kernel) (by exact ms_0 _ _) (lv_sub hl [3, 5, 2, 1, 0] rfl)
        · refine lv_lload_n hx hb d_Bx_firstShortDay_18 rfl (lv_at hl 2 rfl) ?_
          refine lv_aload_n hx hb d_Bx_firstShortDay_19 rfl (lv_at hl 0 rfl) ?_
          refine tw_getr (D := (dC, dI)) (C := R_Bx) (T := F_Bx) (N := 7) (ci := 5) (kd := 12) (ct := ct) hx hb htb i_Bx hown hK hP hO_0 m0 rfl rfl 4 (by decide) (htb (.fieldLink R_Bx 9 "WaterMen$Box" "income" "[I") tw_71) (fun _ h9 => h9) rfl d_Bx_firstShortDay_20 (fun q_13 e_13 m_13 => ?_)
          refine lv_iload hx hb d_Bx_firstShortDay_23 (lv_at hl 3 rfl) ?_
          refine tw_aldI (ct := ct) hx hb hK hP hO_0 m_13 rfl ((fun (a_0 : Int32) (a_1 : Int32) (k_0 : ¬ (a_1 < 0)) (k_1 : ¬ (a_0 < a_1)) (k_2 : ¬ (499 < a_0)) => (show vp_in (a_1) 500 from by have z0 : (0 : Int32).toInt = 0 := (by decide +kernel); have z1 : (499 : Int32).toInt = 499 := (by decide +kernel); have r0 := fb_rng (a_0); have r1 := fb_rng (a_1); have e0 := k_0; rw [Int32.lt_iff_toInt_lt, z0] at e0; have e1 := k_1; rw [Int32.lt_iff_toInt_lt] at e1; have e2 := k_2; rw [Int32.lt_iff_toInt_lt, z1] at e2; rw [vp_in_iff]; omega)) p_0 v4_2 iv0_2 c_3 as_1) d_Bx_firstShortDay_25 (fun x_14 e_14 b_14 => ?_)
          refine lv_i2l hx hb d_Bx_firstShortDay_26 rfl ?_
          refine lv_ladd hx hb d_Bx_firstShortDay_27 ?_
          refine hb_anyl (fun y_15 => ?_)
          refine lv_lstore_n (lv' := [(2, .long y_15), (0, .ref q0), (1, .int p_0), (4, .int v4_2)]) hx hb d_Bx_firstShortDay_28 rfl hl (by decide) rfl (fun ls hl => ?_)
          refine lv_iinc (v := (v4_2 + 1)) (lv' := [(4, .int (v4_2 + 1)), (2, .long y_15), (0, .ref q0), (1, .int p_0)]) hx hb d_Bx_firstShortDay_29 hl (k := 3) rfl rfl (by decide) rfl (fun ls hl => ?_)
          refine lv_goto (tgt := 12) hx hb d_Bx_firstShortDay_32 (by decide) ?_
          exact ih_2 (n_2 - 1) (ms_1 ((fun (a_0 : Int32) (a_1 : Int32) (k_0 : ¬ (a_0 < a_1)) (k_1 : ¬ (499 < a_0)) => (show 1 ≤ (500 : Int32).toInt - (a_1).toInt ∧ (500 : Int32).toInt - ((a_1) + (1 : Int32)).toInt + 1 ≤ (500 : Int32).toInt - (a_1).toInt from by have z0 : (1 : Int32).toInt = 1 := (by decide +kernel); have z1 : (499 : Int32).toInt = 499 := (by decide +kernel); have z2 : (500 : Int32).toInt = 500 := (by decide +kernel); have r0 := fb_rng (a_0); have r1 := fb_rng (a_1); have e0 := k_0; rw [Int32.lt_iff_toInt_lt] at e0; have e1 := k_1; rw [Int32.lt_iff_toInt_lt, z1] at e1; obtain ⟨n_0, hn_0, s0⟩ := nd_add (x := (a_1)) (y := (1 : Int32)) (by (try rw [z0]); omega) (by (try rw [z0]); omega); rw [z0] at s0; rw [hn_0]; (try rw [z2]); omega)) p_0 v4_2 c_3 as_1) hm_2) (v4_2 + 1) y_15 _ (show ¬ ((v4_2 + 1) < 0) from by have e0 := iv0_2; rw [Int32.lt_iff_toInt_lt] at e0; have e1 := iv1_2; rw [Int32.lt_iff_toInt_lt] at e1; have z0 : (0 : Int32).toInt = 0 := (by decide +kernel); have z1 : (1 : Int32).toInt = 1 := (by decide +kernel); have z2 : (500 : Int32).toInt = 500 := (by decide +kernel); have ss := fb_addI (x := v4_2) (y := 1) (by omega) (by omega); rw [Int32.lt_iff_toInt_lt]; omega) (show ¬ (500 < (v4_2 + 1)) from ((fun (a_0 : Int32) (a_1 : Int32) (k_0 : ¬ (a_0 < a_1)) (k_1 : ¬ (499 < a_0)) => (show ¬ (500 < (a_1 + 1)) from by have z0 : (1 : Int32).toInt = 1 := (by decide +kernel); have z1 : (499 : Int32).toInt = 499 := (by decide +kernel); have z2 : (500 : Int32).toInt = 500 := (by decide +kernel); have r0 := fb_rng (a_0); have r1 := fb_rng (a_1); have e0 := k_0; rw [Int32.lt_iff_toInt_lt] at e0; have e1 := k_1; rw [Int32.lt_iff_toInt_lt, z1] at e1; obtain ⟨n_0, hn_0, s0⟩ := nd_add (x := (a_1)) (y := (1 : Int32)) (by (try rw [z0]); omega) (by (try rw [z0]); omega); rw [z0] at s0; rw [hn_0, Int32.lt_iff_toInt_lt, z2]; omega)) p_0 v4_2 c_3 as_1)) (by exact ms_2 ((fun (a_0 : Int32) (a_1 : Int32) (k_0 : ¬ (a_0 < a_1)) (k_1 : ¬ (499 < a_0)) => (show 1 ≤ (500 : Int32).toInt - (a_1).toInt ∧ (500 : Int32).toInt - ((a_1) + (1 : Int32)).toInt + 1 ≤ (500 : Int32).toInt - (a_1).toInt from by have z0 : (1 : Int32).toInt = 1 := (by decide +kernel); have z1 : (499 : Int32).toInt = 499 := (by decide +kernel); have z2 : (500 : Int32).toInt = 500 := (by decide +kernel); have r0 := fb_rng (a_0); have r1 := fb_rng (a_1); have e0 := k_0; rw [Int32.lt_iff_toInt_lt] at e0; have e1 := k_1; rw [Int32.lt_iff_toInt_lt, z1] at e1; obtain ⟨n_0, hn_0, s0⟩ := nd_add (x := (a_1)) (y := (1 : Int32)) (by (try rw [z0]); omega) (by (try rw [z0]); omega); rw [z0] at s0; rw [hn_0]; (try rw [z2]); omega)) p_0 v4_2 c_3 as_1) hm_2) (lv_sub hl [2, 3, 1, 0] rfl)
    exact cut_2 4294967296 (p_0 - 100) 0 _ (show ¬ ((p_0 - 100) < 0) from by have e0 := c_1; rw [Int32.lt_iff_toInt_lt] at e0; have z0 : (0 : Int32).toInt = 0 := (by decide +kernel); have z1 : (100 : Int32).toInt = 100 := (by decide +kernel); rw [Int32.lt_iff_toInt_lt]; omega) (show ¬ (500 < (p_0 - 100)) from by have e0 := as_0; rw [Int32.lt_iff_toInt_lt] at e0; have e1 := as_1; rw [Int32.lt_iff_toInt_lt] at e1; have z0 : (0 : Int32).toInt = 0 := (by decide +kernel); have z1 : (100 : Int32).toInt = 100 := (by decide +kernel); have z2 : (499 : Int32).toInt = 499 := (by decide +kernel); have z3 : (500 : Int32).toInt = 500 := (by decide +kernel); have ss := fb_subI (x := p_0) (y := 100) (by omega) (by omega); rw [Int32.lt_iff_toInt_lt]; omega) (by exact ms_0 _ _) (lv_sub hl [2, 3, 1, 0] rfl)
  · refine hb_ti 0 (if_neg c_1) ?_
    refine lv_istore (lv' := [(4, .int 0), (2, .long 0), (0, .ref q0), (1, .int p_0)]) hx hb d_Bx_firstShortDay_10 hl (by decide) rfl (fun ls hl => ?_)
    have cut_16 : ∀ (n_16 : Nat) (v4_16 : Int32) (v2_16 : Int64) (ls : Array Slot), ¬ (v4_16 < 0) → ¬ (500 < v4_16) → (500 : Int32).toInt - (v4_16 : Int32).toInt ≤ (n_16 : Int) → lv_has ls 8 [(0, .ref q0), (1, .int p_0), (2, .long v2_16), (4, .int v4_16)] → W p l e (headSpec (.code y_Bx_firstShortDay b_Bx_firstShortDay 8 (some .int) :: TB) ({ frames := 2, cells := 0, slots := 0, locals := 45 })).room s m [.ref q0, .int p_0].toArray below meth c s.heap [] 0 0 (MQ below (vp_Si (fun r => True)) [.ref q0, .int p_0].toArray s 0 0 (fun _ => False)) (F0 m 12 ls []) := by
      intro n_16
      induction n_16 using Nat.strongRecOn with
      | _ n_16 ih_16 =>
        intro v4_16 v2_16 ls iv0_16 iv1_16 hm_16 hl
        refine lv_iload hx hb d_Bx_firstShortDay_12 (lv_at hl 3 rfl) ?_
        refine lv_iload_n hx hb d_Bx_firstShortDay_14 rfl (lv_at hl 1 rfl) ?_
        refine lv_icmp_gt (tgt := 35) hx hb d_Bx_firstShortDay_15 (by decide) (fun c_17 => ?_) (fun c_17 => ?_)
        · refine lv_aload_n hx hb d_Bx_firstShortDay_35 rfl (lv_at hl 0 rfl) ?_
          refine tw_geti (D := (dC, dI)) (C := R_Bx) (T := F_Bx) (N := 7) (ci := 5) (kd := 12) (ct := ct) hx hb htb i_Bx hown hK hP hO_0 m0 rfl rfl 0 (by decide) (htb (.fieldLink R_Bx 21 "WaterMen$Box" "coins" "I") tw_57) (fun _ h9 => h9) rfl d_Bx_firstShortDay_36 (fun x_18 e_18 b_18 => ?_)
          refine lv_i2l hx hb d_Bx_firstShortDay_39 rfl ?_
          refine lv_lstore (lv' := [(4, .long ((x_18 : Int32).toInt64)), (0, .ref q0), (1, .int p_0), (2, .long v2_16)]) hx hb d_Bx_firstShortDay_40 hl (by decide) rfl (fun ls hl => ?_)
          refine lv_iload_n hx hb d_Bx_firstShortDay_42 rfl (lv_at hl 2 rfl) ?_
          refine lv_iload_n hx hb d_Bx_firstShortDay_43 rfl (lv_at hl 2 rfl) ?_
          refine lv_bipush (v := 100) hx hb d_Bx_firstShortDay_44 (by decide +kernel) ?_
          refine lv_irem hx hb d_Bx_firstShortDay_46 (by decide) ?_
          refine hb_remn (c := 100) (C1 := 99) (K := 2147483547) (by decide +kernel) (by decide +kernel) (by decide +kernel) as_0 (show ¬ (2147483547 < p_0) from by have e0 := as_0; rw [Int32.lt_iff_toInt_lt] at e0; have e1 := as_1; rw [Int32.lt_iff_toInt_lt] at e1; have z0 : (0 : Int32).toInt = 0 := (by decide +kernel); have z1 : (499 : Int32).toInt = 499 := (by decide +kernel); have z2 : (2147483547 : Int32).toInt = 2147483547 := (by decide +kernel); rw [Int32.lt_iff_toInt_lt]; omega) (fun y_19 qu_19 g1_19 g2_19 g3_19 g4_19 g5_19 g9_19 => ?_)
          refine lv_isub hx hb d_Bx_firstShortDay_47 ?_
          refine lv_istore (lv' := [(6, .int (p_0 - y_19)), (4, .long ((x_18 : Int32).toInt64)), (0, .ref q0), (1, .int p_0), (2, .long v2_16)]) hx hb d_Bx_firstShortDay_48 hl (by decide) rfl (fun ls hl => ?_)
          refine lv_iconst (v := 0) hx hb d_Bx_firstShortDay_50 (by decide +kernel) ?_
          refine lv_istore (lv' := [(7, .int 0), (6, .int (p_0 - y_19)), (4, .long ((x_18 : Int32).toInt64)), (0, .ref q0), (1, .int p_0), (2, .long v2_16)]) hx hb d_Bx_firstShortDay_51 hl (by decide) rfl (fun ls hl => ?_)
          have cut_20 : ∀ (n_20 : Nat) (v6_20 v7_20 : Int32) (v4_20 : Int64) (ls : Array Slot), ¬ (v7_20 < 0) → ¬ (40 < v7_20) → (40 : Int32).toInt - (v7_20 : Int32).toInt ≤ (n_20 : Int) → lv_has ls 8 [(0, .ref q0), (2, .long v2_16), (4, .long v4_20), (6, .int v6_20), (7, .int v7_20)] → W p l e (headSpec (.code y_Bx_firstShortDay b_Bx_firstShortDay 8 (some .int) :: TB) ({ frames := 2, cells := 0, slots := 0, locals := 45 })).room s m [.ref q0, .int p_0].toArray below meth c s.heap [] 0 0 (MQ below (vp_Si (fun r => True)) [.ref q0, .int p_0].toArray s 0 0 (fun _ => False)) (F0 m 53 ls []) := by
            intro n_20
            induction n_20 using Nat.strongRecOn with
            | _ n_20 ih_20 =>
              intro v6_20 v7_20 v4_20 ls iv0_20 iv1_20 hm_20 hl
              refine lv_iload hx hb d_Bx_firstShortDay_53 (lv_at hl 4 rfl) ?_
              refine lv_bipush (v := 40) hx hb d_Bx_firstShortDay_55 (by decide +kernel) ?_
              refine lv_icmp_ge (tgt := 93) hx hb d_Bx_firstShortDay_57 (by decide) (fun c_21 => ?_) (fun c_21 => ?_)
              · refine lv_iconst (v := (-1)) hx hb d_Bx_firstShortDay_93 (by decide +kernel) ?_
                exact W.iret (v := (-1)) hx hb hr (fun t ht hW => ⟨(-1), rfl, trivial, ht⟩) t_nil d_Bx_firstShortDay_94
              · refine lv_iinc (v := (v6_20 + 100)) (lv' := [(6, .int (v6_20 + 100)), (0, .ref q0), (2, .long v2_16), (4, .long v4_20), (7, .int v7_20)]) hx hb d_Bx_firstShortDay_60 hl (k := 3) rfl rfl (by decide) rfl (fun ls hl => ?_)
                refine lv_lload hx hb d_Bx_firstShortDay_63 (lv_at hl 3 rfl) ?_
                refine lv_lload_n hx hb d_Bx_firstShortDay_65 rfl (lv_at hl 2 rfl) ?_
                refine lv_aload_n hx hb d_Bx_firstShortDay_66 rfl (lv_at hl 1 rfl) ?_
                refine lv_iload hx hb d_Bx_firstShortDay_67 (lv_at hl 0 rfl) ?_
                refine vp_callSi (va_Run.run (va_runV (As := [.int (v6_20 + 100)]) (rest := [.long v2_16, .long v4_20]) ⟨hx, hb, hml, hown, htb⟩ (c_Bx_owedOn_t l dC dI ct L f hO_0 q0 m0 (v6_20 + 100)) (cwV 1 htb (gd_V tw_68 tw_69 tw_70 tw_61 tw_67) rfl rfl rfl (by decide +kernel) ⟨Nat.le_of_ble_eq_true rfl, Nat.le_of_ble_eq_true rfl⟩) ⟨pr_blind, tw_recv hK hP m0 rfl rfl, pr_pre hP hK hN⟩ rfl rfl hl.1 rfl (lv_room (Nat.le_of_ble_eq_true rfl)) d_Bx_firstShortDay_69 ⟨Nat.le_of_ble_eq_true rfl, Nat.le_of_ble_eq_true rfl⟩)) (fun r_22 er_22 => ?_)
                clear er_22
                refine lv_i2l hx hb d_Bx_firstShortDay_72 rfl ?_
                refine lv_lsub hx hb d_Bx_firstShortDay_73 ?_
                refine hb_anyl (fun y_23 => ?_)
                refine lv_ladd hx hb d_Bx_firstShortDay_74 ?_
                refine hb_anyl (fun y_24 => ?_)
                refine lv_lstore (lv' := [(4, .long y_24), (6, .int (v6_20 + 100)), (0, .ref q0), (2, .long v2_16), (7, .int v7_20)]) hx hb d_Bx_firstShortDay_75 hl (by decide) rfl (fun ls hl => ?_)
                refine lv_lload hx hb d_Bx_firstShortDay_77 (lv_at hl 0 rfl) ?_
                refine lv_lconst (v := 0) hx hb d_Bx_firstShortDay_79 (by decide +kernel) ?_
                refine W.lcmp hx hb d_Bx_firstShortDay_80 ?_
                refine hb_anyi (fun y_25 => ?_)
                refine lv_if_ge (tgt := 87) hx hb d_Bx_firstShortDay_81 (by decide) (fun c_26 => ?_) (fun c_26 => ?_)
                · refine lv_iinc (v := (v7_20 + 1)) (lv' := [(7, .int (v7_20 + 1)), (4, .long y_24), (6, .int (v6_20 + 100)), (0, .ref q0), (2, .long v2_16)]) hx hb d_Bx_firstShortDay_87 hl (k := 4) rfl rfl (by decide) rfl (fun ls hl => ?_)
                  refine lv_goto (tgt := 53) hx hb d_Bx_firstShortDay_90 (by decide) ?_
                  exact ih_20 (n_20 - 1) (ms_1 ((fun (a_0 : Int32) (k_0 : ¬ (40 ≤ a_0)) => (show 1 ≤ (40 : Int32).toInt - (a_0).toInt ∧ (40 : Int32).toInt - ((a_0) + (1 : Int32)).toInt + 1 ≤ (40 : Int32).toInt - (a_0).toInt from by have z0 : (1 : Int32).toInt = 1 := (by decide +kernel); have z1 : (40 : Int32).toInt = 40 := (by decide +kernel); have r0 := fb_rng (a_0); have e0 := k_0; rw [Int32.le_iff_toInt_le, z1] at e0; obtain ⟨n_0, hn_0, s0⟩ := nd_add (x := (a_0)) (y := (1 : Int32)) (by (try rw [z0]); omega) (by (try rw [z0]); omega); rw [z0] at s0; rw [hn_0]; (try rw [z1]); omega)) v7_20 c_21) hm_20) (v6_20 + 100) (v7_20 + 1) y_24 _ (show ¬ ((v7_20 + 1) < 0) from by have e0 := iv0_20; rw [Int32.lt_iff_toInt_lt] at e0; have e1 := c_21; rw [Int32.le_iff_toInt_le] at e1; have z0 : (0 : Int32).toInt = 0 := (by decide +kernel); have z1 : (1 : Int32).toInt = 1 := (by decide +kernel); have z2 : (40 : Int32).toInt = 40 := (by decide +kernel); have ss := fb_addI (x := v7_20) (y := 1) (by omega) (by omega); rw [Int32.lt_iff_toInt_lt]; omega) (show ¬ (40 < (v7_20 + 1)) from by have e0 := iv0_20; rw [Int32.lt_iff_toInt_lt] at e0; have e1 := c_21; rw [Int32.le_iff_toInt_le] at e1; have z0 : (0 : Int32).toInt = 0 := (by decide +kernel); have z1 : (1 : Int32).toInt = 1 := (by decide +kernel); have z2 : (40 : Int32).toInt = 40 := (by decide +kernel); have ss := fb_addI (x := v7_20) (y := 1) (by omega) (by omega); rw [Int32.lt_iff_toInt_lt]; omega) (by exact ms_2 ((fun (a_0 : Int32) (k_0 : ¬ (40 ≤ a_0)) => (show 1 ≤ (40 : Int32).toInt - (a_0).toInt ∧ (40 : Int32).toInt - ((a_0) + (1 : Int32)).toInt + 1 ≤ (40 : Int32).toInt - (a_0).toInt from by have z0 : (1 : Int32).toInt = 1 := (by decide +kernel); have z1 : (40 : Int32).toInt = 40 := (by decide +kernel); have r0 := fb_rng (a_0); have e0 := k_0; rw [Int32.le_iff_toInt_le, z1] at e0; obtain ⟨n_0, hn_0, s0⟩ := nd_add (x := (a_0)) (y := (1 : Int32)) (by (try rw [z0]); omega) (by (try rw [z0]); omega); rw [z0] at s0; rw [hn_0]; (try rw [z1]); omega)) v7_20 c_21) hm_20) (lv_sub hl [3, 4, 1, 2, 0] rfl)
                · refine lv_iload hx hb d_Bx_firstShortDay_84 (lv_at hl 1 rfl) ?_
                  exact W.iret (v := (v6_20 + 100)) hx hb hr (fun t ht hW => ⟨(v6_20 + 100), rfl, trivial, ht⟩) t_nil d_Bx_firstShortDay_86
          exact cut_20 4294967296 (p_0 - y_19) (0 : Int32) ((x_18 : Int32).toInt64) _ (by decide +kernel) (by decide +kernel) (by exact ms_0 _ _) (lv_sub hl [3, 5, 2, 1, 0] rfl)
        · refine lv_lload_n hx hb d_Bx_firstShortDay_18 rfl (lv_at hl 2 rfl) ?_
          refine lv_aload_n hx hb d_Bx_firstShortDay_19 rfl (lv_at hl 0 rfl) ?_
          refine tw_getr (D := (dC, dI)) (C := R_Bx) (T := F_Bx) (N := 7) (ci := 5) (kd := 12) (ct := ct) hx hb htb i_Bx hown hK hP hO_0 m0 rfl rfl 4 (by decide) (htb (.fieldLink R_Bx 9 "WaterMen$Box" "income" "[I") tw_71) (fun _ h9 => h9) rfl d_Bx_firstShortDay_20 (fun q_27 e_27 m_27 => ?_)
          refine lv_iload hx hb d_Bx_firstShortDay_23 (lv_at hl 3 rfl) ?_
          refine tw_aldI (ct := ct) hx hb hK hP hO_0 m_27 rfl ((fun (a_0 : Int32) (a_1 : Int32) (k_0 : ¬ (a_1 < 0)) (k_1 : ¬ (a_0 < a_1)) (k_2 : ¬ (0 < (a_0 - 100))) => (show vp_in (a_1) 500 from by have z0 : (0 : Int32).toInt = 0 := (by decide +kernel); have z1 : (100 : Int32).toInt = 100 := (by decide +kernel); have r0 := fb_rng (a_0); have r1 := fb_rng (a_1); have e0 := k_0; rw [Int32.lt_iff_toInt_lt, z0] at e0; have e1 := k_1; rw [Int32.lt_iff_toInt_lt] at e1; obtain ⟨n_0, hn_0, s0⟩ := nd_sub (x := (a_0)) (y := (100 : Int32)) (by (try rw [z1]); omega) (by (try rw [z1]); omega); rw [z1] at s0; have e2 := k_2; rw [hn_0, Int32.lt_iff_toInt_lt, z0] at e2; rw [vp_in_iff]; omega)) p_0 v4_16 iv0_16 c_17 c_1) d_Bx_firstShortDay_25 (fun x_28 e_28 b_28 => ?_)
          refine lv_i2l hx hb d_Bx_firstShortDay_26 rfl ?_
          refine lv_ladd hx hb d_Bx_firstShortDay_27 ?_
          refine hb_anyl (fun y_29 => ?_)
          refine lv_lstore_n (lv' := [(2, .long y_29), (0, .ref q0), (1, .int p_0), (4, .int v4_16)]) hx hb d_Bx_firstShortDay_28 rfl hl (by decide) rfl (fun ls hl => ?_)
          refine lv_iinc (v := (v4_16 + 1)) (lv' := [(4, .int (v4_16 + 1)), (2, .long y_29), (0, .ref q0), (1, .int p_0)]) hx hb d_Bx_firstShortDay_29 hl (k := 3) rfl rfl (by decide) rfl (fun ls hl => ?_)
          refine lv_goto (tgt := 12) hx hb d_Bx_firstShortDay_32 (by decide) ?_
          exact ih_16 (n_16 - 1) (ms_1 ((fun (a_0 : Int32) (a_1 : Int32) (k_0 : ¬ (a_0 < a_1)) (k_1 : ¬ (499 < a_0)) => (show 1 ≤ (500 : Int32).toInt - (a_1).toInt ∧ (500 : Int32).toInt - ((a_1) + (1 : Int32)).toInt + 1 ≤ (500 : Int32).toInt - (a_1).toInt from by have z0 : (1 : Int32).toInt = 1 := (by decide +kernel); have z1 : (499 : Int32).toInt = 499 := (by decide +kernel); have z2 : (500 : Int32).toInt = 500 := (by decide +kernel); have r0 := fb_rng (a_0); have r1 := fb_rng (a_1); have e0 := k_0; rw [Int32.lt_iff_toInt_lt] at e0; have e1 := k_1; rw [Int32.lt_iff_toInt_lt, z1] at e1; obtain ⟨n_0, hn_0, s0⟩ := nd_add (x := (a_1)) (y := (1 : Int32)) (by (try rw [z0]); omega) (by (try rw [z0]); omega); rw [z0] at s0; rw [hn_0]; (try rw [z2]); omega)) p_0 v4_16 c_17 as_1) hm_16) (v4_16 + 1) y_29 _ (show ¬ ((v4_16 + 1) < 0) from by have e0 := iv0_16; rw [Int32.lt_iff_toInt_lt] at e0; have e1 := iv1_16; rw [Int32.lt_iff_toInt_lt] at e1; have z0 : (0 : Int32).toInt = 0 := (by decide +kernel); have z1 : (1 : Int32).toInt = 1 := (by decide +kernel); have z2 : (500 : Int32).toInt = 500 := (by decide +kernel); have ss := fb_addI (x := v4_16) (y := 1) (by omega) (by omega); rw [Int32.lt_iff_toInt_lt]; omega) (show ¬ (500 < (v4_16 + 1)) from ((fun (a_0 : Int32) (a_1 : Int32) (k_0 : ¬ (a_0 < a_1)) (k_1 : ¬ (499 < a_0)) => (show ¬ (500 < (a_1 + 1)) from by have z0 : (1 : Int32).toInt = 1 := (by decide +kernel); have z1 : (499 : Int32).toInt = 499 := (by decide +kernel); have z2 : (500 : Int32).toInt = 500 := (by decide +kernel); have r0 := fb_rng (a_0); have r1 := fb_rng (a_1); have e0 := k_0; rw [Int32.lt_iff_toInt_lt] at e0; have e1 := k_1; rw [Int32.lt_iff_toInt_lt, z1] at e1; obtain ⟨n_0, hn_0, s0⟩ := nd_add (x := (a_1)) (y := (1 : Int32)) (by (try rw [z0]); omega) (by (try rw [z0]); omega); rw [z0] at s0; rw [hn_0, Int32.lt_iff_toInt_lt, z2]; omega)) p_0 v4_16 c_17 as_1)) (by exact ms_2 ((fun (a_0 : Int32) (a_1 : Int32) (k_0 : ¬ (a_0 < a_1)) (k_1 : ¬ (499 < a_0)) => (show 1 ≤ (500 : Int32).toInt - (a_1).toInt ∧ (500 : Int32).toInt - ((a_1) + (1 : Int32)).toInt + 1 ≤ (500 : Int32).toInt - (a_1).toInt from by have z0 : (1 : Int32).toInt = 1 := (by decide +kernel); have z1 : (499 : Int32).toInt = 499 := (by decide +kernel); have z2 : (500 : Int32).toInt = 500 := (by decide +kernel); have r0 := fb_rng (a_0); have r1 := fb_rng (a_1); have e0 := k_0; rw [Int32.lt_iff_toInt_lt] at e0; have e1 := k_1; rw [Int32.lt_iff_toInt_lt, z1] at e1; obtain ⟨n_0, hn_0, s0⟩ := nd_add (x := (a_1)) (y := (1 : Int32)) (by (try rw [z0]); omega) (by (try rw [z0]); omega); rw [z0] at s0; rw [hn_0]; (try rw [z2]); omega)) p_0 v4_16 c_17 as_1) hm_16) (lv_sub hl [2, 3, 1, 0] rfl)
    exact cut_16 4294967296 (0 : Int32) 0 _ (by decide +kernel) (by decide +kernel) (by exact ms_0 _ _) (lv_sub hl [2, 3, 1, 0] rfl)
