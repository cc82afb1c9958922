set_option maxHeartbeats 4000000 in
set_option maxRecDepth 100000 in
theorem c_Md_over_t (l : Launch) (dC : Nat → ClassId) (dI : Nat → Nat → Nat) (ct : Nat → ClassId) (L : List Nat) (f : TF) (hO_0 : Ok L f) (q0 : Nat) (m0 : q0 ∈ L ∧ tk f q0 = 27) (p_0 : Int32) (p_1 : Int32)   : Met l y_Md_over (.code y_Md_over b_Md_over 6 (some .int) :: TB) ({ frames := 4, cells := 0, slots := 0, locals := 101 }) (va_Pc [.ref q0, .int p_0, .int p_1] (PR dC dI (TW ct L f) (TT ct))) (vp_Si (fun r => True)) 0 0 (fun _ => False) := by
  refine Met.ofW (cc := b_Md_over) (maxL := 6) (ret := (some .int)) (by decide) rfl ?_
  intro p e s m args below meth c s₁ B hml hv
  obtain ⟨rfl, hP, hK, hN⟩ := hv
  have hx := B.exec
  have hb := B.bytes
  have hr := B.returns
  have hts := atoms_spec (ws := (.code y_Md_over b_Md_over 6 (some .int) :: TB)) B.pre
  have htb := fun w (h : w ∈ TB) => hts w (List.mem_cons_of_mem _ h)
  have hown : s.vm.findClass R_Md = some m.cls := findClass_of_methodNamed B.named
  have hlocks := B.notSynchronized
  have hl := lv_entry ([.ref q0, .int p_0, .int p_1]) (n := 6) (Nat.le_of_ble_eq_true rfl)
  rw [lg_entry_eq]
  generalize (lg_sl ([.ref q0, .int p_0, .int p_1]) ++ List.replicate (6 - (lg_sl ([.ref q0, .int p_0, .int p_1])).length) Slot.unset).toArray = ls at hl ⊢
  have hl : lv_has ls 6 [(0, .ref q0), (1, .int p_0), (2, .int p_1)] := hl
  refine lv_iload_n hx hb d_Md_over_0 rfl (lv_at hl 1 rfl) ?_
  refine vp_callSi (va_Run.run (va_runS (As := [.int p_0]) (rest := []) ⟨hx, hb, hml, hown, htb⟩ (c_Md_isMan l p_0) (cwS 1 htb (gd_S tw_504 tw_505 tw_479 tw_503) rfl rfl rfl (by decide +kernel) ⟨Nat.le_of_ble_eq_true rfl, Nat.le_of_ble_eq_true rfl⟩) ⟨fun _ _ _ _ h => h, fun U _ _ => ⟨rfl, trivial⟩⟩ rfl rfl hl.1 rfl (lv_room (Nat.le_of_ble_eq_true rfl)) d_Md_over_1 ⟨Nat.le_of_ble_eq_true rfl, Nat.le_of_ble_eq_true rfl⟩)) (fun r er => ?_)
  subst er
  by_cases c_2 : p_0 < 0
  · refine hb_ti 0 (by unfold f_Md_isMan; rw [if_pos c_2]; first | done | rfl) ?_
    refine lv_if_eq (tgt := 14) hx hb d_Md_over_4 (by decide) (fun _ => ?_) (fun h => absurd (by decide +kernel) h)
    refine lv_iconst (v := (-1)) hx hb d_Md_over_14 (by decide +kernel) ?_
    exact W.iret (v := (-1)) hx hb hr (fun t ht hW => ⟨(-1), rfl, trivial, ht⟩) t_nil d_Md_over_15
  · by_cases c_3 : 39 < p_0
    · refine hb_ti 0 (by unfold f_Md_isMan; rw [if_neg c_2, if_pos c_3]; first | done | rfl) ?_
      refine lv_if_eq (tgt := 14) hx hb d_Md_over_4 (by decide) (fun _ => ?_) (fun h => absurd (by decide +kernel) h)
      refine lv_iconst (v := (-1)) hx hb d_Md_over_14 (by decide +kernel) ?_
      exact W.iret (v := (-1)) hx hb hr (fun t ht hW => ⟨(-1), rfl, trivial, ht⟩) t_nil d_Md_over_15
    · refine hb_ti 1 (by unfold f_Md_isMan; rw [if_neg c_2, if_neg c_3]; first | done | rfl) ?_
      refine lv_if_eq (tgt := 14) hx hb d_Md_over_4 (by decide) (fun h => absurd h (by decide +kernel)) (fun _ => ?_)
      refine lv_iload_n hx hb d_Md_over_7 rfl (lv_at hl 2 rfl) ?_
      refine vp_callSi (va_Run.run (va_runS (As := [.int p_1]) (rest := []) ⟨hx, hb, hml, hown, htb⟩ (c_Md_isDay l p_1) (cwS 1 htb (gd_S tw_492 tw_493 tw_479 tw_491) rfl rfl rfl (by decide +kernel) ⟨Nat.le_of_ble_eq_true rfl, Nat.le_of_ble_eq_true rfl⟩) ⟨fun _ _ _ _ h => h, fun U _ _ => ⟨rfl, trivial⟩⟩ rfl rfl hl.1 rfl (lv_room (Nat.le_of_ble_eq_true rfl)) d_Md_over_8 ⟨Nat.le_of_ble_eq_true rfl, Nat.le_of_ble_eq_true rfl⟩)) (fun r er => ?_)
      subst er
      by_cases c_5 : p_1 < 0
      · refine hb_ti 0 (by unfold f_Md_isDay; rw [if_pos c_5]; first | done | rfl) ?_
        refine lv_if_ne (tgt := 16) hx hb d_Md_over_11 (by decide) (fun h => absurd (by decide +kernel) h) (fun _ => ?_)
        refine lv_iconst (v := (-1)) hx hb d_Md_over_14 (by decide +kernel) ?_
        exact W.iret (v := (-1)) hx hb hr (fun t ht hW => ⟨(-1), rfl, trivial, ht⟩) t_nil d_Md_over_15
      · by_cases c_6 : 499 < p_1
        · refine hb_ti 0 (by unfold f_Md_isDay; rw [if_neg c_5, if_pos c_6]; first | done | rfl) ?_
          refine lv_if_ne (tgt := 16) hx hb d_Md_over_11 (by decide) (fun h => absurd (by decide +kernel) h) (fun _ => ?_)
          refine lv_iconst (v := (-1)) hx hb d_Md_over_14 (by decide +kernel) ?_
          exact W.iret (v := (-1)) hx hb hr (fun t ht hW => ⟨(-1), rfl, trivial, ht⟩) t_nil d_Md_over_15
        · refine hb_ti 1 (by unfold f_Md_isDay; rw [if_neg c_5, if_neg c_6]; first | done | rfl) ?_
          refine lv_if_ne (tgt := 16) hx hb d_Md_over_11 (by decide) (fun _ => ?_) (fun h => absurd h (by decide +kernel))
          refine lv_iconst (v := 0) hx hb d_Md_over_16 (by decide +kernel) ?_
          refine lv_istore_n (lv' := [(3, .int 0), (0, .ref q0), (1, .int p_0), (2, .int p_1)]) hx hb d_Md_over_17 rfl hl (by decide) rfl (fun ls hl => ?_)
          refine lv_iconst (v := 0) hx hb d_Md_over_18 (by decide +kernel) ?_
          refine lv_istore (lv' := [(4, .int 0), (3, .int 0), (0, .ref q0), (1, .int p_0), (2, .int p_1)]) hx hb d_Md_over_19 hl (by decide) rfl (fun ls hl => ?_)
          have cut_7 : ∀ (n_7 : Nat) (v3_7 v4_7 : Int32) (ls : Array Slot), ¬ (v4_7 < 0) → ¬ (600 < v4_7) → (600 : Int32).toInt - (v4_7 : Int32).toInt ≤ (n_7 : Int) → lv_has ls 6 [(0, .ref q0), (1, .int p_0), (2, .int p_1), (3, .int v3_7), (4, .int v4_7)] → W p l e (headSpec (.code y_Md_over b_Md_over 6 (some .int) :: TB) ({ frames := 4, cells := 0, slots := 0, locals := 101 })).room s m [.ref q0, .int p_0, .int p_1].toArray below meth c s.heap [] 0 0 (MQ below (vp_Si (fun r => True)) [.ref q0, .int p_0, .int p_1].toArray s 0 0 (fun _ => False)) (F0 m 21 ls []) := by
            intro n_7
            induction n_7 using Nat.strongRecOn with
            | _ n_7 ih_7 =>
              intro v3_7 v4_7 ls iv0_7 iv1_7 hm_7 hl
              refine lv_iload hx hb d_Md_over_21 (lv_at hl 4 rfl) ?_
              refine lv_aload_n hx hb d_Md_over_23 rfl (lv_at hl 0 rfl) ?_
              refine tw_geti (D := (dC, dI)) (C := R_Md) (T := F_Md) (N := 64) (ci := 7) (kd := 27) (ct := ct) hx hb htb i_Md hown hK hP hO_0 m0 rfl rfl 47 (by decide) (htb (.fieldLink R_Md 313 "WaterMenModel" "trips" "I") tw_641) (fun _ h9 => h9) rfl d_Md_over_24 (fun x_8 e_8 b_8 => ?_)
              refine lv_icmp_ge (tgt := 93) hx hb d_Md_over_27 (by decide) (fun c_9 => ?_) (fun c_9 => ?_)
              · refine lv_iload_n hx hb d_Md_over_93 rfl (lv_at hl 3 rfl) ?_
                exact W.iret (v := v3_7) hx hb hr (fun t ht hW => ⟨v3_7, rfl, trivial, ht⟩) t_nil d_Md_over_94
              · refine lv_aload_n hx hb d_Md_over_30 rfl (lv_at hl 0 rfl) ?_
                refine tw_getr (D := (dC, dI)) (C := R_Md) (T := F_Md) (N := 64) (ci := 7) (kd := 27) (ct := ct) hx hb htb i_Md hown hK hP hO_0 m0 rfl rfl 49 (by decide) (htb (.fieldLink R_Md 152 "WaterMenModel" "tripMan" "[I") tw_546) (fun _ h9 => h9) rfl d_Md_over_31 (fun q_10 e_10 m_10 => ?_)
                refine lv_iload hx hb d_Md_over_34 (lv_at hl 4 rfl) ?_
                refine tw_aldI (ct := ct) hx hb hK hP hO_0 m_10 rfl (by have z0 : (0 : Int32).toInt = 0 := (by decide +kernel); have z1 : (600 : Int32).toInt = 600 := (by decide +kernel); have r0 := fb_rng (v4_7); have r1 := fb_rng (x_8); have e0 := iv0_7; rw [Int32.lt_iff_toInt_lt, z0] at e0; have e1 := c_9; rw [Int32.le_iff_toInt_le] at e1; have e2 := b_8.2; rw [Int32.lt_iff_toInt_lt, z1] at e2; rw [vp_in_iff]; omega) d_Md_over_36 (fun x_11 e_11 b_11 => ?_)
                refine lv_iload_n hx hb d_Md_over_37 rfl (lv_at hl 1 rfl) ?_
                refine lv_icmp_eq (tgt := 44) hx hb d_Md_over_38 (by decide) (fun c_12 => ?_) (fun c_12 => ?_)
                · refine lv_aload_n hx hb d_Md_over_44 rfl (lv_at hl 0 rfl) ?_
                  refine lv_iload hx hb d_Md_over_45 (lv_at hl 4 rfl) ?_
                  refine lv_iload_n hx hb d_Md_over_47 rfl (lv_at hl 2 rfl) ?_
                  refine vp_callSi (va_Run.run (va_runV (As := [.int v4_7, .int p_1]) (rest := []) ⟨hx, hb, hml, hown, htb⟩ (c_Md_dueOf_t l dC dI ct L f hO_0 q0 m0 v4_7 p_1 iv0_7 (show ¬ (599 < v4_7) from by have z0 : (599 : Int32).toInt = 599 := (by decide +kernel); have z1 : (600 : Int32).toInt = 600 := (by decide +kernel); have r0 := fb_rng (v4_7); have r1 := fb_rng (x_8); have e0 := c_9; rw [Int32.le_iff_toInt_le] at e0; have e1 := b_8.2; rw [Int32.lt_iff_toInt_lt, z1] at e1; rw [Int32.lt_iff_toInt_lt, z0]; omega)) (cwV 2 htb (gd_V tw_678 tw_679 tw_680 tw_479 tw_677) rfl rfl rfl (by decide +kernel) ⟨Nat.le_of_ble_eq_true rfl, Nat.le_of_ble_eq_true rfl⟩) ⟨pr_blind, tw_recv hK hP m0 rfl rfl, pr_pre hP hK hN⟩ rfl rfl hl.1 rfl (lv_room (Nat.le_of_ble_eq_true rfl)) d_Md_over_48 ⟨Nat.le_of_ble_eq_true rfl, Nat.le_of_ble_eq_true rfl⟩)) (fun r_13 er_13 => ?_)
                  clear er_13
                  refine lv_istore (lv' := [(5, .int r_13), (0, .ref q0), (1, .int p_0), (2, .int p_1), (3, .int v3_7), (4, .int v4_7)]) hx hb d_Md_over_51 hl (by decide) rfl (fun ls hl => ?_)
                  refine lv_iload_n hx hb d_Md_over_53 rfl (lv_at hl 4 rfl) ?_
                  refine lv_iload hx hb d_Md_over_54 (lv_at hl 0 rfl) ?_
                  refine lv_if_lt (tgt := 84) hx hb d_Md_over_56 (by decide) (fun c_14 => ?_) (fun c_14 => ?_)
                  · refine lv_iconst (v := 0) hx hb d_Md_over_84 (by decide +kernel) ?_
                    refine lv_iadd hx hb d_Md_over_85 ?_
                    refine lv_istore_n (lv' := [(3, .int (v3_7 + 0)), (5, .int r_13), (0, .ref q0), (1, .int p_0), (2, .int p_1), (4, .int v4_7)]) hx hb d_Md_over_86 rfl hl (by decide) rfl (fun ls hl => ?_)
                    refine lv_iinc (v := (v4_7 + 1)) (lv' := [(4, .int (v4_7 + 1)), (3, .int (v3_7 + 0)), (5, .int r_13), (0, .ref q0), (1, .int p_0), (2, .int p_1)]) hx hb d_Md_over_87 hl (k := 5) rfl rfl (by decide) rfl (fun ls hl => ?_)
                    refine lv_goto (tgt := 21) hx hb d_Md_over_90 (by decide) ?_
                    exact ih_7 (n_7 - 1) (by have z0 : (1 : Int32).toInt = 1 := (by decide +kernel); have z1 : (600 : Int32).toInt = 600 := (by decide +kernel); have r0 := fb_rng (v4_7); have r1 := fb_rng (x_8); have e0 := c_9; rw [Int32.le_iff_toInt_le] at e0; have e1 := b_8.2; rw [Int32.lt_iff_toInt_lt, z1] at e1; have s0 := fb_addI (x := (v4_7)) (y := (1 : Int32)) (by (try rw [z0]); omega) (by (try rw [z0]); omega); rw [z0] at s0; have hq := hm_7; (try rw [z1] at hq); omega) (v3_7 + 0) (v4_7 + 1) _ (show ¬ ((v4_7 + 1) < 0) from by have e0 := iv0_7; rw [Int32.lt_iff_toInt_lt] at e0; have e1 := iv1_7; rw [Int32.lt_iff_toInt_lt] at e1; have z0 : (0 : Int32).toInt = 0 := (by decide +kernel); have z1 : (1 : Int32).toInt = 1 := (by decide +kernel); have z2 : (600 : Int32).toInt = 600 := (by decide +kernel); have ss := fb_addI (x := v4_7) (y := 1) (by omega) (by omega); rw [Int32.lt_iff_toInt_lt]; omega) (show ¬ (600 < (v4_7 + 1)) from by have z0 : (1 : Int32).toInt = 1 := (by decide +kernel); have z1 : (600 : Int32).toInt = 600 := (by decide +kernel); have r0 := fb_rng (v4_7); have r1 := fb_rng (x_8); have e0 := c_9; rw [Int32.le_iff_toInt_le] at e0; have e1 := b_8.2; rw [Int32.lt_iff_toInt_lt, z1] at e1; have s0 := fb_addI (x := (v4_7)) (y := (1 : Int32)) (by (try rw [z0]); omega) (by (try rw [z0]); omega); rw [z0] at s0; rw [Int32.lt_iff_toInt_lt, z1]; omega) (by have z0 : (1 : Int32).toInt = 1 := (by decide +kernel); have z1 : (600 : Int32).toInt = 600 := (by decide +kernel); have r0 := fb_rng (v4_7); have r1 := fb_rng (x_8); have e0 := c_9; rw [Int32.le_iff_toInt_le] at e0; have e1 := b_8.2; rw [Int32.lt_iff_toInt_lt, z1] at e1; have s0 := fb_addI (x := (v4_7)) (y := (1 : Int32)) (by (try rw [z0]); omega) (by (try rw [z0]); omega); rw [z0] at s0; have hq := hm_7; (try rw [z1] at hq); (try rw [z1]); omega) (lv_sub hl [3, 4, 5, 1, 0] rfl)
                  · refine lv_aload_n hx hb d_Md_over_59 rfl (lv_at hl 1 rfl) ?_
                    refine tw_getr (D := (dC, dI)) (C := R_Md) (T := F_Md) (N := 64) (ci := 7) (kd := 27) (ct := ct) hx hb htb i_Md hown hK hP hO_0 m0 rfl rfl 54 (by decide) (htb (.fieldLink R_Md 167 "WaterMenModel" "tripPaid" "[I") tw_647) (fun _ h9 => h9) rfl d_Md_over_60 (fun q_15 e_15 m_15 => ?_)
                    refine lv_iload hx hb d_Md_over_63 (lv_at hl 5 rfl) ?_
                    refine tw_aldI (ct := ct) hx hb hK hP hO_0 m_15 rfl (by have z0 : (0 : Int32).toInt = 0 := (by decide +kernel); have z1 : (600 : Int32).toInt = 600 := (by decide +kernel); have r0 := fb_rng (v4_7); have r1 := fb_rng (x_8); have e0 := iv0_7; rw [Int32.lt_iff_toInt_lt, z0] at e0; have e1 := c_9; rw [Int32.le_iff_toInt_le] at e1; have e2 := b_8.2; rw [Int32.lt_iff_toInt_lt, z1] at e2; rw [vp_in_iff]; omega) d_Md_over_65 (fun x_16 e_16 b_16 => ?_)
                    refine lv_iload hx hb d_Md_over_66 (lv_at hl 0 rfl) ?_
                    refine lv_icmp_le (tgt := 84) hx hb d_Md_over_68 (by decide) (fun c_17 => ?_) (fun c_17 => ?_)
                    · refine lv_iconst (v := 0) hx hb d_Md_over_84 (by decide +kernel) ?_
                      refine lv_iadd hx hb d_Md_over_85 ?_
                      refine lv_istore_n (lv' := [(3, .int (v3_7 + 0)), (5, .int r_13), (0, .ref q0), (1, .int p_0), (2, .int p_1), (4, .int v4_7)]) hx hb d_Md_over_86 rfl hl (by decide) rfl (fun ls hl => ?_)
                      refine lv_iinc (v := (v4_7 + 1)) (lv' := [(4, .int (v4_7 + 1)), (3, .int (v3_7 + 0)), (5, .int r_13), (0, .ref q0), (1, .int p_0), (2, .int p_1)]) hx hb d_Md_over_87 hl (k := 5) rfl rfl (by decide) rfl (fun ls hl => ?_)
                      refine lv_goto (tgt := 21) hx hb d_Md_over_90 (by decide) ?_
                      exact ih_7 (n_7 - 1) (by have z0 : (1 : Int32).toInt = 1 := (by decide +kernel); have z1 : (600 : Int32).toInt = 600 := (by decide +kernel); have r0 := fb_rng (v4_7); have r1 := fb_rng (x_8); have e0 := c_9; rw [Int32.le_iff_toInt_le] at e0; have e1 := b_8.2; rw [Int32.lt_iff_toInt_lt, z1] at e1; have s0 := fb_addI (x := (v4_7)) (y := (1 : Int32)) (by (try rw [z0]); omega) (by (try rw [z0]); omega); rw [z0] at s0; have hq := hm_7; (try rw [z1] at hq); omega) (v3_7 + 0) (v4_7 + 1) _ (show ¬ ((v4_7 + 1) < 0) from by have e0 := iv0_7; rw [Int32.lt_iff_toInt_lt] at e0; have e1 := iv1_7; rw [Int32.lt_iff_toInt_lt] at e1; have z0 : (0 : Int32).toInt = 0 := (by decide +kernel); have z1 : (1 : Int32).toInt = 1 := (by decide +kernel); have z2 : (600 : Int32).toInt = 600 := (by decide +kernel); have ss := fb_addI (x := v4_7) (y := 1) (by omega) (by omega); rw [Int32.lt_iff_toInt_lt]; omega) (show ¬ (600 < (v4_7 + 1)) from by have z0 : (1 : Int32).toInt = 1 := (by decide +kernel); have z1 : (600 : Int32).toInt = 600 := (by decide +kernel); have r0 := fb_rng (v4_7); have r1 := fb_rng (x_8); have e0 := c_9; rw [Int32.le_iff_toInt_le] at e0; have e1 := b_8.2; rw [Int32.lt_iff_toInt_lt, z1] at e1; have s0 := fb_addI (x := (v4_7)) (y := (1 : Int32)) (by (try rw [z0]); omega) (by (try rw [z0]); omega); rw [z0] at s0; rw [Int32.lt_iff_toInt_lt, z1]; omega) (by have z0 : (1 : Int32).toInt = 1 := (by decide +kernel); have z1 : (600 : Int32).toInt = 600 := (by decide +kernel); have r0 := fb_rng (v4_7); have r1 := fb_rng (x_8); have e0 := c_9; rw [Int32.le_iff_toInt_le] at e0; have e1 := b_8.2; rw [Int32.lt_iff_toInt_lt, z1] at e1; have s0 := fb_addI (x := (v4_7)) (y := (1 : Int32)) (by (try rw [z0]); omega) (by (try rw [z0]); omega); rw [z0] at s0; have hq := hm_7; (try rw [z1] at hq); (try rw [z1]); omega) (lv_sub hl [3, 4, 5, 1, 0] rfl)
                    · refine lv_aload_n hx hb d_Md_over_71 rfl (lv_at hl 1 rfl) ?_
                      refine tw_getR (D := (dC, dI)) (C := R_Md) (T := F_Md) (N := 64) (ci := 7) (kd := 27) (ct := ct) hx hb htb i_Md hown hK hP m0 rfl rfl 54 e_15 (by decide) (htb (.fieldLink R_Md 167 "WaterMenModel" "tripPaid" "[I") tw_647) (fun _ h9 => h9) rfl d_Md_over_72 ?_
                      refine hb_tv (.ref q_15) rfl ?_
                      refine lv_iload hx hb d_Md_over_75 (lv_at hl 5 rfl) ?_
                      refine tw_aldxI (ct := ct) (x := x_16) hx hb hK hP m_15 rfl (by have z0 : (0 : Int32).toInt = 0 := (by decide +kernel); have z1 : (600 : Int32).toInt = 600 := (by decide +kernel); have r0 := fb_rng (v4_7); have r1 := fb_rng (x_8); have e0 := iv0_7; rw [Int32.lt_iff_toInt_lt, z0] at e0; have e1 := c_9; rw [Int32.le_iff_toInt_le] at e1; have e2 := b_8.2; rw [Int32.lt_iff_toInt_lt, z1] at e2; rw [vp_in_iff]; omega) e_16 d_Md_over_77 ?_
                      refine lv_iload hx hb d_Md_over_78 (lv_at hl 0 rfl) ?_
                      refine lv_isub hx hb d_Md_over_80 ?_
                      refine lv_goto (tgt := 85) hx hb d_Md_over_81 (by decide) ?_
                      refine lv_iadd hx hb d_Md_over_85 ?_
                      refine lv_istore_n (lv' := [(3, .int (v3_7 + (x_16 - r_13))), (5, .int r_13), (0, .ref q0), (1, .int p_0), (2, .int p_1), (4, .int v4_7)]) hx hb d_Md_over_86 rfl hl (by decide) rfl (fun ls hl => ?_)
                      refine lv_iinc (v := (v4_7 + 1)) (lv' := [(4, .int (v4_7 + 1)), (3, .int (v3_7 + (x_16 - r_13))), (5, .int r_13), (0, .ref q0), (1, .int p_0), (2, .int p_1)]) hx hb d_Md_over_87 hl (k := 5) rfl rfl (by decide) rfl (fun ls hl => ?_)
                      refine lv_goto (tgt := 21) hx hb d_Md_over_90 (by decide) ?_
                      exact ih_7 (n_7 - 1) (by have z0 : (1 : Int32).toInt = 1 := (by decide +kernel); have z1 : (600 : Int32).toInt = 600 := (by decide +kernel); have r0 := fb_rng (v4_7); have r1 := fb_rng (x_8); have e0 := c_9; rw [Int32.le_iff_toInt_le] at e0; have e1 := b_8.2; rw [Int32.lt_iff_toInt_lt, z1] at e1; have s0 := fb_addI (x := (v4_7)) (y := (1 : Int32)) (by (try rw [z0]); omega) (by (try rw [z0]); omega); rw [z0] at s0; have hq := hm_7; (try rw [z1] at hq); omega) (v3_7 + (x_16 - r_13)) (v4_7 + 1) _ (show ¬ ((v4_7 + 1) < 0) from by have e0 := iv0_7; rw [Int32.lt_iff_toInt_lt] at e0; have e1 := iv1_7; rw [Int32.lt_iff_toInt_lt] at e1; have z0 : (0 : Int32).toInt = 0 := (by decide +kernel); have z1 : (1 : Int32).toInt = 1 := (by decide +kernel); have z2 : (600 : Int32).toInt = 600 := (by decide +kernel); have ss := fb_addI (x := v4_7) (y := 1) (by omega) (by omega); rw [Int32.lt_iff_toInt_lt]; omega) (show ¬ (600 < (v4_7 + 1)) from by have z0 : (1 : Int32).toInt = 1 := (by decide +kernel); have z1 : (600 : Int32).toInt = 600 := (by decide +kernel); have r0 := fb_rng (v4_7); have r1 := fb_rng (x_8); have e0 := c_9; rw [Int32.le_iff_toInt_le] at e0; have e1 := b_8.2; rw [Int32.lt_iff_toInt_lt, z1] at e1; have s0 := fb_addI (x := (v4_7)) (y := (1 : Int32)) (by (try rw [z0]); omega) (by (try rw [z0]); omega); rw [z0] at s0; rw [Int32.lt_iff_toInt_lt, z1]; omega) (by have z0 : (1 : Int32).toInt = 1 := (by decide +kernel); have z1 : (600 : Int32).toInt = 600 := (by decide +kernel); have r0 := fb_rng (v4_7); have r1 := fb_rng (x_8); have e0 := c_9; rw [Int32.le_iff_toInt_le] at e0; have e1 := b_8.2; rw [Int32.lt_iff_toInt_lt, z1] at e1; have s0 := fb_addI (x := (v4_7)) (y := (1 : Int32)) (by (try rw [z0]); omega) (by (try rw [z0]); omega); rw [z0] at s0; have hq := hm_7; (try rw [z1] at hq); (try rw [z1]); omega) (lv_sub hl [3, 4, 5, 1, 0] rfl)
                · refine lv_goto (tgt := 87) hx hb d_Md_over_41 (by decide) ?_
                  refine lv_iinc (v := (v4_7 + 1)) (lv' := [(4, .int (v4_7 + 1)), (0, .ref q0), (1, .int p_0), (2, .int p_1), (3, .int v3_7)]) hx hb d_Md_over_87 hl (k := 4) rfl rfl (by decide) rfl (fun ls hl => ?_)
                  refine lv_goto (tgt := 21) hx hb d_Md_over_90 (by decide) ?_
                  exact ih_7 (n_7 - 1) (by have z0 : (1 : Int32).toInt = 1 := (by decide +kernel); have z1 : (600 : Int32).toInt = 600 := (by decide +kernel); have r0 := fb_rng (v4_7); have r1 := fb_rng (x_8); have e0 := c_9; rw [Int32.le_iff_toInt_le] at e0; have e1 := b_8.2; rw [Int32.lt_iff_toInt_lt, z1] at e1; have s0 := fb_addI (x := (v4_7)) (y := (1 : Int32)) (by (try rw [z0]); omega) (by (try rw [z0]); omega); rw [z0] at s0; have hq := hm_7; (try rw [z1] at hq); omega) v3_7 (v4_7 + 1) _ (show ¬ ((v4_7 + 1) < 0) from by have e0 := iv0_7; rw [Int32.lt_iff_toInt_lt] at e0; have e1 := iv1_7; rw [Int32.lt_iff_toInt_lt] at e1; have z0 : (0 : Int32).toInt = 0 := (by decide +kernel); have z1 : (1 : Int32).toInt = 1 := (by decide +kernel); have z2 : (600 : Int32).toInt = 600 := (by decide +kernel); have ss := fb_addI (x := v4_7) (y := 1) (by omega) (by omega); rw [Int32.lt_iff_toInt_lt]; omega) (show ¬ (600 < (v4_7 + 1)) from by have z0 : (1 : Int32).toInt = 1 := (by decide +kernel); have z1 : (600 : Int32).toInt = 600 := (by decide +kernel); have r0 := fb_rng (v4_7); have r1 := fb_rng (x_8); have e0 := c_9; rw [Int32.le_iff_toInt_le] at e0; have e1 := b_8.2; rw [Int32.lt_iff_toInt_lt, z1] at e1; have s0 := fb_addI (x := (v4_7)) (y := (1 : Int32)) (by (try rw [z0]); omega) (by (try rw [z0]); omega); rw [z0] at s0; rw [Int32.lt_iff_toInt_lt, z1]; omega) (by have z0 : (1 : Int32).toInt = 1 := (by decide +kernel); have z1 : (600 : Int32).toInt = 600 := (by decide +kernel); have r0 := fb_rng (v4_7); have r1 := fb_rng (x_8); have e0 := c_9; rw [Int32.le_iff_toInt_le] at e0; have e1 := b_8.2; rw [Int32.lt_iff_toInt_lt, z1] at e1; have s0 := fb_addI (x := (v4_7)) (y := (1 : Int32)) (by (try rw [z0]); omega) (by (try rw [z0]); omega); rw [z0] at s0; have hq := hm_7; (try rw [z1] at hq); (try rw [z1]); omega) (lv_sub hl [1, 2, 3, 4, 0] rfl)
          exact cut_7 4294967296 (0 : Int32) (0 : Int32) _ (by decide +kernel) (by decide +kernel) (by have t1 := fb_rng (600 : Int32); have t2 := fb_rng (0 : Int32); omega) (lv_sub hl [2, 3, 4, 1, 0] rfl)
def W_Md_pension_t : List (Nat × Nat) := [(27, 60), (72, 1000), (73, 1000)]
set_option maxHeartbeats 4000000 in
set_option maxRecDepth 100000 in
theorem c_Md_pension_t (l : Launch) (dC : Nat → ClassId) (dI : Nat → Nat → Nat) (ct : Nat → ClassId) (L : List Nat) (f : TF) (hO_0 : Ok L f) (q0 : Nat) (m0 : q0 ∈ L ∧ tk f q0 = 27) (sz : Nat) (p_0 : Int32) (p_1 : Int32)   : Met l y_Md_pension (.code y_Md_pension b_Md_pension 3 (some .int) :: TB) ({ frames := 2, cells := 0, slots := 0, locals := 43 }) (va_Pc [.ref q0, .int p_0, .int p_1] (PC dC dI (TW ct L f) (TT ct) sz)) (va_Qi (fun r (u : TSt) => Ok u.1 u.2 ∧ Ext W_Md_pension_t L f u.1 u.2 ∧ (True)) (fun (u : TSt) t => va_P (dC, dI) vwCl (TW ct u.1 u.2) t.heap ∧ va_K (dC, dI) vwCl (TT ct) t ∧ va_D (va_A (TW ct L f) sz) (TW ct u.1 u.2)) (va_A (TW ct L f) sz)) 0 0 (va_A (TW ct L f) sz) := by
  refine Met.ofW (cc := b_Md_pension) (maxL := 3) (ret := (some .int)) (by decide) rfl ?_
  intro p e s m args below meth c s₁ B hml hv
  obtain ⟨rfl, hsz, hP, hK, hD0, hN⟩ := hv
  have hx := B.exec
  have hb := B.bytes
  have hr := B.returns
  have hts := atoms_spec (ws := (.code y_Md_pension b_Md_pension 3 (some .int) :: TB)) B.pre
  have htb := fun w (h : w ∈ TB) => hts w (List.mem_cons_of_mem _ h)
  have hown : s.vm.findClass R_Md = some m.cls := findClass_of_methodNamed B.named
  have hlocks := B.notSynchronized
  have hl := lv_entry ([.ref q0, .int p_0, .int p_1]) (n := 3) (Nat.le_of_ble_eq_true rfl)
  rw [lg_entry_eq]
  generalize (lg_sl ([.ref q0, .int p_0, .int p_1]) ++ List.replicate (3 - (lg_sl ([.ref q0, .int p_0, .int p_1])).length) Slot.unset).toArray = ls at hl ⊢
  have hl : lv_has ls 3 [(0, .ref q0), (1, .int p_0), (2, .int p_1)] := hl
  subst hsz
  have hD := hD0.self (sz := s.heap.size)
  obtain ⟨A, hAe⟩ : ∃ A, va_A (TW ct L f) s.heap.size = A := ⟨_, rfl⟩
  rw [hAe] at hD
  have hA : ∀ q : Nat, s.heap.size ≤ q → A q := fun q h => by rw [← hAe]; exact Or.inr h
  have hS : va_S A s.heap s.heap [] := va_S.rf
  have hA_0 : Ext [] L f L f := Ext.rf
  suffices hGo : ∀ (H : Heap) (locs : List Loc), va_P (dC, dI) vwCl (TW ct L f) H → va_S A s.heap H locs → W p l e (headSpec (.code y_Md_pension b_Md_pension 3 (some .int) :: TB) ({ frames := 2, cells := 0, slots := 0, locals := 43 })).room s m [.ref q0, .int p_0, .int p_1].toArray below meth c H locs 0 0 (MQ below (va_Qi (fun r (u : TSt) => Ok u.1 u.2 ∧ Ext W_Md_pension_t L f u.1 u.2 ∧ (True)) (fun (u : TSt) t => va_P (dC, dI) vwCl (TW ct u.1 u.2) t.heap ∧ va_K (dC, dI) vwCl (TT ct) t ∧ va_D (va_A (TW ct L f) s.heap.size) (TW ct u.1 u.2)) (va_A (TW ct L f) s.heap.size)) [.ref q0, .int p_0, .int p_1].toArray s 0 0 (va_A (TW ct L f) s.heap.size)) (F0 m 0 ls []) from hGo _ _ hP hS
  clear hP hS
  intro H locs hP hS
  refine lv_iload_n hx hb d_Md_pension_0 rfl (lv_at hl 1 rfl) ?_
  refine lv_iload_n hx hb d_Md_pension_1 rfl (lv_at hl 2 rfl) ?_
  refine vp_callSi (va_Run.run (va_runS (As := [.int p_0, .int p_1]) (rest := []) ⟨hx, hb, hml, hown, htb⟩ (c_Md_isPension l p_0 p_1) (cwS 2 htb (gd_S tw_671 tw_672 tw_479 tw_670) rfl rfl rfl (by decide +kernel) ⟨Nat.le_of_ble_eq_true rfl, Nat.le_of_ble_eq_true rfl⟩) ⟨fun _ _ _ _ h => h, fun U _ _ => ⟨rfl, trivial⟩⟩ rfl rfl hl.1 rfl (lv_room (Nat.le_of_ble_eq_true rfl)) d_Md_pension_2 ⟨Nat.le_of_ble_eq_true rfl, Nat.le_of_ble_eq_true rfl⟩)) (fun r er => ?_)
  subst er
  by_cases c_2 : p_0 < 1
  · refine hb_ti 0 (by unfold f_Md_isPension; rw [if_pos c_2]; first | done | rfl) ?_
    refine lv_if_ne (tgt := 10) hx hb d_Md_pension_5 (by decide) (fun h => absurd (by decide +kernel) h) (fun _ => ?_)
    refine lv_iconst (v := (-1)) hx hb d_Md_pension_8 (by decide +kernel) ?_
    refine W.widen (k := 0) (n := 0) (Nat.le_of_ble_eq_true rfl) (Nat.le_of_ble_eq_true rfl) ?_
    exact W.iret (v := (-1)) hx hb hr (fun t ht hW => ⟨⟨(-1), (L, f), rfl, ⟨hO_0, hA_0.mono (by decide +kernel), trivial⟩, by rw [ht]; exact hP, va_K.moved hW.alike hK, by rw [hAe]; exact hD⟩, by rw [hAe]; exact hS.F ht⟩) (by rw [hAe]; exact hS.2.2) d_Md_pension_9
  · by_cases c_3 : 10000 < p_0
    · refine hb_ti 0 (by unfold f_Md_isPension; rw [if_neg c_2, if_pos c_3]; first | done | rfl) ?_
      refine lv_if_ne (tgt := 10) hx hb d_Md_pension_5 (by decide) (fun h => absurd (by decide +kernel) h) (fun _ => ?_)
      refine lv_iconst (v := (-1)) hx hb d_Md_pension_8 (by decide +kernel) ?_
      refine W.widen (k := 0) (n := 0) (Nat.le_of_ble_eq_true rfl) (Nat.le_of_ble_eq_true rfl) ?_
      exact W.iret (v := (-1)) hx hb hr (fun t ht hW => ⟨⟨(-1), (L, f), rfl, ⟨hO_0, hA_0.mono (by decide +kernel), trivial⟩, by rw [ht]; exact hP, va_K.moved hW.alike hK, by rw [hAe]; exact hD⟩, by rw [hAe]; exact hS.F ht⟩) (by rw [hAe]; exact hS.2.2) d_Md_pension_9
    · by_cases c_4 : p_1 < 0
      · refine hb_ti 0 (by unfold f_Md_isPension; rw [if_neg c_2, if_neg c_3, if_pos c_4]; first | done | rfl) ?_
        refine lv_if_ne (tgt := 10) hx hb d_Md_pension_5 (by decide) (fun h => absurd (by decide +kernel) h) (fun _ => ?_)
        refine lv_iconst (v := (-1)) hx hb d_Md_pension_8 (by decide +kernel) ?_
        refine W.widen (k := 0) (n := 0) (Nat.le_of_ble_eq_true rfl) (Nat.le_of_ble_eq_true rfl) ?_
        exact W.iret (v := (-1)) hx hb hr (fun t ht hW => ⟨⟨(-1), (L, f), rfl, ⟨hO_0, hA_0.mono (by decide +kernel), trivial⟩, by rw [ht]; exact hP, va_K.moved hW.alike hK, by rw [hAe]; exact hD⟩, by rw [hAe]; exact hS.F ht⟩) (by rw [hAe]; exact hS.2.2) d_Md_pension_9
      · by_cases c_5 : 9999 < p_1
        · refine hb_ti 0 (by unfold f_Md_isPension; rw [if_neg c_2, if_neg c_3, if_neg c_4, if_pos c_5]; first | done | rfl) ?_
          refine lv_if_ne (tgt := 10) hx hb d_Md_pension_5 (by decide) (fun h => absurd (by decide +kernel) h) (fun _ => ?_)
          refine lv_iconst (v := (-1)) hx hb d_Md_pension_8 (by decide +kernel) ?_
          refine W.widen (k := 0) (n := 0) (Nat.le_of_ble_eq_true rfl) (Nat.le_of_ble_eq_true rfl) ?_
          exact W.iret (v := (-1)) hx hb hr (fun t ht hW => ⟨⟨(-1), (L, f), rfl, ⟨hO_0, hA_0.mono (by decide +kernel), trivial⟩, by rw [ht]; exact hP, va_K.moved hW.alike hK, by rw [hAe]; exact hD⟩, by rw [hAe]; exact hS.F ht⟩) (by rw [hAe]; exact hS.2.2) d_Md_pension_9
        · refine hb_ti 1 (by unfold f_Md_isPension; rw [if_neg c_2, if_neg c_3, if_neg c_4, if_neg c_5]; first | done | rfl) ?_
          refine lv_if_ne (tgt := 10) hx hb d_Md_pension_5 (by decide) (fun _ => ?_) (fun h => absurd h (by decide +kernel))
          refine lv_aload_n hx hb d_Md_pension_10 rfl (lv_at hl 0 rfl) ?_
          refine tw_geti (D := (dC, dI)) (C := R_Md) (T := F_Md) (N := 64) (ci := 7) (kd := 27) (ct := ct) hx hb htb i_Md hown hK hP hO_0 m0 rfl rfl 60 (by decide) (htb (.fieldLink R_Md 323 "WaterMenModel" "pensioners" "I") tw_653) (fun _ h9 => h9) rfl d_Md_pension_11 (fun x_6 e_6 b_6 => ?_)
          refine lv_bipush (v := 30) hx hb d_Md_pension_14 (by decide +kernel) ?_
          refine lv_icmp_ne (tgt := 24) hx hb d_Md_pension_16 (by decide) (fun c_7 => ?_) (fun c_7 => ?_)
          · refine lv_aload_n hx hb d_Md_pension_24 rfl (lv_at hl 0 rfl) ?_
            refine lv_iload_n hx hb d_Md_pension_25 rfl (lv_at hl 1 rfl) ?_
            refine lv_iload_n hx hb d_Md_pension_26 rfl (lv_at hl 2 rfl) ?_
            have hFc := hb_free hD hS hA
            refine va_calli (va_runV (As := [.int p_0, .int p_1]) (rest := []) ⟨hx, hb, hml, hown, htb⟩ (c_Md_newPensioner_t l dC dI ct L f hO_0 q0 m0 _ p_0 p_1 (by rw [show ti f q0 60 = x_6 from e_6]; exact (show ¬ (29 < x_6) from by have z0 : (29 : Int32).toInt = 29 := (by decide +kernel); have z1 : (30 : Int32).toInt = 30 := (by decide +kernel); have r0 := fb_rng (x_6); have e0 := b_6.2; rw [Int32.lt_iff_toInt_lt, z1] at e0; have e1 := c_7; rw [← Int32.toInt_inj, z1] at e1; rw [Int32.lt_iff_toInt_lt, z0]; omega))) (cwV 2 htb (gd_V tw_674 tw_675 tw_676 tw_479 tw_673) rfl rfl rfl (by decide +kernel) ⟨Nat.le_of_ble_eq_true rfl, Nat.le_of_ble_eq_true rfl⟩) ⟨pc_blind, tw_recv hK hP m0 rfl rfl, pc_pre hP hK hD hN⟩ rfl rfl hl.1 rfl (lv_room (Nat.le_of_ble_eq_true rfl)) d_Md_pension_27 ⟨Nat.le_of_ble_eq_true rfl, Nat.le_of_ble_eq_true rfl⟩) hS (fun q _ h => hFc q h) hFc (fun r_8 u t H locs ht hvm er hB hz1 hk1 hS => ?_)
            obtain ⟨L_1, f_1⟩ := u
            obtain ⟨hO_1, hE_1, er⟩ := er
            obtain ⟨hP, hK1, hD1⟩ := hB
            rw [ht] at hP
            have hP : va_P (dC, dI) vwCl (TW ct L_1 f_1) H := hP
            have hD : va_D A (TW ct L_1 f_1) := hD1.weaken (fun _ q _ h => hFc q.1 h)
            have hO_1 : Ok L_1 f_1 := hO_1
            have hE_1 : Ext W_Md_newPensioner_t L f L_1 f_1 := hE_1
            clear hK1 hD1 ht hvm hz1 hk1
            have hA_1 := hA_0.trans hE_1
            clear er
            refine W.widen (k := 0) (n := 0) (Nat.le_of_ble_eq_true rfl) (Nat.le_of_ble_eq_true rfl) ?_
            exact W.iret (v := r_8) hx hb hr (fun t ht hW => ⟨⟨r_8, (L_1, f_1), rfl, ⟨hO_1, hA_1.mono (by decide +kernel), trivial⟩, by rw [ht]; exact hP, va_K.moved hW.alike hK, by rw [hAe]; exact hD⟩, by rw [hAe]; exact hS.F ht⟩) (by rw [hAe]; exact hS.2.2) d_Md_pension_30
          · refine lv_bipush (v := (-3)) hx hb d_Md_pension_19 (by decide +kernel) ?_
            refine lv_goto (tgt := 30) hx hb d_Md_pension_21 (by decide) ?_
            refine W.widen (k := 0) (n := 0) (Nat.le_of_ble_eq_true rfl) (Nat.le_of_ble_eq_true rfl) ?_
            exact W.iret (v := (-3)) hx hb hr (fun t ht hW => ⟨⟨(-3), (L, f), rfl, ⟨hO_0, hA_0.mono (by decide +kernel), trivial⟩, by rw [ht]; exact hP, va_K.moved hW.alike hK, by rw [hAe]; exact hD⟩, by rw [hAe]; exact hS.F ht⟩) (by rw [hAe]; exact hS.2.2) d_Md_pension_30
set_option maxHeartbeats 4000000 in
set_option maxRecDepth 100000 in
theorem c_Md_foretold_t (l : Launch) (dC : Nat → ClassId) (dI : Nat → Nat → Nat) (ct : Nat → ClassId) (L : List Nat) (f : TF) (hO_0 : Ok L f) (q0 : Nat) (m0 : q0 ∈ L ∧ tk f q0 = 27)    : Met l y_Md_foretold (.code y_Md_foretold b_Md_foretold 8 (some .int) :: TB) ({ frames := 1, cells := 0, slots := 0, locals := 20 }) (va_Pc [.ref q0] (PR dC dI (TW ct L f) (TT ct))) (vp_Si (fun r => True)) 0 0 (fun _ => False) := by
  refine Met.ofW (cc := b_Md_foretold) (maxL := 8) (ret := (some .int)) (by decide) rfl ?_
  intro p e s m args below meth c s₁ B hml hv
  obtain ⟨rfl, hP, hK, hN⟩ := hv
  have hx := B.exec
  have hb := B.bytes
  have hr := B.returns
  have hts := atoms_spec (ws := (.code y_Md_foretold b_Md_foretold 8 (some .int) :: TB)) B.pre
  have htb := fun w (h : w ∈ TB) => hts w (List.mem_cons_of_mem _ h)
  have hown : s.vm.findClass R_Md = some m.cls := findClass_of_methodNamed B.named
  have hlocks := B.notSynchronized
  have hl := lv_entry ([.ref q0]) (n := 8) (Nat.le_of_ble_eq_true rfl)
  rw [lg_entry_eq]
  generalize (lg_sl ([.ref q0]) ++ List.replicate (8 - (lg_sl ([.ref q0])).length) Slot.unset).toArray = ls at hl ⊢
  have hl : lv_has ls 8 [(0, .ref q0)] := hl
  refine lv_lconst (v := 0) hx hb d_Md_foretold_0 (by decide +kernel) ?_
  refine lv_lstore_n (lv' := [(1, .long 0), (0, .ref q0)]) hx hb d_Md_foretold_1 rfl hl (by decide) rfl (fun ls hl => ?_)
  refine lv_aload_n hx hb d_Md_foretold_2 rfl (lv_at hl 1 rfl) ?_
  refine vp_callSi (va_Run.run (va_runV (As := []) (rest := []) ⟨hx, hb, hml, hown, htb⟩ (c_Md_today_t l dC dI ct L f hO_0 q0 m0) (cwV 0 htb (gd_V tw_499 tw_500 tw_501 tw_479 tw_498) rfl rfl rfl (by decide +kernel) ⟨Nat.le_of_ble_eq_true rfl, Nat.le_of_ble_eq_true rfl⟩) ⟨pr_blind, tw_recv hK hP m0 rfl rfl, pr_pre hP hK hN⟩ rfl rfl hl.1 rfl (lv_room (Nat.le_of_ble_eq_true rfl)) d_Md_foretold_3 ⟨Nat.le_of_ble_eq_true rfl, Nat.le_of_ble_eq_true rfl⟩)) (fun r_1 er_1 => ?_)
  obtain ⟨po_2, po_3, po_4, po_5, -⟩ := er_1
  refine lv_bipush (v := 100) hx hb d_Md_foretold_6 (by decide +kernel) ?_
  refine lv_icmp_ge (tgt := 15) hx hb d_Md_foretold_8 (by decide) (fun c_6 => ?_) (fun c_6 => ?_)
  · refine lv_aload_n hx hb d_Md_foretold_15 rfl (lv_at hl 1 rfl) ?_
    refine vp_callSi (va_Run.run (va_runV (As := []) (rest := []) ⟨hx, hb, hml, hown, htb⟩ (c_Md_today_t l dC dI ct L f hO_0 q0 m0) (cwV 0 htb (gd_V tw_499 tw_500 tw_501 tw_479 tw_498) rfl rfl rfl (by decide +kernel) ⟨Nat.le_of_ble_eq_true rfl, Nat.le_of_ble_eq_true rfl⟩) ⟨pr_blind, tw_recv hK hP m0 rfl rfl, pr_pre hP hK hN⟩ rfl rfl hl.1 rfl (lv_room (Nat.le_of_ble_eq_true rfl)) d_Md_foretold_16 ⟨Nat.le_of_ble_eq_true rfl, Nat.le_of_ble_eq_true rfl⟩)) (fun r_7 er_7 => ?_)
    obtain ⟨po_8, po_9, po_10, po_11, -⟩ := er_7
    refine lv_bipush (v := 100) hx hb d_Md_foretold_19 (by decide +kernel) ?_
    refine lv_isub hx hb d_Md_foretold_21 ?_
    refine lv_istore_n (lv' := [(3, .int (r_7 - 100)), (1, .long 0), (0, .ref q0)]) hx hb d_Md_foretold_22 rfl hl (by decide) rfl (fun ls hl => ?_)
    have cut_12 : ∀ (n_12 : Nat) (v3_12 : Int32) (v1_12 : Int64) (ls : Array Slot), ¬ (v3_12 < 0) → ¬ (500 < v3_12) → (500 : Int32).toInt - (v3_12 : Int32).toInt ≤ (n_12 : Int) → lv_has ls 8 [(0, .ref q0), (1, .long v1_12), (3, .int v3_12)] → W p l e (headSpec (.code y_Md_foretold b_Md_foretold 8 (some .int) :: TB) ({ frames := 1, cells := 0, slots := 0, locals := 20 })).room s m [.ref q0].toArray below meth c s.heap [] 0 0 (MQ below (vp_Si (fun r => True)) [.ref q0].toArray s 0 0 (fun _ => False)) (F0 m 23 ls []) := by
      intro n_12
      induction n_12 using Nat.strongRecOn with
      | _ n_12 ih_12 =>
        intro v3_12 v1_12 ls iv0_12 iv1_12 hm_12 hl
        refine lv_iload_n hx hb d_Md_foretold_23 rfl (lv_at hl 2 rfl) ?_
        refine lv_aload_n hx hb d_Md_foretold_24 rfl (lv_at hl 0 rfl) ?_
        refine vp_callSi (va_Run.run (va_runV (As := []) (rest := [.int v3_12]) ⟨hx, hb, hml, hown, htb⟩ (c_Md_today_t l dC dI ct L f hO_0 q0 m0) (cwV 0 htb (gd_V tw_499 tw_500 tw_501 tw_479 tw_498) rfl rfl rfl (by decide +kernel) ⟨Nat.le_of_ble_eq_true rfl, Nat.le_of_ble_eq_true rfl⟩) ⟨pr_blind, tw_recv hK hP m0 rfl rfl, pr_pre hP hK hN⟩ rfl rfl hl.1 rfl (lv_room (Nat.le_of_ble_eq_true rfl)) d_Md_foretold_25 ⟨Nat.le_of_ble_eq_true rfl, Nat.le_of_ble_eq_true rfl⟩)) (fun r_13 er_13 => ?_)
        obtain ⟨po_14, po_15, po_16, po_17, -⟩ := er_13
        refine lv_icmp_gt (tgt := 46) hx hb d_Md_foretold_28 (by decide) (fun c_18 => ?_) (fun c_18 => ?_)
        · refine lv_aload_n hx hb d_Md_foretold_46 rfl (lv_at hl 0 rfl) ?_
          refine tw_getl (D := (dC, dI)) (C := R_Md) (T := F_Md) (N := 64) (ci := 7) (kd := 27) (ct := ct) hx hb htb i_Md hown hK hP m0 rfl rfl 56 (by decide) (htb (.fieldLink R_Md 316 "WaterMenModel" "box" "J") tw_649) (fun _ h9 => h9) rfl d_Md_foretold_47 (fun x_19 e_19 => ?_)
          refine lv_lstore_n (lv' := [(3, .long x_19), (0, .ref q0), (1, .long v1_12)]) hx hb d_Md_foretold_50 rfl hl (by decide) rfl (fun ls hl => ?_)
          refine lv_iconst (v := 1) hx hb d_Md_foretold_51 (by decide +kernel) ?_
          refine lv_istore (lv' := [(5, .int 1), (3, .long x_19), (0, .ref q0), (1, .long v1_12)]) hx hb d_Md_foretold_52 hl (by decide) rfl (fun ls hl => ?_)
          have cut_20 : ∀ (n_20 : Nat) (v5_20 : Int32) (v3_20 : Int64) (ls : Array Slot), ¬ (v5_20 < 1) → ¬ (41 < v5_20) → (41 : Int32).toInt - (v5_20 : Int32).toInt ≤ (n_20 : Int) → lv_has ls 8 [(0, .ref q0), (1, .long v1_12), (3, .long v3_20), (5, .int v5_20)] → W p l e (headSpec (.code y_Md_foretold b_Md_foretold 8 (some .int) :: TB) ({ frames := 1, cells := 0, slots := 0, locals := 20 })).room s m [.ref q0].toArray below meth c s.heap [] 0 0 (MQ below (vp_Si (fun r => True)) [.ref q0].toArray s 0 0 (fun _ => False)) (F0 m 54 ls []) := by
            intro n_20
            induction n_20 using Nat.strongRecOn with
            | _ n_20 ih_20 =>
              intro v5_20 v3_20 ls iv0_20 iv1_20 hm_20 hl
              refine lv_iload hx hb d_Md_foretold_54 (lv_at hl 3 rfl) ?_
              refine lv_bipush (v := 40) hx hb d_Md_foretold_56 (by decide +kernel) ?_
              refine lv_icmp_gt (tgt := 146) hx hb d_Md_foretold_58 (by decide) (fun c_21 => ?_) (fun c_21 => ?_)
              · refine lv_bipush (v := (-2)) hx hb d_Md_foretold_146 (by decide +kernel) ?_
                exact W.iret (v := (-2)) hx hb hr (fun t ht hW => ⟨(-2), rfl, trivial, ht⟩) t_nil d_Md_foretold_148
              · refine lv_aload_n hx hb d_Md_foretold_61 rfl (lv_at hl 0 rfl) ?_
                refine vp_callSi (va_Run.run (va_runV (As := []) (rest := []) ⟨hx, hb, hml, hown, htb⟩ (c_Md_today_t l dC dI ct L f hO_0 q0 m0) (cwV 0 htb (gd_V tw_499 tw_500 tw_501 tw_479 tw_498) rfl rfl rfl (by decide +kernel) ⟨Nat.le_of_ble_eq_true rfl, Nat.le_of_ble_eq_true rfl⟩) ⟨pr_blind, tw_recv hK hP m0 rfl rfl, pr_pre hP hK hN⟩ rfl rfl hl.1 rfl (lv_room (Nat.le_of_ble_eq_true rfl)) d_Md_foretold_62 ⟨Nat.le_of_ble_eq_true rfl, Nat.le_of_ble_eq_true rfl⟩)) (fun r_22 er_22 => ?_)
                obtain ⟨po_23, po_24, po_25, po_26, -⟩ := er_22
                refine lv_bipush (v := 100) hx hb d_Md_foretold_65 (by decide +kernel) ?_
                refine lv_idiv hx hb d_Md_foretold_67 (by decide) ?_
                refine hb_divn (U := 499) (Qm := 4) (c := 100) (C1 := 99) (K := 2147483547) (by decide +kernel) (by decide +kernel) (by decide +kernel) po_23 (show ¬ (2147483547 < r_22) from by have e0 := po_23; rw [Int32.lt_iff_toInt_lt] at e0; have e1 := po_24; rw [Int32.lt_iff_toInt_lt] at e1; have z0 : (0 : Int32).toInt = 0 := (by decide +kernel); have z1 : (499 : Int32).toInt = 499 := (by decide +kernel); have z2 : (2147483547 : Int32).toInt = 2147483547 := (by decide +kernel); rw [Int32.lt_iff_toInt_lt]; omega) po_24 (by decide +kernel) (fun y_27 g1_27 g2_27 g3_27 g4_27 g5_27 => ?_)
                refine lv_iload hx hb d_Md_foretold_68 (lv_at hl 3 rfl) ?_
                refine lv_iadd hx hb d_Md_foretold_70 ?_
                refine lv_bipush (v := 100) hx hb d_Md_foretold_71 (by decide +kernel) ?_
                refine lv_imul hx hb d_Md_foretold_73 ?_
                refine lv_istore (lv' := [(6, .int ((y_27 + v5_20) * 100)), (0, .ref q0), (1, .long v1_12), (3, .long v3_20), (5, .int v5_20)]) hx hb d_Md_foretold_74 hl (by decide) rfl (fun ls hl => ?_)
                refine lv_lload_n hx hb d_Md_foretold_76 rfl (lv_at hl 3 rfl) ?_
                refine lv_lload_n hx hb d_Md_foretold_77 rfl (lv_at hl 2 rfl) ?_
                refine lv_ladd hx hb d_Md_foretold_78 ?_
                refine hb_anyl (fun y_28 => ?_)
                refine lv_lstore_n (lv' := [(3, .long y_28), (6, .int ((y_27 + v5_20) * 100)), (0, .ref q0), (1, .long v1_12), (5, .int v5_20)]) hx hb d_Md_foretold_79 rfl hl (by decide) rfl (fun ls hl => ?_)
                refine lv_iconst (v := 0) hx hb d_Md_foretold_80 (by decide +kernel) ?_
                refine lv_istore (lv' := [(7, .int 0), (3, .long y_28), (6, .int ((y_27 + v5_20) * 100)), (0, .ref q0), (1, .long v1_12), (5, .int v5_20)]) hx hb d_Md_foretold_81 hl (by decide) rfl (fun ls hl => ?_)
                have cut_29 : ∀ (n_29 : Nat) (v7_29 : Int32) (v3_29 : Int64) (ls : Array Slot), ¬ (v7_29 < 0) → ¬ (30 < v7_29) → (30 : Int32).toInt - (v7_29 : Int32).toInt ≤ (n_29 : Int) → lv_has ls 8 [(0, .ref q0), (1, .long v1_12), (3, .long v3_29), (5, .int v5_20), (6, .int ((y_27 + v5_20) * 100)), (7, .int v7_29)] → W p l e (headSpec (.code y_Md_foretold b_Md_foretold 8 (some .int) :: TB) ({ frames := 1, cells := 0, slots := 0, locals := 20 })).room s m [.ref q0].toArray below meth c s.heap [] 0 0 (MQ below (vp_Si (fun r => True)) [.ref q0].toArray s 0 0 (fun _ => False)) (F0 m 83 ls []) := by
                  intro n_29
                  induction n_29 using Nat.strongRecOn with
                  | _ n_29 ih_29 =>
                    intro v7_29 v3_29 ls iv0_29 iv1_29 hm_29 hl
                    refine lv_iload hx hb d_Md_foretold_83 (lv_at hl 5 rfl) ?_
                    refine lv_aload_n hx hb d_Md_foretold_85 rfl (lv_at hl 0 rfl) ?_
                    refine tw_geti (D := (dC, dI)) (C := R_Md) (T := F_Md) (N := 64) (ci := 7) (kd := 27) (ct := ct) hx hb htb i_Md hown hK hP hO_0 m0 rfl rfl 60 (by decide) (htb (.fieldLink R_Md 323 "WaterMenModel" "pensioners" "I") tw_653) (fun _ h9 => h9) rfl d_Md_foretold_86 (fun x_30 e_30 b_30 => ?_)
                    refine lv_icmp_ge (tgt := 140) hx hb d_Md_foretold_89 (by decide) (fun c_31 => ?_) (fun c_31 => ?_)
                    · refine lv_iinc (v := (v5_20 + 1)) (lv' := [(5, .int (v5_20 + 1)), (0, .ref q0), (1, .long v1_12), (3, .long v3_29), (6, .int ((y_27 + v5_20) * 100)), (7, .int v7_29)]) hx hb d_Md_foretold_140 hl (k := 3) rfl rfl (by decide) rfl (fun ls hl => ?_)
                      refine lv_goto (tgt := 54) hx hb d_Md_foretold_143 (by decide) ?_
                      exact ih_20 (n_20 - 1) (by have z0 : (1 : Int32).toInt = 1 := (by decide +kernel); have z1 : (40 : Int32).toInt = 40 := (by decide +kernel); have z2 : (41 : Int32).toInt = 41 := (by decide +kernel); have r0 := fb_rng (v5_20); have e0 := c_21; rw [Int32.lt_iff_toInt_lt, z1] at e0; have s0 := fb_addI (x := (v5_20)) (y := (1 : Int32)) (by (try rw [z0]); omega) (by (try rw [z0]); omega); rw [z0] at s0; have hq := hm_20; (try rw [z2] at hq); omega) (v5_20 + 1) v3_29 _ (show ¬ ((v5_20 + 1) < 1) from by have e0 := iv0_20; rw [Int32.lt_iff_toInt_lt] at e0; have e1 := c_21; rw [Int32.lt_iff_toInt_lt] at e1; have z0 : (1 : Int32).toInt = 1 := (by decide +kernel); have z1 : (40 : Int32).toInt = 40 := (by decide +kernel); have ss := fb_addI (x := v5_20) (y := 1) (by omega) (by omega); rw [Int32.lt_iff_toInt_lt]; omega) (show ¬ (41 < (v5_20 + 1)) from by have e0 := iv0_20; rw [Int32.lt_iff_toInt_lt] at e0; have e1 := c_21; rw [Int32.lt_iff_toInt_lt] at e1; have z0 : (1 : Int32).toInt = 1 := (by decide +kernel); have z1 : (40 : Int32).toInt = 40 := (by decide +kernel); have z2 : (41 : Int32).toInt = 41 := (by decide +kernel); have ss := fb_addI (x := v5_20) (y := 1) (by omega) (by omega); rw [Int32.lt_iff_toInt_lt]; omega) (by have z0 : (1 : Int32).toInt = 1 := (by decide +kernel); have z1 : (40 : Int32).toInt = 40 := (by decide +kernel); have z2 : (41 : Int32).toInt = 41 := (by decide +kernel); have r0 := fb_rng (v5_20); have e0 := c_21; rw [Int32.lt_iff_toInt_lt, z1] at e0; have s0 := fb_addI (x := (v5_20)) (y := (1 : Int32)) (by (try rw [z0]); omega) (by (try rw [z0]); omega); rw [z0] at s0; have hq := hm_20; (try rw [z2] at hq); (try rw [z2]); omega) (lv_sub hl [1, 2, 3, 0] rfl)
                    · refine lv_iload hx hb d_Md_foretold_92 (lv_at hl 4 rfl) ?_
                      refine lv_aload_n hx hb d_Md_foretold_94 rfl (lv_at hl 0 rfl) ?_
                      refine tw_getr (D := (dC, dI)) (C := R_Md) (T := F_Md) (N := 64) (ci := 7) (kd := 27) (ct := ct) hx hb htb i_Md hown hK hP hO_0 m0 rfl rfl 62 (by decide) (htb (.fieldLink R_Md 180 "WaterMenModel" "pensionEnd" "[I") tw_654) (fun _ h9 => h9) rfl d_Md_foretold_95 (fun q_32 e_32 m_32 => ?_)
                      refine lv_iload hx hb d_Md_foretold_98 (lv_at hl 5 rfl) ?_
                      refine tw_aldI (ct := ct) hx hb hK hP hO_0 m_32 rfl (by have z0 : (0 : Int32).toInt = 0 := (by decide +kernel); have z1 : (30 : Int32).toInt = 30 := (by decide +kernel); have r0 := fb_rng (v7_29); have r1 := fb_rng (x_30); have e0 := iv0_29; rw [Int32.lt_iff_toInt_lt, z0] at e0; have e1 := c_31; rw [Int32.le_iff_toInt_le] at e1; have e2 := b_30.2; rw [Int32.lt_iff_toInt_lt, z1] at e2; rw [vp_in_iff]; omega) d_Md_foretold_100 (fun x_33 e_33 b_33 => ?_)
                      refine lv_icmp_lt (tgt := 107) hx hb d_Md_foretold_101 (by decide) (fun c_34 => ?_) (fun c_34 => ?_)
                      · refine lv_lload_n hx hb d_Md_foretold_107 rfl (lv_at hl 2 rfl) ?_
                        refine lv_aload_n hx hb d_Md_foretold_108 rfl (lv_at hl 0 rfl) ?_
                        refine tw_getr (D := (dC, dI)) (C := R_Md) (T := F_Md) (N := 64) (ci := 7) (kd := 27) (ct := ct) hx hb htb i_Md hown hK hP hO_0 m0 rfl rfl 61 (by decide) (htb (.fieldLink R_Md 177 "WaterMenModel" "pensionOf" "[I") tw_655) (fun _ h9 => h9) rfl d_Md_foretold_109 (fun q_35 e_35 m_35 => ?_)
                        refine lv_iload hx hb d_Md_foretold_112 (lv_at hl 5 rfl) ?_
                        refine tw_aldI (ct := ct) hx hb hK hP hO_0 m_35 rfl (by have z0 : (0 : Int32).toInt = 0 := (by decide +kernel); have z1 : (30 : Int32).toInt = 30 := (by decide +kernel); have r0 := fb_rng (v7_29); have r1 := fb_rng (x_30); have e0 := iv0_29; rw [Int32.lt_iff_toInt_lt, z0] at e0; have e1 := c_31; rw [Int32.le_iff_toInt_le] at e1; have e2 := b_30.2; rw [Int32.lt_iff_toInt_lt, z1] at e2; rw [vp_in_iff]; omega) d_Md_foretold_114 (fun x_36 e_36 b_36 => ?_)
                        refine lv_i2l hx hb d_Md_foretold_115 rfl ?_
                        refine W.lcmp hx hb d_Md_foretold_116 ?_
                        refine hb_anyi (fun y_37 => ?_)
                        refine lv_if_ge (tgt := 123) hx hb d_Md_foretold_117 (by decide) (fun c_38 => ?_) (fun c_38 => ?_)
                        · refine lv_lload_n hx hb d_Md_foretold_123 rfl (lv_at hl 2 rfl) ?_
                          refine lv_aload_n hx hb d_Md_foretold_124 rfl (lv_at hl 0 rfl) ?_
                          refine tw_getR (D := (dC, dI)) (C := R_Md) (T := F_Md) (N := 64) (ci := 7) (kd := 27) (ct := ct) hx hb htb i_Md hown hK hP m0 rfl rfl 61 e_35 (by decide) (htb (.fieldLink R_Md 177 "WaterMenModel" "pensionOf" "[I") tw_655) (fun _ h9 => h9) rfl d_Md_foretold_125 ?_
                          refine hb_tv (.ref q_35) rfl ?_
                          refine lv_iload hx hb d_Md_foretold_128 (lv_at hl 5 rfl) ?_
                          refine tw_aldxI (ct := ct) (x := x_36) hx hb hK hP m_35 rfl (by have z0 : (0 : Int32).toInt = 0 := (by decide +kernel); have z1 : (30 : Int32).toInt = 30 := (by decide +kernel); have r0 := fb_rng (v7_29); have r1 := fb_rng (x_30); have e0 := iv0_29; rw [Int32.lt_iff_toInt_lt, z0] at e0; have e1 := c_31; rw [Int32.le_iff_toInt_le] at e1; have e2 := b_30.2; rw [Int32.lt_iff_toInt_lt, z1] at e2; rw [vp_in_iff]; omega) e_36 d_Md_foretold_130 ?_
                          refine lv_i2l hx hb d_Md_foretold_131 rfl ?_
                          refine lv_lsub hx hb d_Md_foretold_132 ?_
                          refine hb_anyl (fun y_40 => ?_)
                          refine lv_lstore_n (lv' := [(3, .long y_40), (0, .ref q0), (1, .long v1_12), (5, .int v5_20), (6, .int ((y_27 + v5_20) * 100)), (7, .int v7_29)]) hx hb d_Md_foretold_133 rfl hl (by decide) rfl (fun ls hl => ?_)
                          refine lv_iinc (v := (v7_29 + 1)) (lv' := [(7, .int (v7_29 + 1)), (3, .long y_40), (0, .ref q0), (1, .long v1_12), (5, .int v5_20), (6, .int ((y_27 + v5_20) * 100))]) hx hb d_Md_foretold_134 hl (k := 5) rfl rfl (by decide) rfl (fun ls hl => ?_)
                          refine lv_goto (tgt := 83) hx hb d_Md_foretold_137 (by decide) ?_
                          exact ih_29 (n_29 - 1) (by have z0 : (1 : Int32).toInt = 1 := (by decide +kernel); have z1 : (30 : Int32).toInt = 30 := (by decide +kernel); have r0 := fb_rng (v7_29); have r1 := fb_rng (x_30); have e0 := c_31; rw [Int32.le_iff_toInt_le] at e0; have e1 := b_30.2; rw [Int32.lt_iff_toInt_lt, z1] at e1; have s0 := fb_addI (x := (v7_29)) (y := (1 : Int32)) (by (try rw [z0]); omega) (by (try rw [z0]); omega); rw [z0] at s0; have hq := hm_29; (try rw [z1] at hq); omega) (v7_29 + 1) y_40 _ (show ¬ ((v7_29 + 1) < 0) from by have e0 := iv0_29; rw [Int32.lt_iff_toInt_lt] at e0; have e1 := iv1_29; rw [Int32.lt_iff_toInt_lt] at e1; have z0 : (0 : Int32).toInt = 0 := (by decide +kernel); have z1 : (1 : Int32).toInt = 1 := (by decide +kernel); have z2 : (30 : Int32).toInt = 30 := (by decide +kernel); have ss := fb_addI (x := v7_29) (y := 1) (by omega) (by omega); rw [Int32.lt_iff_toInt_lt]; omega) (show ¬ (30 < (v7_29 + 1)) from by have z0 : (1 : Int32).toInt = 1 := (by decide +kernel); have z1 : (30 : Int32).toInt = 30 := (by decide +kernel); have r0 := fb_rng (v7_29); have r1 := fb_rng (x_30); have e0 := c_31; rw [Int32.le_iff_toInt_le] at e0; have e1 := b_30.2; rw [Int32.lt_iff_toInt_lt, z1] at e1; have s0 := fb_addI (x := (v7_29)) (y := (1 : Int32)) (by (try rw [z0]); omega) (by (try rw [z0]); omega); rw [z0] at s0; rw [Int32.lt_iff_toInt_lt, z1]; omega) (by have z0 : (1 : Int32).toInt = 1 := (by decide +kernel); have z1 : (30 : Int32).toInt = 30 := (by decide +kernel); have r0 := fb_rng (v7_29); have r1 := fb_rng (x_30); have e0 := c_31; rw [Int32.le_iff_toInt_le] at e0; have e1 := b_30.2; rw [Int32.lt_iff_toInt_lt, z1] at e1; have s0 := fb_addI (x := (v7_29)) (y := (1 : Int32)) (by (try rw [z0]); omega) (by (try rw [z0]); omega); rw [z0] at s0; have hq := hm_29; (try rw [z1] at hq); (try rw [z1]); omega) (lv_sub hl [2, 3, 1, 4, 5, 0] rfl)
                        · refine lv_iload hx hb d_Md_foretold_120 (lv_at hl 4 rfl) ?_
                          exact W.iret (v := ((y_27 + v5_20) * 100)) hx hb hr (fun t ht hW => ⟨((y_27 + v5_20) * 100), rfl, trivial, ht⟩) t_nil d_Md_foretold_122
                      · refine lv_goto (tgt := 134) hx hb d_Md_foretold_104 (by decide) ?_
                        refine lv_iinc (v := (v7_29 + 1)) (lv' := [(7, .int (v7_29 + 1)), (0, .ref q0), (1, .long v1_12), (3, .long v3_29), (5, .int v5_20), (6, .int ((y_27 + v5_20) * 100))]) hx hb d_Md_foretold_134 hl (k := 5) rfl rfl (by decide) rfl (fun ls hl => ?_)
                        refine lv_goto (tgt := 83) hx hb d_Md_foretold_137 (by decide) ?_
                        exact ih_29 (n_29 - 1) (by have z0 : (1 : Int32).toInt = 1 := (by decide +kernel); have z1 : (30 : Int32).toInt = 30 := (by decide +kernel); have r0 := fb_rng (v7_29); have r1 := fb_rng (x_30); have e0 := c_31; rw [Int32.le_iff_toInt_le] at e0; have e1 := b_30.2; rw [Int32.lt_iff_toInt_lt, z1] at e1; have s0 := fb_addI (x := (v7_29)) (y := (1 : Int32)) (by (try rw [z0]); omega) (by (try rw [z0]); omega); rw [z0] at s0; have hq := hm_29; (try rw [z1] at hq); omega) (v7_29 + 1) v3_29 _ (show ¬ ((v7_29 + 1) < 0) from by have e0 := iv0_29; rw [Int32.lt_iff_toInt_lt] at e0; have e1 := iv1_29; rw [Int32.lt_iff_toInt_lt] at e1; have z0 : (0 : Int32).toInt = 0 := (by decide +kernel); have z1 : (1 : Int32).toInt = 1 := (by decide +kernel); have z2 : (30 : Int32).toInt = 30 := (by decide +kernel); have ss := fb_addI (x := v7_29) (y := 1) (by omega) (by omega); rw [Int32.lt_iff_toInt_lt]; omega) (show ¬ (30 < (v7_29 + 1)) from by have z0 : (1 : Int32).toInt = 1 := (by decide +kernel); have z1 : (30 : Int32).toInt = 30 := (by decide +kernel); have r0 := fb_rng (v7_29); have r1 := fb_rng (x_30); have e0 := c_31; rw [Int32.le_iff_toInt_le] at e0; have e1 := b_30.2; rw [Int32.lt_iff_toInt_lt, z1] at e1; have s0 := fb_addI (x := (v7_29)) (y := (1 : Int32)) (by (try rw [z0]); omega) (by (try rw [z0]); omega); rw [z0] at s0; rw [Int32.lt_iff_toInt_lt, z1]; omega) (by have z0 : (1 : Int32).toInt = 1 := (by decide +kernel); have z1 : (30 : Int32).toInt = 30 := (by decide +kernel); have r0 := fb_rng (v7_29); have r1 := fb_rng (x_30); have e0 := c_31; rw [Int32.le_iff_toInt_le] at e0; have e1 := b_30.2; rw [Int32.lt_iff_toInt_lt, z1] at e1; have s0 := fb_addI (x := (v7_29)) (y := (1 : Int32)) (by (try rw [z0]); omega) (by (try rw [z0]); omega); rw [z0] at s0; have hq := hm_29; (try rw [z1] at hq); (try rw [z1]); omega) (lv_sub hl [1, 2, 3, 4, 5, 0] rfl)
                exact cut_29 4294967296 (0 : Int32) y_28 _ (by decide +kernel) (by decide +kernel) (by have t1 := fb_rng (30 : Int32); have t2 := fb_rng (0 : Int32); omega) (lv_sub hl [3, 4, 1, 5, 2, 0] rfl)
          exact cut_20 4294967296 (1 : Int32) x_19 _ (by decide +kernel) (by decide +kernel) (by have t1 := fb_rng (41 : Int32); have t2 := fb_rng (1 : Int32); omega) (lv_sub hl [2, 3, 1, 0] rfl)
        · refine lv_lload_n hx hb d_Md_foretold_31 rfl (lv_at hl 1 rfl) ?_
          refine lv_aload_n hx hb d_Md_foretold_32 rfl (lv_at hl 0 rfl) ?_
          refine tw_getr (D := (dC, dI)) (C := R_Md) (T := F_Md) (N := 64) (ci := 7) (kd := 27) (ct := ct) hx hb htb i_Md hown hK hP hO_0 m0 rfl rfl 59 (by decide) (htb (.fieldLink R_Md 173 "WaterMenModel" "boxIn" "[J") tw_650) (fun _ h9 => h9) rfl d_Md_foretold_33 (fun q_41 e_41 m_41 => ?_)
          refine lv_iload_n hx hb d_Md_foretold_36 rfl (lv_at hl 2 rfl) ?_
          refine tw_aldJ (ct := ct) hx hb hK hP m_41 rfl (by have z0 : (0 : Int32).toInt = 0 := (by decide +kernel); have z1 : (499 : Int32).toInt = 499 := (by decide +kernel); have r0 := fb_rng (r_13); have r1 := fb_rng (v3_12); have e0 := iv0_12; rw [Int32.lt_iff_toInt_lt, z0] at e0; have e1 := c_18; rw [Int32.lt_iff_toInt_lt] at e1; have e2 := po_15; rw [Int32.lt_iff_toInt_lt, z1] at e2; rw [vp_in_iff]; omega) d_Md_foretold_37 (fun x_42 e_42 => ?_)
          refine lv_ladd hx hb d_Md_foretold_38 ?_
          refine hb_anyl (fun y_43 => ?_)
          refine lv_lstore_n (lv' := [(1, .long y_43), (0, .ref q0), (3, .int v3_12)]) hx hb d_Md_foretold_39 rfl hl (by decide) rfl (fun ls hl => ?_)
          refine lv_iinc (v := (v3_12 + 1)) (lv' := [(3, .int (v3_12 + 1)), (1, .long y_43), (0, .ref q0)]) hx hb d_Md_foretold_40 hl (k := 2) rfl rfl (by decide) rfl (fun ls hl => ?_)
          refine lv_goto (tgt := 23) hx hb d_Md_foretold_43 (by decide) ?_
          exact ih_12 (n_12 - 1) (by have z0 : (1 : Int32).toInt = 1 := (by decide +kernel); have z1 : (499 : Int32).toInt = 499 := (by decide +kernel); have z2 : (500 : Int32).toInt = 500 := (by decide +kernel); have r0 := fb_rng (r_13); have r1 := fb_rng (v3_12); have e0 := c_18; rw [Int32.lt_iff_toInt_lt] at e0; have e1 := po_15; rw [Int32.lt_iff_toInt_lt, z1] at e1; have s0 := fb_addI (x := (v3_12)) (y := (1 : Int32)) (by (try rw [z0]); omega) (by (try rw [z0]); omega); rw [z0] at s0; have hq := hm_12; (try rw [z2] at hq); omega) (v3_12 + 1) y_43 _ (show ¬ ((v3_12 + 1) < 0) from by have e0 := iv0_12; rw [Int32.lt_iff_toInt_lt] at e0; have e1 := iv1_12; rw [Int32.lt_iff_toInt_lt] at e1; have z0 : (0 : Int32).toInt = 0 := (by decide +kernel); have z1 : (1 : Int32).toInt = 1 := (by decide +kernel); have z2 : (500 : Int32).toInt = 500 := (by decide +kernel); have ss := fb_addI (x := v3_12) (y := 1) (by omega) (by omega); rw [Int32.lt_iff_toInt_lt]; omega) (show ¬ (500 < (v3_12 + 1)) from by have z0 : (1 : Int32).toInt = 1 := (by decide +kernel); have z1 : (499 : Int32).toInt = 499 := (by decide +kernel); have z2 : (500 : Int32).toInt = 500 := (by decide +kernel); have r0 := fb_rng (r_13); have r1 := fb_rng (v3_12); have e0 := c_18; rw [Int32.lt_iff_toInt_lt] at e0; have e1 := po_15; rw [Int32.lt_iff_toInt_lt, z1] at e1; have s0 := fb_addI (x := (v3_12)) (y := (1 : Int32)) (by (try rw [z0]); omega) (by (try rw [z0]); omega); rw [z0] at s0; rw [Int32.lt_iff_toInt_lt, z2]; omega) (by have z0 : (1 : Int32).toInt = 1 := (by decide +kernel); have z1 : (499 : Int32).toInt = 499 := (by decide +kernel); have z2 : (500 : Int32).toInt = 500 := (by decide +kernel); have r0 := fb_rng (r_13); have r1 := fb_rng (v3_12); have e0 := c_18; rw [Int32.lt_iff_toInt_lt] at e0; have e1 := po_15; rw [Int32.lt_iff_toInt_lt, z1] at e1; have s0 := fb_addI (x := (v3_12)) (y := (1 : Int32)) (by (try rw [z0]); omega) (by (try rw [z0]); omega); rw [z0] at s0; have hq := hm_12; (try rw [z2] at hq); (try rw [z2]); omega) (lv_sub hl [2, 1, 0] rfl)
    exact cut_12 4294967296 (r_7 - 100) 0 _ (show ¬ ((r_7 - 100) < 0) from by have z0 : (0 : Int32).toInt = 0 := (by decide +kernel); have z1 : (100 : Int32).toInt = 100 := (by decide +kernel); have z2 : (499 : Int32).toInt = 499 := (by decide +kernel); have z3 : (719 : Int32).toInt = 719 := (by decide +kernel); have z4 : (720 : Int32).toInt = 720 := (by decide +kernel); have r0 := fb_rng (r_1); have r1 := fb_rng (r_7); have r2 := fb_rng (ti f q0 1); have e0 := po_8; rw [Int32.lt_iff_toInt_lt, z0] at e0; have e1 := po_9; rw [Int32.lt_iff_toInt_lt, z2] at e1; have s0 := fb_mulI (x := (r_7)) (y := (720 : Int32)) (by (try rw [z4]); omega) (by (try rw [z4]); omega); rw [z4] at s0; have s1 := fb_addI (x := ((r_7) * (720 : Int32))) (y := (719 : Int32)) (by (try rw [z3]); omega) (by (try rw [z3]); omega); rw [z3] at s1; have e2 := po_11; rw [Int32.lt_iff_toInt_lt] at e2; have e3 := c_6; rw [Int32.le_iff_toInt_le, z1] at e3; have e4 := po_3; rw [Int32.lt_iff_toInt_lt, z2] at e4; have s2 := fb_mulI (x := (r_1)) (y := (720 : Int32)) (by (try rw [z4]); omega) (by (try rw [z4]); omega); rw [z4] at s2; have e5 := po_4; rw [Int32.lt_iff_toInt_lt] at e5; have s3 := fb_subI (x := (r_7)) (y := (100 : Int32)) (by (try rw [z1]); omega) (by (try rw [z1]); omega); rw [z1] at s3; rw [Int32.lt_iff_toInt_lt, z0]; omega) (show ¬ (500 < (r_7 - 100)) from by have e0 := po_8; rw [Int32.lt_iff_toInt_lt] at e0; have e1 := po_9; rw [Int32.lt_iff_toInt_lt] at e1; have z0 : (0 : Int32).toInt = 0 := (by decide +kernel); have z1 : (100 : Int32).toInt = 100 := (by decide +kernel); have z2 : (499 : Int32).toInt = 499 := (by decide +kernel); have z3 : (500 : Int32).toInt = 500 := (by decide +kernel); have ss := fb_subI (x := r_7) (y := 100) (by omega) (by omega); rw [Int32.lt_iff_toInt_lt]; omega) (by have t1 := fb_rng (500 : Int32); have t2 := fb_rng (r_7 - 100); omega) (lv_sub hl [2, 1, 0] rfl)
  · refine lv_iconst (v := 0) hx hb d_Md_foretold_11 (by decide +kernel) ?_
    refine lv_goto (tgt := 22) hx hb d_Md_foretold_12 (by decide) ?_
    refine lv_istore_n (lv' := [(3, .int 0), (1, .long 0), (0, .ref q0)]) hx hb d_Md_foretold_22 rfl hl (by decide) rfl (fun ls hl => ?_)
    have cut_44 : ∀ (n_44 : Nat) (v3_44 : Int32) (v1_44 : Int64) (ls : Array Slot), ¬ (v3_44 < 0) → ¬ (500 < v3_44) → (500 : Int32).toInt - (v3_44 : Int32).toInt ≤ (n_44 : Int) → lv_has ls 8 [(0, .ref q0), (1, .long v1_44), (3, .int v3_44)] → W p l e (headSpec (.code y_Md_foretold b_Md_foretold 8 (some .int) :: TB) ({ frames := 1, cells := 0, slots := 0, locals := 20 })).room s m [.ref q0].toArray below meth c s.heap [] 0 0 (MQ below (vp_Si (fun r => True)) [.ref q0].toArray s 0 0 (fun _ => False)) (F0 m 23 ls []) := by
      intro n_44
      induction n_44 using Nat.strongRecOn with
      | _ n_44 ih_44 =>
        intro v3_44 v1_44 ls iv0_44 iv1_44 hm_44 hl
        refine lv_iload_n hx hb d_Md_foretold_23 rfl (lv_at hl 2 rfl) ?_
        refine lv_aload_n hx hb d_Md_foretold_24 rfl (lv_at hl 0 rfl) ?_
        refine vp_callSi (va_Run.run (va_runV (As := []) (rest := [.int v3_44]) ⟨hx, hb, hml, hown, htb⟩ (c_Md_today_t l dC dI ct L f hO_0 q0 m0) (cwV 0 htb (gd_V tw_499 tw_500 tw_501 tw_479 tw_498) rfl rfl rfl (by decide +kernel) ⟨Nat.le_of_ble_eq_true rfl, Nat.le_of_ble_eq_true rfl⟩) ⟨pr_blind, tw_recv hK hP m0 rfl rfl, pr_pre hP hK hN⟩ rfl rfl hl.1 rfl (lv_room (Nat.le_of_ble_eq_true rfl)) d_Md_foretold_25 ⟨Nat.le_of_ble_eq_true rfl, Nat.le_of_ble_eq_true rfl⟩)) (fun r_45 er_45 => ?_)
        obtain ⟨po_46, po_47, po_48, po_49, -⟩ := er_45
        refine lv_icmp_gt (tgt := 46) hx hb d_Md_foretold_28 (by decide) (fun c_50 => ?_) (fun c_50 => ?_)
        · refine lv_aload_n hx hb d_Md_foretold_46 rfl (lv_at hl 0 rfl) ?_
          refine tw_getl (D := (dC, dI)) (C := R_Md) (T := F_Md) (N := 64) (ci := 7) (kd := 27) (ct := ct) hx hb htb i_Md hown hK hP m0 rfl rfl 56 (by decide) (htb (.fieldLink R_Md 316 "WaterMenModel" "box" "J") tw_649) (fun _ h9 => h9) rfl d_Md_foretold_47 (fun x_51 e_51 => ?_)
          refine lv_lstore_n (lv' := [(3, .long x_51), (0, .ref q0), (1, .long v1_44)]) hx hb d_Md_foretold_50 rfl hl (by decide) rfl (fun ls hl => ?_)
          refine lv_iconst (v := 1) hx hb d_Md_foretold_51 (by decide +kernel) ?_
          refine lv_istore (lv' := [(5, .int 1), (3, .long x_51), (0, .ref q0), (1, .long v1_44)]) hx hb d_Md_foretold_52 hl (by decide) rfl (fun ls hl => ?_)
          have cut_52 : ∀ (n_52 : Nat) (v5_52 : Int32) (v3_52 : Int64) (ls : Array Slot), ¬ (v5_52 < 1) → ¬ (41 < v5_52) → (41 : Int32).toInt - (v5_52 : Int32).toInt ≤ (n_52 : Int) → lv_has ls 8 [(0, .ref q0), (1, .long v1_44), (3, .long v3_52), (5, .int v5_52)] → W p l e (headSpec (.code y_Md_foretold b_Md_foretold 8 (some .int) :: TB) ({ frames := 1, cells := 0, slots := 0, locals := 20 })).room s m [.ref q0].toArray below meth c s.heap [] 0 0 (MQ below (vp_Si (fun r => True)) [.ref q0].toArray s 0 0 (fun _ => False)) (F0 m 54 ls []) := by
            intro n_52
            induction n_52 using Nat.strongRecOn with
            | _ n_52 ih_52 =>
              intro v5_52 v3_52 ls iv0_52 iv1_52 hm_52 hl
              refine lv_iload hx hb d_Md_foretold_54 (lv_at hl 3 rfl) ?_
              refine lv_bipush (v := 40) hx hb d_Md_foretold_56 (by decide +kernel) ?_
              refine lv_icmp_gt (tgt := 146) hx hb d_Md_foretold_58 (by decide) (fun c_53 => ?_) (fun c_53 => ?_)
              · refine lv_bipush (v := (-2)) hx hb d_Md_foretold_146 (by decide +kernel) ?_
                exact W.iret (v := (-2)) hx hb hr (fun t ht hW => ⟨(-2), rfl, trivial, ht⟩) t_nil d_Md_foretold_148
              · refine lv_aload_n hx hb d_Md_foretold_61 rfl (lv_at hl 0 rfl) ?_
                refine vp_callSi (va_Run.run (va_runV (As := []) (rest := []) ⟨hx, hb, hml, hown, htb⟩ (c_Md_today_t l dC dI ct L f hO_0 q0 m0) (cwV 0 htb (gd_V tw_499 tw_500 tw_501 tw_479 tw_498) rfl rfl rfl (by decide +kernel) ⟨Nat.le_of_ble_eq_true rfl, Nat.le_of_ble_eq_true rfl⟩) ⟨pr_blind, tw_recv hK hP m0 rfl rfl, pr_pre hP hK hN⟩ rfl rfl hl.1 rfl (lv_room (Nat.le_of_ble_eq_true rfl)) d_Md_foretold_62 ⟨Nat.le_of_ble_eq_true rfl, Nat.le_of_ble_eq_true rfl⟩)) (fun r_54 er_54 => ?_)
                obtain ⟨po_55, po_56, po_57, po_58, -⟩ := er_54
                refine lv_bipush (v := 100) hx hb d_Md_foretold_65 (by decide +kernel) ?_
                refine lv_idiv hx hb d_Md_foretold_67 (by decide) ?_
                refine hb_divn (U := 99) (Qm := 0) (c := 100) (C1 := 99) (K := 2147483547) (by decide +kernel) (by decide +kernel) (by decide +kernel) po_55 (show ¬ (2147483547 < r_54) from by have e0 := po_55; rw [Int32.lt_iff_toInt_lt] at e0; have e1 := po_56; rw [Int32.lt_iff_toInt_lt] at e1; have z0 : (0 : Int32).toInt = 0 := (by decide +kernel); have z1 : (499 : Int32).toInt = 499 := (by decide +kernel); have z2 : (2147483547 : Int32).toInt = 2147483547 := (by decide +kernel); rw [Int32.lt_iff_toInt_lt]; omega) (show ¬ (99 < r_54) from by have z0 : (0 : Int32).toInt = 0 := (by decide +kernel); have z1 : (99 : Int32).toInt = 99 := (by decide +kernel); have z2 : (100 : Int32).toInt = 100 := (by decide +kernel); have z3 : (499 : Int32).toInt = 499 := (by decide +kernel); have z4 : (719 : Int32).toInt = 719 := (by decide +kernel); have z5 : (720 : Int32).toInt = 720 := (by decide +kernel); have r0 := fb_rng (r_1); have r1 := fb_rng (r_54); have r2 := fb_rng (ti f q0 1); have e0 := po_55; rw [Int32.lt_iff_toInt_lt, z0] at e0; have e1 := po_56; rw [Int32.lt_iff_toInt_lt, z3] at e1; have s0 := fb_mulI (x := (r_54)) (y := (720 : Int32)) (by (try rw [z5]); omega) (by (try rw [z5]); omega); rw [z5] at s0; have e2 := po_57; rw [Int32.lt_iff_toInt_lt] at e2; have e3 := c_6; rw [Int32.le_iff_toInt_le, z2] at e3; have e4 := po_2; rw [Int32.lt_iff_toInt_lt, z0] at e4; have s1 := fb_mulI (x := (r_1)) (y := (720 : Int32)) (by (try rw [z5]); omega) (by (try rw [z5]); omega); rw [z5] at s1; have s2 := fb_addI (x := ((r_1) * (720 : Int32))) (y := (719 : Int32)) (by (try rw [z4]); omega) (by (try rw [z4]); omega); rw [z4] at s2; have e5 := po_5; rw [Int32.lt_iff_toInt_lt] at e5; rw [Int32.lt_iff_toInt_lt, z1]; omega) (by decide +kernel) (fun y_59 g1_59 g2_59 g3_59 g4_59 g5_59 => ?_)
                refine lv_iload hx hb d_Md_foretold_68 (lv_at hl 3 rfl) ?_
                refine lv_iadd hx hb d_Md_foretold_70 ?_
                refine lv_bipush (v := 100) hx hb d_Md_foretold_71 (by decide +kernel) ?_
                refine lv_imul hx hb d_Md_foretold_73 ?_
                refine lv_istore (lv' := [(6, .int ((y_59 + v5_52) * 100)), (0, .ref q0), (1, .long v1_44), (3, .long v3_52), (5, .int v5_52)]) hx hb d_Md_foretold_74 hl (by decide) rfl (fun ls hl => ?_)
                refine lv_lload_n hx hb d_Md_foretold_76 rfl (lv_at hl 3 rfl) ?_
                refine lv_lload_n hx hb d_Md_foretold_77 rfl (lv_at hl 2 rfl) ?_
                refine lv_ladd hx hb d_Md_foretold_78 ?_
                refine hb_anyl (fun y_60 => ?_)
                refine lv_lstore_n (lv' := [(3, .long y_60), (6, .int ((y_59 + v5_52) * 100)), (0, .ref q0), (1, .long v1_44), (5, .int v5_52)]) hx hb d_Md_foretold_79 rfl hl (by decide) rfl (fun ls hl => ?_)
                refine lv_iconst (v := 0) hx hb d_Md_foretold_80 (by decide +kernel) ?_
                refine lv_istore (lv' := [(7, .int 0), (3, .long y_60), (6, .int ((y_59 + v5_52) * 100)), (0, .ref q0), (1, .long v1_44), (5, .int v5_52)]) hx hb d_Md_foretold_81 hl (by decide) rfl (fun ls hl => ?_)
                have cut_61 : ∀ (n_61 : Nat) (v7_61 : Int32) (v3_61 : Int64) (ls : Array Slot), ¬ (v7_61 < 0) → ¬ (30 < v7_61) → (30 : Int32).toInt - (v7_61 : Int32).toInt ≤ (n_61 : Int) → lv_has ls 8 [(0, .ref q0), (1, .long v1_44), (3, .long v3_61), (5, .int v5_52), (6, .int ((y_59 + v5_52) * 100)), (7, .int v7_61)] → W p l e (headSpec (.code y_Md_foretold b_Md_foretold 8 (some .int) :: TB) ({ frames := 1, cells := 0, slots := 0, locals := 20 })).room s m [.ref q0].toArray below meth c s.heap [] 0 0 (MQ below (vp_Si (fun r => True)) [.ref q0].toArray s 0 0 (fun _ => False)) (F0 m 83 ls []) := by
                  intro n_61
                  induction n_61 using Nat.strongRecOn with
                  | _ n_61 ih_61 =>
                    intro v7_61 v3_61 ls iv0_61 iv1_61 hm_61 hl
                    refine lv_iload hx hb d_Md_foretold_83 (lv_at hl 5 rfl) ?_
                    refine lv_aload_n hx hb d_Md_foretold_85 rfl (lv_at hl 0 rfl) ?_
                    refine tw_geti (D := (dC, dI)) (C := R_Md) (T := F_Md) (N := 64) (ci := 7) (kd := 27) (ct := ct) hx hb htb i_Md hown hK hP hO_0 m0 rfl rfl 60 (by decide) (htb (.fieldLink R_Md 323 "WaterMenModel" "pensioners" "I") tw_653) (fun _ h9 => h9) rfl d_Md_foretold_86 (fun x_62 e_62 b_62 => ?_)
                    refine lv_icmp_ge (tgt := 140) hx hb d_Md_foretold_89 (by decide) (fun c_63 => ?_) (fun c_63 => ?_)
                    · refine lv_iinc (v := (v5_52 + 1)) (lv' := [(5, .int (v5_52 + 1)), (0, .ref q0), (1, .long v1_44), (3, .long v3_61), (6, .int ((y_59 + v5_52) * 100)), (7, .int v7_61)]) hx hb d_Md_foretold_140 hl (k := 3) rfl rfl (by decide) rfl (fun ls hl => ?_)
                      refine lv_goto (tgt := 54) hx hb d_Md_foretold_143 (by decide) ?_
                      exact ih_52 (n_52 - 1) (by have z0 : (1 : Int32).toInt = 1 := (by decide +kernel); have z1 : (40 : Int32).toInt = 40 := (by decide +kernel); have z2 : (41 : Int32).toInt = 41 := (by decide +kernel); have r0 := fb_rng (v5_52); have e0 := c_53; rw [Int32.lt_iff_toInt_lt, z1] at e0; have s0 := fb_addI (x := (v5_52)) (y := (1 : Int32)) (by (try rw [z0]); omega) (by (try rw [z0]); omega); rw [z0] at s0; have hq := hm_52; (try rw [z2] at hq); omega) (v5_52 + 1) v3_61 _ (show ¬ ((v5_52 + 1) < 1) from by have e0 := iv0_52; rw [Int32.lt_iff_toInt_lt] at e0; have e1 := c_53; rw [Int32.lt_iff_toInt_lt] at e1; have z0 : (1 : Int32).toInt = 1 := (by decide +kernel); have z1 : (40 : Int32).toInt = 40 := (by decide +kernel); have ss := fb_addI (x := v5_52) (y := 1) (by omega) (by omega); rw [Int32.lt_iff_toInt_lt]; omega) (show ¬ (41 < (v5_52 + 1)) from by have e0 := iv0_52; rw [Int32.lt_iff_toInt_lt] at e0; have e1 := c_53; rw [Int32.lt_iff_toInt_lt] at e1; have z0 : (1 : Int32).toInt = 1 := (by decide +kernel); have z1 : (40 : Int32).toInt = 40 := (by decide +kernel); have z2 : (41 : Int32).toInt = 41 := (by decide +kernel); have ss := fb_addI (x := v5_52) (y := 1) (by omega) (by omega); rw [Int32.lt_iff_toInt_lt]; omega) (by have z0 : (1 : Int32).toInt = 1 := (by decide +kernel); have z1 : (40 : Int32).toInt = 40 := (by decide +kernel); have z2 : (41 : Int32).toInt = 41 := (by decide +kernel); have r0 := fb_rng (v5_52); have e0 := c_53; rw [Int32.lt_iff_toInt_lt, z1] at e0; have s0 := fb_addI (x := (v5_52)) (y := (1 : Int32)) (by (try rw [z0]); omega) (by (try rw [z0]); omega); rw [z0] at s0; have hq := hm_52; (try rw [z2] at hq); (try rw [z2]); omega) (lv_sub hl [1, 2, 3, 0] rfl)
                    · refine lv_iload hx hb d_Md_foretold_92 (lv_at hl 4 rfl) ?_
                      refine lv_aload_n hx hb d_Md_foretold_94 rfl (lv_at hl 0 rfl) ?_
                      refine tw_getr (D := (dC, dI)) (C := R_Md) (T := F_Md) (N := 64) (ci := 7) (kd := 27) (ct := ct) hx hb htb i_Md hown hK hP hO_0 m0 rfl rfl 62 (by decide) (htb (.fieldLink R_Md 180 "WaterMenModel" "pensionEnd" "[I") tw_654) (fun _ h9 => h9) rfl d_Md_foretold_95 (fun q_64 e_64 m_64 => ?_)
                      refine lv_iload hx hb d_Md_foretold_98 (lv_at hl 5 rfl) ?_
                      refine tw_aldI (ct := ct) hx hb hK hP hO_0 m_64 rfl (by have z0 : (0 : Int32).toInt = 0 := (by decide +kernel); have z1 : (30 : Int32).toInt = 30 := (by decide +kernel); have r0 := fb_rng (v7_61); have r1 := fb_rng (x_62); have e0 := iv0_61; rw [Int32.lt_iff_toInt_lt, z0] at e0; have e1 := c_63; rw [Int32.le_iff_toInt_le] at e1; have e2 := b_62.2; rw [Int32.lt_iff_toInt_lt, z1] at e2; rw [vp_in_iff]; omega) d_Md_foretold_100 (fun x_65 e_65 b_65 => ?_)
                      refine lv_icmp_lt (tgt := 107) hx hb d_Md_foretold_101 (by decide) (fun c_66 => ?_) (fun c_66 => ?_)
                      · refine lv_lload_n hx hb d_Md_foretold_107 rfl (lv_at hl 2 rfl) ?_
                        refine lv_aload_n hx hb d_Md_foretold_108 rfl (lv_at hl 0 rfl) ?_
                        refine tw_getr (D := (dC, dI)) (C := R_Md) (T := F_Md) (N := 64) (ci := 7) (kd := 27) (ct := ct) hx hb htb i_Md hown hK hP hO_0 m0 rfl rfl 61 (by decide) (htb (.fieldLink R_Md 177 "WaterMenModel" "pensionOf" "[I") tw_655) (fun _ h9 => h9) rfl d_Md_foretold_109 (fun q_67 e_67 m_67 => ?_)
                        refine lv_iload hx hb d_Md_foretold_112 (lv_at hl 5 rfl) ?_
                        refine tw_aldI (ct := ct) hx hb hK hP hO_0 m_67 rfl (by have z0 : (0 : Int32).toInt = 0 := (by decide +kernel); have z1 : (30 : Int32).toInt = 30 := (by decide +kernel); have r0 := fb_rng (v7_61); have r1 := fb_rng (x_62); have e0 := iv0_61; rw [Int32.lt_iff_toInt_lt, z0] at e0; have e1 := c_63; rw [Int32.le_iff_toInt_le] at e1; have e2 := b_62.2; rw [Int32.lt_iff_toInt_lt, z1] at e2; rw [vp_in_iff]; omega) d_Md_foretold_114 (fun x_68 e_68 b_68 => ?_)
                        refine lv_i2l hx hb d_Md_foretold_115 rfl ?_
                        refine W.lcmp hx hb d_Md_foretold_116 ?_
                        refine hb_anyi (fun y_69 => ?_)
                        refine lv_if_ge (tgt := 123) hx hb d_Md_foretold_117 (by decide) (fun c_70 => ?_) (fun c_70 => ?_)
                        · refine lv_lload_n hx hb d_Md_foretold_123 rfl (lv_at hl 2 rfl) ?_
                          refine lv_aload_n hx hb d_Md_foretold_124 rfl (lv_at hl 0 rfl) ?_
                          refine tw_getR (D := (dC, dI)) (C := R_Md) (T := F_Md) (N := 64) (ci := 7) (kd := 27) (ct := ct) hx hb htb i_Md hown hK hP m0 rfl rfl 61 e_67 (by decide) (htb (.fieldLink R_Md 177 "WaterMenModel" "pensionOf" "[I") tw_655) (fun _ h9 => h9) rfl d_Md_foretold_125 ?_
                          refine hb_tv (.ref q_67) rfl ?_
                          refine lv_iload hx hb d_Md_foretold_128 (lv_at hl 5 rfl) ?_
                          refine tw_aldxI (ct := ct) (x := x_68) hx hb hK hP m_67 rfl (by have z0 : (0 : Int32).toInt = 0 := (by decide +kernel); have z1 : (30 : Int32).toInt = 30 := (by decide +kernel); have r0 := fb_rng (v7_61); have r1 := fb_rng (x_62); have e0 := iv0_61; rw [Int32.lt_iff_toInt_lt, z0] at e0; have e1 := c_63; rw [Int32.le_iff_toInt_le] at e1; have e2 := b_62.2; rw [Int32.lt_iff_toInt_lt, z1] at e2; rw [vp_in_iff]; omega) e_68 d_Md_foretold_130 ?_
                          refine lv_i2l hx hb d_Md_foretold_131 rfl ?_
                          refine lv_lsub hx hb d_Md_foretold_132 ?_
                          refine hb_anyl (fun y_72 => ?_)
                          refine lv_lstore_n (lv' := [(3, .long y_72), (0, .ref q0), (1, .long v1_44), (5, .int v5_52), (6, .int ((y_59 + v5_52) * 100)), (7, .int v7_61)]) hx hb d_Md_foretold_133 rfl hl (by decide) rfl (fun ls hl => ?_)
                          refine lv_iinc (v := (v7_61 + 1)) (lv' := [(7, .int (v7_61 + 1)), (3, .long y_72), (0, .ref q0), (1, .long v1_44), (5, .int v5_52), (6, .int ((y_59 + v5_52) * 100))]) hx hb d_Md_foretold_134 hl (k := 5) rfl rfl (by decide) rfl (fun ls hl => ?_)
                          refine lv_goto (tgt := 83) hx hb d_Md_foretold_137 (by decide) ?_
                          exact ih_61 (n_61 - 1) (by have z0 : (1 : Int32).toInt = 1 := (by decide +kernel); have z1 : (30 : Int32).toInt = 30 := (by decide +kernel); have r0 := fb_rng (v7_61); have r1 := fb_rng (x_62); have e0 := c_63; rw [Int32.le_iff_toInt_le] at e0; have e1 := b_62.2; rw [Int32.lt_iff_toInt_lt, z1] at e1; have s0 := fb_addI (x := (v7_61)) (y := (1 : Int32)) (by (try rw [z0]); omega) (by (try rw [z0]); omega); rw [z0] at s0; have hq := hm_61; (try rw [z1] at hq); omega) (v7_61 + 1) y_72 _ (show ¬ ((v7_61 + 1) < 0) from by have e0 := iv0_61; rw [Int32.lt_iff_toInt_lt] at e0; have e1 := iv1_61; rw [Int32.lt_iff_toInt_lt] at e1; have z0 : (0 : Int32).toInt = 0 := (by decide +kernel); have z1 : (1 : Int32).toInt = 1 := (by decide +kernel); have z2 : (30 : Int32).toInt = 30 := (by decide +kernel); have ss := fb_addI (x := v7_61) (y := 1) (by omega) (by omega); rw [Int32.lt_iff_toInt_lt]; omega) (show ¬ (30 < (v7_61 + 1)) from by have z0 : (1 : Int32).toInt = 1 := (by decide +kernel); have z1 : (30 : Int32).toInt = 30 := (by decide +kernel); have r0 := fb_rng (v7_61); have r1 := fb_rng (x_62); have e0 := c_63; rw [Int32.le_iff_toInt_le] at e0; have e1 := b_62.2; rw [Int32.lt_iff_toInt_lt, z1] at e1; have s0 := fb_addI (x := (v7_61)) (y := (1 : Int32)) (by (try rw [z0]); omega) (by (try rw [z0]); omega); rw [z0] at s0; rw [Int32.lt_iff_toInt_lt, z1]; omega) (by have z0 : (1 : Int32).toInt = 1 := (by decide +kernel); have z1 : (30 : Int32).toInt = 30 := (by decide +kernel); have r0 := fb_rng (v7_61); have r1 := fb_rng (x_62); have e0 := c_63; rw [Int32.le_iff_toInt_le] at e0; have e1 := b_62.2; rw [Int32.lt_iff_toInt_lt, z1] at e1; have s0 := fb_addI (x := (v7_61)) (y := (1 : Int32)) (by (try rw [z0]); omega) (by (try rw [z0]); omega); rw [z0] at s0; have hq := hm_61; (try rw [z1] at hq); (try rw [z1]); omega) (lv_sub hl [2, 3, 1, 4, 5, 0] rfl)
                        · refine lv_iload hx hb d_Md_foretold_120 (lv_at hl 4 rfl) ?_
                          exact W.iret (v := ((y_59 + v5_52) * 100)) hx hb hr (fun t ht hW => ⟨((y_59 + v5_52) * 100), rfl, trivial, ht⟩) t_nil d_Md_foretold_122
                      · refine lv_goto (tgt := 134) hx hb d_Md_foretold_104 (by decide) ?_
                        refine lv_iinc (v := (v7_61 + 1)) (lv' := [(7, .int (v7_61 + 1)), (0, .ref q0), (1, .long v1_44), (3, .long v3_61), (5, .int v5_52), (6, .int ((y_59 + v5_52) * 100))]) hx hb d_Md_foretold_134 hl (k := 5) rfl rfl (by decide) rfl (fun ls hl => ?_)
                        refine lv_goto (tgt := 83) hx hb d_Md_foretold_137 (by decide) ?_
                        exact ih_61 (n_61 - 1) (by have z0 : (1 : Int32).toInt = 1 := (by decide +kernel); have z1 : (30 : Int32).toInt = 30 := (by decide +kernel); have r0 := fb_rng (v7_61); have r1 := fb_rng (x_62); have e0 := c_63; rw [Int32.le_iff_toInt_le] at e0; have e1 := b_62.2; rw [Int32.lt_iff_toInt_lt, z1] at e1; have s0 := fb_addI (x := (v7_61)) (y := (1 : Int32)) (by (try rw [z0]); omega) (by (try rw [z0]); omega); rw [z0] at s0; have hq := hm_61; (try rw [z1] at hq); omega) (v7_61 + 1) v3_61 _ (show ¬ ((v7_61 + 1) < 0) from by have e0 := iv0_61; rw [Int32.lt_iff_toInt_lt] at e0; have e1 := iv1_61; rw [Int32.lt_iff_toInt_lt] at e1; have z0 : (0 : Int32).toInt = 0 := (by decide +kernel); have z1 : (1 : Int32).toInt = 1 := (by decide +kernel); have z2 : (30 : Int32).toInt = 30 := (by decide +kernel); have ss := fb_addI (x := v7_61) (y := 1) (by omega) (by omega); rw [Int32.lt_iff_toInt_lt]; omega) (show ¬ (30 < (v7_61 + 1)) from by have z0 : (1 : Int32).toInt = 1 := (by decide +kernel); have z1 : (30 : Int32).toInt = 30 := (by decide +kernel); have r0 := fb_rng (v7_61); have r1 := fb_rng (x_62); have e0 := c_63; rw [Int32.le_iff_toInt_le] at e0; have e1 := b_62.2; rw [Int32.lt_iff_toInt_lt, z1] at e1; have s0 := fb_addI (x := (v7_61)) (y := (1 : Int32)) (by (try rw [z0]); omega) (by (try rw [z0]); omega); rw [z0] at s0; rw [Int32.lt_iff_toInt_lt, z1]; omega) (by have z0 : (1 : Int32).toInt = 1 := (by decide +kernel); have z1 : (30 : Int32).toInt = 30 := (by decide +kernel); have r0 := fb_rng (v7_61); have r1 := fb_rng (x_62); have e0 := c_63; rw [Int32.le_iff_toInt_le] at e0; have e1 := b_62.2; rw [Int32.lt_iff_toInt_lt, z1] at e1; have s0 := fb_addI (x := (v7_61)) (y := (1 : Int32)) (by (try rw [z0]); omega) (by (try rw [z0]); omega); rw [z0] at s0; have hq := hm_61; (try rw [z1] at hq); (try rw [z1]); omega) (lv_sub hl [1, 2, 3, 4, 5, 0] rfl)
                exact cut_61 4294967296 (0 : Int32) y_60 _ (by decide +kernel) (by decide +kernel) (by have t1 := fb_rng (30 : Int32); have t2 := fb_rng (0 : Int32); omega) (lv_sub hl [3, 4, 1, 5, 2, 0] rfl)
          exact cut_52 4294967296 (1 : Int32) x_51 _ (by decide +kernel) (by decide +kernel) (by have t1 := fb_rng (41 : Int32); have t2 := fb_rng (1 : Int32); omega) (lv_sub hl [2, 3, 1, 0] rfl)
        · refine lv_lload_n hx hb d_Md_foretold_31 rfl (lv_at hl 1 rfl) ?_
          refine lv_aload_n hx hb d_Md_foretold_32 rfl (lv_at hl 0 rfl) ?_
          refine tw_getr (D := (dC, dI)) (C := R_Md) (T := F_Md) (N := 64) (ci := 7) (kd := 27) (ct := ct) hx hb htb i_Md hown hK hP hO_0 m0 rfl rfl 59 (by decide) (htb (.fieldLink R_Md 173 "WaterMenModel" "boxIn" "[J") tw_650) (fun _ h9 => h9) rfl d_Md_foretold_33 (fun q_73 e_73 m_73 => ?_)
          refine lv_iload_n hx hb d_Md_foretold_36 rfl (lv_at hl 2 rfl) ?_
          refine tw_aldJ (ct := ct) hx hb hK hP m_73 rfl (by have z0 : (0 : Int32).toInt = 0 := (by decide +kernel); have z1 : (499 : Int32).toInt = 499 := (by decide +kernel); have r0 := fb_rng (r_45); have r1 := fb_rng (v3_44); have e0 := iv0_44; rw [Int32.lt_iff_toInt_lt, z0] at e0; have e1 := c_50; rw [Int32.lt_iff_toInt_lt] at e1; have e2 := po_47; rw [Int32.lt_iff_toInt_lt, z1] at e2; rw [vp_in_iff]; omega) d_Md_foretold_37 (fun x_74 e_74 => ?_)
          refine lv_ladd hx hb d_Md_foretold_38 ?_
          refine hb_anyl (fun y_75 => ?_)
          refine lv_lstore_n (lv' := [(1, .long y_75), (0, .ref q0), (3, .int v3_44)]) hx hb d_Md_foretold_39 rfl hl (by decide) rfl (fun ls hl => ?_)
          refine lv_iinc (v := (v3_44 + 1)) (lv' := [(3, .int (v3_44 + 1)), (1, .long y_75), (0, .ref q0)]) hx hb d_Md_foretold_40 hl (k := 2) rfl rfl (by decide) rfl (fun ls hl => ?_)
          refine lv_goto (tgt := 23) hx hb d_Md_foretold_43 (by decide) ?_
          exact ih_44 (n_44 - 1) (by have z0 : (1 : Int32).toInt = 1 := (by decide +kernel); have z1 : (499 : Int32).toInt = 499 := (by decide +kernel); have z2 : (500 : Int32).toInt = 500 := (by decide +kernel); have r0 := fb_rng (r_45); have r1 := fb_rng (v3_44); have e0 := c_50; rw [Int32.lt_iff_toInt_lt] at e0; have e1 := po_47; rw [Int32.lt_iff_toInt_lt, z1] at e1; have s0 := fb_addI (x := (v3_44)) (y := (1 : Int32)) (by (try rw [z0]); omega) (by (try rw [z0]); omega); rw [z0] at s0; have hq := hm_44; (try rw [z2] at hq); omega) (v3_44 + 1) y_75 _ (show ¬ ((v3_44 + 1) < 0) from by have e0 := iv0_44; rw [Int32.lt_iff_toInt_lt] at e0; have e1 := iv1_44; rw [Int32.lt_iff_toInt_lt] at e1; have z0 : (0 : Int32).toInt = 0 := (by decide +kernel); have z1 : (1 : Int32).toInt = 1 := (by decide +kernel); have z2 : (500 : Int32).toInt = 500 := (by decide +kernel); have ss := fb_addI (x := v3_44) (y := 1) (by omega) (by omega); rw [Int32.lt_iff_toInt_lt]; omega) (show ¬ (500 < (v3_44 + 1)) from by have z0 : (1 : Int32).toInt = 1 := (by decide +kernel); have z1 : (499 : Int32).toInt = 499 := (by decide +kernel); have z2 : (500 : Int32).toInt = 500 := (by decide +kernel); have r0 := fb_rng (r_45); have r1 := fb_rng (v3_44); have e0 := c_50; rw [Int32.lt_iff_toInt_lt] at e0; have e1 := po_47; rw [Int32.lt_iff_toInt_lt, z1] at e1; have s0 := fb_addI (x := (v3_44)) (y := (1 : Int32)) (by (try rw [z0]); omega) (by (try rw [z0]); omega); rw [z0] at s0; rw [Int32.lt_iff_toInt_lt, z2]; omega) (by have z0 : (1 : Int32).toInt = 1 := (by decide +kernel); have z1 : (499 : Int32).toInt = 499 := (by decide +kernel); have z2 : (500 : Int32).toInt = 500 := (by decide +kernel); have r0 := fb_rng (r_45); have r1 := fb_rng (v3_44); have e0 := c_50; rw [Int32.lt_iff_toInt_lt] at e0; have e1 := po_47; rw [Int32.lt_iff_toInt_lt, z1] at e1; have s0 := fb_addI (x := (v3_44)) (y := (1 : Int32)) (by (try rw [z0]); omega) (by (try rw [z0]); omega); rw [z0] at s0; have hq := hm_44; (try rw [z2] at hq); (try rw [z2]); omega) (lv_sub hl [2, 1, 0] rfl)
    exact cut_44 4294967296 (0 : Int32) 0 _ (by decide +kernel) (by decide +kernel) (by have t1 := fb_rng (500 : Int32); have t2 := fb_rng (0 : Int32); omega) (lv_sub hl [2, 1, 0] rfl)
set_option maxHeartbeats 4000000 in
set_option maxRecDepth 100000 in
theorem c_Md_pensioner_t (l : Launch) (dC : Nat → ClassId) (dI : Nat → Nat → Nat) (ct : Nat → ClassId) (L : List Nat) (f : TF) (hO_0 : Ok L f) (q0 : Nat) (m0 : q0 ∈ L ∧ tk f q0 = 27) (p_0 : Int32) (p_1 : Int32)   : Met l y_Md_pensioner (.code y_Md_pensioner b_Md_pensioner 3 (some .int) :: TB) ({ frames := 1, cells := 0, slots := 0, locals := 22 }) (va_Pc [.ref q0, .int p_0, .int p_1] (PR dC dI (TW ct L f) (TT ct))) (vp_Si (fun r => True)) 0 0 (fun _ => False) := by
  refine Met.ofW (cc := b_Md_pensioner) (maxL := 3) (ret := (some .int)) (by decide) rfl ?_
  intro p e s m args below meth c s₁ B hml hv
  obtain ⟨rfl, hP, hK, hN⟩ := hv
  have hx := B.exec
  have hb := B.bytes
  have hr := B.returns
  have hts := atoms_spec (ws := (.code y_Md_pensioner b_Md_pensioner 3 (some .int) :: TB)) B.pre
  have htb := fun w (h : w ∈ TB) => hts w (List.mem_cons_of_mem _ h)
  have hown : s.vm.findClass R_Md = some m.cls := findClass_of_methodNamed B.named
  have hlocks := B.notSynchronized
  have hl := lv_entry ([.ref q0, .int p_0, .int p_1]) (n := 3) (Nat.le_of_ble_eq_true rfl)
  rw [lg_entry_eq]
  generalize (lg_sl ([.ref q0, .int p_0, .int p_1]) ++ List.replicate (3 - (lg_sl ([.ref q0, .int p_0, .int p_1])).length) Slot.unset).toArray = ls at hl ⊢
  have hl : lv_has ls 3 [(0, .ref q0), (1, .int p_0), (2, .int p_1)] := hl
  refine lv_iload_n hx hb d_Md_pensioner_0 rfl (lv_at hl 1 rfl) ?_
  refine lv_iconst (v := 0) hx hb d_Md_pensioner_1 (by decide +kernel) ?_
  refine lv_aload_n hx hb d_Md_pensioner_2 rfl (lv_at hl 0 rfl) ?_
  refine tw_geti (D := (dC, dI)) (C := R_Md) (T := F_Md) (N := 64) (ci := 7) (kd := 27) (ct := ct) hx hb htb i_Md hown hK hP hO_0 m0 rfl rfl 60 (by decide) (htb (.fieldLink R_Md 323 "WaterMenModel" "pensioners" "I") tw_653) (fun _ h9 => h9) rfl d_Md_pensioner_3 (fun x_1 e_1 b_1 => ?_)
  refine lv_iconst (v := 1) hx hb d_Md_pensioner_6 (by decide +kernel) ?_
  refine lv_isub hx hb d_Md_pensioner_7 ?_
  refine vp_callSi (va_Run.run (va_runS (As := [.int p_0, .int 0, .int (x_1 - 1)]) (rest := []) ⟨hx, hb, hml, hown, htb⟩ (c_Md_in l p_0 0 (x_1 - 1)) (cwS 3 htb (gd_S tw_480 tw_481 tw_479 tw_478) rfl rfl rfl (by decide +kernel) ⟨Nat.le_of_ble_eq_true rfl, Nat.le_of_ble_eq_true rfl⟩) ⟨fun _ _ _ _ h => h, fun U _ _ => ⟨rfl, trivial⟩⟩ rfl rfl hl.1 rfl (lv_room (Nat.le_of_ble_eq_true rfl)) d_Md_pensioner_8 ⟨Nat.le_of_ble_eq_true rfl, Nat.le_of_ble_eq_true rfl⟩)) (fun r er => ?_)
  subst er
  by_cases c_3 : p_0 < 0
  · refine hb_ti 0 (by unfold f_Md_in; rw [if_pos c_3]; first | done | rfl) ?_
    refine lv_if_ne (tgt := 16) hx hb d_Md_pensioner_11 (by decide) (fun h => absurd (by decide +kernel) h) (fun _ => ?_)
    refine lv_iconst (v := (-1)) hx hb d_Md_pensioner_14 (by decide +kernel) ?_
    exact W.iret (v := (-1)) hx hb hr (fun t ht hW => ⟨(-1), rfl, trivial, ht⟩) t_nil d_Md_pensioner_15
  · by_cases c_4 : (x_1 - 1) < p_0
    · refine hb_ti 0 (by unfold f_Md_in; rw [if_neg c_3, if_pos c_4]; first | done | rfl) ?_
      refine lv_if_ne (tgt := 16) hx hb d_Md_pensioner_11 (by decide) (fun h => absurd (by decide +kernel) h) (fun _ => ?_)
      refine lv_iconst (v := (-1)) hx hb d_Md_pensioner_14 (by decide +kernel) ?_
      exact W.iret (v := (-1)) hx hb hr (fun t ht hW => ⟨(-1), rfl, trivial, ht⟩) t_nil d_Md_pensioner_15
    · refine hb_ti 1 (by unfold f_Md_in; rw [if_neg c_3, if_neg c_4]; first | done | rfl) ?_
      refine lv_if_ne (tgt := 16) hx hb d_Md_pensioner_11 (by decide) (fun _ => ?_) (fun h => absurd h (by decide +kernel))
      refine lv_iload_n hx hb d_Md_pensioner_16 rfl (lv_at hl 2 rfl) ?_
      by_cases c_5 : p_1 = 0
      · refine lv_tableIn (off := 27) (tgt := 44) hx hb d_Md_pensioner_17 (by rw [c_5]; decide +kernel) (by rw [c_5]; decide +kernel) (by rw [c_5]; decide +kernel) (by decide) ?_
        refine lv_aload_n hx hb d_Md_pensioner_44 rfl (lv_at hl 0 rfl) ?_
        refine tw_getr (D := (dC, dI)) (C := R_Md) (T := F_Md) (N := 64) (ci := 7) (kd := 27) (ct := ct) hx hb htb i_Md hown hK hP hO_0 m0 rfl rfl 61 (by decide) (htb (.fieldLink R_Md 177 "WaterMenModel" "pensionOf" "[I") tw_655) (fun _ h9 => h9) rfl d_Md_pensioner_45 (fun q_6 e_6 m_6 => ?_)
        refine lv_iload_n hx hb d_Md_pensioner_48 rfl (lv_at hl 1 rfl) ?_
        refine tw_aldI (ct := ct) hx hb hK hP hO_0 m_6 rfl (by have z0 : (0 : Int32).toInt = 0 := (by decide +kernel); have z1 : (1 : Int32).toInt = 1 := (by decide +kernel); have z2 : (30 : Int32).toInt = 30 := (by decide +kernel); have r0 := fb_rng (p_0); have r1 := fb_rng (x_1); have e0 := c_3; rw [Int32.lt_iff_toInt_lt, z0] at e0; have e1 := b_1.1; rw [Int32.lt_iff_toInt_lt, z0] at e1; have e2 := b_1.2; rw [Int32.lt_iff_toInt_lt, z2] at e2; have s0 := fb_subI (x := (x_1)) (y := (1 : Int32)) (by (try rw [z1]); omega) (by (try rw [z1]); omega); rw [z1] at s0; have e3 := c_4; rw [Int32.lt_iff_toInt_lt] at e3; rw [vp_in_iff]; omega) d_Md_pensioner_49 (fun x_7 e_7 b_7 => ?_)
        exact W.iret (v := x_7) hx hb hr (fun t ht hW => ⟨x_7, rfl, trivial, ht⟩) t_nil d_Md_pensioner_50
      · by_cases c_8 : p_1 = 1
        · refine lv_tableIn (off := 34) (tgt := 51) hx hb d_Md_pensioner_17 (by rw [c_8]; decide +kernel) (by rw [c_8]; decide +kernel) (by rw [c_8]; decide +kernel) (by decide) ?_
          refine lv_aload_n hx hb d_Md_pensioner_51 rfl (lv_at hl 0 rfl) ?_
          refine tw_getr (D := (dC, dI)) (C := R_Md) (T := F_Md) (N := 64) (ci := 7) (kd := 27) (ct := ct) hx hb htb i_Md hown hK hP hO_0 m0 rfl rfl 62 (by decide) (htb (.fieldLink R_Md 180 "WaterMenModel" "pensionEnd" "[I") tw_654) (fun _ h9 => h9) rfl d_Md_pensioner_52 (fun q_9 e_9 m_9 => ?_)
          refine lv_iload_n hx hb d_Md_pensioner_55 rfl (lv_at hl 1 rfl) ?_
          refine tw_aldI (ct := ct) hx hb hK hP hO_0 m_9 rfl (by have z0 : (0 : Int32).toInt = 0 := (by decide +kernel); have z1 : (1 : Int32).toInt = 1 := (by decide +kernel); have z2 : (30 : Int32).toInt = 30 := (by decide +kernel); have r0 := fb_rng (p_0); have r1 := fb_rng (x_1); have e0 := c_3; rw [Int32.lt_iff_toInt_lt, z0] at e0; have e1 := b_1.1; rw [Int32.lt_iff_toInt_lt, z0] at e1; have e2 := b_1.2; rw [Int32.lt_iff_toInt_lt, z2] at e2; have s0 := fb_subI (x := (x_1)) (y := (1 : Int32)) (by (try rw [z1]); omega) (by (try rw [z1]); omega); rw [z1] at s0; have e3 := c_4; rw [Int32.lt_iff_toInt_lt] at e3; rw [vp_in_iff]; omega) d_Md_pensioner_56 (fun x_10 e_10 b_10 => ?_)
          exact W.iret (v := x_10) hx hb hr (fun t ht hW => ⟨x_10, rfl, trivial, ht⟩) t_nil d_Md_pensioner_57
        · by_cases c_11 : p_1 = 2
          · refine lv_tableIn (off := 41) (tgt := 58) hx hb d_Md_pensioner_17 (by rw [c_11]; decide +kernel) (by rw [c_11]; decide +kernel) (by rw [c_11]; decide +kernel) (by decide) ?_
            refine lv_aload_n hx hb d_Md_pensioner_58 rfl (lv_at hl 0 rfl) ?_
            refine tw_getr (D := (dC, dI)) (C := R_Md) (T := F_Md) (N := 64) (ci := 7) (kd := 27) (ct := ct) hx hb htb i_Md hown hK hP hO_0 m0 rfl rfl 63 (by decide) (htb (.fieldLink R_Md 183 "WaterMenModel" "gotten" "[I") tw_656) (fun _ h9 => h9) rfl d_Md_pensioner_59 (fun q_12 e_12 m_12 => ?_)
            refine lv_iload_n hx hb d_Md_pensioner_62 rfl (lv_at hl 1 rfl) ?_
            refine tw_aldI (ct := ct) hx hb hK hP hO_0 m_12 rfl (by have z0 : (0 : Int32).toInt = 0 := (by decide +kernel); have z1 : (1 : Int32).toInt = 1 := (by decide +kernel); have z2 : (30 : Int32).toInt = 30 := (by decide +kernel); have r0 := fb_rng (p_0); have r1 := fb_rng (x_1); have e0 := c_3; rw [Int32.lt_iff_toInt_lt, z0] at e0; have e1 := b_1.1; rw [Int32.lt_iff_toInt_lt, z0] at e1; have e2 := b_1.2; rw [Int32.lt_iff_toInt_lt, z2] at e2; have s0 := fb_subI (x := (x_1)) (y := (1 : Int32)) (by (try rw [z1]); omega) (by (try rw [z1]); omega); rw [z1] at s0; have e3 := c_4; rw [Int32.lt_iff_toInt_lt] at e3; rw [vp_in_iff]; omega) d_Md_pensioner_63 (fun x_13 e_13 b_13 => ?_)
            exact W.iret (v := x_13) hx hb hr (fun t ht hW => ⟨x_13, rfl, trivial, ht⟩) t_nil d_Md_pensioner_64
          · refine lv_tableOut (tgt := 65) hx hb d_Md_pensioner_17 (by have h0 := lv_neT c_5 (show (0 : Int32).toInt = 0 by decide +kernel); have h1 := lv_neT c_8 (show (1 : Int32).toInt = 1 by decide +kernel); have h2 := lv_neT c_11 (show (2 : Int32).toInt = 2 by decide +kernel); omega) (by decide) ?_
            refine lv_iconst (v := (-1)) hx hb d_Md_pensioner_65 (by decide +kernel) ?_
            exact W.iret (v := (-1)) hx hb hr (fun t ht hW => ⟨(-1), rfl, trivial, ht⟩) t_nil d_Md_pensioner_66
