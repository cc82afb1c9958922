set_option maxHeartbeats 4000000 in
set_option maxRecDepth 100000 in
theorem c_Md_fare_t (l : Launch) (dC : Nat → ClassId) (dI : Nat → Nat → Nat) (ct : Nat → ClassId) (L : List Nat) (f : TF) (hO_0 : Ok L f) (q0 : Nat) (m0 : q0 ∈ L ∧ tk f q0 = 27) (p_0 : Int32) (p_1 : Int32) (p_2 : Int32) (p_3 : Int32) (p_4 : Int32)   : Met l y_Md_fare (.code y_Md_fare b_Md_fare 6 (some .int) :: TB) ({ frames := 3, cells := 0, slots := 0, locals := 76 }) (va_Pc [.ref q0, .int p_0, .int p_1, .int p_2, .int p_3, .int p_4] (PR dC dI (TW ct L f) (TT ct))) (vp_Si (fun r => True)) 0 0 (fun _ => False) := by
  refine Met.ofW (cc := b_Md_fare) (maxL := 6) (ret := (some .int)) (by decide) rfl ?_
  intro p e s m args below meth c s₁ B hml hv
  obtain ⟨rfl, hP, hK, hN⟩ := hv
  have hx := B.exec
  have hb := B.bytes
  have hr := B.returns
  have hts := atoms_spec (ws := (.code y_Md_fare b_Md_fare 6 (some .int) :: TB)) B.pre
  have htb := fun w (h : w ∈ TB) => hts w (List.mem_cons_of_mem _ h)
  have hown : s.vm.findClass R_Md = some m.cls := findClass_of_methodNamed B.named
  have hlocks := B.notSynchronized
  have hl := lv_entry ([.ref q0, .int p_0, .int p_1, .int p_2, .int p_3, .int p_4]) (n := 6) (Nat.le_of_ble_eq_true rfl)
  rw [lg_entry_eq]
  generalize (lg_sl ([.ref q0, .int p_0, .int p_1, .int p_2, .int p_3, .int p_4]) ++ List.replicate (6 - (lg_sl ([.ref q0, .int p_0, .int p_1, .int p_2, .int p_3, .int p_4])).length) Slot.unset).toArray = ls at hl ⊢
  have hl : lv_has ls 6 [(0, .ref q0), (1, .int p_0), (2, .int p_1), (3, .int p_2), (4, .int p_3), (5, .int p_4)] := hl
  refine lv_iload_n hx hb d_Md_fare_0 rfl (lv_at hl 1 rfl) ?_
  refine lv_iconst (v := 0) hx hb d_Md_fare_1 (by decide +kernel) ?_
  refine lv_aload_n hx hb d_Md_fare_2 rfl (lv_at hl 0 rfl) ?_
  refine tw_geti (D := (dC, dI)) (C := R_Md) (T := F_Md) (N := 64) (ci := 7) (kd := 27) (ct := ct) hx hb htb i_Md hown hK hP hO_0 m0 rfl rfl 29 (by decide) (htb (.fieldLink R_Md 275 "WaterMenModel" "orders" "I") tw_599) (fun _ h9 => h9) rfl d_Md_fare_3 (fun x_1 e_1 b_1 => ?_)
  refine lv_iconst (v := 1) hx hb d_Md_fare_6 (by decide +kernel) ?_
  refine lv_isub hx hb d_Md_fare_7 ?_
  refine vp_callSi (va_Run.run (va_runS (As := [.int p_0, .int 0, .int (x_1 - 1)]) (rest := []) ⟨hx, hb, hml, hown, htb⟩ (c_Md_in l p_0 0 (x_1 - 1)) (cwS 3 htb (gd_S tw_480 tw_481 tw_479 tw_478) rfl rfl rfl (by decide +kernel) ⟨Nat.le_of_ble_eq_true rfl, Nat.le_of_ble_eq_true rfl⟩) ⟨fun _ _ _ _ h => h, fun U _ _ => ⟨rfl, trivial⟩⟩ rfl rfl hl.1 rfl (lv_room (Nat.le_of_ble_eq_true rfl)) d_Md_fare_8 ⟨Nat.le_of_ble_eq_true rfl, Nat.le_of_ble_eq_true rfl⟩)) (fun r er => ?_)
  subst er
  by_cases c_3 : p_0 < 0
  · refine hb_ti 0 (by unfold f_Md_in; rw [if_pos c_3]; first | done | rfl) ?_
    refine lv_if_eq (tgt := 57) hx hb d_Md_fare_11 (by decide) (fun _ => ?_) (fun h => absurd (by decide +kernel) h)
    refine lv_iconst (v := (-1)) hx hb d_Md_fare_57 (by decide +kernel) ?_
    exact W.iret (v := (-1)) hx hb hr (fun t ht hW => ⟨(-1), rfl, trivial, ht⟩) t_nil d_Md_fare_58
  · by_cases c_4 : (x_1 - 1) < p_0
    · refine hb_ti 0 (by unfold f_Md_in; rw [if_neg c_3, if_pos c_4]; first | done | rfl) ?_
      refine lv_if_eq (tgt := 57) hx hb d_Md_fare_11 (by decide) (fun _ => ?_) (fun h => absurd (by decide +kernel) h)
      refine lv_iconst (v := (-1)) hx hb d_Md_fare_57 (by decide +kernel) ?_
      exact W.iret (v := (-1)) hx hb hr (fun t ht hW => ⟨(-1), rfl, trivial, ht⟩) t_nil d_Md_fare_58
    · refine hb_ti 1 (by unfold f_Md_in; rw [if_neg c_3, if_neg c_4]; first | done | rfl) ?_
      refine lv_if_eq (tgt := 57) hx hb d_Md_fare_11 (by decide) (fun h => absurd h (by decide +kernel)) (fun _ => ?_)
      refine lv_aload_n hx hb d_Md_fare_14 rfl (lv_at hl 0 rfl) ?_
      refine lv_iload_n hx hb d_Md_fare_15 rfl (lv_at hl 2 rfl) ?_
      refine vp_callSi (va_Run.run (va_runV (As := [.int p_1]) (rest := []) ⟨hx, hb, hml, hown, htb⟩ (c_Md_isStairs_t l dC dI ct L f hO_0 q0 m0 p_1) (cwV 1 htb (gd_V tw_530 tw_531 tw_532 tw_479 tw_529) rfl rfl rfl (by decide +kernel) ⟨Nat.le_of_ble_eq_true rfl, Nat.le_of_ble_eq_true rfl⟩) ⟨pr_blind, tw_recv hK hP m0 rfl rfl, pr_pre hP hK hN⟩ rfl rfl hl.1 rfl (lv_room (Nat.le_of_ble_eq_true rfl)) d_Md_fare_16 ⟨Nat.le_of_ble_eq_true rfl, Nat.le_of_ble_eq_true rfl⟩)) (fun r_5 er_5 => ?_)
      rcases er_5 with ⟨rfl, -⟩ | ⟨rfl, po_6, po_7, po_8, -⟩
      · refine lv_if_eq (tgt := 57) hx hb d_Md_fare_19 (by decide) (fun _ => ?_) (fun h => absurd (by decide +kernel) h)
        refine lv_iconst (v := (-1)) hx hb d_Md_fare_57 (by decide +kernel) ?_
        exact W.iret (v := (-1)) hx hb hr (fun t ht hW => ⟨(-1), rfl, trivial, ht⟩) t_nil d_Md_fare_58
      · refine lv_if_eq (tgt := 57) hx hb d_Md_fare_19 (by decide) (fun h => absurd h (by decide +kernel)) (fun _ => ?_)
        refine lv_aload_n hx hb d_Md_fare_22 rfl (lv_at hl 0 rfl) ?_
        refine lv_iload_n hx hb d_Md_fare_23 rfl (lv_at hl 3 rfl) ?_
        refine vp_callSi (va_Run.run (va_runV (As := [.int p_2]) (rest := []) ⟨hx, hb, hml, hown, htb⟩ (c_Md_isStairs_t l dC dI ct L f hO_0 q0 m0 p_2) (cwV 1 htb (gd_V tw_530 tw_531 tw_532 tw_479 tw_529) rfl rfl rfl (by decide +kernel) ⟨Nat.le_of_ble_eq_true rfl, Nat.le_of_ble_eq_true rfl⟩) ⟨pr_blind, tw_recv hK hP m0 rfl rfl, pr_pre hP hK hN⟩ rfl rfl hl.1 rfl (lv_room (Nat.le_of_ble_eq_true rfl)) d_Md_fare_24 ⟨Nat.le_of_ble_eq_true rfl, Nat.le_of_ble_eq_true rfl⟩)) (fun r_9 er_9 => ?_)
        rcases er_9 with ⟨rfl, -⟩ | ⟨rfl, po_10, po_11, po_12, -⟩
        · refine lv_if_eq (tgt := 57) hx hb d_Md_fare_27 (by decide) (fun _ => ?_) (fun h => absurd (by decide +kernel) h)
          refine lv_iconst (v := (-1)) hx hb d_Md_fare_57 (by decide +kernel) ?_
          exact W.iret (v := (-1)) hx hb hr (fun t ht hW => ⟨(-1), rfl, trivial, ht⟩) t_nil d_Md_fare_58
        · refine lv_if_eq (tgt := 57) hx hb d_Md_fare_27 (by decide) (fun h => absurd h (by decide +kernel)) (fun _ => ?_)
          refine lv_iload_n hx hb d_Md_fare_30 rfl (lv_at hl 2 rfl) ?_
          refine lv_iload_n hx hb d_Md_fare_31 rfl (lv_at hl 3 rfl) ?_
          refine lv_icmp_eq (tgt := 57) hx hb d_Md_fare_32 (by decide) (fun c_13 => ?_) (fun c_13 => ?_)
          · refine lv_iconst (v := (-1)) hx hb d_Md_fare_57 (by decide +kernel) ?_
            exact W.iret (v := (-1)) hx hb hr (fun t ht hW => ⟨(-1), rfl, trivial, ht⟩) t_nil d_Md_fare_58
          · refine lv_iload hx hb d_Md_fare_35 (lv_at hl 4 rfl) ?_
            refine lv_iconst (v := 0) hx hb d_Md_fare_37 (by decide +kernel) ?_
            refine lv_sipush (v := 5999) hx hb d_Md_fare_38 (by decide +kernel) ?_
            refine vp_callSi (va_Run.run (va_runS (As := [.int p_3, .int 0, .int 5999]) (rest := []) ⟨hx, hb, hml, hown, htb⟩ (c_Md_in l p_3 0 5999) (cwS 3 htb (gd_S tw_480 tw_481 tw_479 tw_478) rfl rfl rfl (by decide +kernel) ⟨Nat.le_of_ble_eq_true rfl, Nat.le_of_ble_eq_true rfl⟩) ⟨fun _ _ _ _ h => h, fun U _ _ => ⟨rfl, trivial⟩⟩ rfl rfl hl.1 rfl (lv_room (Nat.le_of_ble_eq_true rfl)) d_Md_fare_41 ⟨Nat.le_of_ble_eq_true rfl, Nat.le_of_ble_eq_true rfl⟩)) (fun r er => ?_)
            subst er
            by_cases c_15 : p_3 < 0
            · refine hb_ti 0 (by unfold f_Md_in; rw [if_pos c_15]; first | done | rfl) ?_
              refine lv_if_eq (tgt := 57) hx hb d_Md_fare_44 (by decide) (fun _ => ?_) (fun h => absurd (by decide +kernel) h)
              refine lv_iconst (v := (-1)) hx hb d_Md_fare_57 (by decide +kernel) ?_
              exact W.iret (v := (-1)) hx hb hr (fun t ht hW => ⟨(-1), rfl, trivial, ht⟩) t_nil d_Md_fare_58
            · by_cases c_16 : 5999 < p_3
              · refine hb_ti 0 (by unfold f_Md_in; rw [if_neg c_15, if_pos c_16]; first | done | rfl) ?_
                refine lv_if_eq (tgt := 57) hx hb d_Md_fare_44 (by decide) (fun _ => ?_) (fun h => absurd (by decide +kernel) h)
                refine lv_iconst (v := (-1)) hx hb d_Md_fare_57 (by decide +kernel) ?_
                exact W.iret (v := (-1)) hx hb hr (fun t ht hW => ⟨(-1), rfl, trivial, ht⟩) t_nil d_Md_fare_58
              · refine hb_ti 1 (by unfold f_Md_in; rw [if_neg c_15, if_neg c_16]; first | done | rfl) ?_
                refine lv_if_eq (tgt := 57) hx hb d_Md_fare_44 (by decide) (fun h => absurd h (by decide +kernel)) (fun _ => ?_)
                refine lv_iload hx hb d_Md_fare_47 (lv_at hl 5 rfl) ?_
                refine lv_iconst (v := 1) hx hb d_Md_fare_49 (by decide +kernel) ?_
                refine lv_iconst (v := 2) hx hb d_Md_fare_50 (by decide +kernel) ?_
                refine vp_callSi (va_Run.run (va_runS (As := [.int p_4, .int 1, .int 2]) (rest := []) ⟨hx, hb, hml, hown, htb⟩ (c_Md_in l p_4 1 2) (cwS 3 htb (gd_S tw_480 tw_481 tw_479 tw_478) rfl rfl rfl (by decide +kernel) ⟨Nat.le_of_ble_eq_true rfl, Nat.le_of_ble_eq_true rfl⟩) ⟨fun _ _ _ _ h => h, fun U _ _ => ⟨rfl, trivial⟩⟩ rfl rfl hl.1 rfl (lv_room (Nat.le_of_ble_eq_true rfl)) d_Md_fare_51 ⟨Nat.le_of_ble_eq_true rfl, Nat.le_of_ble_eq_true rfl⟩)) (fun r er => ?_)
                subst er
                by_cases c_18 : p_4 < 1
                · refine hb_ti 0 (by unfold f_Md_in; rw [if_pos c_18]; first | done | rfl) ?_
                  refine lv_if_ne (tgt := 59) hx hb d_Md_fare_54 (by decide) (fun h => absurd (by decide +kernel) h) (fun _ => ?_)
                  refine lv_iconst (v := (-1)) hx hb d_Md_fare_57 (by decide +kernel) ?_
                  exact W.iret (v := (-1)) hx hb hr (fun t ht hW => ⟨(-1), rfl, trivial, ht⟩) t_nil d_Md_fare_58
                · by_cases c_19 : 2 < p_4
                  · refine hb_ti 0 (by unfold f_Md_in; rw [if_neg c_18, if_pos c_19]; first | done | rfl) ?_
                    refine lv_if_ne (tgt := 59) hx hb d_Md_fare_54 (by decide) (fun h => absurd (by decide +kernel) h) (fun _ => ?_)
                    refine lv_iconst (v := (-1)) hx hb d_Md_fare_57 (by decide +kernel) ?_
                    exact W.iret (v := (-1)) hx hb hr (fun t ht hW => ⟨(-1), rfl, trivial, ht⟩) t_nil d_Md_fare_58
                  · refine hb_ti 1 (by unfold f_Md_in; rw [if_neg c_18, if_neg c_19]; first | done | rfl) ?_
                    refine lv_if_ne (tgt := 59) hx hb d_Md_fare_54 (by decide) (fun _ => ?_) (fun h => absurd h (by decide +kernel))
                    refine lv_aload_n hx hb d_Md_fare_59 rfl (lv_at hl 0 rfl) ?_
                    refine lv_iload_n hx hb d_Md_fare_60 rfl (lv_at hl 1 rfl) ?_
                    refine lv_iload_n hx hb d_Md_fare_61 rfl (lv_at hl 2 rfl) ?_
                    refine lv_iload_n hx hb d_Md_fare_62 rfl (lv_at hl 3 rfl) ?_
                    refine lv_iload hx hb d_Md_fare_63 (lv_at hl 4 rfl) ?_
                    refine lv_bipush (v := 12) hx hb d_Md_fare_65 (by decide +kernel) ?_
                    refine lv_idiv hx hb d_Md_fare_67 (by decide) ?_
                    refine hb_divn (U := 5999) (Qm := 499) (c := 12) (C1 := 11) (K := 2147483635) (by decide +kernel) (by decide +kernel) (by decide +kernel) c_15 (show ¬ (2147483635 < p_3) from by have e0 := c_15; rw [Int32.lt_iff_toInt_lt] at e0; have e1 := c_16; rw [Int32.lt_iff_toInt_lt] at e1; have z0 : (0 : Int32).toInt = 0 := (by decide +kernel); have z1 : (5999 : Int32).toInt = 5999 := (by decide +kernel); have z2 : (2147483635 : Int32).toInt = 2147483635 := (by decide +kernel); rw [Int32.lt_iff_toInt_lt]; omega) c_16 (by decide +kernel) (fun y_20 g1_20 g2_20 g3_20 g4_20 g5_20 g9_20 => ?_)
                    refine lv_iload hx hb d_Md_fare_68 (lv_at hl 4 rfl) ?_
                    refine lv_bipush (v := 12) hx hb d_Md_fare_70 (by decide +kernel) ?_
                    refine lv_irem hx hb d_Md_fare_72 (by decide) ?_
                    refine hb_remn (c := 12) (C1 := 11) (K := 2147483635) (by decide +kernel) (by decide +kernel) (by decide +kernel) c_15 (show ¬ (2147483635 < p_3) from by have e0 := c_15; rw [Int32.lt_iff_toInt_lt] at e0; have e1 := c_16; rw [Int32.lt_iff_toInt_lt] at e1; have z0 : (0 : Int32).toInt = 0 := (by decide +kernel); have z1 : (5999 : Int32).toInt = 5999 := (by decide +kernel); have z2 : (2147483635 : Int32).toInt = 2147483635 := (by decide +kernel); rw [Int32.lt_iff_toInt_lt]; omega) (fun y_21 qu_21 g1_21 g2_21 g3_21 g4_21 g5_21 g9_21 => ?_)
                    refine lv_iload hx hb d_Md_fare_73 (lv_at hl 5 rfl) ?_
                    refine vp_callSi (va_Run.run (va_runV (As := [.int p_0, .int p_1, .int p_2, .int y_20, .int y_21, .int p_4]) (rest := []) ⟨hx, hb, hml, hown, htb⟩ (c_Md_fareOf_t l dC dI ct L f hO_0 q0 m0 p_0 p_1 p_2 y_20 y_21 p_4 c_3 (show ¬ (19 < p_0) from ((fun (a_0 : Int32) (a_1 : Int32) (k_0 : ¬ (a_1 < 0)) (k_1 : ¬ (20 < a_1)) (k_2 : ¬ ((a_1 - 1) < a_0)) => (show ¬ (19 < a_0) from by have z0 : (0 : Int32).toInt = 0 := (by decide +kernel); have z1 : (1 : Int32).toInt = 1 := (by decide +kernel); have z2 : (19 : Int32).toInt = 19 := (by decide +kernel); have z3 : (20 : Int32).toInt = 20 := (by decide +kernel); have r0 := fb_rng (a_0); have r1 := fb_rng (a_1); have e0 := k_0; rw [Int32.lt_iff_toInt_lt, z0] at e0; have e1 := k_1; rw [Int32.lt_iff_toInt_lt, z3] at e1; obtain ⟨n_0, hn_0, s0⟩ := nd_sub (x := (a_1)) (y := (1 : Int32)) (by (try rw [z1]); omega) (by (try rw [z1]); omega); rw [z1] at s0; have e2 := k_2; rw [hn_0, Int32.lt_iff_toInt_lt] at e2; rw [Int32.lt_iff_toInt_lt, z2]; omega)) p_0 x_1 b_1.1 b_1.2 c_4)) po_6 po_7 po_10 po_11 g1_20 g5_20 g1_21 g2_21) (cwV 6 htb (gd_V tw_621 tw_622 tw_623 tw_479 tw_620) rfl rfl rfl (by decide +kernel) ⟨Nat.le_of_ble_eq_true rfl, Nat.le_of_ble_eq_true rfl⟩) ⟨pr_blind, tw_recv hK hP m0 rfl rfl, pr_pre hP hK hN⟩ rfl rfl hl.1 rfl (lv_room (Nat.le_of_ble_eq_true rfl)) d_Md_fare_75 ⟨Nat.le_of_ble_eq_true rfl, Nat.le_of_ble_eq_true rfl⟩)) (fun r_22 er_22 => ?_)
                    clear er_22
                    exact W.iret (v := r_22) hx hb hr (fun t ht hW => ⟨r_22, rfl, trivial, ht⟩) t_nil d_Md_fare_78
set_option maxHeartbeats 4000000 in
set_option maxRecDepth 100000 in
theorem c_Md_minutesOf_t (l : Launch) (dC : Nat → ClassId) (dI : Nat → Nat → Nat) (ct : Nat → ClassId) (L : List Nat) (f : TF) (hO_0 : Ok L f) (q0 : Nat) (m0 : q0 ∈ L ∧ tk f q0 = 27) (p_0 : Int32) (p_1 : Int32)  (as_0 : ¬ (p_0 < 0)) (as_1 : ¬ (19 < p_0)) (as_2 : ¬ (p_1 < 0)) (as_3 : ¬ (11 < p_1)) : Met l y_Md_minutesOf (.code y_Md_minutesOf b_Md_minutesOf 7 (some .int) :: TB) ({ frames := 2, cells := 0, slots := 0, locals := 44 }) (va_Pc [.ref q0, .int p_0, .int p_1] (PR dC dI (TW ct L f) (TT ct))) (vp_Si (fun r => True)) 0 0 (fun _ => False) := by
  refine Met.ofW (cc := b_Md_minutesOf) (maxL := 7) (ret := (some .int)) (by decide) rfl ?_
  intro p e s m args below meth c s₁ B hml hv
  obtain ⟨rfl, hP, hK, hN⟩ := hv
  have hx := B.exec
  have hb := B.bytes
  have hr := B.returns
  have hts := atoms_spec (ws := (.code y_Md_minutesOf b_Md_minutesOf 7 (some .int) :: TB)) B.pre
  have htb := fun w (h : w ∈ TB) => hts w (List.mem_cons_of_mem _ h)
  have hown : s.vm.findClass R_Md = some m.cls := findClass_of_methodNamed B.named
  have hlocks := B.notSynchronized
  have hl := lv_entry ([.ref q0, .int p_0, .int p_1]) (n := 7) (Nat.le_of_ble_eq_true rfl)
  rw [lg_entry_eq]
  generalize (lg_sl ([.ref q0, .int p_0, .int p_1]) ++ List.replicate (7 - (lg_sl ([.ref q0, .int p_0, .int p_1])).length) Slot.unset).toArray = ls at hl ⊢
  have hl : lv_has ls 7 [(0, .ref q0), (1, .int p_0), (2, .int p_1)] := hl
  refine lv_aload_n hx hb d_Md_minutesOf_0 rfl (lv_at hl 0 rfl) ?_
  refine tw_getr (D := (dC, dI)) (C := R_Md) (T := F_Md) (N := 64) (ci := 7) (kd := 27) (ct := ct) hx hb htb i_Md hown hK hP hO_0 m0 rfl rfl 3 (by decide) (htb (.fieldLink R_Md 32 "WaterMenModel" "miles" "[I") tw_489) (fun _ h9 => h9) rfl d_Md_minutesOf_1 (fun q_1 e_1 m_1 => ?_)
  refine lv_iload_n hx hb d_Md_minutesOf_4 rfl (lv_at hl 2 rfl) ?_
  refine tw_aldI (ct := ct) hx hb hK hP hO_0 m_1 rfl (hb_inl as_2 as_3 (by decide +kernel)) d_Md_minutesOf_5 (fun x_2 e_2 b_2 => ?_)
  refine lv_aload_n hx hb d_Md_minutesOf_6 rfl (lv_at hl 0 rfl) ?_
  refine tw_getR (D := (dC, dI)) (C := R_Md) (T := F_Md) (N := 64) (ci := 7) (kd := 27) (ct := ct) hx hb htb i_Md hown hK hP m0 rfl rfl 3 e_1 (by decide) (htb (.fieldLink R_Md 32 "WaterMenModel" "miles" "[I") tw_489) (fun _ h9 => h9) rfl d_Md_minutesOf_7 ?_
  refine hb_tv (.ref q_1) rfl ?_
  refine lv_aload_n hx hb d_Md_minutesOf_10 rfl (lv_at hl 0 rfl) ?_
  refine tw_getr (D := (dC, dI)) (C := R_Md) (T := F_Md) (N := 64) (ci := 7) (kd := 27) (ct := ct) hx hb htb i_Md hown hK hP hO_0 m0 rfl rfl 23 (by decide) (htb (.fieldLink R_Md 97 "WaterMenModel" "boatAt" "[I") tw_539) (fun _ h9 => h9) rfl d_Md_minutesOf_11 (fun q_3 e_3 m_3 => ?_)
  refine lv_iload_n hx hb d_Md_minutesOf_14 rfl (lv_at hl 1 rfl) ?_
  refine tw_aldI (ct := ct) hx hb hK hP hO_0 m_3 rfl (hb_inl as_0 as_1 (by decide +kernel)) d_Md_minutesOf_15 (fun x_4 e_4 b_4 => ?_)
  refine tw_aldI (ct := ct) hx hb hK hP hO_0 m_1 rfl (hb_inl b_4.1 b_4.2 (by decide +kernel)) d_Md_minutesOf_16 (fun x_5 e_5 b_5 => ?_)
  refine lv_isub hx hb d_Md_minutesOf_17 ?_
  refine lv_istore_n (lv' := [(3, .int (x_2 - x_5)), (0, .ref q0), (1, .int p_0), (2, .int p_1)]) hx hb d_Md_minutesOf_18 rfl hl (by decide) rfl (fun ls hl => ?_)
  refine lv_aload_n hx hb d_Md_minutesOf_19 rfl (lv_at hl 1 rfl) ?_
  refine lv_aload_n hx hb d_Md_minutesOf_20 rfl (lv_at hl 1 rfl) ?_
  refine vp_callSi (va_Run.run (va_runV (As := []) (rest := [.ref q0]) ⟨hx, hb, hml, hown, htb⟩ (c_Md_today_t l dC dI ct L f hO_0 q0 m0) (cwV 0 htb (gd_V tw_499 tw_500 tw_501 tw_479 tw_498) rfl rfl rfl (by decide +kernel) ⟨Nat.le_of_ble_eq_true rfl, Nat.le_of_ble_eq_true rfl⟩) ⟨pr_blind, tw_recv hK hP m0 rfl rfl, pr_pre hP hK hN⟩ rfl rfl hl.1 rfl (lv_room (Nat.le_of_ble_eq_true rfl)) d_Md_minutesOf_21 ⟨Nat.le_of_ble_eq_true rfl, Nat.le_of_ble_eq_true rfl⟩)) (fun r_6 er_6 => ?_)
  obtain ⟨po_7, po_8, po_9, po_10, -⟩ := er_6
  refine lv_aload_n hx hb d_Md_minutesOf_24 rfl (lv_at hl 1 rfl) ?_
  refine vp_callSi (va_Run.run (va_runV (As := []) (rest := [.int r_6, .ref q0]) ⟨hx, hb, hml, hown, htb⟩ (c_Md_hourNow_t l dC dI ct L f hO_0 q0 m0) (cwV 0 htb (gd_V tw_625 tw_626 tw_627 tw_479 tw_624) rfl rfl rfl (by decide +kernel) ⟨Nat.le_of_ble_eq_true rfl, Nat.le_of_ble_eq_true rfl⟩) ⟨pr_blind, tw_recv hK hP m0 rfl rfl, pr_pre hP hK hN⟩ rfl rfl hl.1 rfl (lv_room (Nat.le_of_ble_eq_true rfl)) d_Md_minutesOf_25 ⟨Nat.le_of_ble_eq_true rfl, Nat.le_of_ble_eq_true rfl⟩)) (fun r_11 er_11 => ?_)
  obtain ⟨po_12, po_13, -⟩ := er_11
  refine vp_callSi (va_Run.run (va_runV (As := [.int r_6, .int r_11]) (rest := []) ⟨hx, hb, hml, hown, htb⟩ (c_Md_flowOf_t l dC dI ct L f hO_0 q0 m0 r_6 r_11 po_7 po_8 po_12 po_13) (cwV 2 htb (gd_V tw_495 tw_496 tw_497 tw_479 tw_494) rfl rfl rfl (by decide +kernel) ⟨Nat.le_of_ble_eq_true rfl, Nat.le_of_ble_eq_true rfl⟩) ⟨pr_blind, tw_recv hK hP m0 rfl rfl, pr_pre hP hK hN⟩ rfl rfl hl.1 rfl (lv_room (Nat.le_of_ble_eq_true rfl)) d_Md_minutesOf_28 ⟨Nat.le_of_ble_eq_true rfl, Nat.le_of_ble_eq_true rfl⟩)) (fun r_14 er_14 => ?_)
  clear er_14
  refine lv_istore (lv' := [(4, .int r_14), (3, .int (x_2 - x_5)), (0, .ref q0), (1, .int p_0), (2, .int p_1)]) hx hb d_Md_minutesOf_31 hl (by decide) rfl (fun ls hl => ?_)
  refine lv_iload hx hb d_Md_minutesOf_33 (lv_at hl 0 rfl) ?_
  refine lv_if_ne (tgt := 43) hx hb d_Md_minutesOf_35 (by decide) (fun c_15 => ?_) (fun c_15 => ?_)
  · refine lv_iload hx hb d_Md_minutesOf_43 (lv_at hl 0 rfl) ?_
    refine lv_if_le (tgt := 52) hx hb d_Md_minutesOf_45 (by decide) (fun c_16 => ?_) (fun c_16 => ?_)
    · refine lv_iconst (v := 0) hx hb d_Md_minutesOf_52 (by decide +kernel) ?_
      refine lv_iload_n hx hb d_Md_minutesOf_53 rfl (lv_at hl 1 rfl) ?_
      refine lv_if_le (tgt := 61) hx hb d_Md_minutesOf_54 (by decide) (fun c_17 => ?_) (fun c_17 => ?_)
      · refine lv_iconst (v := 0) hx hb d_Md_minutesOf_61 (by decide +kernel) ?_
        refine lv_icmp_ne (tgt := 70) hx hb d_Md_minutesOf_62 (by decide) (fun h => absurd (by decide +kernel) h) (fun _ => ?_)
        refine lv_bipush (v := 7) hx hb d_Md_minutesOf_65 (by decide +kernel) ?_
        refine lv_goto (tgt := 72) hx hb d_Md_minutesOf_67 (by decide) ?_
        refine lv_istore (lv' := [(5, .int 7), (4, .int r_14), (3, .int (x_2 - x_5)), (0, .ref q0), (1, .int p_0), (2, .int p_1)]) hx hb d_Md_minutesOf_72 hl (by decide) rfl (fun ls hl => ?_)
        refine lv_iload_n hx hb d_Md_minutesOf_74 rfl (lv_at hl 2 rfl) ?_
        refine lv_if_ge (tgt := 83) hx hb d_Md_minutesOf_75 (by decide) (fun c_18 => ?_) (fun c_18 => ?_)
        · refine lv_iload_n hx hb d_Md_minutesOf_83 rfl (lv_at hl 2 rfl) ?_
          refine lv_iload hx hb d_Md_minutesOf_84 (lv_at hl 0 rfl) ?_
          refine lv_imul hx hb d_Md_minutesOf_86 ?_
          refine lv_istore (lv' := [(6, .int ((x_2 - x_5) * 7)), (5, .int 7), (4, .int r_14), (3, .int (x_2 - x_5)), (0, .ref q0), (1, .int p_0), (2, .int p_1)]) hx hb d_Md_minutesOf_87 hl (by decide) rfl (fun ls hl => ?_)
          refine lv_aload_n hx hb d_Md_minutesOf_89 rfl (lv_at hl 4 rfl) ?_
          refine tw_getr (D := (dC, dI)) (C := R_Md) (T := F_Md) (N := 64) (ci := 7) (kd := 27) (ct := ct) hx hb htb i_Md hown hK hP hO_0 m0 rfl rfl 22 (by decide) (htb (.fieldLink R_Md 94 "WaterMenModel" "boatOars" "[I") tw_538) (fun _ h9 => h9) rfl d_Md_minutesOf_90 (fun q_19 e_19 m_19 => ?_)
          refine lv_iload_n hx hb d_Md_minutesOf_93 rfl (lv_at hl 5 rfl) ?_
          refine tw_aldI (ct := ct) hx hb hK hP hO_0 m_19 rfl (hb_inl as_0 as_1 (by decide +kernel)) d_Md_minutesOf_94 (fun x_20 e_20 b_20 => ?_)
          refine lv_iconst (v := 2) hx hb d_Md_minutesOf_95 (by decide +kernel) ?_
          refine lv_icmp_ne (tgt := 108) hx hb d_Md_minutesOf_96 (by decide) (fun c_21 => ?_) (fun c_21 => ?_)
          · refine lv_iload hx hb d_Md_minutesOf_108 (lv_at hl 0 rfl) ?_
            refine lv_istore (lv' := [(6, .int ((x_2 - x_5) * 7)), (5, .int 7), (4, .int r_14), (3, .int (x_2 - x_5)), (0, .ref q0), (1, .int p_0), (2, .int p_1)]) hx hb d_Md_minutesOf_110 hl (by decide) rfl (fun ls hl => ?_)
            refine lv_iload hx hb d_Md_minutesOf_112 (lv_at hl 0 rfl) ?_
            refine lv_iconst (v := 1) hx hb d_Md_minutesOf_114 (by decide +kernel) ?_
            refine lv_icmp_ge (tgt := 122) hx hb d_Md_minutesOf_115 (by decide) (fun c_22 => ?_) (fun c_22 => ?_)
            · refine lv_iload hx hb d_Md_minutesOf_122 (lv_at hl 0 rfl) ?_
              exact W.iret (v := ((x_2 - x_5) * 7)) hx hb hr (fun t ht hW => ⟨((x_2 - x_5) * 7), rfl, trivial, ht⟩) t_nil d_Md_minutesOf_124
            · refine lv_iconst (v := 1) hx hb d_Md_minutesOf_118 (by decide +kernel) ?_
              refine lv_goto (tgt := 124) hx hb d_Md_minutesOf_119 (by decide) ?_
              exact W.iret (v := 1) hx hb hr (fun t ht hW => ⟨1, rfl, trivial, ht⟩) t_nil d_Md_minutesOf_124
          · refine lv_iload hx hb d_Md_minutesOf_99 (lv_at hl 0 rfl) ?_
            refine lv_iconst (v := 2) hx hb d_Md_minutesOf_101 (by decide +kernel) ?_
            refine lv_imul hx hb d_Md_minutesOf_102 ?_
            refine lv_iconst (v := 3) hx hb d_Md_minutesOf_103 (by decide +kernel) ?_
            refine lv_idiv hx hb d_Md_minutesOf_104 (by decide) ?_
            refine lv_goto (tgt := 110) hx hb d_Md_minutesOf_105 (by decide) ?_
            refine lv_istore (lv' := [(6, .int ((((x_2 - x_5) * 7) * 2) / 3)), (5, .int 7), (4, .int r_14), (3, .int (x_2 - x_5)), (0, .ref q0), (1, .int p_0), (2, .int p_1)]) hx hb d_Md_minutesOf_110 hl (by decide) rfl (fun ls hl => ?_)
            refine lv_iload hx hb d_Md_minutesOf_112 (lv_at hl 0 rfl) ?_
            refine lv_iconst (v := 1) hx hb d_Md_minutesOf_114 (by decide +kernel) ?_
            refine lv_icmp_ge (tgt := 122) hx hb d_Md_minutesOf_115 (by decide) (fun c_23 => ?_) (fun c_23 => ?_)
            · refine lv_iload hx hb d_Md_minutesOf_122 (lv_at hl 0 rfl) ?_
              exact W.iret (v := ((((x_2 - x_5) * 7) * 2) / 3)) hx hb hr (fun t ht hW => ⟨((((x_2 - x_5) * 7) * 2) / 3), rfl, trivial, ht⟩) t_nil d_Md_minutesOf_124
            · refine lv_iconst (v := 1) hx hb d_Md_minutesOf_118 (by decide +kernel) ?_
              refine lv_goto (tgt := 124) hx hb d_Md_minutesOf_119 (by decide) ?_
              exact W.iret (v := 1) hx hb hr (fun t ht hW => ⟨1, rfl, trivial, ht⟩) t_nil d_Md_minutesOf_124
        · refine lv_iload_n hx hb d_Md_minutesOf_78 rfl (lv_at hl 2 rfl) ?_
          refine lv_ineg hx hb d_Md_minutesOf_79 ?_
          refine lv_goto (tgt := 84) hx hb d_Md_minutesOf_80 (by decide) ?_
          refine lv_iload hx hb d_Md_minutesOf_84 (lv_at hl 0 rfl) ?_
          refine lv_imul hx hb d_Md_minutesOf_86 ?_
          refine lv_istore (lv' := [(6, .int ((-(x_2 - x_5)) * 7)), (5, .int 7), (4, .int r_14), (3, .int (x_2 - x_5)), (0, .ref q0), (1, .int p_0), (2, .int p_1)]) hx hb d_Md_minutesOf_87 hl (by decide) rfl (fun ls hl => ?_)
          refine lv_aload_n hx hb d_Md_minutesOf_89 rfl (lv_at hl 4 rfl) ?_
          refine tw_getr (D := (dC, dI)) (C := R_Md) (T := F_Md) (N := 64) (ci := 7) (kd := 27) (ct := ct) hx hb htb i_Md hown hK hP hO_0 m0 rfl rfl 22 (by decide) (htb (.fieldLink R_Md 94 "WaterMenModel" "boatOars" "[I") tw_538) (fun _ h9 => h9) rfl d_Md_minutesOf_90 (fun q_24 e_24 m_24 => ?_)
          refine lv_iload_n hx hb d_Md_minutesOf_93 rfl (lv_at hl 5 rfl) ?_
          refine tw_aldI (ct := ct) hx hb hK hP hO_0 m_24 rfl (hb_inl as_0 as_1 (by decide +kernel)) d_Md_minutesOf_94 (fun x_25 e_25 b_25 => ?_)
          refine lv_iconst (v := 2) hx hb d_Md_minutesOf_95 (by decide +kernel) ?_
          refine lv_icmp_ne (tgt := 108) hx hb d_Md_minutesOf_96 (by decide) (fun c_26 => ?_) (fun c_26 => ?_)
          · refine lv_iload hx hb d_Md_minutesOf_108 (lv_at hl 0 rfl) ?_
            refine lv_istore (lv' := [(6, .int ((-(x_2 - x_5)) * 7)), (5, .int 7), (4, .int r_14), (3, .int (x_2 - x_5)), (0, .ref q0), (1, .int p_0), (2, .int p_1)]) hx hb d_Md_minutesOf_110 hl (by decide) rfl (fun ls hl => ?_)
            refine lv_iload hx hb d_Md_minutesOf_112 (lv_at hl 0 rfl) ?_
            refine lv_iconst (v := 1) hx hb d_Md_minutesOf_114 (by decide +kernel) ?_
            refine lv_icmp_ge (tgt := 122) hx hb d_Md_minutesOf_115 (by decide) (fun c_27 => ?_) (fun c_27 => ?_)
            · refine lv_iload hx hb d_Md_minutesOf_122 (lv_at hl 0 rfl) ?_
              exact W.iret (v := ((-(x_2 - x_5)) * 7)) hx hb hr (fun t ht hW => ⟨((-(x_2 - x_5)) * 7), rfl, trivial, ht⟩) t_nil d_Md_minutesOf_124
            · refine lv_iconst (v := 1) hx hb d_Md_minutesOf_118 (by decide +kernel) ?_
              refine lv_goto (tgt := 124) hx hb d_Md_minutesOf_119 (by decide) ?_
              exact W.iret (v := 1) hx hb hr (fun t ht hW => ⟨1, rfl, trivial, ht⟩) t_nil d_Md_minutesOf_124
          · refine lv_iload hx hb d_Md_minutesOf_99 (lv_at hl 0 rfl) ?_
            refine lv_iconst (v := 2) hx hb d_Md_minutesOf_101 (by decide +kernel) ?_
            refine lv_imul hx hb d_Md_minutesOf_102 ?_
            refine lv_iconst (v := 3) hx hb d_Md_minutesOf_103 (by decide +kernel) ?_
            refine lv_idiv hx hb d_Md_minutesOf_104 (by decide) ?_
            refine lv_goto (tgt := 110) hx hb d_Md_minutesOf_105 (by decide) ?_
            refine lv_istore (lv' := [(6, .int ((((-(x_2 - x_5)) * 7) * 2) / 3)), (5, .int 7), (4, .int r_14), (3, .int (x_2 - x_5)), (0, .ref q0), (1, .int p_0), (2, .int p_1)]) hx hb d_Md_minutesOf_110 hl (by decide) rfl (fun ls hl => ?_)
            refine lv_iload hx hb d_Md_minutesOf_112 (lv_at hl 0 rfl) ?_
            refine lv_iconst (v := 1) hx hb d_Md_minutesOf_114 (by decide +kernel) ?_
            refine lv_icmp_ge (tgt := 122) hx hb d_Md_minutesOf_115 (by decide) (fun c_28 => ?_) (fun c_28 => ?_)
            · refine lv_iload hx hb d_Md_minutesOf_122 (lv_at hl 0 rfl) ?_
              exact W.iret (v := ((((-(x_2 - x_5)) * 7) * 2) / 3)) hx hb hr (fun t ht hW => ⟨((((-(x_2 - x_5)) * 7) * 2) / 3), rfl, trivial, ht⟩) t_nil d_Md_minutesOf_124
            · refine lv_iconst (v := 1) hx hb d_Md_minutesOf_118 (by decide +kernel) ?_
              refine lv_goto (tgt := 124) hx hb d_Md_minutesOf_119 (by decide) ?_
              exact W.iret (v := 1) hx hb hr (fun t ht hW => ⟨1, rfl, trivial, ht⟩) t_nil d_Md_minutesOf_124
      · refine lv_iconst (v := 1) hx hb d_Md_minutesOf_57 (by decide +kernel) ?_
        refine lv_goto (tgt := 62) hx hb d_Md_minutesOf_58 (by decide) ?_
        refine lv_icmp_ne (tgt := 70) hx hb d_Md_minutesOf_62 (by decide) (fun _ => ?_) (fun h => absurd h (by decide +kernel))
        refine lv_bipush (v := 14) hx hb d_Md_minutesOf_70 (by decide +kernel) ?_
        refine lv_istore (lv' := [(5, .int 14), (4, .int r_14), (3, .int (x_2 - x_5)), (0, .ref q0), (1, .int p_0), (2, .int p_1)]) hx hb d_Md_minutesOf_72 hl (by decide) rfl (fun ls hl => ?_)
        refine lv_iload_n hx hb d_Md_minutesOf_74 rfl (lv_at hl 2 rfl) ?_
        refine lv_if_ge (tgt := 83) hx hb d_Md_minutesOf_75 (by decide) (fun _ => ?_) (fun h => absurd (show 0 ≤ (x_2 - x_5) from by have e0 := c_17; rw [Int32.le_iff_toInt_le] at e0; have z0 : (0 : Int32).toInt = 0 := (by decide +kernel); rw [Int32.le_iff_toInt_le]; omega) h)
        refine lv_iload_n hx hb d_Md_minutesOf_83 rfl (lv_at hl 2 rfl) ?_
        refine lv_iload hx hb d_Md_minutesOf_84 (lv_at hl 0 rfl) ?_
        refine lv_imul hx hb d_Md_minutesOf_86 ?_
        refine lv_istore (lv' := [(6, .int ((x_2 - x_5) * 14)), (5, .int 14), (4, .int r_14), (3, .int (x_2 - x_5)), (0, .ref q0), (1, .int p_0), (2, .int p_1)]) hx hb d_Md_minutesOf_87 hl (by decide) rfl (fun ls hl => ?_)
        refine lv_aload_n hx hb d_Md_minutesOf_89 rfl (lv_at hl 4 rfl) ?_
        refine tw_getr (D := (dC, dI)) (C := R_Md) (T := F_Md) (N := 64) (ci := 7) (kd := 27) (ct := ct) hx hb htb i_Md hown hK hP hO_0 m0 rfl rfl 22 (by decide) (htb (.fieldLink R_Md 94 "WaterMenModel" "boatOars" "[I") tw_538) (fun _ h9 => h9) rfl d_Md_minutesOf_90 (fun q_29 e_29 m_29 => ?_)
        refine lv_iload_n hx hb d_Md_minutesOf_93 rfl (lv_at hl 5 rfl) ?_
        refine tw_aldI (ct := ct) hx hb hK hP hO_0 m_29 rfl (hb_inl as_0 as_1 (by decide +kernel)) d_Md_minutesOf_94 (fun x_30 e_30 b_30 => ?_)
        refine lv_iconst (v := 2) hx hb d_Md_minutesOf_95 (by decide +kernel) ?_
        refine lv_icmp_ne (tgt := 108) hx hb d_Md_minutesOf_96 (by decide) (fun c_31 => ?_) (fun c_31 => ?_)
        · refine lv_iload hx hb d_Md_minutesOf_108 (lv_at hl 0 rfl) ?_
          refine lv_istore (lv' := [(6, .int ((x_2 - x_5) * 14)), (5, .int 14), (4, .int r_14), (3, .int (x_2 - x_5)), (0, .ref q0), (1, .int p_0), (2, .int p_1)]) hx hb d_Md_minutesOf_110 hl (by decide) rfl (fun ls hl => ?_)
          refine lv_iload hx hb d_Md_minutesOf_112 (lv_at hl 0 rfl) ?_
          refine lv_iconst (v := 1) hx hb d_Md_minutesOf_114 (by decide +kernel) ?_
          refine lv_icmp_ge (tgt := 122) hx hb d_Md_minutesOf_115 (by decide) (fun c_32 => ?_) (fun c_32 => ?_)
          · refine lv_iload hx hb d_Md_minutesOf_122 (lv_at hl 0 rfl) ?_
            exact W.iret (v := ((x_2 - x_5) * 14)) hx hb hr (fun t ht hW => ⟨((x_2 - x_5) * 14), rfl, trivial, ht⟩) t_nil d_Md_minutesOf_124
          · refine lv_iconst (v := 1) hx hb d_Md_minutesOf_118 (by decide +kernel) ?_
            refine lv_goto (tgt := 124) hx hb d_Md_minutesOf_119 (by decide) ?_
            exact W.iret (v := 1) hx hb hr (fun t ht hW => ⟨1, rfl, trivial, ht⟩) t_nil d_Md_minutesOf_124
        · refine lv_iload hx hb d_Md_minutesOf_99 (lv_at hl 0 rfl) ?_
          refine lv_iconst (v := 2) hx hb d_Md_minutesOf_101 (by decide +kernel) ?_
          refine lv_imul hx hb d_Md_minutesOf_102 ?_
          refine lv_iconst (v := 3) hx hb d_Md_minutesOf_103 (by decide +kernel) ?_
          refine lv_idiv hx hb d_Md_minutesOf_104 (by decide) ?_
          refine lv_goto (tgt := 110) hx hb d_Md_minutesOf_105 (by decide) ?_
          refine lv_istore (lv' := [(6, .int ((((x_2 - x_5) * 14) * 2) / 3)), (5, .int 14), (4, .int r_14), (3, .int (x_2 - x_5)), (0, .ref q0), (1, .int p_0), (2, .int p_1)]) hx hb d_Md_minutesOf_110 hl (by decide) rfl (fun ls hl => ?_)
          refine lv_iload hx hb d_Md_minutesOf_112 (lv_at hl 0 rfl) ?_
          refine lv_iconst (v := 1) hx hb d_Md_minutesOf_114 (by decide +kernel) ?_
          refine lv_icmp_ge (tgt := 122) hx hb d_Md_minutesOf_115 (by decide) (fun c_33 => ?_) (fun c_33 => ?_)
          · refine lv_iload hx hb d_Md_minutesOf_122 (lv_at hl 0 rfl) ?_
            exact W.iret (v := ((((x_2 - x_5) * 14) * 2) / 3)) hx hb hr (fun t ht hW => ⟨((((x_2 - x_5) * 14) * 2) / 3), rfl, trivial, ht⟩) t_nil d_Md_minutesOf_124
          · refine lv_iconst (v := 1) hx hb d_Md_minutesOf_118 (by decide +kernel) ?_
            refine lv_goto (tgt := 124) hx hb d_Md_minutesOf_119 (by decide) ?_
            exact W.iret (v := 1) hx hb hr (fun t ht hW => ⟨1, rfl, trivial, ht⟩) t_nil d_Md_minutesOf_124
    · refine lv_iconst (v := 1) hx hb d_Md_minutesOf_48 (by decide +kernel) ?_
      refine lv_goto (tgt := 53) hx hb d_Md_minutesOf_49 (by decide) ?_
      refine lv_iload_n hx hb d_Md_minutesOf_53 rfl (lv_at hl 1 rfl) ?_
      refine lv_if_le (tgt := 61) hx hb d_Md_minutesOf_54 (by decide) (fun c_34 => ?_) (fun c_34 => ?_)
      · refine lv_iconst (v := 0) hx hb d_Md_minutesOf_61 (by decide +kernel) ?_
        refine lv_icmp_ne (tgt := 70) hx hb d_Md_minutesOf_62 (by decide) (fun _ => ?_) (fun h => absurd h (by decide +kernel))
        refine lv_bipush (v := 14) hx hb d_Md_minutesOf_70 (by decide +kernel) ?_
        refine lv_istore (lv' := [(5, .int 14), (4, .int r_14), (3, .int (x_2 - x_5)), (0, .ref q0), (1, .int p_0), (2, .int p_1)]) hx hb d_Md_minutesOf_72 hl (by decide) rfl (fun ls hl => ?_)
        refine lv_iload_n hx hb d_Md_minutesOf_74 rfl (lv_at hl 2 rfl) ?_
        refine lv_if_ge (tgt := 83) hx hb d_Md_minutesOf_75 (by decide) (fun c_35 => ?_) (fun c_35 => ?_)
        · refine lv_iload_n hx hb d_Md_minutesOf_83 rfl (lv_at hl 2 rfl) ?_
          refine lv_iload hx hb d_Md_minutesOf_84 (lv_at hl 0 rfl) ?_
          refine lv_imul hx hb d_Md_minutesOf_86 ?_
          refine lv_istore (lv' := [(6, .int ((x_2 - x_5) * 14)), (5, .int 14), (4, .int r_14), (3, .int (x_2 - x_5)), (0, .ref q0), (1, .int p_0), (2, .int p_1)]) hx hb d_Md_minutesOf_87 hl (by decide) rfl (fun ls hl => ?_)
          refine lv_aload_n hx hb d_Md_minutesOf_89 rfl (lv_at hl 4 rfl) ?_
          refine tw_getr (D := (dC, dI)) (C := R_Md) (T := F_Md) (N := 64) (ci := 7) (kd := 27) (ct := ct) hx hb htb i_Md hown hK hP hO_0 m0 rfl rfl 22 (by decide) (htb (.fieldLink R_Md 94 "WaterMenModel" "boatOars" "[I") tw_538) (fun _ h9 => h9) rfl d_Md_minutesOf_90 (fun q_36 e_36 m_36 => ?_)
          refine lv_iload_n hx hb d_Md_minutesOf_93 rfl (lv_at hl 5 rfl) ?_
          refine tw_aldI (ct := ct) hx hb hK hP hO_0 m_36 rfl (hb_inl as_0 as_1 (by decide +kernel)) d_Md_minutesOf_94 (fun x_37 e_37 b_37 => ?_)
          refine lv_iconst (v := 2) hx hb d_Md_minutesOf_95 (by decide +kernel) ?_
          refine lv_icmp_ne (tgt := 108) hx hb d_Md_minutesOf_96 (by decide) (fun c_38 => ?_) (fun c_38 => ?_)
          · refine lv_iload hx hb d_Md_minutesOf_108 (lv_at hl 0 rfl) ?_
            refine lv_istore (lv' := [(6, .int ((x_2 - x_5) * 14)), (5, .int 14), (4, .int r_14), (3, .int (x_2 - x_5)), (0, .ref q0), (1, .int p_0), (2, .int p_1)]) hx hb d_Md_minutesOf_110 hl (by decide) rfl (fun ls hl => ?_)
            refine lv_iload hx hb d_Md_minutesOf_112 (lv_at hl 0 rfl) ?_
            refine lv_iconst (v := 1) hx hb d_Md_minutesOf_114 (by decide +kernel) ?_
            refine lv_icmp_ge (tgt := 122) hx hb d_Md_minutesOf_115 (by decide) (fun c_39 => ?_) (fun c_39 => ?_)
            · refine lv_iload hx hb d_Md_minutesOf_122 (lv_at hl 0 rfl) ?_
              exact W.iret (v := ((x_2 - x_5) * 14)) hx hb hr (fun t ht hW => ⟨((x_2 - x_5) * 14), rfl, trivial, ht⟩) t_nil d_Md_minutesOf_124
            · refine lv_iconst (v := 1) hx hb d_Md_minutesOf_118 (by decide +kernel) ?_
              refine lv_goto (tgt := 124) hx hb d_Md_minutesOf_119 (by decide) ?_
              exact W.iret (v := 1) hx hb hr (fun t ht hW => ⟨1, rfl, trivial, ht⟩) t_nil d_Md_minutesOf_124
          · refine lv_iload hx hb d_Md_minutesOf_99 (lv_at hl 0 rfl) ?_
            refine lv_iconst (v := 2) hx hb d_Md_minutesOf_101 (by decide +kernel) ?_
            refine lv_imul hx hb d_Md_minutesOf_102 ?_
            refine lv_iconst (v := 3) hx hb d_Md_minutesOf_103 (by decide +kernel) ?_
            refine lv_idiv hx hb d_Md_minutesOf_104 (by decide) ?_
            refine lv_goto (tgt := 110) hx hb d_Md_minutesOf_105 (by decide) ?_
            refine lv_istore (lv' := [(6, .int ((((x_2 - x_5) * 14) * 2) / 3)), (5, .int 14), (4, .int r_14), (3, .int (x_2 - x_5)), (0, .ref q0), (1, .int p_0), (2, .int p_1)]) hx hb d_Md_minutesOf_110 hl (by decide) rfl (fun ls hl => ?_)
            refine lv_iload hx hb d_Md_minutesOf_112 (lv_at hl 0 rfl) ?_
            refine lv_iconst (v := 1) hx hb d_Md_minutesOf_114 (by decide +kernel) ?_
            refine lv_icmp_ge (tgt := 122) hx hb d_Md_minutesOf_115 (by decide) (fun c_40 => ?_) (fun c_40 => ?_)
            · refine lv_iload hx hb d_Md_minutesOf_122 (lv_at hl 0 rfl) ?_
              exact W.iret (v := ((((x_2 - x_5) * 14) * 2) / 3)) hx hb hr (fun t ht hW => ⟨((((x_2 - x_5) * 14) * 2) / 3), rfl, trivial, ht⟩) t_nil d_Md_minutesOf_124
            · refine lv_iconst (v := 1) hx hb d_Md_minutesOf_118 (by decide +kernel) ?_
              refine lv_goto (tgt := 124) hx hb d_Md_minutesOf_119 (by decide) ?_
              exact W.iret (v := 1) hx hb hr (fun t ht hW => ⟨1, rfl, trivial, ht⟩) t_nil d_Md_minutesOf_124
        · refine lv_iload_n hx hb d_Md_minutesOf_78 rfl (lv_at hl 2 rfl) ?_
          refine lv_ineg hx hb d_Md_minutesOf_79 ?_
          refine lv_goto (tgt := 84) hx hb d_Md_minutesOf_80 (by decide) ?_
          refine lv_iload hx hb d_Md_minutesOf_84 (lv_at hl 0 rfl) ?_
          refine lv_imul hx hb d_Md_minutesOf_86 ?_
          refine lv_istore (lv' := [(6, .int ((-(x_2 - x_5)) * 14)), (5, .int 14), (4, .int r_14), (3, .int (x_2 - x_5)), (0, .ref q0), (1, .int p_0), (2, .int p_1)]) hx hb d_Md_minutesOf_87 hl (by decide) rfl (fun ls hl => ?_)
          refine lv_aload_n hx hb d_Md_minutesOf_89 rfl (lv_at hl 4 rfl) ?_
          refine tw_getr (D := (dC, dI)) (C := R_Md) (T := F_Md) (N := 64) (ci := 7) (kd := 27) (ct := ct) hx hb htb i_Md hown hK hP hO_0 m0 rfl rfl 22 (by decide) (htb (.fieldLink R_Md 94 "WaterMenModel" "boatOars" "[I") tw_538) (fun _ h9 => h9) rfl d_Md_minutesOf_90 (fun q_41 e_41 m_41 => ?_)
          refine lv_iload_n hx hb d_Md_minutesOf_93 rfl (lv_at hl 5 rfl) ?_
          refine tw_aldI (ct := ct) hx hb hK hP hO_0 m_41 rfl (hb_inl as_0 as_1 (by decide +kernel)) d_Md_minutesOf_94 (fun x_42 e_42 b_42 => ?_)
          refine lv_iconst (v := 2) hx hb d_Md_minutesOf_95 (by decide +kernel) ?_
          refine lv_icmp_ne (tgt := 108) hx hb d_Md_minutesOf_96 (by decide) (fun c_43 => ?_) (fun c_43 => ?_)
          · refine lv_iload hx hb d_Md_minutesOf_108 (lv_at hl 0 rfl) ?_
            refine lv_istore (lv' := [(6, .int ((-(x_2 - x_5)) * 14)), (5, .int 14), (4, .int r_14), (3, .int (x_2 - x_5)), (0, .ref q0), (1, .int p_0), (2, .int p_1)]) hx hb d_Md_minutesOf_110 hl (by decide) rfl (fun ls hl => ?_)
            refine lv_iload hx hb d_Md_minutesOf_112 (lv_at hl 0 rfl) ?_
            refine lv_iconst (v := 1) hx hb d_Md_minutesOf_114 (by decide +kernel) ?_
            refine lv_icmp_ge (tgt := 122) hx hb d_Md_minutesOf_115 (by decide) (fun c_44 => ?_) (fun c_44 => ?_)
            · refine lv_iload hx hb d_Md_minutesOf_122 (lv_at hl 0 rfl) ?_
              exact W.iret (v := ((-(x_2 - x_5)) * 14)) hx hb hr (fun t ht hW => ⟨((-(x_2 - x_5)) * 14), rfl, trivial, ht⟩) t_nil d_Md_minutesOf_124
            · refine lv_iconst (v := 1) hx hb d_Md_minutesOf_118 (by decide +kernel) ?_
              refine lv_goto (tgt := 124) hx hb d_Md_minutesOf_119 (by decide) ?_
              exact W.iret (v := 1) hx hb hr (fun t ht hW => ⟨1, rfl, trivial, ht⟩) t_nil d_Md_minutesOf_124
          · refine lv_iload hx hb d_Md_minutesOf_99 (lv_at hl 0 rfl) ?_
            refine lv_iconst (v := 2) hx hb d_Md_minutesOf_101 (by decide +kernel) ?_
            refine lv_imul hx hb d_Md_minutesOf_102 ?_
            refine lv_iconst (v := 3) hx hb d_Md_minutesOf_103 (by decide +kernel) ?_
            refine lv_idiv hx hb d_Md_minutesOf_104 (by decide) ?_
            refine lv_goto (tgt := 110) hx hb d_Md_minutesOf_105 (by decide) ?_
            refine lv_istore (lv' := [(6, .int ((((-(x_2 - x_5)) * 14) * 2) / 3)), (5, .int 14), (4, .int r_14), (3, .int (x_2 - x_5)), (0, .ref q0), (1, .int p_0), (2, .int p_1)]) hx hb d_Md_minutesOf_110 hl (by decide) rfl (fun ls hl => ?_)
            refine lv_iload hx hb d_Md_minutesOf_112 (lv_at hl 0 rfl) ?_
            refine lv_iconst (v := 1) hx hb d_Md_minutesOf_114 (by decide +kernel) ?_
            refine lv_icmp_ge (tgt := 122) hx hb d_Md_minutesOf_115 (by decide) (fun c_45 => ?_) (fun c_45 => ?_)
            · refine lv_iload hx hb d_Md_minutesOf_122 (lv_at hl 0 rfl) ?_
              exact W.iret (v := ((((-(x_2 - x_5)) * 14) * 2) / 3)) hx hb hr (fun t ht hW => ⟨((((-(x_2 - x_5)) * 14) * 2) / 3), rfl, trivial, ht⟩) t_nil d_Md_minutesOf_124
            · refine lv_iconst (v := 1) hx hb d_Md_minutesOf_118 (by decide +kernel) ?_
              refine lv_goto (tgt := 124) hx hb d_Md_minutesOf_119 (by decide) ?_
              exact W.iret (v := 1) hx hb hr (fun t ht hW => ⟨1, rfl, trivial, ht⟩) t_nil d_Md_minutesOf_124
      · refine lv_iconst (v := 1) hx hb d_Md_minutesOf_57 (by decide +kernel) ?_
        refine lv_goto (tgt := 62) hx hb d_Md_minutesOf_58 (by decide) ?_
        refine lv_icmp_ne (tgt := 70) hx hb d_Md_minutesOf_62 (by decide) (fun h => absurd (by decide +kernel) h) (fun _ => ?_)
        refine lv_bipush (v := 7) hx hb d_Md_minutesOf_65 (by decide +kernel) ?_
        refine lv_goto (tgt := 72) hx hb d_Md_minutesOf_67 (by decide) ?_
        refine lv_istore (lv' := [(5, .int 7), (4, .int r_14), (3, .int (x_2 - x_5)), (0, .ref q0), (1, .int p_0), (2, .int p_1)]) hx hb d_Md_minutesOf_72 hl (by decide) rfl (fun ls hl => ?_)
        refine lv_iload_n hx hb d_Md_minutesOf_74 rfl (lv_at hl 2 rfl) ?_
        refine lv_if_ge (tgt := 83) hx hb d_Md_minutesOf_75 (by decide) (fun _ => ?_) (fun h => absurd (show 0 ≤ (x_2 - x_5) from by have e0 := c_34; rw [Int32.le_iff_toInt_le] at e0; have z0 : (0 : Int32).toInt = 0 := (by decide +kernel); rw [Int32.le_iff_toInt_le]; omega) h)
        refine lv_iload_n hx hb d_Md_minutesOf_83 rfl (lv_at hl 2 rfl) ?_
        refine lv_iload hx hb d_Md_minutesOf_84 (lv_at hl 0 rfl) ?_
        refine lv_imul hx hb d_Md_minutesOf_86 ?_
        refine lv_istore (lv' := [(6, .int ((x_2 - x_5) * 7)), (5, .int 7), (4, .int r_14), (3, .int (x_2 - x_5)), (0, .ref q0), (1, .int p_0), (2, .int p_1)]) hx hb d_Md_minutesOf_87 hl (by decide) rfl (fun ls hl => ?_)
        refine lv_aload_n hx hb d_Md_minutesOf_89 rfl (lv_at hl 4 rfl) ?_
        refine tw_getr (D := (dC, dI)) (C := R_Md) (T := F_Md) (N := 64) (ci := 7) (kd := 27) (ct := ct) hx hb htb i_Md hown hK hP hO_0 m0 rfl rfl 22 (by decide) (htb (.fieldLink R_Md 94 "WaterMenModel" "boatOars" "[I") tw_538) (fun _ h9 => h9) rfl d_Md_minutesOf_90 (fun q_46 e_46 m_46 => ?_)
        refine lv_iload_n hx hb d_Md_minutesOf_93 rfl (lv_at hl 5 rfl) ?_
        refine tw_aldI (ct := ct) hx hb hK hP hO_0 m_46 rfl (hb_inl as_0 as_1 (by decide +kernel)) d_Md_minutesOf_94 (fun x_47 e_47 b_47 => ?_)
        refine lv_iconst (v := 2) hx hb d_Md_minutesOf_95 (by decide +kernel) ?_
        refine lv_icmp_ne (tgt := 108) hx hb d_Md_minutesOf_96 (by decide) (fun c_48 => ?_) (fun c_48 => ?_)
        · refine lv_iload hx hb d_Md_minutesOf_108 (lv_at hl 0 rfl) ?_
          refine lv_istore (lv' := [(6, .int ((x_2 - x_5) * 7)), (5, .int 7), (4, .int r_14), (3, .int (x_2 - x_5)), (0, .ref q0), (1, .int p_0), (2, .int p_1)]) hx hb d_Md_minutesOf_110 hl (by decide) rfl (fun ls hl => ?_)
          refine lv_iload hx hb d_Md_minutesOf_112 (lv_at hl 0 rfl) ?_
          refine lv_iconst (v := 1) hx hb d_Md_minutesOf_114 (by decide +kernel) ?_
          refine lv_icmp_ge (tgt := 122) hx hb d_Md_minutesOf_115 (by decide) (fun c_49 => ?_) (fun c_49 => ?_)
          · refine lv_iload hx hb d_Md_minutesOf_122 (lv_at hl 0 rfl) ?_
            exact W.iret (v := ((x_2 - x_5) * 7)) hx hb hr (fun t ht hW => ⟨((x_2 - x_5) * 7), rfl, trivial, ht⟩) t_nil d_Md_minutesOf_124
          · refine lv_iconst (v := 1) hx hb d_Md_minutesOf_118 (by decide +kernel) ?_
            refine lv_goto (tgt := 124) hx hb d_Md_minutesOf_119 (by decide) ?_
            exact W.iret (v := 1) hx hb hr (fun t ht hW => ⟨1, rfl, trivial, ht⟩) t_nil d_Md_minutesOf_124
        · refine lv_iload hx hb d_Md_minutesOf_99 (lv_at hl 0 rfl) ?_
          refine lv_iconst (v := 2) hx hb d_Md_minutesOf_101 (by decide +kernel) ?_
          refine lv_imul hx hb d_Md_minutesOf_102 ?_
          refine lv_iconst (v := 3) hx hb d_Md_minutesOf_103 (by decide +kernel) ?_
          refine lv_idiv hx hb d_Md_minutesOf_104 (by decide) ?_
          refine lv_goto (tgt := 110) hx hb d_Md_minutesOf_105 (by decide) ?_
          refine lv_istore (lv' := [(6, .int ((((x_2 - x_5) * 7) * 2) / 3)), (5, .int 7), (4, .int r_14), (3, .int (x_2 - x_5)), (0, .ref q0), (1, .int p_0), (2, .int p_1)]) hx hb d_Md_minutesOf_110 hl (by decide) rfl (fun ls hl => ?_)
          refine lv_iload hx hb d_Md_minutesOf_112 (lv_at hl 0 rfl) ?_
          refine lv_iconst (v := 1) hx hb d_Md_minutesOf_114 (by decide +kernel) ?_
          refine lv_icmp_ge (tgt := 122) hx hb d_Md_minutesOf_115 (by decide) (fun c_50 => ?_) (fun c_50 => ?_)
          · refine lv_iload hx hb d_Md_minutesOf_122 (lv_at hl 0 rfl) ?_
            exact W.iret (v := ((((x_2 - x_5) * 7) * 2) / 3)) hx hb hr (fun t ht hW => ⟨((((x_2 - x_5) * 7) * 2) / 3), rfl, trivial, ht⟩) t_nil d_Md_minutesOf_124
          · refine lv_iconst (v := 1) hx hb d_Md_minutesOf_118 (by decide +kernel) ?_
            refine lv_goto (tgt := 124) hx hb d_Md_minutesOf_119 (by decide) ?_
            exact W.iret (v := 1) hx hb hr (fun t ht hW => ⟨1, rfl, trivial, ht⟩) t_nil d_Md_minutesOf_124
  · refine lv_bipush (v := 10) hx hb d_Md_minutesOf_38 (by decide +kernel) ?_
    refine lv_goto (tgt := 72) hx hb d_Md_minutesOf_40 (by decide) ?_
    refine lv_istore (lv' := [(5, .int 10), (4, .int r_14), (3, .int (x_2 - x_5)), (0, .ref q0), (1, .int p_0), (2, .int p_1)]) hx hb d_Md_minutesOf_72 hl (by decide) rfl (fun ls hl => ?_)
    refine lv_iload_n hx hb d_Md_minutesOf_74 rfl (lv_at hl 2 rfl) ?_
    refine lv_if_ge (tgt := 83) hx hb d_Md_minutesOf_75 (by decide) (fun c_51 => ?_) (fun c_51 => ?_)
    · refine lv_iload_n hx hb d_Md_minutesOf_83 rfl (lv_at hl 2 rfl) ?_
      refine lv_iload hx hb d_Md_minutesOf_84 (lv_at hl 0 rfl) ?_
      refine lv_imul hx hb d_Md_minutesOf_86 ?_
      refine lv_istore (lv' := [(6, .int ((x_2 - x_5) * 10)), (5, .int 10), (4, .int r_14), (3, .int (x_2 - x_5)), (0, .ref q0), (1, .int p_0), (2, .int p_1)]) hx hb d_Md_minutesOf_87 hl (by decide) rfl (fun ls hl => ?_)
      refine lv_aload_n hx hb d_Md_minutesOf_89 rfl (lv_at hl 4 rfl) ?_
      refine tw_getr (D := (dC, dI)) (C := R_Md) (T := F_Md) (N := 64) (ci := 7) (kd := 27) (ct := ct) hx hb htb i_Md hown hK hP hO_0 m0 rfl rfl 22 (by decide) (htb (.fieldLink R_Md 94 "WaterMenModel" "boatOars" "[I") tw_538) (fun _ h9 => h9) rfl d_Md_minutesOf_90 (fun q_52 e_52 m_52 => ?_)
      refine lv_iload_n hx hb d_Md_minutesOf_93 rfl (lv_at hl 5 rfl) ?_
      refine tw_aldI (ct := ct) hx hb hK hP hO_0 m_52 rfl (hb_inl as_0 as_1 (by decide +kernel)) d_Md_minutesOf_94 (fun x_53 e_53 b_53 => ?_)
      refine lv_iconst (v := 2) hx hb d_Md_minutesOf_95 (by decide +kernel) ?_
      refine lv_icmp_ne (tgt := 108) hx hb d_Md_minutesOf_96 (by decide) (fun c_54 => ?_) (fun c_54 => ?_)
      · refine lv_iload hx hb d_Md_minutesOf_108 (lv_at hl 0 rfl) ?_
        refine lv_istore (lv' := [(6, .int ((x_2 - x_5) * 10)), (5, .int 10), (4, .int r_14), (3, .int (x_2 - x_5)), (0, .ref q0), (1, .int p_0), (2, .int p_1)]) hx hb d_Md_minutesOf_110 hl (by decide) rfl (fun ls hl => ?_)
        refine lv_iload hx hb d_Md_minutesOf_112 (lv_at hl 0 rfl) ?_
        refine lv_iconst (v := 1) hx hb d_Md_minutesOf_114 (by decide +kernel) ?_
        refine lv_icmp_ge (tgt := 122) hx hb d_Md_minutesOf_115 (by decide) (fun c_55 => ?_) (fun c_55 => ?_)
        · refine lv_iload hx hb d_Md_minutesOf_122 (lv_at hl 0 rfl) ?_
          exact W.iret (v := ((x_2 - x_5) * 10)) hx hb hr (fun t ht hW => ⟨((x_2 - x_5) * 10), rfl, trivial, ht⟩) t_nil d_Md_minutesOf_124
        · refine lv_iconst (v := 1) hx hb d_Md_minutesOf_118 (by decide +kernel) ?_
          refine lv_goto (tgt := 124) hx hb d_Md_minutesOf_119 (by decide) ?_
          exact W.iret (v := 1) hx hb hr (fun t ht hW => ⟨1, rfl, trivial, ht⟩) t_nil d_Md_minutesOf_124
      · refine lv_iload hx hb d_Md_minutesOf_99 (lv_at hl 0 rfl) ?_
        refine lv_iconst (v := 2) hx hb d_Md_minutesOf_101 (by decide +kernel) ?_
        refine lv_imul hx hb d_Md_minutesOf_102 ?_
        refine lv_iconst (v := 3) hx hb d_Md_minutesOf_103 (by decide +kernel) ?_
        refine lv_idiv hx hb d_Md_minutesOf_104 (by decide) ?_
        refine lv_goto (tgt := 110) hx hb d_Md_minutesOf_105 (by decide) ?_
        refine lv_istore (lv' := [(6, .int ((((x_2 - x_5) * 10) * 2) / 3)), (5, .int 10), (4, .int r_14), (3, .int (x_2 - x_5)), (0, .ref q0), (1, .int p_0), (2, .int p_1)]) hx hb d_Md_minutesOf_110 hl (by decide) rfl (fun ls hl => ?_)
        refine lv_iload hx hb d_Md_minutesOf_112 (lv_at hl 0 rfl) ?_
        refine lv_iconst (v := 1) hx hb d_Md_minutesOf_114 (by decide +kernel) ?_
        refine lv_icmp_ge (tgt := 122) hx hb d_Md_minutesOf_115 (by decide) (fun c_56 => ?_) (fun c_56 => ?_)
        · refine lv_iload hx hb d_Md_minutesOf_122 (lv_at hl 0 rfl) ?_
          exact W.iret (v := ((((x_2 - x_5) * 10) * 2) / 3)) hx hb hr (fun t ht hW => ⟨((((x_2 - x_5) * 10) * 2) / 3), rfl, trivial, ht⟩) t_nil d_Md_minutesOf_124
        · refine lv_iconst (v := 1) hx hb d_Md_minutesOf_118 (by decide +kernel) ?_
          refine lv_goto (tgt := 124) hx hb d_Md_minutesOf_119 (by decide) ?_
          exact W.iret (v := 1) hx hb hr (fun t ht hW => ⟨1, rfl, trivial, ht⟩) t_nil d_Md_minutesOf_124
    · refine lv_iload_n hx hb d_Md_minutesOf_78 rfl (lv_at hl 2 rfl) ?_
      refine lv_ineg hx hb d_Md_minutesOf_79 ?_
      refine lv_goto (tgt := 84) hx hb d_Md_minutesOf_80 (by decide) ?_
      refine lv_iload hx hb d_Md_minutesOf_84 (lv_at hl 0 rfl) ?_
      refine lv_imul hx hb d_Md_minutesOf_86 ?_
      refine lv_istore (lv' := [(6, .int ((-(x_2 - x_5)) * 10)), (5, .int 10), (4, .int r_14), (3, .int (x_2 - x_5)), (0, .ref q0), (1, .int p_0), (2, .int p_1)]) hx hb d_Md_minutesOf_87 hl (by decide) rfl (fun ls hl => ?_)
      refine lv_aload_n hx hb d_Md_minutesOf_89 rfl (lv_at hl 4 rfl) ?_
      refine tw_getr (D := (dC, dI)) (C := R_Md) (T := F_Md) (N := 64) (ci := 7) (kd := 27) (ct := ct) hx hb htb i_Md hown hK hP hO_0 m0 rfl rfl 22 (by decide) (htb (.fieldLink R_Md 94 "WaterMenModel" "boatOars" "[I") tw_538) (fun _ h9 => h9) rfl d_Md_minutesOf_90 (fun q_57 e_57 m_57 => ?_)
      refine lv_iload_n hx hb d_Md_minutesOf_93 rfl (lv_at hl 5 rfl) ?_
      refine tw_aldI (ct := ct) hx hb hK hP hO_0 m_57 rfl (hb_inl as_0 as_1 (by decide +kernel)) d_Md_minutesOf_94 (fun x_58 e_58 b_58 => ?_)
      refine lv_iconst (v := 2) hx hb d_Md_minutesOf_95 (by decide +kernel) ?_
      refine lv_icmp_ne (tgt := 108) hx hb d_Md_minutesOf_96 (by decide) (fun c_59 => ?_) (fun c_59 => ?_)
      · refine lv_iload hx hb d_Md_minutesOf_108 (lv_at hl 0 rfl) ?_
        refine lv_istore (lv' := [(6, .int ((-(x_2 - x_5)) * 10)), (5, .int 10), (4, .int r_14), (3, .int (x_2 - x_5)), (0, .ref q0), (1, .int p_0), (2, .int p_1)]) hx hb d_Md_minutesOf_110 hl (by decide) rfl (fun ls hl => ?_)
        refine lv_iload hx hb d_Md_minutesOf_112 (lv_at hl 0 rfl) ?_
        refine lv_iconst (v := 1) hx hb d_Md_minutesOf_114 (by decide +kernel) ?_
        refine lv_icmp_ge (tgt := 122) hx hb d_Md_minutesOf_115 (by decide) (fun c_60 => ?_) (fun c_60 => ?_)
        · refine lv_iload hx hb d_Md_minutesOf_122 (lv_at hl 0 rfl) ?_
          exact W.iret (v := ((-(x_2 - x_5)) * 10)) hx hb hr (fun t ht hW => ⟨((-(x_2 - x_5)) * 10), rfl, trivial, ht⟩) t_nil d_Md_minutesOf_124
        · refine lv_iconst (v := 1) hx hb d_Md_minutesOf_118 (by decide +kernel) ?_
          refine lv_goto (tgt := 124) hx hb d_Md_minutesOf_119 (by decide) ?_
          exact W.iret (v := 1) hx hb hr (fun t ht hW => ⟨1, rfl, trivial, ht⟩) t_nil d_Md_minutesOf_124
      · refine lv_iload hx hb d_Md_minutesOf_99 (lv_at hl 0 rfl) ?_
        refine lv_iconst (v := 2) hx hb d_Md_minutesOf_101 (by decide +kernel) ?_
        refine lv_imul hx hb d_Md_minutesOf_102 ?_
        refine lv_iconst (v := 3) hx hb d_Md_minutesOf_103 (by decide +kernel) ?_
        refine lv_idiv hx hb d_Md_minutesOf_104 (by decide) ?_
        refine lv_goto (tgt := 110) hx hb d_Md_minutesOf_105 (by decide) ?_
        refine lv_istore (lv' := [(6, .int ((((-(x_2 - x_5)) * 10) * 2) / 3)), (5, .int 10), (4, .int r_14), (3, .int (x_2 - x_5)), (0, .ref q0), (1, .int p_0), (2, .int p_1)]) hx hb d_Md_minutesOf_110 hl (by decide) rfl (fun ls hl => ?_)
        refine lv_iload hx hb d_Md_minutesOf_112 (lv_at hl 0 rfl) ?_
        refine lv_iconst (v := 1) hx hb d_Md_minutesOf_114 (by decide +kernel) ?_
        refine lv_icmp_ge (tgt := 122) hx hb d_Md_minutesOf_115 (by decide) (fun c_61 => ?_) (fun c_61 => ?_)
        · refine lv_iload hx hb d_Md_minutesOf_122 (lv_at hl 0 rfl) ?_
          exact W.iret (v := ((((-(x_2 - x_5)) * 10) * 2) / 3)) hx hb hr (fun t ht hW => ⟨((((-(x_2 - x_5)) * 10) * 2) / 3), rfl, trivial, ht⟩) t_nil d_Md_minutesOf_124
        · refine lv_iconst (v := 1) hx hb d_Md_minutesOf_118 (by decide +kernel) ?_
          refine lv_goto (tgt := 124) hx hb d_Md_minutesOf_119 (by decide) ?_
          exact W.iret (v := 1) hx hb hr (fun t ht hW => ⟨1, rfl, trivial, ht⟩) t_nil d_Md_minutesOf_124
