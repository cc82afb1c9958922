def wp_Md_fare_w (L : List Nat) (f : TF) (q0 : Nat) (p_0 : Int32) (p_1 : Int32) (p_2 : Int32) (p_3 : Int32) (p_4 : Int32) (Q : Int32 → Prop) : Prop := ∀ x_1 : Int32, ti f q0 29 = x_1 → ((p_0 < 0 → Q (-1)) ∧ (¬ (p_0 < 0) → (((x_1 - 1) < p_0 → Q (-1)) ∧ (¬ ((x_1 - 1) < p_0) → wp_Md_isStairs_w L f q0 p_1 (fun (r_5 : Int32) => ((r_5 = 0 → Q (-1)) ∧ (r_5 = 1 → wp_Md_isStairs_w L f q0 p_2 (fun (r_9 : Int32) => ((r_9 = 0 → Q (-1)) ∧ (r_9 = 1 → ((p_1 = p_2 → Q (-1)) ∧ (¬ (p_1 = p_2) → ((p_3 < 0 → Q (-1)) ∧ (¬ (p_3 < 0) → ((5999 < p_3 → Q (-1)) ∧ (¬ (5999 < p_3) → ((p_4 < 1 → Q (-1)) ∧ (¬ (p_4 < 1) → ((2 < p_4 → Q (-1)) ∧ (¬ (2 < p_4) → ∀ y_20 : Int32, y_20 = p_3 / 12 → ∀ y_21 : Int32, y_21 = p_3 - p_3 / 12 * 12 → wp_Md_fareOf_w L f q0 p_0 p_1 p_2 y_20 y_21 p_4 (fun (r_22 : Int32) => Q r_22)))))))))))))))))))))
set_option maxHeartbeats 4000000 in
set_option maxRecDepth 100000 in
theorem c_Md_fare_w (l : Launch) (dC : Nat → ClassId) (dI : Nat → Nat → Nat) (ct : Nat → ClassId) (L : List Nat) (f : TF) (hO_0 : Ok L f) (q0 : Nat) (m0 : q0 ∈ L ∧ tk f q0 = 27) (p_0 : Int32) (p_1 : Int32) (p_2 : Int32) (p_3 : Int32) (p_4 : Int32)   (Q : Int32 → Prop) (hQ : wp_Md_fare_w L f q0 p_0 p_1 p_2 p_3 p_4 Q) : Met l y_Md_fare (.code y_Md_fare b_Md_fare 6 (some .int) :: TB) ({ frames := 3, cells := 0, slots := 0, locals := 76 }) (va_Pc [.ref q0, .int p_0, .int p_1, .int p_2, .int p_3, .int p_4] (PR dC dI (TW ct L f) (TT ct))) (vp_Si (fun r => (True) ∧ Q r)) 0 0 (fun _ => False) := by
  refine Met.ofW (cc := b_Md_fare) (maxL := 6) (ret := (some .int)) (by decide) rfl ?_
  intro p e s m args below meth c s₁ B hml hv
  obtain ⟨rfl, hP, hK, hN⟩ := hv
  have hx := B.exec
  have hb := B.bytes
  have hr := B.returns
  have hts := atoms_spec (ws := (.code y_Md_fare b_Md_fare 6 (some .int) :: TB)) B.pre
  have htb := fun w (h : w ∈ TB) => hts w (List.mem_cons_of_mem _ h)
  have hown : s.vm.findClass R_Md = some m.cls := findClass_of_methodNamed B.named
  have hlocks := B.notSynchronized
  have hl := lv_entry ([.ref q0, .int p_0, .int p_1, .int p_2, .int p_3, .int p_4]) (n := 6) (Nat.le_of_ble_eq_true rfl)
  rw [lg_entry_eq]
  generalize (lg_sl ([.ref q0, .int p_0, .int p_1, .int p_2, .int p_3, .int p_4]) ++ List.replicate (6 - (lg_sl ([.ref q0, .int p_0, .int p_1, .int p_2, .int p_3, .int p_4])).length) Slot.unset).toArray = ls at hl ⊢
  have hl : lv_has ls 6 [(0, .ref q0), (1, .int p_0), (2, .int p_1), (3, .int p_2), (4, .int p_3), (5, .int p_4)] := hl
  unfold wp_Md_fare_w at hQ
  refine lv_iload_n hx hb d_Md_fare_0 rfl (lv_at hl 1 rfl) ?_
  refine lv_iconst (v := 0) hx hb d_Md_fare_1 (by decide +kernel) ?_
  refine lv_aload_n hx hb d_Md_fare_2 rfl (lv_at hl 0 rfl) ?_
  refine tw_geti (D := (dC, dI)) (C := R_Md) (T := F_Md) (N := 64) (ci := 7) (kd := 27) (ct := ct) hx hb htb i_Md hown hK hP hO_0 m0 rfl rfl 29 (by decide) (htb (.fieldLink R_Md 275 "WaterMenModel" "orders" "I") tw_599) (fun _ h9 => h9) rfl d_Md_fare_3 (fun x_1 e_1 b_1 => ?_)
  have hQ := hQ x_1 e_1
  refine lv_iconst (v := 1) hx hb d_Md_fare_6 (by decide +kernel) ?_
  refine lv_isub hx hb d_Md_fare_7 ?_
  refine vp_callSi (va_Run.run (va_runS (As := [.int p_0, .int 0, .int (x_1 - 1)]) (rest := []) ⟨hx, hb, hml, hown, htb⟩ (c_Md_in l p_0 0 (x_1 - 1)) (cwS 3 htb (gd_S tw_480 tw_481 tw_479 tw_478) rfl rfl rfl (by decide +kernel) ⟨Nat.le_of_ble_eq_true rfl, Nat.le_of_ble_eq_true rfl⟩) ⟨fun _ _ _ _ h => h, fun U _ _ => ⟨rfl, trivial⟩⟩ rfl rfl hl.1 rfl (lv_room (Nat.le_of_ble_eq_true rfl)) d_Md_fare_8 ⟨Nat.le_of_ble_eq_true rfl, Nat.le_of_ble_eq_true rfl⟩)) (fun r er => ?_)
  subst er
  by_cases c_3 : p_0 < 0
  · have hQ := hQ.1 c_3
    refine hb_ti 0 (by unfold f_Md_in; rw [if_pos c_3]; first | done | rfl) ?_
    refine lv_if_eq (tgt := 57) hx hb d_Md_fare_11 (by decide) (fun _ => ?_) (fun h => absurd (by decide +kernel) h)
    refine lv_iconst (v := (-1)) hx hb d_Md_fare_57 (by decide +kernel) ?_
    exact W.iret (v := (-1)) hx hb hr (fun t ht hW => ⟨(-1), rfl, ⟨trivial, hQ⟩, ht⟩) t_nil d_Md_fare_58
  · have hQ := hQ.2 c_3
    by_cases c_4 : (x_1 - 1) < p_0
    · have hQ := hQ.1 c_4
      refine hb_ti 0 (by unfold f_Md_in; rw [if_neg c_3, if_pos c_4]; first | done | rfl) ?_
      refine lv_if_eq (tgt := 57) hx hb d_Md_fare_11 (by decide) (fun _ => ?_) (fun h => absurd (by decide +kernel) h)
      refine lv_iconst (v := (-1)) hx hb d_Md_fare_57 (by decide +kernel) ?_
      exact W.iret (v := (-1)) hx hb hr (fun t ht hW => ⟨(-1), rfl, ⟨trivial, hQ⟩, ht⟩) t_nil d_Md_fare_58
    · have hQ := hQ.2 c_4
      refine hb_ti 1 (by unfold f_Md_in; rw [if_neg c_3, if_neg c_4]; first | done | rfl) ?_
      refine lv_if_eq (tgt := 57) hx hb d_Md_fare_11 (by decide) (fun h => absurd h (by decide +kernel)) (fun _ => ?_)
      refine lv_aload_n hx hb d_Md_fare_14 rfl (lv_at hl 0 rfl) ?_
      refine lv_iload_n hx hb d_Md_fare_15 rfl (lv_at hl 2 rfl) ?_
      refine vp_callSi (va_Run.run (va_runV (As := [.int p_1]) (rest := []) ⟨hx, hb, hml, hown, htb⟩ (c_Md_isStairs_w l dC dI ct L f hO_0 q0 m0 p_1 _ hQ) (cwV 1 htb (gd_V tw_530 tw_531 tw_532 tw_479 tw_529) rfl rfl rfl (by decide +kernel) ⟨Nat.le_of_ble_eq_true rfl, Nat.le_of_ble_eq_true rfl⟩) ⟨pr_blind, tw_recv hK hP m0 rfl rfl, pr_pre hP hK hN⟩ rfl rfl hl.1 rfl (lv_room (Nat.le_of_ble_eq_true rfl)) d_Md_fare_16 ⟨Nat.le_of_ble_eq_true rfl, Nat.le_of_ble_eq_true rfl⟩)) (fun r_5 er_5 => ?_)
      obtain ⟨er_5, hQ⟩ := er_5
      rcases er_5 with ⟨rfl, -⟩ | ⟨rfl, po_6, po_7, po_8, -⟩
      · have hQ := hQ.1 rfl
        refine lv_if_eq (tgt := 57) hx hb d_Md_fare_19 (by decide) (fun _ => ?_) (fun h => absurd (by decide +kernel) h)
        refine lv_iconst (v := (-1)) hx hb d_Md_fare_57 (by decide +kernel) ?_
        exact W.iret (v := (-1)) hx hb hr (fun t ht hW => ⟨(-1), rfl, ⟨trivial, hQ⟩, ht⟩) t_nil d_Md_fare_58
      · have hQ := hQ.2 rfl
        refine lv_if_eq (tgt := 57) hx hb d_Md_fare_19 (by decide) (fun h => absurd h (by decide +kernel)) (fun _ => ?_)
        refine lv_aload_n hx hb d_Md_fare_22 rfl (lv_at hl 0 rfl) ?_
        refine lv_iload_n hx hb d_Md_fare_23 rfl (lv_at hl 3 rfl) ?_
        refine vp_callSi (va_Run.run (va_runV (As := [.int p_2]) (rest := []) ⟨hx, hb, hml, hown, htb⟩ (c_Md_isStairs_w l dC dI ct L f hO_0 q0 m0 p_2 _ hQ) (cwV 1 htb (gd_V tw_530 tw_531 tw_532 tw_479 tw_529) rfl rfl rfl (by decide +kernel) ⟨Nat.le_of_ble_eq_true rfl, Nat.le_of_ble_eq_true rfl⟩) ⟨pr_blind, tw_recv hK hP m0 rfl rfl, pr_pre hP hK hN⟩ rfl rfl hl.1 rfl (lv_room (Nat.le_of_ble_eq_true rfl)) d_Md_fare_24 ⟨Nat.le_of_ble_eq_true rfl, Nat.le_of_ble_eq_true rfl⟩)) (fun r_9 er_9 => ?_)
        obtain ⟨er_9, hQ⟩ := er_9
        rcases er_9 with ⟨rfl, -⟩ | ⟨rfl, po_10, po_11, po_12, -⟩
        · have hQ := hQ.1 rfl
          refine lv_if_eq (tgt := 57) hx hb d_Md_fare_27 (by decide) (fun _ => ?_) (fun h => absurd (by decide +kernel) h)
          refine lv_iconst (v := (-1)) hx hb d_Md_fare_57 (by decide +kernel) ?_
          exact W.iret (v := (-1)) hx hb hr (fun t ht hW => ⟨(-1), rfl, ⟨trivial, hQ⟩, ht⟩) t_nil d_Md_fare_58
        · have hQ := hQ.2 rfl
          refine lv_if_eq (tgt := 57) hx hb d_Md_fare_27 (by decide) (fun h => absurd h (by decide +kernel)) (fun _ => ?_)
          refine lv_iload_n hx hb d_Md_fare_30 rfl (lv_at hl 2 rfl) ?_
          refine lv_iload_n hx hb d_Md_fare_31 rfl (lv_at hl 3 rfl) ?_
          refine lv_icmp_eq (tgt := 57) hx hb d_Md_fare_32 (by decide) (fun c_13 => ?_) (fun c_13 => ?_)
          · have hQ := hQ.1 c_13
            refine lv_iconst (v := (-1)) hx hb d_Md_fare_57 (by decide +kernel) ?_
            exact W.iret (v := (-1)) hx hb hr (fun t ht hW => ⟨(-1), rfl, ⟨trivial, hQ⟩, ht⟩) t_nil d_Md_fare_58
          · have hQ := hQ.2 c_13
            refine lv_iload hx hb d_Md_fare_35 (lv_at hl 4 rfl) ?_
            refine lv_iconst (v := 0) hx hb d_Md_fare_37 (by decide +kernel) ?_
            refine lv_sipush (v := 5999) hx hb d_Md_fare_38 (by decide +kernel) ?_
            refine vp_callSi (va_Run.run (va_runS (As := [.int p_3, .int 0, .int 5999]) (rest := []) ⟨hx, hb, hml, hown, htb⟩ (c_Md_in l p_3 0 5999) (cwS 3 htb (gd_S tw_480 tw_481 tw_479 tw_478) rfl rfl rfl (by decide +kernel) ⟨Nat.le_of_ble_eq_true rfl, Nat.le_of_ble_eq_true rfl⟩) ⟨fun _ _ _ _ h => h, fun U _ _ => ⟨rfl, trivial⟩⟩ rfl rfl hl.1 rfl (lv_room (Nat.le_of_ble_eq_true rfl)) d_Md_fare_41 ⟨Nat.le_of_ble_eq_true rfl, Nat.le_of_ble_eq_true rfl⟩)) (fun r er => ?_)
            subst er
            by_cases c_15 : p_3 < 0
            · have hQ := hQ.1 c_15
              refine hb_ti 0 (by unfold f_Md_in; rw [if_pos c_15]; first | done | rfl) ?_
              refine lv_if_eq (tgt := 57) hx hb d_Md_fare_44 (by decide) (fun _ => ?_) (fun h => absurd (by decide +kernel) h)
              refine lv_iconst (v := (-1)) hx hb d_Md_fare_57 (by decide +kernel) ?_
              exact W.iret (v := (-1)) hx hb hr (fun t ht hW => ⟨(-1), rfl, ⟨trivial, hQ⟩, ht⟩) t_nil d_Md_fare_58
            · have hQ := hQ.2 c_15
              by_cases c_16 : 5999 < p_3
              · have hQ := hQ.1 c_16
                refine hb_ti 0 (by unfold f_Md_in; rw [if_neg c_15, if_pos c_16]; first | done | rfl) ?_
                refine lv_if_eq (tgt := 57) hx hb d_Md_fare_44 (by decide) (fun _ => ?_) (fun h => absurd (by decide +kernel) h)
                refine lv_iconst (v := (-1)) hx hb d_Md_fare_57 (by decide +kernel) ?_
                exact W.iret (v := (-1)) hx hb hr (fun t ht hW => ⟨(-1), rfl, ⟨trivial, hQ⟩, ht⟩) t_nil d_Md_fare_58
              · have hQ := hQ.2 c_16
                refine hb_ti 1 (by unfold f_Md_in; rw [if_neg c_15, if_neg c_16]; first | done | rfl) ?_
                refine lv_if_eq (tgt := 57) hx hb d_Md_fare_44 (by decide) (fun h => absurd h (by decide +kernel)) (fun _ => ?_)
                refine lv_iload hx hb d_Md_fare_47 (lv_at hl 5 rfl) ?_
                refine lv_iconst (v := 1) hx hb d_Md_fare_49 (by decide +kernel) ?_
                refine lv_iconst (v := 2) hx hb d_Md_fare_50 (by decide +kernel) ?_
                refine vp_callSi (va_Run.run (va_runS (As := [.int p_4, .int 1, .int 2]) (rest := []) ⟨hx, hb, hml, hown, htb⟩ (c_Md_in l p_4 1 2) (cwS 3 htb (gd_S tw_480 tw_481 tw_479 tw_478) rfl rfl rfl (by decide +kernel) ⟨Nat.le_of_ble_eq_true rfl, Nat.le_of_ble_eq_true rfl⟩) ⟨fun _ _ _ _ h => h, fun U _ _ => ⟨rfl, trivial⟩⟩ rfl rfl hl.1 rfl (lv_room (Nat.le_of_ble_eq_true rfl)) d_Md_fare_51 ⟨Nat.le_of_ble_eq_true rfl, Nat.le_of_ble_eq_true rfl⟩)) (fun r er => ?_)
                subst er
                by_cases c_18 : p_4 < 1
                · have hQ := hQ.1 c_18
                  refine hb_ti 0 (by unfold f_Md_in; rw [if_pos c_18]; first | done | rfl) ?_
                  refine lv_if_ne (tgt := 59) hx hb d_Md_fare_54 (by decide) (fun h => absurd (by decide +kernel) h) (fun _ => ?_)
                  refine lv_iconst (v := (-1)) hx hb d_Md_fare_57 (by decide +kernel) ?_
                  exact W.iret (v := (-1)) hx hb hr (fun t ht hW => ⟨(-1), rfl, ⟨trivial, hQ⟩, ht⟩) t_nil d_Md_fare_58
                · have hQ := hQ.2 c_18
                  by_cases c_19 : 2 < p_4
                  · have hQ := hQ.1 c_19
                    refine hb_ti 0 (by unfold f_Md_in; rw [if_neg c_18, if_pos c_19]; first | done | rfl) ?_
                    refine lv_if_ne (tgt := 59) hx hb d_Md_fare_54 (by decide) (fun h => absurd (by decide +kernel) h) (fun _ => ?_)
                    refine lv_iconst (v := (-1)) hx hb d_Md_fare_57 (by decide +kernel) ?_
                    exact W.iret (v := (-1)) hx hb hr (fun t ht hW => ⟨(-1), rfl, ⟨trivial, hQ⟩, ht⟩) t_nil d_Md_fare_58
                  · have hQ := hQ.2 c_19
                    refine hb_ti 1 (by unfold f_Md_in; rw [if_neg c_18, if_neg c_19]; first | done | rfl) ?_
                    refine lv_if_ne (tgt := 59) hx hb d_Md_fare_54 (by decide) (fun _ => ?_) (fun h => absurd h (by decide +kernel))
                    refine lv_aload_n hx hb d_Md_fare_59 rfl (lv_at hl 0 rfl) ?_
                    refine lv_iload_n hx hb d_Md_fare_60 rfl (lv_at hl 1 rfl) ?_
                    refine lv_iload_n hx hb d_Md_fare_61 rfl (lv_at hl 2 rfl) ?_
                    refine lv_iload_n hx hb d_Md_fare_62 rfl (lv_at hl 3 rfl) ?_
                    refine lv_iload hx hb d_Md_fare_63 (lv_at hl 4 rfl) ?_
                    refine lv_bipush (v := 12) hx hb d_Md_fare_65 (by decide +kernel) ?_
                    refine lv_idiv hx hb d_Md_fare_67 (by decide) ?_
                    refine hb_divn (U := 5999) (Qm := 499) (c := 12) (C1 := 11) (K := 2147483635) (by decide +kernel) (by decide +kernel) (by decide +kernel) c_15 (show ¬ (2147483635 < p_3) from by have e0 := c_15; rw [Int32.lt_iff_toInt_lt] at e0; have e1 := c_16; rw [Int32.lt_iff_toInt_lt] at e1; have z0 : (0 : Int32).toInt = 0 := (by decide +kernel); have z1 : (5999 : Int32).toInt = 5999 := (by decide +kernel); have z2 : (2147483635 : Int32).toInt = 2147483635 := (by decide +kernel); rw [Int32.lt_iff_toInt_lt]; omega) c_16 (by decide +kernel) (fun y_20 g1_20 g2_20 g3_20 g4_20 g5_20 g9_20 => ?_)
                    have hQ := hQ y_20 g9_20
                    refine lv_iload hx hb d_Md_fare_68 (lv_at hl 4 rfl) ?_
                    refine lv_bipush (v := 12) hx hb d_Md_fare_70 (by decide +kernel) ?_
                    refine lv_irem hx hb d_Md_fare_72 (by decide) ?_
                    refine hb_remn (c := 12) (C1 := 11) (K := 2147483635) (by decide +kernel) (by decide +kernel) (by decide +kernel) c_15 (show ¬ (2147483635 < p_3) from by have e0 := c_15; rw [Int32.lt_iff_toInt_lt] at e0; have e1 := c_16; rw [Int32.lt_iff_toInt_lt] at e1; have z0 : (0 : Int32).toInt = 0 := (by decide +kernel); have z1 : (5999 : Int32).toInt = 5999 := (by decide +kernel); have z2 : (2147483635 : Int32).toInt = 2147483635 := (by decide +kernel); rw [Int32.lt_iff_toInt_lt]; omega) (fun y_21 qu_21 g1_21 g2_21 g3_21 g4_21 g5_21 g9_21 => ?_)
                    have hQ := hQ y_21 g9_21
                    refine lv_iload hx hb d_Md_fare_73 (lv_at hl 5 rfl) ?_
                    refine vp_callSi (va_Run.run (va_runV (As := [.int p_0, .int p_1, .int p_2, .int y_20, .int y_21, .int p_4]) (rest := []) ⟨hx, hb, hml, hown, htb⟩ (c_Md_fareOf_w l dC dI ct L f hO_0 q0 m0 p_0 p_1 p_2 y_20 y_21 p_4 c_3 (show ¬ (19 < p_0) from ((fun (a_0 : Int32) (a_1 : Int32) (k_0 : ¬ (a_1 < 0)) (k_1 : ¬ (20 < a_1)) (k_2 : ¬ ((a_1 - 1) < a_0)) => (show ¬ (19 < a_0) from by have z0 : (0 : Int32).toInt = 0 := (by decide +kernel); have z1 : (1 : Int32).toInt = 1 := (by decide +kernel); have z2 : (19 : Int32).toInt = 19 := (by decide +kernel); have z3 : (20 : Int32).toInt = 20 := (by decide +kernel); have r0 := fb_rng (a_0); have r1 := fb_rng (a_1); have e0 := k_0; rw [Int32.lt_iff_toInt_lt, z0] at e0; have e1 := k_1; rw [Int32.lt_iff_toInt_lt, z3] at e1; obtain ⟨n_0, hn_0, s0⟩ := nd_sub (x := (a_1)) (y := (1 : Int32)) (by (try rw [z1]); omega) (by (try rw [z1]); omega); rw [z1] at s0; have e2 := k_2; rw [hn_0, Int32.lt_iff_toInt_lt] at e2; rw [Int32.lt_iff_toInt_lt, z2]; omega)) p_0 x_1 b_1.1 b_1.2 c_4)) po_6 po_7 po_10 po_11 g1_20 g5_20 g1_21 g2_21 _ hQ) (cwV 6 htb (gd_V tw_621 tw_622 tw_623 tw_479 tw_620) rfl rfl rfl (by decide +kernel) ⟨Nat.le_of_ble_eq_true rfl, Nat.le_of_ble_eq_true rfl⟩) ⟨pr_blind, tw_recv hK hP m0 rfl rfl, pr_pre hP hK hN⟩ rfl rfl hl.1 rfl (lv_room (Nat.le_of_ble_eq_true rfl)) d_Md_fare_75 ⟨Nat.le_of_ble_eq_true rfl, Nat.le_of_ble_eq_true rfl⟩)) (fun r_22 er_22 => ?_)
                    obtain ⟨er_22, hQ⟩ := er_22
                    clear er_22
                    exact W.iret (v := r_22) hx hb hr (fun t ht hW => ⟨r_22, rfl, ⟨trivial, hQ⟩, ht⟩) t_nil d_Md_fare_78
