def wp_Md_fare_w (L : List Nat) (f : TF) (q0 : Nat) (p_0 : Int32) (p_1 : Int32) (p_2 : Int32) (p_3 : Int32) (p_4 : Int32) (Q : Int32 → Prop) : Prop := ∀ x_1 : Int32, ti f q0 29 = x_1 → ((p_0 < 0 → Q (-1)) ∧ (¬ (p_0 < 0) → (((x_1 - 1) < p_0 → Q (-1)) ∧ (¬ ((x_1 - 1) < p_0) → wp_Md_isStairs_w L f q0 p_1 (fun (r_5 : Int32) => ((r_5 = 0 → Q (-1)) ∧ (r_5 = 1 → wp_Md_isStairs_w L f q0 p_2 (fun (r_9 : Int32) => ((r_9 = 0 → Q (-1)) ∧ (r_9 = 1 → ((p_1 = p_2 → Q (-1)) ∧ (¬ (p_1 = p_2) → ((p_3 < 0 → Q (-1)) ∧ (¬ (p_3 < 0) → ((5999 < p_3 → Q (-1)) ∧ (¬ (5999 < p_3) → ((p_4 < 1 → Q (-1)) ∧ (¬ (p_4 < 1) → ((2 < p_4 → Q (-1)) ∧ (¬ (2 < p_4) → ∀ y_20 : Int32, y_20 = p_3 / 12 → ∀ y_21 : Int32, y_21 = p_3 - p_3 / 12 * 12 → wp_Md_fareOf_w L f q0 p_0 p_1 p_2 y_20 y_21 p_4 (fun (r_22 : Int32) => Q r_22)))))))))))))))))))))
set_option maxHeartbeats 4000000 in
set_option maxRecDepth 100000 in
theorem c_Md_fare_w (l : Launch) (dC : Nat → ClassId) (dI : Nat → Nat → Nat) (ct : Nat → ClassId) (L : List Nat) (f : TF) (hO_0 : Ok L f) (q0 : Nat) (m0 : q0 ∈ L ∧ tk f q0 = 27) (p_0 : Int32) (p_1 : Int32) (p_2 : Int32) (p_3 : Int32) (p_4 : Int32)   (Q : Int32 → Prop) (hQ : wp_Md_fare_w L f q0 p_0 p_1 p_2 p_3 p_4 Q) : Met l y_Md_fare (.code y_Md_fare b_Md_fare 6 (some .int) :: TB) ({ frames := 3, cells := 0, slots := 0, locals := 76 }) (va_Pc [.ref q0, .int p_0, .int p_1, .int p_2, .int p_3, .int p_4] (PR dC dI (TW ct L f) (TT ct))) (vp_Si (fun r => (True) ∧ Q r)) 0 0 (fun _ => False) := by
  refine Met.ofW (cc := b_Md_fare) (maxL := 6) (ret := (some .int)) (by decide) rfl ?_
  intro p e s m args below meth c s₁ B hml hv
  obtain ⟨rfl, hP, hK, hN⟩ := hv
  have hx := B.exec
  have hb := B.bytes
  have hr := B.returns
  have hts := atoms_spec (ws := (.code y_Md_fare b_Md_fare 6 (some .int) :: TB)) B.pre
  have htb := fun w (h : w ∈ TB) => hts w (List.mem_cons_of_mem _ h)
  have hown : s.vm.findClass R_Md = some m.cls := findClass_of_methodNamed B.named
  have hlocks := B.notSynchronized
  have hl := lv_entry ([.ref q0, .int p_0, .int p_1, .int p_2, .int p_3, .int p_4]) (n := 6) (Nat.le_of_ble_eq_true rfl)
  rw [lg_entry_eq]
  generalize (lg_sl ([.ref q0, .int p_0, .int p_1, .int p_2, .int p_3, .int p_4]) ++ List.replicate (6 - (lg_sl ([.ref q0, .int p_0, .int p_1, .int p_2, .int p_3, .int p_4])).length) Slot.unset).toArray = ls at hl ⊢
  have hl : lv_has ls 6 [(0, .ref q0), (1, .int p_0), (2, .int p_1), (3, .int p_2), (4, .int p_3), (5, .int p_4)] := hl
  unfold wp_Md_fare_w at hQ
  refine lv_iload_n hx hb d_Md_fare_0 rfl (lv_at hl 1 rfl) ?_
  refine lv_iconst (v := 0) hx hb d_Md_fare_1 (by decide +kernel) ?_
  refine lv_aload_n hx hb d_Md_fare_2 rfl (lv_at hl 0 rfl) ?_
  refine tw_geti (D := (dC, dI)) (C := R_Md) (T := F_Md) (N := 64) (ci := 7) (kd := 27) (ct := ct) hx hb htb i_Md hown hK hP hO_0 m0 rfl rfl 29 (by decide) (htb (.fieldLink R_Md 275 "WaterMenModel" "orders" "I") tw_333) (fun _ h9 => h9) rfl d_Md_fare_3 (fun x_1 e_1 b_1 => ?_)
  have hQ := hQ x_1 e_1
  refine lv_iconst (v := 1) hx hb d_Md_fare_6 (by decide +kernel) ?_
  refine lv_isub hx hb d_Md_fare_7 ?_
  refine vp_callSi (va_Run.run (va_runS (As := [.int p_0, .int 0, .int (x_1 - 1)]) (rest := []) ⟨hx, hb, hml, hown, htb⟩ (c_Md_in l p_0 0 (x_1 - 1)) (cwS 3 htb (gd_S tw_90 tw_91 tw_89 tw_88) rfl rfl rfl (by decide +kernel) ⟨Nat.le_of_ble_eq_true rfl, Nat.le_of_ble_eq_true rfl⟩) ⟨fun _ _ _ _ h => h, fun U _ _ => ⟨rfl, trivial⟩⟩ rfl rfl hl.1 rfl (lv_room (Nat.le_of_ble_eq_true rfl)) d_Md_fare_8 ⟨Nat.le_of_ble_eq_true rfl, Nat.le_of_ble_eq_true rfl⟩)) (fun r er => ?_)
  subst er
  by_cases c_3 : p_0 < 0
  · have hQ := hQ.1 c_3
    refine hb_ti 0 (by unfold f_Md_in; rw [if_pos c_3]; first | done | rfl) ?_
    refine lv_if_eq (tgt := 57) hx hb d_Md_fare_11 (by decide) (fun _ => ?_) (fun h => absurd (by decide +kernel) h)
    refine lv_iconst (v := (-1)) hx hb d_Md_fare_57 (by decide +kernel) ?_
    exact W.iret (v := (-1)) hx hb hr (fun t ht hW => ⟨(-1), rfl, ⟨trivial, hQ⟩, ht⟩) t_nil d_Md_fare_58
  · have hQ := hQ.2 c_3
    by_cases c_4 : (x_1 - 1) < p_0
    · have hQ := hQ.1 c_4
      refine hb_ti 0 (by unfold f_Md_in; rw [if_neg c_3, if_pos c_4]; first | done | rfl) ?_
      refine lv_if_eq (tgt := 57) hx hb d_Md_fare_11 (by decide) (fun _ => ?_) (fun h => absurd (by decide +kernel) h)
      refine lv_iconst (v := (-1)) hx hb d_Md_fare_57 (by decide +kernel) ?_
      exact W.iret (v := (-1)) hx hb hr (fun t ht hW => ⟨(-1), rfl, ⟨trivial, hQ⟩, ht⟩) t_nil d_Md_fare_58
    · have hQ := hQ.2 c_4
      refine hb_ti 1 (by unfold f_Md_in; rw [if_neg c_3, if_neg c_4]; first | done | rfl) ?_
      refine lv_if_eq (tgt := 57) hx hb d_Md_fare_11 (by decide) (fun h => absurd h (by decide +kernel)) (fun _ => ?_)
      refine lv_aload_n hx hb d_Md_fare_14 rfl (lv_at hl 0 rfl) ?_
      refine lv_iload_n hx hb d_Md_fare_15 rfl (lv_at hl 2 rfl) ?_
      refine vp_callSi (va_Run.run (va_runV (As := [.int p_1]) (rest := []) ⟨hx, hb, hml, hown, htb⟩ (c_Md_isStairs_w l dC dI ct L f hO_0 q0 m0 p_1 _ hQ) (cwV 1 htb (gd_V tw_439 tw_440 tw_441 tw_89 tw_438) rfl rfl rfl (by decide +kernel) ⟨Nat.le_of_ble_eq_true rfl, Nat.le_of_ble_eq_true rfl⟩) ⟨pr_blind, tw_recv hK hP m0 rfl rfl, pr_pre hP hK hN⟩ rfl rfl hl.1 rfl (lv_room (Nat.le_of_ble_eq_true rfl)) d_Md_fare_16 ⟨Nat.le_of_ble_eq_true rfl, Nat.le_of_ble_eq_true rfl⟩)) (fun r_5 er_5 => ?_)
      obtain ⟨er_5, hQ⟩ := er_5
      rcases er_5 with ⟨rfl, -⟩ | ⟨rfl, po_6, po_7, po_8, -⟩
      · have hQ := hQ.1 rfl
        refine lv_if_eq (tgt := 57) hx hb d_Md_fare_19 (by decide) (fun _ => ?_) (fun h => absurd (by decide +kernel) h)
        refine lv_iconst (v := (-1)) hx hb d_Md_fare_57 (by decide +kernel) ?_
        exact W.iret (v := (-1)) hx hb hr (fun t ht hW => ⟨(-1), rfl, ⟨trivial, hQ⟩, ht⟩) t_nil d_Md_fare_58
      · have hQ := hQ.2 rfl
        refine lv_if_eq (tgt := 57) hx hb d_Md_fare_19 (by decide) (fun h => absurd h (by decide +kernel)) (fun _ => ?_)
        refine lv_aload_n hx hb d_Md_fare_22 rfl (lv_at hl 0 rfl) ?_
        refine lv_iload_n hx hb d_Md_fare_23 rfl (lv_at hl 3 rfl) ?_
        refine vp_callSi (va_Run.run (va_runV (As := [.int p_2]) (rest := []) ⟨hx, hb, hml, hown, htb⟩ (c_Md_isStairs_w l dC dI ct L f hO_0 q0 m0 p_2 _ hQ) (cwV 1 htb (gd_V tw_439 tw_440 tw_441 tw_89 tw_438) rfl rfl rfl (by decide +kernel) ⟨Nat.le_of_ble_eq_true rfl, Nat.le_of_ble_eq_true rfl⟩) ⟨pr_blind, tw_recv hK hP m0 rfl rfl, pr_pre hP hK hN⟩ rfl rfl hl.1 rfl (lv_room (Nat.le_of_ble_eq_true rfl)) d_Md_fare_24 ⟨Nat.le_of_ble_eq_true rfl, Nat.le_of_ble_eq_true rfl⟩)) (fun r_9 er_9 => ?_)
        obtain ⟨er_9, hQ⟩ := er_9
        rcases er_9 with ⟨rfl, -⟩ | ⟨rfl, po_10, po_11, po_12, -⟩
        · have hQ := hQ.1 rfl
          refine lv_if_eq (tgt := 57) hx hb d_Md_fare_27 (by decide) (fun _ => ?_) (fun h => absurd (by decide +kernel) h)
          refine lv_iconst (v := (-1)) hx hb d_Md_fare_57 (by decide +kernel) ?_
          exact W.iret (v := (-1)) hx hb hr (fun t ht hW => ⟨(-1), rfl, ⟨trivial, hQ⟩, ht⟩) t_nil d_Md_fare_58
        · have hQ := hQ.2 rfl
          refine lv_if_eq (tgt := 57) hx hb d_Md_fare_27 (by decide) (fun h => absurd h (by decide +kernel)) (fun _ => ?_)
          refine lv_iload_n hx hb d_Md_fare_30 rfl (lv_at hl 2 rfl) ?_
          refine lv_iload_n hx hb d_Md_fare_31 rfl (lv_at hl 3 rfl) ?_
          refine lv_icmp_eq (tgt := 57) hx hb d_Md_fare_32 (by decide) (fun c_13 => ?_) (fun c_13 => ?_)
          · have hQ := hQ.1 c_13
            refine lv_iconst (v := (-1)) hx hb d_Md_fare_57 (by decide +kernel) ?_
            exact W.iret (v := (-1)) hx hb hr (fun t ht hW => ⟨(-1), rfl, ⟨trivial, hQ⟩, ht⟩) t_nil d_Md_fare_58
          · have hQ := hQ.2 c_13
            refine lv_iload hx hb d_Md_fare_35 (lv_at hl 4 rfl) ?_
            refine lv_iconst (v := 0) hx hb d_Md_fare_37 (by decide +kernel) ?_
            refine lv_sipush (v := 5999) hx hb d_Md_fare_38 (by decide +kernel) ?_
            refine vp_callSi (va_Run.run (va_runS (As := [.int p_3, .int 0, .int 5999]) (rest := []) ⟨hx, hb, hml, hown, htb⟩ (c_Md_in l p_3 0 5999) (cwS 3 htb (gd_S tw_90 tw_91 tw_89 tw_88) rfl rfl rfl (by decide +kernel) ⟨Nat.le_of_ble_eq_true rfl, Nat.le_of_ble_eq_true rfl⟩) ⟨fun _ _ _ _ h => h, fun U _ _ => ⟨rfl, trivial⟩⟩ rfl rfl hl.1 rfl (lv_room (Nat.le_of_ble_eq_true rfl)) d_Md_fare_41 ⟨Nat.le_of_ble_eq_true rfl, Nat.le_of_ble_eq_true rfl⟩)) (fun r er => ?_)
            subst er
            by_cases c_15 : p_3 < 0
            · have hQ := hQ.1 c_15
              refine hb_ti 0 (by unfold f_Md_in; rw [if_pos c_15]; first | done | rfl) ?_
              refine lv_if_eq (tgt := 57) hx hb d_Md_fare_44 (by decide) (fun _ => ?_) (fun h => absurd (by decide +kernel) h)
              refine lv_iconst (v := (-1)) hx hb d_Md_fare_57 (by decide +kernel) ?_
              exact W.iret (v := (-1)) hx hb hr (fun t ht hW => ⟨(-1), rfl, ⟨trivial, hQ⟩, ht⟩) t_nil d_Md_fare_58
            · have hQ := hQ.2 c_15
              by_cases c_16 : 5999 < p_3
              · have hQ := hQ.1 c_16
                refine hb_ti 0 (by unfold f_Md_in; rw [if_neg c_15, if_pos c_16]; first | done | rfl) ?_
                refine lv_if_eq (tgt := 57) hx hb d_Md_fare_44 (by decide) (fun _ => ?_) (fun h => absurd (by decide +kernel) h)
                refine lv_iconst (v := (-1)) hx hb d_Md_fare_57 (by decide +kernel) ?_
                exact W.iret (v := (-1)) hx hb hr (fun t ht hW => ⟨(-1), rfl, ⟨trivial, hQ⟩, ht⟩) t_nil d_Md_fare_58
              · have hQ := hQ.2 c_16
                refine hb_ti 1 (by unfold f_Md_in; rw [if_neg c_15, if_neg c_16]; first | done | rfl) ?_
                refine lv_if_eq (tgt := 57) hx hb d_Md_fare_44 (by decide) (fun h => absurd h (by decide +kernel)) (fun _ => ?_)
                refine lv_iload hx hb d_Md_fare_47 (lv_at hl 5 rfl) ?_
                refine lv_iconst (v := 1) hx hb d_Md_fare_49 (by decide +kernel) ?_
                refine lv_iconst (v := 2) hx hb d_Md_fare_50 (by decide +kernel) ?_
                refine vp_callSi (va_Run.run (va_runS (As := [.int p_4, .int 1, .int 2]) (rest := []) ⟨hx, hb, hml, hown, htb⟩ (c_Md_in l p_4 1 2) (cwS 3 htb (gd_S tw_90 tw_91 tw_89 tw_88) rfl rfl rfl (by decide +kernel) ⟨Nat.le_of_ble_eq_true rfl, Nat.le_of_ble_eq_true rfl⟩) ⟨fun _ _ _ _ h => h, fun U _ _ => ⟨rfl, trivial⟩⟩ rfl rfl hl.1 rfl (lv_room (Nat.le_of_ble_eq_true rfl)) d_Md_fare_51 ⟨Nat.le_of_ble_eq_true rfl, Nat.le_of_ble_eq_true rfl⟩)) (fun r er => ?_)
                subst er
                by_cases c_18 : p_4 < 1
                · have hQ := hQ.1 c_18
                  refine hb_ti 0 (by unfold f_Md_in; rw [if_pos c_18]; first | done | rfl) ?_
                  refine lv_if_ne (tgt := 59) hx hb d_Md_fare_54 (by decide) (fun h => absurd (by decide +kernel) h) (fun _ => ?_)
                  refine lv_iconst (v := (-1)) hx hb d_Md_fare_57 (by decide +kernel) ?_
                  exact W.iret (v := (-1)) hx hb hr (fun t ht hW => ⟨(-1), rfl, ⟨trivial, hQ⟩, ht⟩) t_nil d_Md_fare_58
                · have hQ := hQ.2 c_18
                  by_cases c_19 : 2 < p_4
                  · have hQ := hQ.1 c_19
                    refine hb_ti 0 (by unfold f_Md_in; rw [if_neg c_18, if_pos c_19]; first | done | rfl) ?_
                    refine lv_if_ne (tgt := 59) hx hb d_Md_fare_54 (by decide) (fun h => absurd (by decide +kernel) h) (fun _ => ?_)
                    refine lv_iconst (v := (-1)) hx hb d_Md_fare_57 (by decide +kernel) ?_
                    exact W.iret (v := (-1)) hx hb hr (fun t ht hW => ⟨(-1), rfl, ⟨trivial, hQ⟩, ht⟩) t_nil d_Md_fare_58
                  · have hQ := hQ.2 c_19
                    refine hb_ti 1 (by unfold f_Md_in; rw [if_neg c_18, if_neg c_19]; first | done | rfl) ?_
                    refine lv_if_ne (tgt := 59) hx hb d_Md_fare_54 (by decide) (fun _ => ?_) (fun h => absurd h (by decide +kernel))
                    refine lv_aload_n hx hb d_Md_fare_59 rfl (lv_at hl 0 rfl) ?_
                    refine lv_iload_n hx hb d_Md_fare_60 rfl (lv_at hl 1 rfl) ?_
                    refine lv_iload_n hx hb d_Md_fare_61 rfl (lv_at hl 2 rfl) ?_
                    refine lv_iload_n hx hb d_Md_fare_62 rfl (lv_at hl 3 rfl) ?_
                    refine lv_iload hx hb d_Md_fare_63 (lv_at hl 4 rfl) ?_
                    refine lv_bipush (v := 12) hx hb d_Md_fare_65 (by decide +kernel) ?_
                    refine lv_idiv hx hb d_Md_fare_67 (by decide) ?_
                    refine hb_divn (U := 5999) (Qm := 499) (c := 12) (C1 := 11) (K := 2147483635) (by decide +kernel) (by decide +kernel) (by decide +kernel) c_15 (show ¬ (2147483635 < p_3) from by have e0 := c_15; rw [Int32.lt_iff_toInt_lt] at e0; have e1 := c_16; rw [Int32.lt_iff_toInt_lt] at e1; have z0 : (0 : Int32).toInt = 0 := (by decide +kernel); have z1 : (5999 : Int32).toInt = 5999 := (by decide +kernel); have z2 : (2147483635 : Int32).toInt = 2147483635 := (by decide +kernel); rw [Int32.lt_iff_toInt_lt]; omega) c_16 (by decide +kernel) (fun y_20 g1_20 g2_20 g3_20 g4_20 g5_20 g9_20 => ?_)
                    have hQ := hQ y_20 g9_20
                    refine lv_iload hx hb d_Md_fare_68 (lv_at hl 4 rfl) ?_
                    refine lv_bipush (v := 12) hx hb d_Md_fare_70 (by decide +kernel) ?_
                    refine lv_irem hx hb d_Md_fare_72 (by decide) ?_
                    refine hb_remn (c := 12) (C1 := 11) (K := 2147483635) (by decide +kernel) (by decide +kernel) (by decide +kernel) c_15 (show ¬ (2147483635 < p_3) from by have e0 := c_15; rw [Int32.lt_iff_toInt_lt] at e0; have e1 := c_16; rw [Int32.lt_iff_toInt_lt] at e1; have z0 : (0 : Int32).toInt = 0 := (by decide +kernel); have z1 : (5999 : Int32).toInt = 5999 := (by decide +kernel); have z2 : (2147483635 : Int32).toInt = 2147483635 := (by decide +kernel); rw [Int32.lt_iff_toInt_lt]; omega) (fun y_21 qu_21 g1_21 g2_21 g3_21 g4_21 g5_21 g9_21 => ?_)
                    have hQ := hQ y_21 g9_21
                    refine lv_iload hx hb d_Md_fare_73 (lv_at hl 5 rfl) ?_
                    refine vp_callSi (va_Run.run (va_runV (As := [.int p_0, .int p_1, .int p_2, .int y_20, .int y_21, .int p_4]) (rest := []) ⟨hx, hb, hml, hown, htb⟩ (c_Md_fareOf_w l dC dI ct L f hO_0 q0 m0 p_0 p_1 p_2 y_20 y_21 p_4 c_3 (show ¬ (19 < p_0) from ((fun (a_0 : Int32) (a_1 : Int32) (k_0 : ¬ (a_1 < 0)) (k_1 : ¬ (20 < a_1)) (k_2 : ¬ ((a_1 - 1) < a_0)) => (show ¬ (19 < a_0) from by have z0 : (0 : Int32).toInt = 0 := (by decide +kernel); have z1 : (1 : Int32).toInt = 1 := (by decide +kernel); have z2 : (19 : Int32).toInt = 19 := (by decide +kernel); have z3 : (20 : Int32).toInt = 20 := (by decide +kernel); have r0 := fb_rng (a_0); have r1 := fb_rng (a_1); have e0 := k_0; rw [Int32.lt_iff_toInt_lt, z0] at e0; have e1 := k_1; rw [Int32.lt_iff_toInt_lt, z3] at e1; obtain ⟨n_0, hn_0, s0⟩ := nd_sub (x := (a_1)) (y := (1 : Int32)) (by (try rw [z1]); omega) (by (try rw [z1]); omega); rw [z1] at s0; have e2 := k_2; rw [hn_0, Int32.lt_iff_toInt_lt] at e2; rw [Int32.lt_iff_toInt_lt, z2]; omega)) p_0 x_1 b_1.1 b_1.2 c_4)) po_6 po_7 po_10 po_11 g1_20 g5_20 g1_21 g2_21 _ hQ) (cwV 6 htb (gd_V tw_453 tw_454 tw_455 tw_89 tw_452) rfl rfl rfl (by decide +kernel) ⟨Nat.le_of_ble_eq_true rfl, Nat.le_of_ble_eq_true rfl⟩) ⟨pr_blind, tw_recv hK hP m0 rfl rfl, pr_pre hP hK hN⟩ rfl rfl hl.1 rfl (lv_room (Nat.le_of_ble_eq_true rfl)) d_Md_fare_75 ⟨Nat.le_of_ble_eq_true rfl, Nat.le_of_ble_eq_true rfl⟩)) (fun r_22 er_22 => ?_)
                    obtain ⟨er_22, hQ⟩ := er_22
                    clear er_22
                    exact W.iret (v := r_22) hx hb hr (fun t ht hW => ⟨r_22, rfl, ⟨trivial, hQ⟩, ht⟩) t_nil d_Md_fare_78
def wp_WM_manAt_w (L : List Nat) (f : TF) (q0 : Nat) (p_0 : Int32) (Q : Option Nat → Prop) : Prop := ((p_0 < 0 → Q none) ∧ (¬ (p_0 < 0) → ((40 ≤ p_0 → Q none) ∧ (¬ (40 ≤ p_0) → ∀ q_3 : Nat, tr f q0 1 = some q_3 → ((tr f q_3 (p_0 : Int32).toNatClampNeg = none → Q none) ∧ (∀ q_4 : Nat, tr f q_3 (p_0 : Int32).toNatClampNeg = some q_4 → Q (some q_4)))))))
set_option maxHeartbeats 4000000 in
set_option maxRecDepth 100000 in
theorem c_WM_manAt_w (l : Launch) (dC : Nat → ClassId) (dI : Nat → Nat → Nat) (ct : Nat → ClassId) (L : List Nat) (f : TF) (hO_0 : Ok L f) (q0 : Nat) (m0 : q0 ∈ L ∧ tk f q0 = 0) (p_0 : Int32)   (Q : Option Nat → Prop) (hQ : wp_WM_manAt_w L f q0 p_0 Q) : Met l y_WM_manAt (.code y_WM_manAt b_WM_manAt 2 (some (.object "WaterMen$Man")) :: TB) ({ frames := 0, cells := 0, slots := 0, locals := 0 }) (va_Pc [.ref q0, .int p_0] (PR dC dI (TW ct L f) (TT ct))) (va_Sq (fun r => (r = none ∨ ∃ b, r = some b ∧ b ∈ L ∧ tk f b = 20) ∧ Q r)) 0 0 (fun _ => False) := by
  refine Met.ofW (cc := b_WM_manAt) (maxL := 2) (ret := (some (.object "WaterMen$Man"))) (by decide) rfl ?_
  intro p e s m args below meth c s₁ B hml hv
  obtain ⟨rfl, hP, hK, hN⟩ := hv
  have hx := B.exec
  have hb := B.bytes
  have hr := B.returns
  have hts := atoms_spec (ws := (.code y_WM_manAt b_WM_manAt 2 (some (.object "WaterMen$Man")) :: TB)) B.pre
  have htb := fun w (h : w ∈ TB) => hts w (List.mem_cons_of_mem _ h)
  have hown : s.vm.findClass R_WM = some m.cls := findClass_of_methodNamed B.named
  have hlocks := B.notSynchronized
  have hl := lv_entry ([.ref q0, .int p_0]) (n := 2) (Nat.le_of_ble_eq_true rfl)
  rw [lg_entry_eq]
  generalize (lg_sl ([.ref q0, .int p_0]) ++ List.replicate (2 - (lg_sl ([.ref q0, .int p_0])).length) Slot.unset).toArray = ls at hl ⊢
  have hl : lv_has ls 2 [(0, .ref q0), (1, .int p_0)] := hl
  unfold wp_WM_manAt_w at hQ
  refine lv_iload_n hx hb d_WM_manAt_0 rfl (lv_at hl 1 rfl) ?_
  refine lv_if_lt (tgt := 19) hx hb d_WM_manAt_1 (by decide) (fun c_1 => ?_) (fun c_1 => ?_)
  · have hQ := hQ.1 c_1
    refine lv_null hx hb d_WM_manAt_19 ?_
    exact W.aret (v := .null) (rt := .object "WaterMen$Man") hx hb hr (Or.inl ⟨_, rfl⟩) (Or.inl rfl) (fun t ht hW => ⟨none, rfl, ⟨Or.inl rfl, hQ⟩, ht⟩) t_nil d_WM_manAt_20
  · have hQ := hQ.2 c_1
    refine lv_iload_n hx hb d_WM_manAt_4 rfl (lv_at hl 1 rfl) ?_
    refine lv_bipush (v := 40) hx hb d_WM_manAt_5 (by decide +kernel) ?_
    refine lv_icmp_ge (tgt := 19) hx hb d_WM_manAt_7 (by decide) (fun c_2 => ?_) (fun c_2 => ?_)
    · have hQ := hQ.1 c_2
      refine lv_null hx hb d_WM_manAt_19 ?_
      exact W.aret (v := .null) (rt := .object "WaterMen$Man") hx hb hr (Or.inl ⟨_, rfl⟩) (Or.inl rfl) (fun t ht hW => ⟨none, rfl, ⟨Or.inl rfl, hQ⟩, ht⟩) t_nil d_WM_manAt_20
    · have hQ := hQ.2 c_2
      refine lv_aload_n hx hb d_WM_manAt_10 rfl (lv_at hl 0 rfl) ?_
      refine tw_getr (D := (dC, dI)) (C := R_WM) (T := F_WM) (N := 13) (ci := 0) (kd := 0) (ct := ct) hx hb htb i_WM hown hK hP hO_0 m0 rfl rfl 1 (by decide) (htb (.fieldLink R_WM 18 "WaterMen" "men" "[LWaterMen$Man;") tw_24) (fun _ h9 => h9) rfl d_WM_manAt_11 (fun q_3 e_3 m_3 => ?_)
      have hQ := hQ q_3 e_3
      refine lv_iload_n hx hb d_WM_manAt_14 rfl (lv_at hl 1 rfl) ?_
      refine tw_aldq (ct := ct) hx hb hK hP hO_0 m_3 rfl rfl (hb_in c_1 c_2 (by decide +kernel)) d_WM_manAt_15 (fun e_4 => ?_) (fun q_4 e_4 m_4 => ?_)
      · have hQ := hQ.1 e_4
        refine lv_goto (tgt := 20) hx hb d_WM_manAt_16 (by decide) ?_
        exact W.aret (v := .null) (rt := .object "WaterMen$Man") hx hb hr (Or.inl ⟨_, rfl⟩) (Or.inl rfl) (fun t ht hW => ⟨none, rfl, ⟨Or.inl rfl, hQ⟩, ht⟩) t_nil d_WM_manAt_20
      · have hQ := hQ.2 q_4 e_4
        refine lv_goto (tgt := 20) hx hb d_WM_manAt_16 (by decide) ?_
        exact W.aret (v := .ref q_4) (rt := .object "WaterMen$Man") hx hb hr (Or.inl ⟨_, rfl⟩) (Or.inr ⟨_, rfl⟩) (fun t ht hW => ⟨some q_4, rfl, ⟨Or.inr ⟨q_4, rfl, m_4⟩, hQ⟩, ht⟩) t_nil d_WM_manAt_20
def W_WM_free_w : List (Nat × Nat) := [(20, 0)]
def wp_WM_free_w (L : List Nat) (f : TF) (q0 : Nat) (p_0 : Int32) (Q : Int32 → List Nat → TF → Prop) : Prop := wp_WM_manAt_w L f q0 p_0 (fun (r_1 : Option Nat) => ((r_1 = none → Q (-1) L f) ∧ (∀ q_1 : Nat, r_1 = some q_1 → ∀ x_2 : Int32, ti f q_1 0 = x_2 → ((x_2 = 0 → ∀ f_1 : TF, f_1 = sI f q_1 0 2 → Ok L f_1 → Q 1 L f_1) ∧ (¬ (x_2 = 0) → Q (-2) L f)))))
set_option maxHeartbeats 4000000 in
set_option maxRecDepth 100000 in
theorem c_WM_free_w (l : Launch) (dC : Nat → ClassId) (dI : Nat → Nat → Nat) (ct : Nat → ClassId) (L : List Nat) (f : TF) (hO_0 : Ok L f) (q0 : Nat) (m0 : q0 ∈ L ∧ tk f q0 = 0) (sz : Nat) (p_0 : Int32)   (Q : Int32 → List Nat → TF → Prop) (hQ : wp_WM_free_w L f q0 p_0 Q) : Met l y_WM_free (.code y_WM_free b_WM_free 3 (some .int) :: TB) ({ frames := 1, cells := 0, slots := 0, locals := 21 }) (va_Pc [.ref q0, .int p_0] (PC dC dI (TW ct L f) (TT ct) sz)) (va_Qi (fun r (u : TSt) => Ok u.1 u.2 ∧ Ext W_WM_free_w L f u.1 u.2 ∧ (True) ∧ Q r u.1 u.2) (fun (u : TSt) t => va_P (dC, dI) vwCl (TW ct u.1 u.2) t.heap ∧ va_K (dC, dI) vwCl (TT ct) t ∧ va_D (va_A (TW ct L f) sz) (TW ct u.1 u.2)) (va_A (TW ct L f) sz)) 0 0 (va_A (TW ct L f) sz) := by
  refine Met.ofW (cc := b_WM_free) (maxL := 3) (ret := (some .int)) (by decide) rfl ?_
  intro p e s m args below meth c s₁ B hml hv
  obtain ⟨rfl, hsz, hP, hK, hD0, hN⟩ := hv
  have hx := B.exec
  have hb := B.bytes
  have hr := B.returns
  have hts := atoms_spec (ws := (.code y_WM_free b_WM_free 3 (some .int) :: TB)) B.pre
  have htb := fun w (h : w ∈ TB) => hts w (List.mem_cons_of_mem _ h)
  have hown : s.vm.findClass R_WM = some m.cls := findClass_of_methodNamed B.named
  have hlocks := B.notSynchronized
  have hl := lv_entry ([.ref q0, .int p_0]) (n := 3) (Nat.le_of_ble_eq_true rfl)
  rw [lg_entry_eq]
  generalize (lg_sl ([.ref q0, .int p_0]) ++ List.replicate (3 - (lg_sl ([.ref q0, .int p_0])).length) Slot.unset).toArray = ls at hl ⊢
  have hl : lv_has ls 3 [(0, .ref q0), (1, .int p_0)] := hl
  subst hsz
  have hD := hD0.self (sz := s.heap.size)
  obtain ⟨A, hAe⟩ : ∃ A, va_A (TW ct L f) s.heap.size = A := ⟨_, rfl⟩
  rw [hAe] at hD
  have hA : ∀ q : Nat, s.heap.size ≤ q → A q := fun q h => by rw [← hAe]; exact Or.inr h
  have hS : va_S A s.heap s.heap [] := va_S.rf
  have hA_0 : Ext [] L f L f := Ext.rf
  suffices hGo : ∀ (H : Heap) (locs : List Loc), va_P (dC, dI) vwCl (TW ct L f) H → va_S A s.heap H locs → W p l e (headSpec (.code y_WM_free b_WM_free 3 (some .int) :: TB) ({ frames := 1, cells := 0, slots := 0, locals := 21 })).room s m [.ref q0, .int p_0].toArray below meth c H locs 0 0 (MQ below (va_Qi (fun r (u : TSt) => Ok u.1 u.2 ∧ Ext W_WM_free_w L f u.1 u.2 ∧ (True) ∧ Q r u.1 u.2) (fun (u : TSt) t => va_P (dC, dI) vwCl (TW ct u.1 u.2) t.heap ∧ va_K (dC, dI) vwCl (TT ct) t ∧ va_D (va_A (TW ct L f) s.heap.size) (TW ct u.1 u.2)) (va_A (TW ct L f) s.heap.size)) [.ref q0, .int p_0].toArray s 0 0 (va_A (TW ct L f) s.heap.size)) (F0 m 0 ls []) from hGo _ _ hP hS
  clear hP hS
  intro H locs hP hS
  unfold wp_WM_free_w at hQ
  refine lv_aload_n hx hb d_WM_free_0 rfl (lv_at hl 0 rfl) ?_
  refine lv_iload_n hx hb d_WM_free_1 rfl (lv_at hl 1 rfl) ?_
  refine va_csq (va_Run.run (va_runV (As := [.int p_0]) (rest := []) ⟨hx, hb, hml, hown, htb⟩ (c_WM_manAt_w l dC dI ct L f hO_0 q0 m0 p_0 _ hQ) (cwV 1 htb (gd_V tw_27 tw_28 tw_29 tw_26 tw_25) rfl rfl rfl (by decide +kernel) ⟨Nat.le_of_ble_eq_true rfl, Nat.le_of_ble_eq_true rfl⟩) ⟨pr_blind, tw_recv hK hP m0 rfl rfl, pr_pre hP hK hN⟩ rfl rfl hl.1 rfl (lv_room (Nat.le_of_ble_eq_true rfl)) d_WM_free_2 ⟨Nat.le_of_ble_eq_true rfl, Nat.le_of_ble_eq_true rfl⟩)) (fun r_1 er_1 => ?_)
  obtain ⟨er_1, hQ⟩ := er_1
  rcases er_1 with rfl | ⟨q_1, rfl, m_1⟩
  · have hQ := hQ.1 rfl
    refine hb_tv .null rfl ?_
    refine lv_astore_nN (lv' := [(2, .null), (0, .ref q0), (1, .int p_0)]) hx hb d_WM_free_5 rfl hl (by decide) rfl (fun ls hl => ?_)
    refine lv_aload_nN hx hb d_WM_free_6 rfl (lv_at hl 0 rfl) ?_
    refine lv_ifnonnullN hx hb d_WM_free_7 ?_
    refine lv_iconst (v := (-1)) hx hb d_WM_free_10 (by decide +kernel) ?_
    refine W.widen (k := 0) (n := 0) (Nat.le_of_ble_eq_true rfl) (Nat.le_of_ble_eq_true rfl) ?_
    exact W.iret (v := (-1)) hx hb hr (fun t ht hW => ⟨⟨(-1), (L, f), rfl, ⟨hO_0, hA_0.mono (by decide +kernel), trivial, hQ⟩, by rw [ht]; exact hP, va_K.moved hW.alike hK, by rw [hAe]; exact hD⟩, by rw [hAe]; exact hS.F ht⟩) (by rw [hAe]; exact hS.2.2) d_WM_free_11
  · have hQ := hQ.2 q_1 rfl
    refine hb_tv (.ref q_1) rfl ?_
    refine lv_astore_n (lv' := [(2, .ref q_1), (0, .ref q0), (1, .int p_0)]) hx hb d_WM_free_5 rfl hl (by decide) rfl (fun ls hl => ?_)
    refine lv_aload_n hx hb d_WM_free_6 rfl (lv_at hl 0 rfl) ?_
    refine lv_ifnonnull (tgt := 12) hx hb d_WM_free_7 (by decide) ?_
    refine lv_aload_n hx hb d_WM_free_12 rfl (lv_at hl 0 rfl) ?_
    refine tw_geti (D := (dC, dI)) (C := R_Mn) (T := F_Mn) (N := 8) (ci := 2) (kd := 20) (ct := ct) hx hb htb i_Mn hown hK hP hO_0 m_1 rfl rfl 0 (by decide) (htb (.fieldLink R_WM 111 "WaterMen$Man" "state" "I") tw_30) (fun _ h9 => h9) rfl d_WM_free_13 (fun x_2 e_2 b_2 => ?_)
    have hQ := hQ x_2 e_2
    refine lv_if_eq (tgt := 22) hx hb d_WM_free_16 (by decide) (fun c_3 => ?_) (fun c_3 => ?_)
    · have hQ := hQ.1 c_3
      refine lv_aload_n hx hb d_WM_free_22 rfl (lv_at hl 0 rfl) ?_
      refine lv_iconst (v := 2) hx hb d_WM_free_23 (by decide +kernel) ?_
      refine tw_puti (v := 2) (D := (dC, dI)) (C := R_Mn) (T := F_Mn) (N := 8) (ci := 2) (kd := 20) (ct := ct) (ty := .int) hx hb htb i_Mn t_Mn t_Mn_ok n_Mn hown hK hP hD hS hO_0 m_1 rfl rfl 0 (by decide) (htb (.fieldLink R_WM 111 "WaterMen$Man" "state" "I") tw_30) (fun _ h9 => h9) rfl (by decide +kernel) rfl rfl rfl (i32_full _) d_WM_free_24 (fun f_1 H locs hP hD hS hO_1 hE_1 w_4 hF_1 => ?_)
      have hA_1 := hA_0.trans hE_1
      have hQ := hQ f_1 hF_1
      have hQ := hQ hO_1
      refine lv_iconst (v := 1) hx hb d_WM_free_27 (by decide +kernel) ?_
      refine W.widen (k := 0) (n := 0) (Nat.le_of_ble_eq_true rfl) (Nat.le_of_ble_eq_true rfl) ?_
      exact W.iret (v := 1) hx hb hr (fun t ht hW => ⟨⟨1, (L, f_1), rfl, ⟨hO_1, hA_1.mono (by decide +kernel), trivial, hQ⟩, by rw [ht]; exact hP, va_K.moved hW.alike hK, by rw [hAe]; exact hD⟩, by rw [hAe]; exact hS.F ht⟩) (by rw [hAe]; exact hS.2.2) d_WM_free_28
    · have hQ := hQ.2 c_3
      refine lv_bipush (v := (-2)) hx hb d_WM_free_19 (by decide +kernel) ?_
      refine W.widen (k := 0) (n := 0) (Nat.le_of_ble_eq_true rfl) (Nat.le_of_ble_eq_true rfl) ?_
      exact W.iret (v := (-2)) hx hb hr (fun t ht hW => ⟨⟨(-2), (L, f), rfl, ⟨hO_0, hA_0.mono (by decide +kernel), trivial, hQ⟩, by rw [ht]; exact hP, va_K.moved hW.alike hK, by rw [hAe]; exact hD⟩, by rw [hAe]; exact hS.F ht⟩) (by rw [hAe]; exact hS.2.2) d_WM_free_21
def W_Md_free_w : List (Nat × Nat) := [(33, 1000)]
def wp_Md_free_w (L : List Nat) (f : TF) (q0 : Nat) (p_0 : Int32) (Q : Int32 → List Nat → TF → Prop) : Prop := ((p_0 < 0 → Q (-1) L f) ∧ (¬ (p_0 < 0) → ((39 < p_0 → Q (-1) L f) ∧ (¬ (39 < p_0) → ∀ q_4 : Nat, tr f q0 9 = some q_4 → ∀ x_5 : Int32, ti f q_4 (p_0 : Int32).toNatClampNeg = x_5 → ((x_5 = 0 → ∀ f_1 : TF, f_1 = sI f q_4 (p_0 : Int32).toNatClampNeg 2 → Ok L f_1 → Q 1 L f_1) ∧ (¬ (x_5 = 0) → Q (-2) L f))))))
set_option maxHeartbeats 4000000 in
set_option maxRecDepth 100000 in
theorem c_Md_free_w (l : Launch) (dC : Nat → ClassId) (dI : Nat → Nat → Nat) (ct : Nat → ClassId) (L : List Nat) (f : TF) (hO_0 : Ok L f) (q0 : Nat) (m0 : q0 ∈ L ∧ tk f q0 = 27) (sz : Nat) (p_0 : Int32)   (Q : Int32 → List Nat → TF → Prop) (hQ : wp_Md_free_w L f q0 p_0 Q) : Met l y_Md_free (.code y_Md_free b_Md_free 2 (some .int) :: TB) ({ frames := 2, cells := 0, slots := 0, locals := 42 }) (va_Pc [.ref q0, .int p_0] (PC dC dI (TW ct L f) (TT ct) sz)) (va_Qi (fun r (u : TSt) => Ok u.1 u.2 ∧ Ext W_Md_free_w L f u.1 u.2 ∧ (True) ∧ Q r u.1 u.2) (fun (u : TSt) t => va_P (dC, dI) vwCl (TW ct u.1 u.2) t.heap ∧ va_K (dC, dI) vwCl (TT ct) t ∧ va_D (va_A (TW ct L f) sz) (TW ct u.1 u.2)) (va_A (TW ct L f) sz)) 0 0 (va_A (TW ct L f) sz) := by
  refine Met.ofW (cc := b_Md_free) (maxL := 2) (ret := (some .int)) (by decide) rfl ?_
  intro p e s m args below meth c s₁ B hml hv
  obtain ⟨rfl, hsz, hP, hK, hD0, hN⟩ := hv
  have hx := B.exec
  have hb := B.bytes
  have hr := B.returns
  have hts := atoms_spec (ws := (.code y_Md_free b_Md_free 2 (some .int) :: TB)) B.pre
  have htb := fun w (h : w ∈ TB) => hts w (List.mem_cons_of_mem _ h)
  have hown : s.vm.findClass R_Md = some m.cls := findClass_of_methodNamed B.named
  have hlocks := B.notSynchronized
  have hl := lv_entry ([.ref q0, .int p_0]) (n := 2) (Nat.le_of_ble_eq_true rfl)
  rw [lg_entry_eq]
  generalize (lg_sl ([.ref q0, .int p_0]) ++ List.replicate (2 - (lg_sl ([.ref q0, .int p_0])).length) Slot.unset).toArray = ls at hl ⊢
  have hl : lv_has ls 2 [(0, .ref q0), (1, .int p_0)] := hl
  subst hsz
  have hD := hD0.self (sz := s.heap.size)
  obtain ⟨A, hAe⟩ : ∃ A, va_A (TW ct L f) s.heap.size = A := ⟨_, rfl⟩
  rw [hAe] at hD
  have hA : ∀ q : Nat, s.heap.size ≤ q → A q := fun q h => by rw [← hAe]; exact Or.inr h
  have hS : va_S A s.heap s.heap [] := va_S.rf
  have hA_0 : Ext [] L f L f := Ext.rf
  suffices hGo : ∀ (H : Heap) (locs : List Loc), va_P (dC, dI) vwCl (TW ct L f) H → va_S A s.heap H locs → W p l e (headSpec (.code y_Md_free b_Md_free 2 (some .int) :: TB) ({ frames := 2, cells := 0, slots := 0, locals := 42 })).room s m [.ref q0, .int p_0].toArray below meth c H locs 0 0 (MQ below (va_Qi (fun r (u : TSt) => Ok u.1 u.2 ∧ Ext W_Md_free_w L f u.1 u.2 ∧ (True) ∧ Q r u.1 u.2) (fun (u : TSt) t => va_P (dC, dI) vwCl (TW ct u.1 u.2) t.heap ∧ va_K (dC, dI) vwCl (TT ct) t ∧ va_D (va_A (TW ct L f) s.heap.size) (TW ct u.1 u.2)) (va_A (TW ct L f) s.heap.size)) [.ref q0, .int p_0].toArray s 0 0 (va_A (TW ct L f) s.heap.size)) (F0 m 0 ls []) from hGo _ _ hP hS
  clear hP hS
  intro H locs hP hS
  unfold wp_Md_free_w at hQ
  refine lv_iload_n hx hb d_Md_free_0 rfl (lv_at hl 1 rfl) ?_
  refine vp_callSi (va_Run.run (va_runS (As := [.int p_0]) (rest := []) ⟨hx, hb, hml, hown, htb⟩ (c_Md_isMan l p_0) (cwS 1 htb (gd_S tw_93 tw_94 tw_89 tw_92) rfl rfl rfl (by decide +kernel) ⟨Nat.le_of_ble_eq_true rfl, Nat.le_of_ble_eq_true rfl⟩) ⟨fun _ _ _ _ h => h, fun U _ _ => ⟨rfl, trivial⟩⟩ rfl rfl hl.1 rfl (lv_room (Nat.le_of_ble_eq_true rfl)) d_Md_free_1 ⟨Nat.le_of_ble_eq_true rfl, Nat.le_of_ble_eq_true rfl⟩)) (fun r er => ?_)
  subst er
  by_cases c_2 : p_0 < 0
  · have hQ := hQ.1 c_2
    refine hb_ti 0 (by unfold f_Md_isMan; rw [if_pos c_2]; first | done | rfl) ?_
    refine lv_if_ne (tgt := 9) hx hb d_Md_free_4 (by decide) (fun h => absurd (by decide +kernel) h) (fun _ => ?_)
    refine lv_iconst (v := (-1)) hx hb d_Md_free_7 (by decide +kernel) ?_
    refine W.widen (k := 0) (n := 0) (Nat.le_of_ble_eq_true rfl) (Nat.le_of_ble_eq_true rfl) ?_
    exact W.iret (v := (-1)) hx hb hr (fun t ht hW => ⟨⟨(-1), (L, f), rfl, ⟨hO_0, hA_0.mono (by decide +kernel), trivial, hQ⟩, by rw [ht]; exact hP, va_K.moved hW.alike hK, by rw [hAe]; exact hD⟩, by rw [hAe]; exact hS.F ht⟩) (by rw [hAe]; exact hS.2.2) d_Md_free_8
  · have hQ := hQ.2 c_2
    by_cases c_3 : 39 < p_0
    · have hQ := hQ.1 c_3
      refine hb_ti 0 (by unfold f_Md_isMan; rw [if_neg c_2, if_pos c_3]; first | done | rfl) ?_
      refine lv_if_ne (tgt := 9) hx hb d_Md_free_4 (by decide) (fun h => absurd (by decide +kernel) h) (fun _ => ?_)
      refine lv_iconst (v := (-1)) hx hb d_Md_free_7 (by decide +kernel) ?_
      refine W.widen (k := 0) (n := 0) (Nat.le_of_ble_eq_true rfl) (Nat.le_of_ble_eq_true rfl) ?_
      exact W.iret (v := (-1)) hx hb hr (fun t ht hW => ⟨⟨(-1), (L, f), rfl, ⟨hO_0, hA_0.mono (by decide +kernel), trivial, hQ⟩, by rw [ht]; exact hP, va_K.moved hW.alike hK, by rw [hAe]; exact hD⟩, by rw [hAe]; exact hS.F ht⟩) (by rw [hAe]; exact hS.2.2) d_Md_free_8
    · have hQ := hQ.2 c_3
      refine hb_ti 1 (by unfold f_Md_isMan; rw [if_neg c_2, if_neg c_3]; first | done | rfl) ?_
      refine lv_if_ne (tgt := 9) hx hb d_Md_free_4 (by decide) (fun _ => ?_) (fun h => absurd h (by decide +kernel))
      refine lv_aload_n hx hb d_Md_free_9 rfl (lv_at hl 0 rfl) ?_
      refine tw_getr (D := (dC, dI)) (C := R_Md) (T := F_Md) (N := 64) (ci := 7) (kd := 27) (ct := ct) hx hb htb i_Md hown hK hP hO_0 m0 rfl rfl 9 (by decide) (htb (.fieldLink R_Md 58 "WaterMenModel" "state" "[I") tw_95) (fun _ h9 => h9) rfl d_Md_free_10 (fun q_4 e_4 m_4 => ?_)
      have hQ := hQ q_4 e_4
      refine lv_iload_n hx hb d_Md_free_13 rfl (lv_at hl 1 rfl) ?_
      refine tw_aldI (ct := ct) hx hb hK hP hO_0 m_4 rfl (hb_inl c_2 c_3 (by decide +kernel)) d_Md_free_14 (fun x_5 e_5 b_5 => ?_)
      have hQ := hQ x_5 e_5
      refine lv_if_eq (tgt := 21) hx hb d_Md_free_15 (by decide) (fun c_6 => ?_) (fun c_6 => ?_)
      · have hQ := hQ.1 c_6
        refine lv_aload_n hx hb d_Md_free_21 rfl (lv_at hl 0 rfl) ?_
        refine tw_getR (D := (dC, dI)) (C := R_Md) (T := F_Md) (N := 64) (ci := 7) (kd := 27) (ct := ct) hx hb htb i_Md hown hK hP m0 rfl rfl 9 e_4 (by decide) (htb (.fieldLink R_Md 58 "WaterMenModel" "state" "[I") tw_95) (fun _ h9 => h9) rfl d_Md_free_22 ?_
        refine hb_tv (.ref q_4) rfl ?_
        refine lv_iload_n hx hb d_Md_free_25 rfl (lv_at hl 1 rfl) ?_
        refine lv_iconst (v := 2) hx hb d_Md_free_26 (by decide +kernel) ?_
        refine tw_astI (ct := ct) (x := 2) hx hb hK hP hD hS hO_0 m_4 rfl (hb_inl c_2 c_3 (by decide +kernel)) (i32_full _) d_Md_free_27 (fun f_1 H locs hP hD hS hO_1 hE_1 w_7 ow_7 hF_1 => ?_)
        have hA_1 := hA_0.trans hE_1
        have hQ := hQ f_1 hF_1
        have hQ := hQ hO_1
        refine lv_iconst (v := 1) hx hb d_Md_free_28 (by decide +kernel) ?_
        refine W.widen (k := 0) (n := 0) (Nat.le_of_ble_eq_true rfl) (Nat.le_of_ble_eq_true rfl) ?_
        exact W.iret (v := 1) hx hb hr (fun t ht hW => ⟨⟨1, (L, f_1), rfl, ⟨hO_1, hA_1.mono (by decide +kernel), trivial, hQ⟩, by rw [ht]; exact hP, va_K.moved hW.alike hK, by rw [hAe]; exact hD⟩, by rw [hAe]; exact hS.F ht⟩) (by rw [hAe]; exact hS.2.2) d_Md_free_29
      · have hQ := hQ.2 c_6
        refine lv_bipush (v := (-2)) hx hb d_Md_free_18 (by decide +kernel) ?_
        refine W.widen (k := 0) (n := 0) (Nat.le_of_ble_eq_true rfl) (Nat.le_of_ble_eq_true rfl) ?_
        exact W.iret (v := (-2)) hx hb hr (fun t ht hW => ⟨⟨(-2), (L, f), rfl, ⟨hO_0, hA_0.mono (by decide +kernel), trivial, hQ⟩, by rw [ht]; exact hP, va_K.moved hW.alike hK, by rw [hAe]; exact hD⟩, by rw [hAe]; exact hS.F ht⟩) (by rw [hAe]; exact hS.2.2) d_Md_free_20
def W_Bd_init_w : List (Nat × Nat) := [(75, 0), (75, 1), (75, 2), (75, 3)]
def wp_Bd_init_w (L : List Nat) (f : TF) (q0 : Nat) (p_0 : Int32) (p_1 : Int32) (Q : List Nat → TF → Prop) : Prop := ∀ (q_n1 : Nat) (L_1 : List Nat) (f_1 : TF), q_n1 ∉ L → L_1 = L ++ [q_n1] → f_1 = nC f q_n1 22 → Ok L_1 f_1 → ∀ f_2 : TF, f_2 = sR f_1 q0 2 q_n1 → Ok L_1 f_2 → ∀ (q_n3 : Nat) (L_3 : List Nat) (f_3 : TF), q_n3 ∉ L_1 → L_3 = L_1 ++ [q_n3] → f_3 = nC f_2 q_n3 23 → Ok L_3 f_3 → ∀ f_4 : TF, f_4 = sR f_3 q0 3 q_n3 → Ok L_3 f_4 → ∀ f_5 : TF, f_5 = sI f_4 q0 0 p_0 → Ok L_3 f_5 → ∀ f_6 : TF, f_6 = sI f_5 q0 1 p_1 → Ok L_3 f_6 → Q L_3 f_6
set_option maxHeartbeats 4000000 in
set_option maxRecDepth 100000 in
theorem c_Bd_init_w (l : Launch) (dC : Nat → ClassId) (dI : Nat → Nat → Nat) (ct : Nat → ClassId) (L : List Nat) (f : TF) (hO_0 : Ok L f) (q0 : Nat) (m0 : q0 ∈ L ∧ tk f q0 = 75) (sz : Nat) (p_0 : Int32) (p_1 : Int32)   (Q : List Nat → TF → Prop) (hQ : wp_Bd_init_w L f q0 p_0 p_1 Q) : Met l y_Bd_init (.code y_Bd_init b_Bd_init 3 none :: TB) ({ frames := 1, cells := 2, slots := 12, locals := 12 }) (va_Pc [.ref q0, .int p_0, .int p_1] (PC dC dI (TW ct L f) (TT ct) sz)) (va_Qv (fun (u : TSt) => Ok u.1 u.2 ∧ Ext W_Bd_init_w L f u.1 u.2 ∧ tr u.2 q0 2 ≠ none ∧ tr u.2 q0 3 ≠ none ∧ (True) ∧ Q u.1 u.2) (fun (u : TSt) t => va_P (dC, dI) vwCl (TW ct u.1 u.2) t.heap ∧ va_K (dC, dI) vwCl (TT ct) t ∧ va_D (va_A (TW ct L f) sz) (TW ct u.1 u.2)) (va_A (TW ct L f) sz)) 2 12 (va_A (TW ct L f) sz) := by
  refine Met.ofW (cc := b_Bd_init) (maxL := 3) (ret := none) (by decide) rfl ?_
  intro p e s m args below meth c s₁ B hml hv
  obtain ⟨rfl, hsz, hP, hK, hD0, hN⟩ := hv
  have hx := B.exec
  have hb := B.bytes
  have hr := B.returns
  have hts := atoms_spec (ws := (.code y_Bd_init b_Bd_init 3 none :: TB)) B.pre
  have htb := fun w (h : w ∈ TB) => hts w (List.mem_cons_of_mem _ h)
  have hown : s.vm.findClass R_Bd = some m.cls := findClass_of_methodNamed B.named
  have hlocks := B.notSynchronized
  have hin : meth.name = "<init>" := (name_of_methodNamed B.named B.method).1
  have hl := lv_entry ([.ref q0, .int p_0, .int p_1]) (n := 3) (Nat.le_of_ble_eq_true rfl)
  rw [lg_entry_eq]
  generalize (lg_sl ([.ref q0, .int p_0, .int p_1]) ++ List.replicate (3 - (lg_sl ([.ref q0, .int p_0, .int p_1])).length) Slot.unset).toArray = ls at hl ⊢
  have hl : lv_has ls 3 [(0, .ref q0), (1, .int p_0), (2, .int p_1)] := hl
  subst hsz
  have hD := hD0.self (sz := s.heap.size)
  obtain ⟨A, hAe⟩ : ∃ A, va_A (TW ct L f) s.heap.size = A := ⟨_, rfl⟩
  rw [hAe] at hD
  have hA : ∀ q : Nat, s.heap.size ≤ q → A q := fun q h => by rw [← hAe]; exact Or.inr h
  have hS : va_S A s.heap s.heap [] := va_S.rf
  have hA_0 : Ext [] L f L f := Ext.rf
  suffices hGo : ∀ (H : Heap) (locs : List Loc), va_P (dC, dI) vwCl (TW ct L f) H → va_S A s.heap H locs → W p l e (headSpec (.code y_Bd_init b_Bd_init 3 none :: TB) ({ frames := 1, cells := 2, slots := 12, locals := 12 })).room s m [.ref q0, .int p_0, .int p_1].toArray below meth c H locs 0 0 (MQ below (va_Qv (fun (u : TSt) => Ok u.1 u.2 ∧ Ext W_Bd_init_w L f u.1 u.2 ∧ tr u.2 q0 2 ≠ none ∧ tr u.2 q0 3 ≠ none ∧ (True) ∧ Q u.1 u.2) (fun (u : TSt) t => va_P (dC, dI) vwCl (TW ct u.1 u.2) t.heap ∧ va_K (dC, dI) vwCl (TT ct) t ∧ va_D (va_A (TW ct L f) s.heap.size) (TW ct u.1 u.2)) (va_A (TW ct L f) s.heap.size)) [.ref q0, .int p_0, .int p_1].toArray s 2 12 (va_A (TW ct L f) s.heap.size)) (F0 m 0 ls []) from hGo _ _ hP hS
  clear hP hS
  intro H locs hP hS
  unfold wp_Bd_init_w at hQ
  refine lv_aload_n hx hb d_Bd_init_0 rfl (lv_at hl 0 rfl) ?_
  refine W.objInit hx hb hown (htb (.methodLink R_Bd 3 objectInit) tw_459) (htb (.instanceMethod objectInit) tw_329) (htb (.code objectInit ⟨#[0xb1]⟩ 1 none) tw_330) rfl (by rw [hml]; exact hl.1) rfl d_Bd_init_1 (Nat.le_of_ble_eq_true rfl) (Nat.le_of_ble_eq_true rfl) ?_
  refine W.eq (g2 := F0 m 4 ls []) rfl ?_
  refine lv_aload_n hx hb d_Bd_init_4 rfl (lv_at hl 0 rfl) ?_
  refine lv_bipush (v := 6) hx hb d_Bd_init_5 (by decide +kernel) ?_
  refine tw_newI (ct := ct) (N' := 6) hx hb (htb (.arrayClass .int) tw_137) hK hP hD hS hA hO_0 22 rfl ⟨by decide +kernel, by decide +kernel⟩ (by decide +kernel) (by decide +kernel) (by decide +kernel) (Nat.le_of_ble_eq_true rfl) (Nat.le_of_ble_eq_true rfl) d_Bd_init_7 (fun q_n1 L_1 f_1 H hP hD hS hO_1 hE_1 m_n1 nq_1 hL_1 hF_1 => ?_)
  have hA_1 := hA_0.trans hE_1
  have hQ := hQ q_n1 L_1 f_1 nq_1 hL_1 hF_1 hO_1
  refine tw_putFr (b := q_n1) (D := (dC, dI)) (C := R_Bd) (T := F_Bd) (N := 5) (ci := 8) (kd := 75) (ct := ct) (ty := .array (.int)) hx hb htb i_Bd t_Bd t_Bd_ok n_Bd hown hK hP hD hS hO_1 (hA_1.m m0) rfl rfl 2 (by decide) (htb (.fieldLink R_Bd 9 "WaterMen$Bond" "gapFrom" "[I") tw_460) (fun _ h9 => h9) rfl hin rfl (by decide +kernel) rfl rfl rfl m_n1 d_Bd_init_9 (fun f_2 H locs hP hD hS hO_2 hE_2 w_1 hF_2 => ?_)
  have hA_2 := hA_1.trans hE_2
  have hQ := hQ f_2 hF_2
  have hQ := hQ hO_2
  refine lv_aload_n hx hb d_Bd_init_12 rfl (lv_at hl 0 rfl) ?_
  refine lv_bipush (v := 6) hx hb d_Bd_init_13 (by decide +kernel) ?_
  refine tw_newI (ct := ct) (N' := 6) hx hb (htb (.arrayClass .int) tw_137) hK hP hD hS hA hO_2 23 rfl ⟨by decide +kernel, by decide +kernel⟩ (by decide +kernel) (by decide +kernel) (by decide +kernel) (Nat.le_of_ble_eq_true rfl) (Nat.le_of_ble_eq_true rfl) d_Bd_init_15 (fun q_n3 L_3 f_3 H hP hD hS hO_3 hE_3 m_n3 nq_3 hL_3 hF_3 => ?_)
  have hA_3 := hA_2.trans hE_3
  have hQ := hQ q_n3 L_3 f_3 nq_3 hL_3 hF_3 hO_3
  refine tw_putFr (b := q_n3) (D := (dC, dI)) (C := R_Bd) (T := F_Bd) (N := 5) (ci := 8) (kd := 75) (ct := ct) (ty := .array (.int)) hx hb htb i_Bd t_Bd t_Bd_ok n_Bd hown hK hP hD hS hO_3 (hA_3.m m0) rfl rfl 3 (by decide) (htb (.fieldLink R_Bd 15 "WaterMen$Bond" "gapTo" "[I") tw_461) (fun _ h9 => h9) rfl hin rfl (by decide +kernel) rfl rfl rfl m_n3 d_Bd_init_17 (fun f_4 H locs hP hD hS hO_4 hE_4 w_2 hF_4 => ?_)
  have hA_4 := hA_3.trans hE_4
  have hQ := hQ f_4 hF_4
  have hQ := hQ hO_4
  refine lv_aload_n hx hb d_Bd_init_20 rfl (lv_at hl 0 rfl) ?_
  refine lv_iload_n hx hb d_Bd_init_21 rfl (lv_at hl 1 rfl) ?_
  refine tw_putFi (v := p_0) (D := (dC, dI)) (C := R_Bd) (T := F_Bd) (N := 5) (ci := 8) (kd := 75) (ct := ct) (ty := .int) hx hb htb i_Bd t_Bd t_Bd_ok n_Bd hown hK hP hD hS hO_4 (hA_4.m m0) rfl rfl 0 (by decide) (htb (.fieldLink R_Bd 18 "WaterMen$Bond" "master" "I") tw_462) (fun _ h9 => h9) rfl hin rfl (by decide +kernel) rfl rfl rfl (i32_full _) d_Bd_init_22 (fun f_5 H locs hP hD hS hO_5 hE_5 w_3 hF_5 => ?_)
  have hA_5 := hA_4.trans hE_5
  have hQ := hQ f_5 hF_5
  have hQ := hQ hO_5
  refine lv_aload_n hx hb d_Bd_init_25 rfl (lv_at hl 0 rfl) ?_
  refine lv_iload_n hx hb d_Bd_init_26 rfl (lv_at hl 2 rfl) ?_
  refine tw_putFi (v := p_1) (D := (dC, dI)) (C := R_Bd) (T := F_Bd) (N := 5) (ci := 8) (kd := 75) (ct := ct) (ty := .int) hx hb htb i_Bd t_Bd t_Bd_ok n_Bd hown hK hP hD hS hO_5 (hA_5.m m0) rfl rfl 1 (by decide) (htb (.fieldLink R_Bd 22 "WaterMen$Bond" "since" "I") tw_463) (fun _ h9 => h9) rfl hin rfl (by decide +kernel) rfl rfl rfl (i32_full _) d_Bd_init_27 (fun f_6 H locs hP hD hS hO_6 hE_6 w_4 hF_6 => ?_)
  have hA_6 := hA_5.trans hE_6
  have hQ := hQ f_6 hF_6
  have hQ := hQ hO_6
  refine W.widen (k := 2) (n := 12) (Nat.le_of_ble_eq_true rfl) (Nat.le_of_ble_eq_true rfl) ?_
  exact W.vret hx hb hr (fun t ht hW => ⟨⟨(L_3, f_6), rfl, ⟨hO_6, hA_6.mono (by decide +kernel), (by rw [show tr f_6 q0 2 = some q_n1 from ((hE_6.er (hA_5.m m0) rfl).trans ((hE_5.er (hA_4.m m0) rfl).trans ((hE_4.er (hA_3.m m0) rfl).trans ((hE_3.er (hA_2.m m0) rfl).trans w_1))))]; exact Option.some_ne_none _), (by rw [show tr f_6 q0 3 = some q_n3 from ((hE_6.er (hA_5.m m0) rfl).trans ((hE_5.er (hA_4.m m0) rfl).trans w_2))]; exact Option.some_ne_none _), trivial, hQ⟩, by rw [ht]; exact hP, va_K.moved hW.alike hK, by rw [hAe]; exact hD⟩, by rw [hAe]; exact hS.F ht⟩) (by rw [hAe]; exact hS.2.2) d_Bd_init_30
def W_WM_bind_w : List (Nat × Nat) := [(20, 0), (20, 1), (75, 0), (75, 1), (75, 2), (75, 3)]
def wp_WM_bind_w (L : List Nat) (f : TF) (q0 : Nat) (p_0 : Int32) (p_1 : Int32) (Q : Int32 → List Nat → TF → Prop) : Prop := wp_WM_manAt_w L f q0 p_0 (fun (r_1 : Option Nat) => ((r_1 = none → wp_WM_manAt_w L f q0 p_1 (fun (r_2 : Option Nat) => ((r_2 = none → Q (-1) L f) ∧ (∀ q_2 : Nat, r_2 = some q_2 → Q (-1) L f)))) ∧ (∀ q_1 : Nat, r_1 = some q_1 → wp_WM_manAt_w L f q0 p_1 (fun (r_3 : Option Nat) => ((r_3 = none → Q (-1) L f) ∧ (∀ q_3 : Nat, r_3 = some q_3 → ∀ x_4 : Int32, ti f q_1 0 = x_4 → ((x_4 = 0 → ∀ x_6 : Int32, ti f q_3 0 = x_6 → ((x_6 = 2 → ∀ f_1 : TF, f_1 = sI f q_1 0 1 → Ok L f_1 → ∀ (q_n2 : Nat) (L_2 : List Nat) (f_2 : TF), q_n2 ∉ L → L_2 = L ++ [q_n2] → f_2 = nC f_1 q_n2 75 → Ok L_2 f_2 → wp_WM_today_w L_2 f_2 q0 (fun (r_9 : Int32) => (wp_Bd_init_w L_2 f_2 q_n2 p_1 r_9 (fun (L_3 : List Nat) (f_3 : TF) => Ok L_3 f_3 → Ext W_Bd_init_w L_2 f_2 L_3 f_3 → ∀ f_4 : TF, f_4 = kC f_3 q_n2 21 → Ok L_3 f_4 → ∀ f_5 : TF, f_5 = sR f_4 q_1 1 q_n2 → Ok L_3 f_5 → Q 1 L_3 f_5)))) ∧ (¬ (x_6 = 2) → Q (-2) L f))) ∧ (¬ (x_4 = 0) → Q (-2) L f))))))))
set_option maxHeartbeats 4000000 in
set_option maxRecDepth 100000 in
theorem c_WM_bind_w (l : Launch) (dC : Nat → ClassId) (dI : Nat → Nat → Nat) (ct : Nat → ClassId) (L : List Nat) (f : TF) (hO_0 : Ok L f) (q0 : Nat) (m0 : q0 ∈ L ∧ tk f q0 = 0) (sz : Nat) (p_0 : Int32) (p_1 : Int32)   (Q : Int32 → List Nat → TF → Prop) (hQ : wp_WM_bind_w L f q0 p_0 p_1 Q) : Met l y_WM_bind (.code y_WM_bind b_WM_bind 5 (some .int) :: TB) ({ frames := 2, cells := 3, slots := 17, locals := 34 }) (va_Pc [.ref q0, .int p_0, .int p_1] (PC dC dI (TW ct L f) (TT ct) sz)) (va_Qi (fun r (u : TSt) => Ok u.1 u.2 ∧ Ext W_WM_bind_w L f u.1 u.2 ∧ (True) ∧ Q r u.1 u.2) (fun (u : TSt) t => va_P (dC, dI) vwCl (TW ct u.1 u.2) t.heap ∧ va_K (dC, dI) vwCl (TT ct) t ∧ va_D (va_A (TW ct L f) sz) (TW ct u.1 u.2)) (va_A (TW ct L f) sz)) 3 17 (va_A (TW ct L f) sz) := by
  refine Met.ofW (cc := b_WM_bind) (maxL := 5) (ret := (some .int)) (by decide) rfl ?_
  intro p e s m args below meth c s₁ B hml hv
  obtain ⟨rfl, hsz, hP, hK, hD0, hN⟩ := hv
  have hx := B.exec
  have hb := B.bytes
  have hr := B.returns
  have hts := atoms_spec (ws := (.code y_WM_bind b_WM_bind 5 (some .int) :: TB)) B.pre
  have htb := fun w (h : w ∈ TB) => hts w (List.mem_cons_of_mem _ h)
  have hown : s.vm.findClass R_WM = some m.cls := findClass_of_methodNamed B.named
  have hlocks := B.notSynchronized
  have hl := lv_entry ([.ref q0, .int p_0, .int p_1]) (n := 5) (Nat.le_of_ble_eq_true rfl)
  rw [lg_entry_eq]
  generalize (lg_sl ([.ref q0, .int p_0, .int p_1]) ++ List.replicate (5 - (lg_sl ([.ref q0, .int p_0, .int p_1])).length) Slot.unset).toArray = ls at hl ⊢
  have hl : lv_has ls 5 [(0, .ref q0), (1, .int p_0), (2, .int p_1)] := hl
  subst hsz
  have hD := hD0.self (sz := s.heap.size)
  obtain ⟨A, hAe⟩ : ∃ A, va_A (TW ct L f) s.heap.size = A := ⟨_, rfl⟩
  rw [hAe] at hD
  have hA : ∀ q : Nat, s.heap.size ≤ q → A q := fun q h => by rw [← hAe]; exact Or.inr h
  have hS : va_S A s.heap s.heap [] := va_S.rf
  have hA_0 : Ext [] L f L f := Ext.rf
  suffices hGo : ∀ (H : Heap) (locs : List Loc), va_P (dC, dI) vwCl (TW ct L f) H → va_S A s.heap H locs → W p l e (headSpec (.code y_WM_bind b_WM_bind 5 (some .int) :: TB) ({ frames := 2, cells := 3, slots := 17, locals := 34 })).room s m [.ref q0, .int p_0, .int p_1].toArray below meth c H locs 0 0 (MQ below (va_Qi (fun r (u : TSt) => Ok u.1 u.2 ∧ Ext W_WM_bind_w L f u.1 u.2 ∧ (True) ∧ Q r u.1 u.2) (fun (u : TSt) t => va_P (dC, dI) vwCl (TW ct u.1 u.2) t.heap ∧ va_K (dC, dI) vwCl (TT ct) t ∧ va_D (va_A (TW ct L f) s.heap.size) (TW ct u.1 u.2)) (va_A (TW ct L f) s.heap.size)) [.ref q0, .int p_0, .int p_1].toArray s 3 17 (va_A (TW ct L f) s.heap.size)) (F0 m 0 ls []) from hGo _ _ hP hS
  clear hP hS
  intro H locs hP hS
  unfold wp_WM_bind_w at hQ
  refine lv_aload_n hx hb d_WM_bind_0 rfl (lv_at hl 0 rfl) ?_
  refine lv_iload_n hx hb d_WM_bind_1 rfl (lv_at hl 1 rfl) ?_
  refine va_csq (va_Run.run (va_runV (As := [.int p_0]) (rest := []) ⟨hx, hb, hml, hown, htb⟩ (c_WM_manAt_w l dC dI ct L f hO_0 q0 m0 p_0 _ hQ) (cwV 1 htb (gd_V tw_27 tw_28 tw_29 tw_26 tw_25) rfl rfl rfl (by decide +kernel) ⟨Nat.le_of_ble_eq_true rfl, Nat.le_of_ble_eq_true rfl⟩) ⟨pr_blind, tw_recv hK hP m0 rfl rfl, pr_pre hP hK hN⟩ rfl rfl hl.1 rfl (lv_room (Nat.le_of_ble_eq_true rfl)) d_WM_bind_2 ⟨Nat.le_of_ble_eq_true rfl, Nat.le_of_ble_eq_true rfl⟩)) (fun r_1 er_1 => ?_)
  obtain ⟨er_1, hQ⟩ := er_1
  rcases er_1 with rfl | ⟨q_1, rfl, m_1⟩
  · have hQ := hQ.1 rfl
    refine hb_tv .null rfl ?_
    refine lv_astore_nN (lv' := [(3, .null), (0, .ref q0), (1, .int p_0), (2, .int p_1)]) hx hb d_WM_bind_5 rfl hl (by decide) rfl (fun ls hl => ?_)
    refine lv_aload_n hx hb d_WM_bind_6 rfl (lv_at hl 1 rfl) ?_
    refine lv_iload_n hx hb d_WM_bind_7 rfl (lv_at hl 3 rfl) ?_
    refine va_csq (va_Run.run (va_runV (As := [.int p_1]) (rest := []) ⟨hx, hb, hml, hown, htb⟩ (c_WM_manAt_w l dC dI ct L f hO_0 q0 m0 p_1 _ hQ) (cwV 1 htb (gd_V tw_27 tw_28 tw_29 tw_26 tw_25) rfl rfl rfl (by decide +kernel) ⟨Nat.le_of_ble_eq_true rfl, Nat.le_of_ble_eq_true rfl⟩) ⟨pr_blind, tw_recv hK hP m0 rfl rfl, pr_pre hP hK hN⟩ rfl rfl hl.1 rfl (lv_room (Nat.le_of_ble_eq_true rfl)) d_WM_bind_8 ⟨Nat.le_of_ble_eq_true rfl, Nat.le_of_ble_eq_true rfl⟩)) (fun r_2 er_2 => ?_)
    obtain ⟨er_2, hQ⟩ := er_2
    rcases er_2 with rfl | ⟨q_2, rfl, m_2⟩
    · have hQ := hQ.1 rfl
      refine hb_tv .null rfl ?_
      refine lv_astoreN (lv' := [(4, .null), (3, .null), (0, .ref q0), (1, .int p_0), (2, .int p_1)]) hx hb d_WM_bind_11 hl (by decide) rfl (fun ls hl => ?_)
      refine lv_aload_nN hx hb d_WM_bind_13 rfl (lv_at hl 1 rfl) ?_
      refine lv_ifnullN (tgt := 22) hx hb d_WM_bind_14 (by decide) ?_
      refine lv_iconst (v := (-1)) hx hb d_WM_bind_22 (by decide +kernel) ?_
      refine W.widen (k := 3) (n := 17) (Nat.le_of_ble_eq_true rfl) (Nat.le_of_ble_eq_true rfl) ?_
      exact W.iret (v := (-1)) hx hb hr (fun t ht hW => ⟨⟨(-1), (L, f), rfl, ⟨hO_0, hA_0.mono (by decide +kernel), trivial, hQ⟩, by rw [ht]; exact hP, va_K.moved hW.alike hK, by rw [hAe]; exact hD⟩, by rw [hAe]; exact hS.F ht⟩) (by rw [hAe]; exact hS.2.2) d_WM_bind_23
    · have hQ := hQ.2 q_2 rfl
      refine hb_tv (.ref q_2) rfl ?_
      refine lv_astore (lv' := [(4, .ref q_2), (3, .null), (0, .ref q0), (1, .int p_0), (2, .int p_1)]) hx hb d_WM_bind_11 hl (by decide) rfl (fun ls hl => ?_)
      refine lv_aload_nN hx hb d_WM_bind_13 rfl (lv_at hl 1 rfl) ?_
      refine lv_ifnullN (tgt := 22) hx hb d_WM_bind_14 (by decide) ?_
      refine lv_iconst (v := (-1)) hx hb d_WM_bind_22 (by decide +kernel) ?_
      refine W.widen (k := 3) (n := 17) (Nat.le_of_ble_eq_true rfl) (Nat.le_of_ble_eq_true rfl) ?_
      exact W.iret (v := (-1)) hx hb hr (fun t ht hW => ⟨⟨(-1), (L, f), rfl, ⟨hO_0, hA_0.mono (by decide +kernel), trivial, hQ⟩, by rw [ht]; exact hP, va_K.moved hW.alike hK, by rw [hAe]; exact hD⟩, by rw [hAe]; exact hS.F ht⟩) (by rw [hAe]; exact hS.2.2) d_WM_bind_23
  · have hQ := hQ.2 q_1 rfl
    refine hb_tv (.ref q_1) rfl ?_
    refine lv_astore_n (lv' := [(3, .ref q_1), (0, .ref q0), (1, .int p_0), (2, .int p_1)]) hx hb d_WM_bind_5 rfl hl (by decide) rfl (fun ls hl => ?_)
    refine lv_aload_n hx hb d_WM_bind_6 rfl (lv_at hl 1 rfl) ?_
    refine lv_iload_n hx hb d_WM_bind_7 rfl (lv_at hl 3 rfl) ?_
    refine va_csq (va_Run.run (va_runV (As := [.int p_1]) (rest := []) ⟨hx, hb, hml, hown, htb⟩ (c_WM_manAt_w l dC dI ct L f hO_0 q0 m0 p_1 _ hQ) (cwV 1 htb (gd_V tw_27 tw_28 tw_29 tw_26 tw_25) rfl rfl rfl (by decide +kernel) ⟨Nat.le_of_ble_eq_true rfl, Nat.le_of_ble_eq_true rfl⟩) ⟨pr_blind, tw_recv hK hP m0 rfl rfl, pr_pre hP hK hN⟩ rfl rfl hl.1 rfl (lv_room (Nat.le_of_ble_eq_true rfl)) d_WM_bind_8 ⟨Nat.le_of_ble_eq_true rfl, Nat.le_of_ble_eq_true rfl⟩)) (fun r_3 er_3 => ?_)
    obtain ⟨er_3, hQ⟩ := er_3
    rcases er_3 with rfl | ⟨q_3, rfl, m_3⟩
    · have hQ := hQ.1 rfl
      refine hb_tv .null rfl ?_
      refine lv_astoreN (lv' := [(4, .null), (3, .ref q_1), (0, .ref q0), (1, .int p_0), (2, .int p_1)]) hx hb d_WM_bind_11 hl (by decide) rfl (fun ls hl => ?_)
      refine lv_aload_n hx hb d_WM_bind_13 rfl (lv_at hl 1 rfl) ?_
      refine lv_ifnull hx hb d_WM_bind_14 ?_
      refine lv_aloadN hx hb d_WM_bind_17 (lv_at hl 0 rfl) ?_
      refine lv_ifnonnullN hx hb d_WM_bind_19 ?_
      refine lv_iconst (v := (-1)) hx hb d_WM_bind_22 (by decide +kernel) ?_
      refine W.widen (k := 3) (n := 17) (Nat.le_of_ble_eq_true rfl) (Nat.le_of_ble_eq_true rfl) ?_
      exact W.iret (v := (-1)) hx hb hr (fun t ht hW => ⟨⟨(-1), (L, f), rfl, ⟨hO_0, hA_0.mono (by decide +kernel), trivial, hQ⟩, by rw [ht]; exact hP, va_K.moved hW.alike hK, by rw [hAe]; exact hD⟩, by rw [hAe]; exact hS.F ht⟩) (by rw [hAe]; exact hS.2.2) d_WM_bind_23
    · have hQ := hQ.2 q_3 rfl
      refine hb_tv (.ref q_3) rfl ?_
      refine lv_astore (lv' := [(4, .ref q_3), (3, .ref q_1), (0, .ref q0), (1, .int p_0), (2, .int p_1)]) hx hb d_WM_bind_11 hl (by decide) rfl (fun ls hl => ?_)
      refine lv_aload_n hx hb d_WM_bind_13 rfl (lv_at hl 1 rfl) ?_
      refine lv_ifnull hx hb d_WM_bind_14 ?_
      refine lv_aload hx hb d_WM_bind_17 (lv_at hl 0 rfl) ?_
      refine lv_ifnonnull (tgt := 24) hx hb d_WM_bind_19 (by decide) ?_
      refine lv_aload_n hx hb d_WM_bind_24 rfl (lv_at hl 1 rfl) ?_
      refine tw_geti (D := (dC, dI)) (C := R_Mn) (T := F_Mn) (N := 8) (ci := 2) (kd := 20) (ct := ct) hx hb htb i_Mn hown hK hP hO_0 m_1 rfl rfl 0 (by decide) (htb (.fieldLink R_WM 111 "WaterMen$Man" "state" "I") tw_30) (fun _ h9 => h9) rfl d_WM_bind_25 (fun x_4 e_4 b_4 => ?_)
      have hQ := hQ x_4 e_4
      refine lv_if_ne (tgt := 40) hx hb d_WM_bind_28 (by decide) (fun c_5 => ?_) (fun c_5 => ?_)
      · have hQ := hQ.2 c_5
        refine lv_bipush (v := (-2)) hx hb d_WM_bind_40 (by decide +kernel) ?_
        refine W.widen (k := 3) (n := 17) (Nat.le_of_ble_eq_true rfl) (Nat.le_of_ble_eq_true rfl) ?_
        exact W.iret (v := (-2)) hx hb hr (fun t ht hW => ⟨⟨(-2), (L, f), rfl, ⟨hO_0, hA_0.mono (by decide +kernel), trivial, hQ⟩, by rw [ht]; exact hP, va_K.moved hW.alike hK, by rw [hAe]; exact hD⟩, by rw [hAe]; exact hS.F ht⟩) (by rw [hAe]; exact hS.2.2) d_WM_bind_42
      · have hQ := hQ.1 c_5
        refine lv_aload hx hb d_WM_bind_31 (lv_at hl 0 rfl) ?_
        refine tw_geti (D := (dC, dI)) (C := R_Mn) (T := F_Mn) (N := 8) (ci := 2) (kd := 20) (ct := ct) hx hb htb i_Mn hown hK hP hO_0 m_3 rfl rfl 0 (by decide) (htb (.fieldLink R_WM 111 "WaterMen$Man" "state" "I") tw_30) (fun _ h9 => h9) rfl d_WM_bind_33 (fun x_6 e_6 b_6 => ?_)
        have hQ := hQ x_6 e_6
        refine lv_iconst (v := 2) hx hb d_WM_bind_36 (by decide +kernel) ?_
        refine lv_icmp_eq (tgt := 43) hx hb d_WM_bind_37 (by decide) (fun c_7 => ?_) (fun c_7 => ?_)
        · have hQ := hQ.1 c_7
          refine lv_aload_n hx hb d_WM_bind_43 rfl (lv_at hl 1 rfl) ?_
          refine lv_iconst (v := 1) hx hb d_WM_bind_44 (by decide +kernel) ?_
          refine tw_puti (v := 1) (D := (dC, dI)) (C := R_Mn) (T := F_Mn) (N := 8) (ci := 2) (kd := 20) (ct := ct) (ty := .int) hx hb htb i_Mn t_Mn t_Mn_ok n_Mn hown hK hP hD hS hO_0 m_1 rfl rfl 0 (by decide) (htb (.fieldLink R_WM 111 "WaterMen$Man" "state" "I") tw_30) (fun _ h9 => h9) rfl (by decide +kernel) rfl rfl rfl (i32_full _) d_WM_bind_45 (fun f_1 H locs hP hD hS hO_1 hE_1 w_8 hF_1 => ?_)
          have hA_1 := hA_0.trans hE_1
          have hQ := hQ f_1 hF_1
          have hQ := hQ hO_1
          refine lv_aload_n hx hb d_WM_bind_48 rfl (lv_at hl 1 rfl) ?_
          refine tw_newO (D := (dC, dI)) (ci := 8) (fs := [.int 0, .int 0, .null, .null, .int 0]) (C := R_Bd) (T := F_Bd) (N := 5) (ct := ct) hx hb htb i_Bd t_Bd t_Bd_ok hown (htb (.classLink R_WM 114 R_Bd) tw_456) (htb (.instantiable R_Bd 5) tw_457) (htb (.initialized R_Bd) tw_458) hK hP hD hS hA hO_1 75 rfl rfl rfl (by decide +kernel) (df_Bd) (Nat.le_of_ble_eq_true rfl) (Nat.le_of_ble_eq_true rfl) d_WM_bind_49 (fun q_n2 L_2 f_2 H hP hD hS hO_2 hE_2 m_n2 nq_2 hL_2 hF_2 => ?_)
          have hA_2 := hA_1.trans hE_2
          have hQ := hQ q_n2 L_2 f_2 nq_2 hL_2 hF_2 hO_2
          refine lv_dup hx hb d_WM_bind_52 rfl ?_
          refine lv_iload_n hx hb d_WM_bind_53 rfl (lv_at hl 4 rfl) ?_
          refine lv_aload_n hx hb d_WM_bind_54 rfl (lv_at hl 2 rfl) ?_
          refine vp_callSi (va_Run.run (va_runV (As := []) (rest := [.int p_1, .ref q_n2, .ref q_n2, .ref q_1]) ⟨hx, hb, hml, hown, htb⟩ (c_WM_today_w l dC dI ct L_2 f_2 hO_2 q0 (hA_2.m m0) _ hQ) (cwV 0 htb (gd_V tw_50 tw_51 tw_52 tw_26 tw_49) rfl rfl rfl (by decide +kernel) ⟨Nat.le_of_ble_eq_true rfl, Nat.le_of_ble_eq_true rfl⟩) ⟨pr_blind, tw_recv hK hP (hA_2.m m0) rfl rfl, pr_pre hP hK hN⟩ rfl rfl hl.1 rfl (lv_room (Nat.le_of_ble_eq_true rfl)) d_WM_bind_55 ⟨Nat.le_of_ble_eq_true rfl, Nat.le_of_ble_eq_true rfl⟩)) (fun r_9 er_9 => ?_)
          obtain ⟨er_9, hQ⟩ := er_9
          obtain ⟨po_10, po_11, -⟩ := er_9
          have hFc := hb_free hD hS hA
          refine va_callv (va_runI (As := [.int p_1, .int r_9]) (rest := [.ref q_n2, .ref q_1]) ⟨hx, hb, hml, hown, htb⟩ (c_Bd_init_w l dC dI ct L_2 f_2 hO_2 q_n2 m_n2 _ p_1 r_9 _ hQ) (cwI 2 htb (gd_I tw_464) rfl rfl rfl (htb (.initialized R_Bd) tw_458) (htb (.methodLink R_WM 116 y_Bd_init) tw_465) (htb (.instanceMethod y_Bd_init) tw_466) rfl (by decide +kernel) ⟨Nat.le_of_ble_eq_true rfl, Nat.le_of_ble_eq_true rfl⟩) ⟨pc_blind, pc_pre hP hK hD hN⟩ rfl rfl hl.1 rfl (lv_room (Nat.le_of_ble_eq_true rfl)) d_WM_bind_58 ⟨Nat.le_of_ble_eq_true rfl, Nat.le_of_ble_eq_true rfl⟩) hS (fun q _ h => hFc q h) hFc (fun u t H locs ht hvm er hB hz1 hk1 hS => ?_)
          obtain ⟨L_3, f_3⟩ := u
          obtain ⟨hO_3, hE_3, nn_2, nn_3, er, hQ⟩ := er
          obtain ⟨hP, hK1, hD1⟩ := hB
          rw [ht] at hP
          have hP : va_P (dC, dI) vwCl (TW ct L_3 f_3) H := hP
          have hD : va_D A (TW ct L_3 f_3) := hD1.weaken (fun _ q _ h => hFc q.1 h)
          have hO_3 : Ok L_3 f_3 := hO_3
          have hE_3 : Ext W_Bd_init_w L_2 f_2 L_3 f_3 := hE_3
          clear hK1 hD1 ht hvm hz1 hk1
          have hA_3 := hA_2.trans hE_3
          have hQ := hQ hO_3 hE_3
          clear er
          have hcast : ∀ (j : Nat) (d : FD), FL_21[j]? = some d → okF L_3 f_3 d (f_3 q_n2) j := by
            intro j d hd
            match j, hd with
            | 0, hd => cases hd; exact hO_3 _ (hE_3.m m_n2).1 0 _ (by rw [show (f_3 q_n2).1 = 75 from (hE_3.m m_n2).2]; rfl)
            | 1, hd => cases hd; exact hO_3 _ (hE_3.m m_n2).1 1 _ (by rw [show (f_3 q_n2).1 = 75 from (hE_3.m m_n2).2]; rfl)
            | 2, hd => cases hd; exact ok_nn (hO_3 _ (hE_3.m m_n2).1 2 _ (by rw [show (f_3 q_n2).1 = 75 from (hE_3.m m_n2).2]; rfl)) nn_2
            | 3, hd => cases hd; exact ok_nn (hO_3 _ (hE_3.m m_n2).1 3 _ (by rw [show (f_3 q_n2).1 = 75 from (hE_3.m m_n2).2]; rfl)) nn_3
            | 4, hd => cases hd; exact hO_3 _ (hE_3.m m_n2).1 4 _ (by rw [show (f_3 q_n2).1 = 75 from (hE_3.m m_n2).2]; rfl)
            | j + 5, hd => exact absurd hd (by simp [FL_21])
          obtain ⟨f_4, hO_4, hTW, hk_4, ho_4, hq_4, hF_4⟩ := tw_cast (ct := ct) (kd := 21) hO_3 (hE_3.m m_n2) rfl rfl (by decide +kernel) (by decide +kernel) hcast
          have hQ := hQ f_4 hF_4
          have hQ := hQ hO_4
          have hE_4 := ext_cast (hE_2.trans hE_3) nq_2 ho_4
          have hA_4 := hA_1.trans hE_4
          rw [← hTW] at hP hD
          have m_n4 : q_n2 ∈ L_3 ∧ tk f_4 q_n2 = 21 := ⟨(hE_3.m m_n2).1, hk_4⟩
          refine tw_putr (b := q_n2) (D := (dC, dI)) (C := R_Mn) (T := F_Mn) (N := 8) (ci := 2) (kd := 20) (ct := ct) (ty := .object "WaterMen$Bond") hx hb htb i_Mn t_Mn t_Mn_ok n_Mn hown hK hP hD hS hO_4 (hA_4.m m_1) rfl rfl 1 (by decide) (htb (.fieldLink R_WM 119 "WaterMen$Man" "bond" "LWaterMen$Bond;") tw_31) (fun _ h9 => h9) rfl (by decide +kernel) rfl rfl rfl m_n4 d_WM_bind_61 (fun f_5 H locs hP hD hS hO_5 hE_5 w_13 hF_5 => ?_)
          have hA_5 := hA_4.trans hE_5
          have hQ := hQ f_5 hF_5
          have hQ := hQ hO_5
          refine lv_iconst (v := 1) hx hb d_WM_bind_64 (by decide +kernel) ?_
          refine W.widen (k := 3) (n := 17) (Nat.le_of_ble_eq_true rfl) (Nat.le_of_ble_eq_true rfl) ?_
          exact W.iret (v := 1) hx hb hr (fun t ht hW => ⟨⟨1, (L_3, f_5), rfl, ⟨hO_5, hA_5.mono (by decide +kernel), trivial, hQ⟩, by rw [ht]; exact hP, va_K.moved hW.alike hK, by rw [hAe]; exact hD⟩, by rw [hAe]; exact hS.F ht⟩) (by rw [hAe]; exact hS.2.2) d_WM_bind_65
        · have hQ := hQ.2 c_7
          refine lv_bipush (v := (-2)) hx hb d_WM_bind_40 (by decide +kernel) ?_
          refine W.widen (k := 3) (n := 17) (Nat.le_of_ble_eq_true rfl) (Nat.le_of_ble_eq_true rfl) ?_
          exact W.iret (v := (-2)) hx hb hr (fun t ht hW => ⟨⟨(-2), (L, f), rfl, ⟨hO_0, hA_0.mono (by decide +kernel), trivial, hQ⟩, by rw [ht]; exact hP, va_K.moved hW.alike hK, by rw [hAe]; exact hD⟩, by rw [hAe]; exact hS.F ht⟩) (by rw [hAe]; exact hS.2.2) d_WM_bind_42
