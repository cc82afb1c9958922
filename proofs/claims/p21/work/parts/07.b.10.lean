set_option maxHeartbeats 4000000 in
set_option maxRecDepth 100000 in
theorem c_Md_hinders_t (l : Launch) (dC : Nat → ClassId) (dI : Nat → Nat → Nat) (ct : Nat → ClassId) (L : List Nat) (f : TF) (hO_0 : Ok L f) (q0 : Nat) (m0 : q0 ∈ L ∧ tk f q0 = 27) (p_0 : Int32) (p_1 : Int32) (p_2 : Int32)  (as_0 : ¬ (p_0 < 0)) (as_1 : ¬ (19 < p_0)) (as_2 : ¬ (p_1 < 0)) (as_3 : ¬ (39 < p_1)) (as_4 : ¬ (p_2 < 0)) (as_5 : ¬ (11 < p_2)) : Met l y_Md_hinders (.code y_Md_hinders b_Md_hinders 8 (some .int) :: TB) ({ frames := 3, cells := 0, slots := 0, locals := 76 }) (va_Pc [.ref q0, .int p_0, .int p_1, .int p_2] (PR dC dI (TW ct L f) (TT ct))) (vp_Si (fun r => True)) 0 0 (fun _ => False) := by
  refine Met.ofW (cc := b_Md_hinders) (maxL := 8) (ret := (some .int)) (by decide) rfl ?_
  intro p e s m args below meth c s₁ B hml hv
  obtain ⟨rfl, hP, hK, hN⟩ := hv
  have hx := B.exec
  have hb := B.bytes
  have hr := B.returns
  have hts := atoms_spec (ws := (.code y_Md_hinders b_Md_hinders 8 (some .int) :: TB)) B.pre
  have htb := fun w (h : w ∈ TB) => hts w (List.mem_cons_of_mem _ h)
  have hown : s.vm.findClass R_Md = some m.cls := findClass_of_methodNamed B.named
  have hlocks := B.notSynchronized
  have hl := lv_entry ([.ref q0, .int p_0, .int p_1, .int p_2]) (n := 8) (Nat.le_of_ble_eq_true rfl)
  rw [lg_entry_eq]
  generalize (lg_sl ([.ref q0, .int p_0, .int p_1, .int p_2]) ++ List.replicate (8 - (lg_sl ([.ref q0, .int p_0, .int p_1, .int p_2])).length) Slot.unset).toArray = ls at hl ⊢
  have hl : lv_has ls 8 [(0, .ref q0), (1, .int p_0), (2, .int p_1), (3, .int p_2)] := hl
  refine lv_aload_n hx hb d_Md_hinders_0 rfl (lv_at hl 0 rfl) ?_
  refine tw_getr (D := (dC, dI)) (C := R_Md) (T := F_Md) (N := 64) (ci := 7) (kd := 27) (ct := ct) hx hb htb i_Md hown hK hP hO_0 m0 rfl rfl 8 (by decide) (htb (.fieldLink R_Md 49 "WaterMenModel" "frosts" "[Z") tw_502) (fun _ h9 => h9) rfl d_Md_hinders_1 (fun q_1 e_1 m_1 => ?_)
  refine lv_aload_n hx hb d_Md_hinders_4 rfl (lv_at hl 0 rfl) ?_
  refine vp_callSi (va_Run.run (va_runV (As := []) (rest := [.ref q_1]) ⟨hx, hb, hml, hown, htb⟩ (c_Md_today_t l dC dI ct L f hO_0 q0 m0) (cwV 0 htb (gd_V tw_499 tw_500 tw_501 tw_479 tw_498) rfl rfl rfl (by decide +kernel) ⟨Nat.le_of_ble_eq_true rfl, Nat.le_of_ble_eq_true rfl⟩) ⟨pr_blind, tw_recv hK hP m0 rfl rfl, pr_pre hP hK hN⟩ rfl rfl hl.1 rfl (lv_room (Nat.le_of_ble_eq_true rfl)) d_Md_hinders_5 ⟨Nat.le_of_ble_eq_true rfl, Nat.le_of_ble_eq_true rfl⟩)) (fun r_2 er_2 => ?_)
  obtain ⟨po_3, po_4, po_5, po_6, -⟩ := er_2
  refine tw_aldZ (ct := ct) hx hb hK hP hO_0 m_1 rfl (hb_inl po_3 po_4 (by decide +kernel)) d_Md_hinders_8 (fun x_7 e_7 b_7 => ?_)
  refine lv_if_eq (tgt := 14) hx hb d_Md_hinders_9 (by decide) (fun c_8 => ?_) (fun c_8 => ?_)
  · refine lv_aload_n hx hb d_Md_hinders_14 rfl (lv_at hl 0 rfl) ?_
    refine tw_getr (D := (dC, dI)) (C := R_Md) (T := F_Md) (N := 64) (ci := 7) (kd := 27) (ct := ct) hx hb htb i_Md hown hK hP hO_0 m0 rfl rfl 25 (by decide) (htb (.fieldLink R_Md 103 "WaterMenModel" "boatTrip" "[I") tw_541) (fun _ h9 => h9) rfl d_Md_hinders_15 (fun q_9 e_9 m_9 => ?_)
    refine lv_iload_n hx hb d_Md_hinders_18 rfl (lv_at hl 1 rfl) ?_
    refine tw_aldI (ct := ct) hx hb hK hP hO_0 m_9 rfl (hb_inl as_0 as_1 (by decide +kernel)) d_Md_hinders_19 (fun x_10 e_10 b_10 => ?_)
    refine lv_if_lt (tgt := 25) hx hb d_Md_hinders_20 (by decide) (fun c_11 => ?_) (fun c_11 => ?_)
    · refine lv_aload_n hx hb d_Md_hinders_25 rfl (lv_at hl 0 rfl) ?_
      refine tw_getr (D := (dC, dI)) (C := R_Md) (T := F_Md) (N := 64) (ci := 7) (kd := 27) (ct := ct) hx hb htb i_Md hown hK hP hO_0 m0 rfl rfl 9 (by decide) (htb (.fieldLink R_Md 58 "WaterMenModel" "state" "[I") tw_506) (fun _ h9 => h9) rfl d_Md_hinders_26 (fun q_12 e_12 m_12 => ?_)
      refine lv_iload_n hx hb d_Md_hinders_29 rfl (lv_at hl 2 rfl) ?_
      refine tw_aldI (ct := ct) hx hb hK hP hO_0 m_12 rfl (hb_inl as_2 as_3 (by decide +kernel)) d_Md_hinders_30 (fun x_13 e_13 b_13 => ?_)
      refine lv_iconst (v := 2) hx hb d_Md_hinders_31 (by decide +kernel) ?_
      refine lv_icmp_ne (tgt := 44) hx hb d_Md_hinders_32 (by decide) (fun c_14 => ?_) (fun c_14 => ?_)
      · refine lv_iconst (v := 3) hx hb d_Md_hinders_44 (by decide +kernel) ?_
        exact W.iret (v := 3) hx hb hr (fun t ht hW => ⟨3, rfl, trivial, ht⟩) t_nil d_Md_hinders_45
      · refine lv_aload_n hx hb d_Md_hinders_35 rfl (lv_at hl 0 rfl) ?_
        refine tw_getr (D := (dC, dI)) (C := R_Md) (T := F_Md) (N := 64) (ci := 7) (kd := 27) (ct := ct) hx hb htb i_Md hown hK hP hO_0 m0 rfl rfl 16 (by decide) (htb (.fieldLink R_Md 79 "WaterMenModel" "wayOf" "[I") tw_527) (fun _ h9 => h9) rfl d_Md_hinders_36 (fun q_15 e_15 m_15 => ?_)
        refine lv_iload_n hx hb d_Md_hinders_39 rfl (lv_at hl 2 rfl) ?_
        refine tw_aldI (ct := ct) hx hb hK hP hO_0 m_15 rfl (hb_inl as_2 as_3 (by decide +kernel)) d_Md_hinders_40 (fun x_16 e_16 b_16 => ?_)
        refine lv_if_lt (tgt := 46) hx hb d_Md_hinders_41 (by decide) (fun c_17 => ?_) (fun c_17 => ?_)
        · refine lv_aload_n hx hb d_Md_hinders_46 rfl (lv_at hl 0 rfl) ?_
          refine tw_getr (D := (dC, dI)) (C := R_Md) (T := F_Md) (N := 64) (ci := 7) (kd := 27) (ct := ct) hx hb htb i_Md hown hK hP hO_0 m0 rfl rfl 23 (by decide) (htb (.fieldLink R_Md 97 "WaterMenModel" "boatAt" "[I") tw_539) (fun _ h9 => h9) rfl d_Md_hinders_47 (fun q_18 e_18 m_18 => ?_)
          refine lv_iload_n hx hb d_Md_hinders_50 rfl (lv_at hl 1 rfl) ?_
          refine tw_aldI (ct := ct) hx hb hK hP hO_0 m_18 rfl (hb_inl as_0 as_1 (by decide +kernel)) d_Md_hinders_51 (fun x_19 e_19 b_19 => ?_)
          refine lv_istore (lv' := [(4, .int x_19), (0, .ref q0), (1, .int p_0), (2, .int p_1), (3, .int p_2)]) hx hb d_Md_hinders_52 hl (by decide) rfl (fun ls hl => ?_)
          refine lv_aload_n hx hb d_Md_hinders_54 rfl (lv_at hl 1 rfl) ?_
          refine tw_getr (D := (dC, dI)) (C := R_Md) (T := F_Md) (N := 64) (ci := 7) (kd := 27) (ct := ct) hx hb htb i_Md hown hK hP hO_0 m0 rfl rfl 19 (by decide) (htb (.fieldLink R_Md 88 "WaterMenModel" "turns" "[I") tw_516) (fun _ h9 => h9) rfl d_Md_hinders_55 (fun q_20 e_20 m_20 => ?_)
          refine lv_iload hx hb d_Md_hinders_58 (lv_at hl 0 rfl) ?_
          refine tw_aldI (ct := ct) hx hb hK hP hO_0 m_20 rfl (hb_inl b_19.1 b_19.2 (by decide +kernel)) d_Md_hinders_60 (fun x_21 e_21 b_21 => ?_)
          refine lv_if_le (tgt := 80) hx hb d_Md_hinders_61 (by decide) (fun c_22 => ?_) (fun c_22 => ?_)
          · refine lv_aload_n hx hb d_Md_hinders_80 rfl (lv_at hl 1 rfl) ?_
            refine lv_aload_n hx hb d_Md_hinders_81 rfl (lv_at hl 1 rfl) ?_
            refine vp_callSi (va_Run.run (va_runV (As := []) (rest := [.ref q0]) ⟨hx, hb, hml, hown, htb⟩ (c_Md_today_t l dC dI ct L f hO_0 q0 m0) (cwV 0 htb (gd_V tw_499 tw_500 tw_501 tw_479 tw_498) rfl rfl rfl (by decide +kernel) ⟨Nat.le_of_ble_eq_true rfl, Nat.le_of_ble_eq_true rfl⟩) ⟨pr_blind, tw_recv hK hP m0 rfl rfl, pr_pre hP hK hN⟩ rfl rfl hl.1 rfl (lv_room (Nat.le_of_ble_eq_true rfl)) d_Md_hinders_82 ⟨Nat.le_of_ble_eq_true rfl, Nat.le_of_ble_eq_true rfl⟩)) (fun r_23 er_23 => ?_)
            obtain ⟨po_24, po_25, po_26, po_27, -⟩ := er_23
            refine lv_aload_n hx hb d_Md_hinders_85 rfl (lv_at hl 1 rfl) ?_
            refine vp_callSi (va_Run.run (va_runV (As := []) (rest := [.int r_23, .ref q0]) ⟨hx, hb, hml, hown, htb⟩ (c_Md_today_t l dC dI ct L f hO_0 q0 m0) (cwV 0 htb (gd_V tw_499 tw_500 tw_501 tw_479 tw_498) rfl rfl rfl (by decide +kernel) ⟨Nat.le_of_ble_eq_true rfl, Nat.le_of_ble_eq_true rfl⟩) ⟨pr_blind, tw_recv hK hP m0 rfl rfl, pr_pre hP hK hN⟩ rfl rfl hl.1 rfl (lv_room (Nat.le_of_ble_eq_true rfl)) d_Md_hinders_86 ⟨Nat.le_of_ble_eq_true rfl, Nat.le_of_ble_eq_true rfl⟩)) (fun r_28 er_28 => ?_)
            obtain ⟨po_29, po_30, po_31, po_32, -⟩ := er_28
            refine vp_callSi (va_Run.run (va_runV (As := [.int r_23, .int r_28]) (rest := []) ⟨hx, hb, hml, hown, htb⟩ (c_Md_forceOn_t l dC dI ct L f hO_0 q0 m0 r_23 r_28) (cwV 2 htb (gd_V tw_607 tw_608 tw_609 tw_479 tw_606) rfl rfl rfl (by decide +kernel) ⟨Nat.le_of_ble_eq_true rfl, Nat.le_of_ble_eq_true rfl⟩) ⟨pr_blind, tw_recv hK hP m0 rfl rfl, pr_pre hP hK hN⟩ rfl rfl hl.1 rfl (lv_room (Nat.le_of_ble_eq_true rfl)) d_Md_hinders_89 ⟨Nat.le_of_ble_eq_true rfl, Nat.le_of_ble_eq_true rfl⟩)) (fun r_33 er_33 => ?_)
            rcases er_33 with ⟨rfl, -⟩ | ⟨po_34, po_35, -⟩
            · refine lv_istore (lv' := [(5, .int (-2)), (4, .int x_19), (0, .ref q0), (1, .int p_0), (2, .int p_1), (3, .int p_2)]) hx hb d_Md_hinders_92 hl (by decide) rfl (fun ls hl => ?_)
              refine lv_iload hx hb d_Md_hinders_94 (lv_at hl 0 rfl) ?_
              refine lv_if_lt (tgt := 125) hx hb d_Md_hinders_96 (by decide) (fun _ => ?_) (fun h => absurd (by decide +kernel) h)
              refine lv_iconst (v := 5) hx hb d_Md_hinders_125 (by decide +kernel) ?_
              exact W.iret (v := 5) hx hb hr (fun t ht hW => ⟨5, rfl, trivial, ht⟩) t_nil d_Md_hinders_126
            · refine lv_istore (lv' := [(5, .int r_33), (4, .int x_19), (0, .ref q0), (1, .int p_0), (2, .int p_1), (3, .int p_2)]) hx hb d_Md_hinders_92 hl (by decide) rfl (fun ls hl => ?_)
              refine lv_iload hx hb d_Md_hinders_94 (lv_at hl 0 rfl) ?_
              refine lv_if_lt (tgt := 125) hx hb d_Md_hinders_96 (by decide) (fun h => absurd h po_34) (fun _ => ?_)
              refine lv_aload_n hx hb d_Md_hinders_99 rfl (lv_at hl 2 rfl) ?_
              refine lv_iload hx hb d_Md_hinders_100 (lv_at hl 0 rfl) ?_
              refine lv_iload hx hb d_Md_hinders_102 (lv_at hl 1 rfl) ?_
              refine lv_iload_n hx hb d_Md_hinders_104 rfl (lv_at hl 5 rfl) ?_
              refine lv_aload_n hx hb d_Md_hinders_105 rfl (lv_at hl 2 rfl) ?_
              refine vp_callSi (va_Run.run (va_runV (As := []) (rest := [.int p_2, .int x_19, .int r_33, .ref q0]) ⟨hx, hb, hml, hown, htb⟩ (c_Md_today_t l dC dI ct L f hO_0 q0 m0) (cwV 0 htb (gd_V tw_499 tw_500 tw_501 tw_479 tw_498) rfl rfl rfl (by decide +kernel) ⟨Nat.le_of_ble_eq_true rfl, Nat.le_of_ble_eq_true rfl⟩) ⟨pr_blind, tw_recv hK hP m0 rfl rfl, pr_pre hP hK hN⟩ rfl rfl hl.1 rfl (lv_room (Nat.le_of_ble_eq_true rfl)) d_Md_hinders_106 ⟨Nat.le_of_ble_eq_true rfl, Nat.le_of_ble_eq_true rfl⟩)) (fun r_36 er_36 => ?_)
              obtain ⟨po_37, po_38, po_39, po_40, -⟩ := er_36
              refine lv_aload_n hx hb d_Md_hinders_109 rfl (lv_at hl 2 rfl) ?_
              refine vp_callSi (va_Run.run (va_runV (As := []) (rest := [.int r_36, .int p_2, .int x_19, .int r_33, .ref q0]) ⟨hx, hb, hml, hown, htb⟩ (c_Md_hourNow_t l dC dI ct L f hO_0 q0 m0) (cwV 0 htb (gd_V tw_625 tw_626 tw_627 tw_479 tw_624) rfl rfl rfl (by decide +kernel) ⟨Nat.le_of_ble_eq_true rfl, Nat.le_of_ble_eq_true rfl⟩) ⟨pr_blind, tw_recv hK hP m0 rfl rfl, pr_pre hP hK hN⟩ rfl rfl hl.1 rfl (lv_room (Nat.le_of_ble_eq_true rfl)) d_Md_hinders_110 ⟨Nat.le_of_ble_eq_true rfl, Nat.le_of_ble_eq_true rfl⟩)) (fun r_41 er_41 => ?_)
              obtain ⟨po_42, po_43, -⟩ := er_41
              refine lv_aload_n hx hb d_Md_hinders_113 rfl (lv_at hl 2 rfl) ?_
              refine tw_getr (D := (dC, dI)) (C := R_Md) (T := F_Md) (N := 64) (ci := 7) (kd := 27) (ct := ct) hx hb htb i_Md hown hK hP hO_0 m0 rfl rfl 22 (by decide) (htb (.fieldLink R_Md 94 "WaterMenModel" "boatOars" "[I") tw_538) (fun _ h9 => h9) rfl d_Md_hinders_114 (fun q_44 e_44 m_44 => ?_)
              refine lv_iload_n hx hb d_Md_hinders_117 rfl (lv_at hl 3 rfl) ?_
              refine tw_aldI (ct := ct) hx hb hK hP hO_0 m_44 rfl (hb_inl as_0 as_1 (by decide +kernel)) d_Md_hinders_118 (fun x_45 e_45 b_45 => ?_)
              refine vp_callSi (va_Run.run (va_runV (As := [.int r_33, .int x_19, .int p_2, .int r_36, .int r_41, .int x_45]) (rest := []) ⟨hx, hb, hml, hown, htb⟩ (c_Md_fareOf_t l dC dI ct L f hO_0 q0 m0 r_33 x_19 p_2 r_36 r_41 x_45 po_34 po_35 b_19.1 b_19.2 as_4 as_5 po_37 po_38 po_42 po_43) (cwV 6 htb (gd_V tw_621 tw_622 tw_623 tw_479 tw_620) rfl rfl rfl (by decide +kernel) ⟨Nat.le_of_ble_eq_true rfl, Nat.le_of_ble_eq_true rfl⟩) ⟨pr_blind, tw_recv hK hP m0 rfl rfl, pr_pre hP hK hN⟩ rfl rfl hl.1 rfl (lv_room (Nat.le_of_ble_eq_true rfl)) d_Md_hinders_119 ⟨Nat.le_of_ble_eq_true rfl, Nat.le_of_ble_eq_true rfl⟩)) (fun r_46 er_46 => ?_)
              clear er_46
              refine lv_if_ge (tgt := 127) hx hb d_Md_hinders_122 (by decide) (fun c_47 => ?_) (fun c_47 => ?_)
              · refine lv_aload_n hx hb d_Md_hinders_127 rfl (lv_at hl 2 rfl) ?_
                refine tw_geti (D := (dC, dI)) (C := R_Md) (T := F_Md) (N := 64) (ci := 7) (kd := 27) (ct := ct) hx hb htb i_Md hown hK hP hO_0 m0 rfl rfl 4 (by decide) (htb (.fieldLink R_Md 35 "WaterMenModel" "bridge" "I") tw_490) (fun _ h9 => h9) rfl d_Md_hinders_128 (fun x_48 e_48 b_48 => ?_)
                refine lv_if_lt (tgt := 168) hx hb d_Md_hinders_131 (by decide) (fun c_49 => ?_) (fun c_49 => ?_)
                · refine lv_iconst (v := 0) hx hb d_Md_hinders_168 (by decide +kernel) ?_
                  refine lv_istore (lv' := [(6, .int 0), (5, .int r_33), (4, .int x_19), (0, .ref q0), (1, .int p_0), (2, .int p_1), (3, .int p_2)]) hx hb d_Md_hinders_169 hl (by decide) rfl (fun ls hl => ?_)
                  refine lv_aload_n hx hb d_Md_hinders_171 rfl (lv_at hl 3 rfl) ?_
                  refine lv_aload_n hx hb d_Md_hinders_172 rfl (lv_at hl 3 rfl) ?_
                  refine vp_callSi (va_Run.run (va_runV (As := []) (rest := [.ref q0]) ⟨hx, hb, hml, hown, htb⟩ (c_Md_today_t l dC dI ct L f hO_0 q0 m0) (cwV 0 htb (gd_V tw_499 tw_500 tw_501 tw_479 tw_498) rfl rfl rfl (by decide +kernel) ⟨Nat.le_of_ble_eq_true rfl, Nat.le_of_ble_eq_true rfl⟩) ⟨pr_blind, tw_recv hK hP m0 rfl rfl, pr_pre hP hK hN⟩ rfl rfl hl.1 rfl (lv_room (Nat.le_of_ble_eq_true rfl)) d_Md_hinders_173 ⟨Nat.le_of_ble_eq_true rfl, Nat.le_of_ble_eq_true rfl⟩)) (fun r_50 er_50 => ?_)
                  obtain ⟨po_51, po_52, po_53, po_54, -⟩ := er_50
                  refine lv_aload_n hx hb d_Md_hinders_176 rfl (lv_at hl 3 rfl) ?_
                  refine vp_callSi (va_Run.run (va_runV (As := []) (rest := [.int r_50, .ref q0]) ⟨hx, hb, hml, hown, htb⟩ (c_Md_hourNow_t l dC dI ct L f hO_0 q0 m0) (cwV 0 htb (gd_V tw_625 tw_626 tw_627 tw_479 tw_624) rfl rfl rfl (by decide +kernel) ⟨Nat.le_of_ble_eq_true rfl, Nat.le_of_ble_eq_true rfl⟩) ⟨pr_blind, tw_recv hK hP m0 rfl rfl, pr_pre hP hK hN⟩ rfl rfl hl.1 rfl (lv_room (Nat.le_of_ble_eq_true rfl)) d_Md_hinders_177 ⟨Nat.le_of_ble_eq_true rfl, Nat.le_of_ble_eq_true rfl⟩)) (fun r_55 er_55 => ?_)
                  obtain ⟨po_56, po_57, -⟩ := er_55
                  refine vp_callSi (va_Run.run (va_runV (As := [.int r_50, .int r_55]) (rest := []) ⟨hx, hb, hml, hown, htb⟩ (c_Md_flowOf_t l dC dI ct L f hO_0 q0 m0 r_50 r_55 po_51 po_52 po_56 po_57) (cwV 2 htb (gd_V tw_495 tw_496 tw_497 tw_479 tw_494) rfl rfl rfl (by decide +kernel) ⟨Nat.le_of_ble_eq_true rfl, Nat.le_of_ble_eq_true rfl⟩) ⟨pr_blind, tw_recv hK hP m0 rfl rfl, pr_pre hP hK hN⟩ rfl rfl hl.1 rfl (lv_room (Nat.le_of_ble_eq_true rfl)) d_Md_hinders_180 ⟨Nat.le_of_ble_eq_true rfl, Nat.le_of_ble_eq_true rfl⟩)) (fun r_58 er_58 => ?_)
                  clear er_58
                  refine lv_istore (lv' := [(7, .int r_58), (6, .int 0), (5, .int r_33), (4, .int x_19), (0, .ref q0), (1, .int p_0), (2, .int p_1), (3, .int p_2)]) hx hb d_Md_hinders_183 hl (by decide) rfl (fun ls hl => ?_)
                  refine lv_iload hx hb d_Md_hinders_185 (lv_at hl 1 rfl) ?_
                  refine lv_if_eq (tgt := 229) hx hb d_Md_hinders_187 (by decide) (fun _ => ?_) (fun h => absurd (by decide +kernel) h)
                  refine lv_iload hx hb d_Md_hinders_229 (lv_at hl 1 rfl) ?_
                  refine lv_if_eq (tgt := 272) hx hb d_Md_hinders_231 (by decide) (fun _ => ?_) (fun h => absurd (by decide +kernel) h)
                  refine lv_aload_n hx hb d_Md_hinders_272 rfl (lv_at hl 4 rfl) ?_
                  refine tw_getI (x := (ti f q0 1)) (D := (dC, dI)) (C := R_Md) (T := F_Md) (N := 64) (ci := 7) (kd := 27) (ct := ct) hx hb htb i_Md hown hK hP m0 rfl rfl 1 rfl (by decide) (htb (.fieldLink R_Md 7 "WaterMenModel" "time" "I") tw_476) (fun _ h9 => h9) rfl d_Md_hinders_273 ?_
                  refine lv_aload_n hx hb d_Md_hinders_276 rfl (lv_at hl 4 rfl) ?_
                  refine lv_iload_n hx hb d_Md_hinders_277 rfl (lv_at hl 5 rfl) ?_
                  refine lv_iload_n hx hb d_Md_hinders_278 rfl (lv_at hl 7 rfl) ?_
                  refine vp_callSi (va_Run.run (va_runV (As := [.int p_0, .int p_2]) (rest := [.int (ti f q0 1)]) ⟨hx, hb, hml, hown, htb⟩ (c_Md_minutesOf_t l dC dI ct L f hO_0 q0 m0 p_0 p_2 as_0 as_1 as_4 as_5) (cwV 2 htb (gd_V tw_629 tw_630 tw_631 tw_479 tw_628) rfl rfl rfl (by decide +kernel) ⟨Nat.le_of_ble_eq_true rfl, Nat.le_of_ble_eq_true rfl⟩) ⟨pr_blind, tw_recv hK hP m0 rfl rfl, pr_pre hP hK hN⟩ rfl rfl hl.1 rfl (lv_room (Nat.le_of_ble_eq_true rfl)) d_Md_hinders_279 ⟨Nat.le_of_ble_eq_true rfl, Nat.le_of_ble_eq_true rfl⟩)) (fun r_59 er_59 => ?_)
                  clear er_59
                  refine lv_iadd hx hb d_Md_hinders_282 ?_
                  refine lv_ldcw (v := 359999) hx hb hown (htb (.constant R_Md 305 359999) tw_632) d_Md_hinders_283 ?_
                  refine lv_icmp_le (tgt := 294) hx hb d_Md_hinders_286 (by decide) (fun c_60 => ?_) (fun c_60 => ?_)
                  · refine lv_iconst (v := 0) hx hb d_Md_hinders_294 (by decide +kernel) ?_
                    exact W.iret (v := 0) hx hb hr (fun t ht hW => ⟨0, rfl, trivial, ht⟩) t_nil d_Md_hinders_295
                  · refine lv_bipush (v := 7) hx hb d_Md_hinders_289 (by decide +kernel) ?_
                    refine lv_goto (tgt := 295) hx hb d_Md_hinders_291 (by decide) ?_
                    exact W.iret (v := 7) hx hb hr (fun t ht hW => ⟨7, rfl, trivial, ht⟩) t_nil d_Md_hinders_295
                · refine lv_iload hx hb d_Md_hinders_134 (lv_at hl 1 rfl) ?_
                  refine lv_aload_n hx hb d_Md_hinders_136 rfl (lv_at hl 2 rfl) ?_
                  refine tw_getI (x := x_48) (D := (dC, dI)) (C := R_Md) (T := F_Md) (N := 64) (ci := 7) (kd := 27) (ct := ct) hx hb htb i_Md hown hK hP m0 rfl rfl 4 e_48 (by decide) (htb (.fieldLink R_Md 35 "WaterMenModel" "bridge" "I") tw_490) (fun _ h9 => h9) rfl d_Md_hinders_137 ?_
                  refine lv_icmp_gt (tgt := 147) hx hb d_Md_hinders_140 (by decide) (fun c_61 => ?_) (fun c_61 => ?_)
                  · refine lv_iconst (v := 0) hx hb d_Md_hinders_147 (by decide +kernel) ?_
                    refine lv_iload_n hx hb d_Md_hinders_148 rfl (lv_at hl 5 rfl) ?_
                    refine lv_aload_n hx hb d_Md_hinders_149 rfl (lv_at hl 2 rfl) ?_
                    refine tw_getI (x := x_48) (D := (dC, dI)) (C := R_Md) (T := F_Md) (N := 64) (ci := 7) (kd := 27) (ct := ct) hx hb htb i_Md hown hK hP m0 rfl rfl 4 e_48 (by decide) (htb (.fieldLink R_Md 35 "WaterMenModel" "bridge" "I") tw_490) (fun _ h9 => h9) rfl d_Md_hinders_150 ?_
                    refine lv_icmp_gt (tgt := 160) hx hb d_Md_hinders_153 (by decide) (fun c_62 => ?_) (fun c_62 => ?_)
                    · refine lv_iconst (v := 0) hx hb d_Md_hinders_160 (by decide +kernel) ?_
                      refine lv_icmp_eq (tgt := 168) hx hb d_Md_hinders_161 (by decide) (fun _ => ?_) (fun h => absurd (by decide +kernel) h)
                      refine lv_iconst (v := 0) hx hb d_Md_hinders_168 (by decide +kernel) ?_
                      refine lv_istore (lv' := [(6, .int 0), (5, .int r_33), (4, .int x_19), (0, .ref q0), (1, .int p_0), (2, .int p_1), (3, .int p_2)]) hx hb d_Md_hinders_169 hl (by decide) rfl (fun ls hl => ?_)
                      refine lv_aload_n hx hb d_Md_hinders_171 rfl (lv_at hl 3 rfl) ?_
                      refine lv_aload_n hx hb d_Md_hinders_172 rfl (lv_at hl 3 rfl) ?_
                      refine vp_callSi (va_Run.run (va_runV (As := []) (rest := [.ref q0]) ⟨hx, hb, hml, hown, htb⟩ (c_Md_today_t l dC dI ct L f hO_0 q0 m0) (cwV 0 htb (gd_V tw_499 tw_500 tw_501 tw_479 tw_498) rfl rfl rfl (by decide +kernel) ⟨Nat.le_of_ble_eq_true rfl, Nat.le_of_ble_eq_true rfl⟩) ⟨pr_blind, tw_recv hK hP m0 rfl rfl, pr_pre hP hK hN⟩ rfl rfl hl.1 rfl (lv_room (Nat.le_of_ble_eq_true rfl)) d_Md_hinders_173 ⟨Nat.le_of_ble_eq_true rfl, Nat.le_of_ble_eq_true rfl⟩)) (fun r_63 er_63 => ?_)
                      obtain ⟨po_64, po_65, po_66, po_67, -⟩ := er_63
                      refine lv_aload_n hx hb d_Md_hinders_176 rfl (lv_at hl 3 rfl) ?_
                      refine vp_callSi (va_Run.run (va_runV (As := []) (rest := [.int r_63, .ref q0]) ⟨hx, hb, hml, hown, htb⟩ (c_Md_hourNow_t l dC dI ct L f hO_0 q0 m0) (cwV 0 htb (gd_V tw_625 tw_626 tw_627 tw_479 tw_624) rfl rfl rfl (by decide +kernel) ⟨Nat.le_of_ble_eq_true rfl, Nat.le_of_ble_eq_true rfl⟩) ⟨pr_blind, tw_recv hK hP m0 rfl rfl, pr_pre hP hK hN⟩ rfl rfl hl.1 rfl (lv_room (Nat.le_of_ble_eq_true rfl)) d_Md_hinders_177 ⟨Nat.le_of_ble_eq_true rfl, Nat.le_of_ble_eq_true rfl⟩)) (fun r_68 er_68 => ?_)
                      obtain ⟨po_69, po_70, -⟩ := er_68
                      refine vp_callSi (va_Run.run (va_runV (As := [.int r_63, .int r_68]) (rest := []) ⟨hx, hb, hml, hown, htb⟩ (c_Md_flowOf_t l dC dI ct L f hO_0 q0 m0 r_63 r_68 po_64 po_65 po_69 po_70) (cwV 2 htb (gd_V tw_495 tw_496 tw_497 tw_479 tw_494) rfl rfl rfl (by decide +kernel) ⟨Nat.le_of_ble_eq_true rfl, Nat.le_of_ble_eq_true rfl⟩) ⟨pr_blind, tw_recv hK hP m0 rfl rfl, pr_pre hP hK hN⟩ rfl rfl hl.1 rfl (lv_room (Nat.le_of_ble_eq_true rfl)) d_Md_hinders_180 ⟨Nat.le_of_ble_eq_true rfl, Nat.le_of_ble_eq_true rfl⟩)) (fun r_71 er_71 => ?_)
                      clear er_71
                      refine lv_istore (lv' := [(7, .int r_71), (6, .int 0), (5, .int r_33), (4, .int x_19), (0, .ref q0), (1, .int p_0), (2, .int p_1), (3, .int p_2)]) hx hb d_Md_hinders_183 hl (by decide) rfl (fun ls hl => ?_)
                      refine lv_iload hx hb d_Md_hinders_185 (lv_at hl 1 rfl) ?_
                      refine lv_if_eq (tgt := 229) hx hb d_Md_hinders_187 (by decide) (fun _ => ?_) (fun h => absurd (by decide +kernel) h)
                      refine lv_iload hx hb d_Md_hinders_229 (lv_at hl 1 rfl) ?_
                      refine lv_if_eq (tgt := 272) hx hb d_Md_hinders_231 (by decide) (fun _ => ?_) (fun h => absurd (by decide +kernel) h)
                      refine lv_aload_n hx hb d_Md_hinders_272 rfl (lv_at hl 4 rfl) ?_
                      refine tw_getI (x := (ti f q0 1)) (D := (dC, dI)) (C := R_Md) (T := F_Md) (N := 64) (ci := 7) (kd := 27) (ct := ct) hx hb htb i_Md hown hK hP m0 rfl rfl 1 rfl (by decide) (htb (.fieldLink R_Md 7 "WaterMenModel" "time" "I") tw_476) (fun _ h9 => h9) rfl d_Md_hinders_273 ?_
                      refine lv_aload_n hx hb d_Md_hinders_276 rfl (lv_at hl 4 rfl) ?_
                      refine lv_iload_n hx hb d_Md_hinders_277 rfl (lv_at hl 5 rfl) ?_
                      refine lv_iload_n hx hb d_Md_hinders_278 rfl (lv_at hl 7 rfl) ?_
                      refine vp_callSi (va_Run.run (va_runV (As := [.int p_0, .int p_2]) (rest := [.int (ti f q0 1)]) ⟨hx, hb, hml, hown, htb⟩ (c_Md_minutesOf_t l dC dI ct L f hO_0 q0 m0 p_0 p_2 as_0 as_1 as_4 as_5) (cwV 2 htb (gd_V tw_629 tw_630 tw_631 tw_479 tw_628) rfl rfl rfl (by decide +kernel) ⟨Nat.le_of_ble_eq_true rfl, Nat.le_of_ble_eq_true rfl⟩) ⟨pr_blind, tw_recv hK hP m0 rfl rfl, pr_pre hP hK hN⟩ rfl rfl hl.1 rfl (lv_room (Nat.le_of_ble_eq_true rfl)) d_Md_hinders_279 ⟨Nat.le_of_ble_eq_true rfl, Nat.le_of_ble_eq_true rfl⟩)) (fun r_72 er_72 => ?_)
                      clear er_72
                      refine lv_iadd hx hb d_Md_hinders_282 ?_
                      refine lv_ldcw (v := 359999) hx hb hown (htb (.constant R_Md 305 359999) tw_632) d_Md_hinders_283 ?_
                      refine lv_icmp_le (tgt := 294) hx hb d_Md_hinders_286 (by decide) (fun c_73 => ?_) (fun c_73 => ?_)
                      · refine lv_iconst (v := 0) hx hb d_Md_hinders_294 (by decide +kernel) ?_
                        exact W.iret (v := 0) hx hb hr (fun t ht hW => ⟨0, rfl, trivial, ht⟩) t_nil d_Md_hinders_295
                      · refine lv_bipush (v := 7) hx hb d_Md_hinders_289 (by decide +kernel) ?_
                        refine lv_goto (tgt := 295) hx hb d_Md_hinders_291 (by decide) ?_
                        exact W.iret (v := 7) hx hb hr (fun t ht hW => ⟨7, rfl, trivial, ht⟩) t_nil d_Md_hinders_295
                    · refine lv_iconst (v := 1) hx hb d_Md_hinders_156 (by decide +kernel) ?_
                      refine lv_goto (tgt := 161) hx hb d_Md_hinders_157 (by decide) ?_
                      refine lv_icmp_eq (tgt := 168) hx hb d_Md_hinders_161 (by decide) (fun h => absurd h (by decide +kernel)) (fun _ => ?_)
                      refine lv_iconst (v := 1) hx hb d_Md_hinders_164 (by decide +kernel) ?_
                      refine lv_goto (tgt := 169) hx hb d_Md_hinders_165 (by decide) ?_
                      refine lv_istore (lv' := [(6, .int 1), (5, .int r_33), (4, .int x_19), (0, .ref q0), (1, .int p_0), (2, .int p_1), (3, .int p_2)]) hx hb d_Md_hinders_169 hl (by decide) rfl (fun ls hl => ?_)
                      refine lv_aload_n hx hb d_Md_hinders_171 rfl (lv_at hl 3 rfl) ?_
                      refine lv_aload_n hx hb d_Md_hinders_172 rfl (lv_at hl 3 rfl) ?_
                      refine vp_callSi (va_Run.run (va_runV (As := []) (rest := [.ref q0]) ⟨hx, hb, hml, hown, htb⟩ (c_Md_today_t l dC dI ct L f hO_0 q0 m0) (cwV 0 htb (gd_V tw_499 tw_500 tw_501 tw_479 tw_498) rfl rfl rfl (by decide +kernel) ⟨Nat.le_of_ble_eq_true rfl, Nat.le_of_ble_eq_true rfl⟩) ⟨pr_blind, tw_recv hK hP m0 rfl rfl, pr_pre hP hK hN⟩ rfl rfl hl.1 rfl (lv_room (Nat.le_of_ble_eq_true rfl)) d_Md_hinders_173 ⟨Nat.le_of_ble_eq_true rfl, Nat.le_of_ble_eq_true rfl⟩)) (fun r_74 er_74 => ?_)
                      obtain ⟨po_75, po_76, po_77, po_78, -⟩ := er_74
                      refine lv_aload_n hx hb d_Md_hinders_176 rfl (lv_at hl 3 rfl) ?_
                      refine vp_callSi (va_Run.run (va_runV (As := []) (rest := [.int r_74, .ref q0]) ⟨hx, hb, hml, hown, htb⟩ (c_Md_hourNow_t l dC dI ct L f hO_0 q0 m0) (cwV 0 htb (gd_V tw_625 tw_626 tw_627 tw_479 tw_624) rfl rfl rfl (by decide +kernel) ⟨Nat.le_of_ble_eq_true rfl, Nat.le_of_ble_eq_true rfl⟩) ⟨pr_blind, tw_recv hK hP m0 rfl rfl, pr_pre hP hK hN⟩ rfl rfl hl.1 rfl (lv_room (Nat.le_of_ble_eq_true rfl)) d_Md_hinders_177 ⟨Nat.le_of_ble_eq_true rfl, Nat.le_of_ble_eq_true rfl⟩)) (fun r_79 er_79 => ?_)
                      obtain ⟨po_80, po_81, -⟩ := er_79
                      refine vp_callSi (va_Run.run (va_runV (As := [.int r_74, .int r_79]) (rest := []) ⟨hx, hb, hml, hown, htb⟩ (c_Md_flowOf_t l dC dI ct L f hO_0 q0 m0 r_74 r_79 po_75 po_76 po_80 po_81) (cwV 2 htb (gd_V tw_495 tw_496 tw_497 tw_479 tw_494) rfl rfl rfl (by decide +kernel) ⟨Nat.le_of_ble_eq_true rfl, Nat.le_of_ble_eq_true rfl⟩) ⟨pr_blind, tw_recv hK hP m0 rfl rfl, pr_pre hP hK hN⟩ rfl rfl hl.1 rfl (lv_room (Nat.le_of_ble_eq_true rfl)) d_Md_hinders_180 ⟨Nat.le_of_ble_eq_true rfl, Nat.le_of_ble_eq_true rfl⟩)) (fun r_82 er_82 => ?_)
                      clear er_82
                      refine lv_istore (lv' := [(7, .int r_82), (6, .int 1), (5, .int r_33), (4, .int x_19), (0, .ref q0), (1, .int p_0), (2, .int p_1), (3, .int p_2)]) hx hb d_Md_hinders_183 hl (by decide) rfl (fun ls hl => ?_)
                      refine lv_iload hx hb d_Md_hinders_185 (lv_at hl 1 rfl) ?_
                      refine lv_if_eq (tgt := 229) hx hb d_Md_hinders_187 (by decide) (fun h => absurd h (by decide +kernel)) (fun _ => ?_)
                      refine lv_aload_n hx hb d_Md_hinders_190 rfl (lv_at hl 4 rfl) ?_
                      refine lv_iload hx hb d_Md_hinders_191 (lv_at hl 2 rfl) ?_
                      refine lv_bipush (v := 16) hx hb d_Md_hinders_193 (by decide +kernel) ?_
                      refine vp_callSi (va_Run.run (va_runV (As := [.int r_33, .int 16]) (rest := []) ⟨hx, hb, hml, hown, htb⟩ (c_Md_lineOf_t l dC dI ct L f hO_0 q0 m0 r_33 (16 : Int32) po_34 po_35 (by decide +kernel) (by decide +kernel)) (cwV 2 htb (gd_V tw_611 tw_612 tw_613 tw_479 tw_610) rfl rfl rfl (by decide +kernel) ⟨Nat.le_of_ble_eq_true rfl, Nat.le_of_ble_eq_true rfl⟩) ⟨pr_blind, tw_recv hK hP m0 rfl rfl, pr_pre hP hK hN⟩ rfl rfl hl.1 rfl (lv_room (Nat.le_of_ble_eq_true rfl)) d_Md_hinders_195 ⟨Nat.le_of_ble_eq_true rfl, Nat.le_of_ble_eq_true rfl⟩)) (fun r_83 er_83 => ?_)
                      clear er_83
                      refine lv_if_lt (tgt := 229) hx hb d_Md_hinders_198 (by decide) (fun c_84 => ?_) (fun c_84 => ?_)
                      · refine lv_iload hx hb d_Md_hinders_229 (lv_at hl 1 rfl) ?_
                        refine lv_if_eq (tgt := 272) hx hb d_Md_hinders_231 (by decide) (fun h => absurd h (by decide +kernel)) (fun _ => ?_)
                        refine lv_aload_n hx hb d_Md_hinders_234 rfl (lv_at hl 4 rfl) ?_
                        refine lv_iload hx hb d_Md_hinders_235 (lv_at hl 2 rfl) ?_
                        refine lv_bipush (v := 17) hx hb d_Md_hinders_237 (by decide +kernel) ?_
                        refine vp_callSi (va_Run.run (va_runV (As := [.int r_33, .int 17]) (rest := []) ⟨hx, hb, hml, hown, htb⟩ (c_Md_lineOf_t l dC dI ct L f hO_0 q0 m0 r_33 (17 : Int32) po_34 po_35 (by decide +kernel) (by decide +kernel)) (cwV 2 htb (gd_V tw_611 tw_612 tw_613 tw_479 tw_610) rfl rfl rfl (by decide +kernel) ⟨Nat.le_of_ble_eq_true rfl, Nat.le_of_ble_eq_true rfl⟩) ⟨pr_blind, tw_recv hK hP m0 rfl rfl, pr_pre hP hK hN⟩ rfl rfl hl.1 rfl (lv_room (Nat.le_of_ble_eq_true rfl)) d_Md_hinders_239 ⟨Nat.le_of_ble_eq_true rfl, Nat.le_of_ble_eq_true rfl⟩)) (fun r_85 er_85 => ?_)
                        clear er_85
                        refine lv_if_lt (tgt := 272) hx hb d_Md_hinders_242 (by decide) (fun c_86 => ?_) (fun c_86 => ?_)
                        · refine lv_aload_n hx hb d_Md_hinders_272 rfl (lv_at hl 4 rfl) ?_
                          refine tw_getI (x := (ti f q0 1)) (D := (dC, dI)) (C := R_Md) (T := F_Md) (N := 64) (ci := 7) (kd := 27) (ct := ct) hx hb htb i_Md hown hK hP m0 rfl rfl 1 rfl (by decide) (htb (.fieldLink R_Md 7 "WaterMenModel" "time" "I") tw_476) (fun _ h9 => h9) rfl d_Md_hinders_273 ?_
                          refine lv_aload_n hx hb d_Md_hinders_276 rfl (lv_at hl 4 rfl) ?_
                          refine lv_iload_n hx hb d_Md_hinders_277 rfl (lv_at hl 5 rfl) ?_
                          refine lv_iload_n hx hb d_Md_hinders_278 rfl (lv_at hl 7 rfl) ?_
                          refine vp_callSi (va_Run.run (va_runV (As := [.int p_0, .int p_2]) (rest := [.int (ti f q0 1)]) ⟨hx, hb, hml, hown, htb⟩ (c_Md_minutesOf_t l dC dI ct L f hO_0 q0 m0 p_0 p_2 as_0 as_1 as_4 as_5) (cwV 2 htb (gd_V tw_629 tw_630 tw_631 tw_479 tw_628) rfl rfl rfl (by decide +kernel) ⟨Nat.le_of_ble_eq_true rfl, Nat.le_of_ble_eq_true rfl⟩) ⟨pr_blind, tw_recv hK hP m0 rfl rfl, pr_pre hP hK hN⟩ rfl rfl hl.1 rfl (lv_room (Nat.le_of_ble_eq_true rfl)) d_Md_hinders_279 ⟨Nat.le_of_ble_eq_true rfl, Nat.le_of_ble_eq_true rfl⟩)) (fun r_87 er_87 => ?_)
                          clear er_87
                          refine lv_iadd hx hb d_Md_hinders_282 ?_
                          refine lv_ldcw (v := 359999) hx hb hown (htb (.constant R_Md 305 359999) tw_632) d_Md_hinders_283 ?_
                          refine lv_icmp_le (tgt := 294) hx hb d_Md_hinders_286 (by decide) (fun c_88 => ?_) (fun c_88 => ?_)
                          · refine lv_iconst (v := 0) hx hb d_Md_hinders_294 (by decide +kernel) ?_
                            exact W.iret (v := 0) hx hb hr (fun t ht hW => ⟨0, rfl, trivial, ht⟩) t_nil d_Md_hinders_295
                          · refine lv_bipush (v := 7) hx hb d_Md_hinders_289 (by decide +kernel) ?_
                            refine lv_goto (tgt := 295) hx hb d_Md_hinders_291 (by decide) ?_
                            exact W.iret (v := 7) hx hb hr (fun t ht hW => ⟨7, rfl, trivial, ht⟩) t_nil d_Md_hinders_295
                        · refine lv_iload hx hb d_Md_hinders_245 (lv_at hl 0 rfl) ?_
                          refine lv_if_ge (tgt := 256) hx hb d_Md_hinders_247 (by decide) (fun c_89 => ?_) (fun c_89 => ?_)
                          · refine lv_iload hx hb d_Md_hinders_256 (lv_at hl 0 rfl) ?_
                            refine lv_aload_n hx hb d_Md_hinders_258 rfl (lv_at hl 4 rfl) ?_
                            refine lv_iload hx hb d_Md_hinders_259 (lv_at hl 2 rfl) ?_
                            refine lv_bipush (v := 17) hx hb d_Md_hinders_261 (by decide +kernel) ?_
                            refine vp_callSi (va_Run.run (va_runV (As := [.int r_33, .int 17]) (rest := [.int r_82]) ⟨hx, hb, hml, hown, htb⟩ (c_Md_lineOf_t l dC dI ct L f hO_0 q0 m0 r_33 (17 : Int32) po_34 po_35 (by decide +kernel) (by decide +kernel)) (cwV 2 htb (gd_V tw_611 tw_612 tw_613 tw_479 tw_610) rfl rfl rfl (by decide +kernel) ⟨Nat.le_of_ble_eq_true rfl, Nat.le_of_ble_eq_true rfl⟩) ⟨pr_blind, tw_recv hK hP m0 rfl rfl, pr_pre hP hK hN⟩ rfl rfl hl.1 rfl (lv_room (Nat.le_of_ble_eq_true rfl)) d_Md_hinders_263 ⟨Nat.le_of_ble_eq_true rfl, Nat.le_of_ble_eq_true rfl⟩)) (fun r_90 er_90 => ?_)
                            clear er_90
                            refine lv_icmp_le (tgt := 272) hx hb d_Md_hinders_266 (by decide) (fun c_91 => ?_) (fun c_91 => ?_)
                            · refine lv_aload_n hx hb d_Md_hinders_272 rfl (lv_at hl 4 rfl) ?_
                              refine tw_getI (x := (ti f q0 1)) (D := (dC, dI)) (C := R_Md) (T := F_Md) (N := 64) (ci := 7) (kd := 27) (ct := ct) hx hb htb i_Md hown hK hP m0 rfl rfl 1 rfl (by decide) (htb (.fieldLink R_Md 7 "WaterMenModel" "time" "I") tw_476) (fun _ h9 => h9) rfl d_Md_hinders_273 ?_
                              refine lv_aload_n hx hb d_Md_hinders_276 rfl (lv_at hl 4 rfl) ?_
                              refine lv_iload_n hx hb d_Md_hinders_277 rfl (lv_at hl 5 rfl) ?_
                              refine lv_iload_n hx hb d_Md_hinders_278 rfl (lv_at hl 7 rfl) ?_
                              refine vp_callSi (va_Run.run (va_runV (As := [.int p_0, .int p_2]) (rest := [.int (ti f q0 1)]) ⟨hx, hb, hml, hown, htb⟩ (c_Md_minutesOf_t l dC dI ct L f hO_0 q0 m0 p_0 p_2 as_0 as_1 as_4 as_5) (cwV 2 htb (gd_V tw_629 tw_630 tw_631 tw_479 tw_628) rfl rfl rfl (by decide +kernel) ⟨Nat.le_of_ble_eq_true rfl, Nat.le_of_ble_eq_true rfl⟩) ⟨pr_blind, tw_recv hK hP m0 rfl rfl, pr_pre hP hK hN⟩ rfl rfl hl.1 rfl (lv_room (Nat.le_of_ble_eq_true rfl)) d_Md_hinders_279 ⟨Nat.le_of_ble_eq_true rfl, Nat.le_of_ble_eq_true rfl⟩)) (fun r_92 er_92 => ?_)
                              clear er_92
                              refine lv_iadd hx hb d_Md_hinders_282 ?_
                              refine lv_ldcw (v := 359999) hx hb hown (htb (.constant R_Md 305 359999) tw_632) d_Md_hinders_283 ?_
                              refine lv_icmp_le (tgt := 294) hx hb d_Md_hinders_286 (by decide) (fun c_93 => ?_) (fun c_93 => ?_)
                              · refine lv_iconst (v := 0) hx hb d_Md_hinders_294 (by decide +kernel) ?_
                                exact W.iret (v := 0) hx hb hr (fun t ht hW => ⟨0, rfl, trivial, ht⟩) t_nil d_Md_hinders_295
                              · refine lv_bipush (v := 7) hx hb d_Md_hinders_289 (by decide +kernel) ?_
                                refine lv_goto (tgt := 295) hx hb d_Md_hinders_291 (by decide) ?_
                                exact W.iret (v := 7) hx hb hr (fun t ht hW => ⟨7, rfl, trivial, ht⟩) t_nil d_Md_hinders_295
                            · refine lv_bipush (v := 6) hx hb d_Md_hinders_269 (by decide +kernel) ?_
                              exact W.iret (v := 6) hx hb hr (fun t ht hW => ⟨6, rfl, trivial, ht⟩) t_nil d_Md_hinders_271
                          · refine lv_iload hx hb d_Md_hinders_250 (lv_at hl 0 rfl) ?_
                            refine lv_ineg hx hb d_Md_hinders_252 ?_
                            refine lv_goto (tgt := 258) hx hb d_Md_hinders_253 (by decide) ?_
                            refine lv_aload_n hx hb d_Md_hinders_258 rfl (lv_at hl 4 rfl) ?_
                            refine lv_iload hx hb d_Md_hinders_259 (lv_at hl 2 rfl) ?_
                            refine lv_bipush (v := 17) hx hb d_Md_hinders_261 (by decide +kernel) ?_
                            refine vp_callSi (va_Run.run (va_runV (As := [.int r_33, .int 17]) (rest := [.int (-r_82)]) ⟨hx, hb, hml, hown, htb⟩ (c_Md_lineOf_t l dC dI ct L f hO_0 q0 m0 r_33 (17 : Int32) po_34 po_35 (by decide +kernel) (by decide +kernel)) (cwV 2 htb (gd_V tw_611 tw_612 tw_613 tw_479 tw_610) rfl rfl rfl (by decide +kernel) ⟨Nat.le_of_ble_eq_true rfl, Nat.le_of_ble_eq_true rfl⟩) ⟨pr_blind, tw_recv hK hP m0 rfl rfl, pr_pre hP hK hN⟩ rfl rfl hl.1 rfl (lv_room (Nat.le_of_ble_eq_true rfl)) d_Md_hinders_263 ⟨Nat.le_of_ble_eq_true rfl, Nat.le_of_ble_eq_true rfl⟩)) (fun r_94 er_94 => ?_)
                            clear er_94
                            refine lv_icmp_le (tgt := 272) hx hb d_Md_hinders_266 (by decide) (fun c_95 => ?_) (fun c_95 => ?_)
                            · refine lv_aload_n hx hb d_Md_hinders_272 rfl (lv_at hl 4 rfl) ?_
                              refine tw_getI (x := (ti f q0 1)) (D := (dC, dI)) (C := R_Md) (T := F_Md) (N := 64) (ci := 7) (kd := 27) (ct := ct) hx hb htb i_Md hown hK hP m0 rfl rfl 1 rfl (by decide) (htb (.fieldLink R_Md 7 "WaterMenModel" "time" "I") tw_476) (fun _ h9 => h9) rfl d_Md_hinders_273 ?_
                              refine lv_aload_n hx hb d_Md_hinders_276 rfl (lv_at hl 4 rfl) ?_
                              refine lv_iload_n hx hb d_Md_hinders_277 rfl (lv_at hl 5 rfl) ?_
                              refine lv_iload_n hx hb d_Md_hinders_278 rfl (lv_at hl 7 rfl) ?_
                              refine vp_callSi (va_Run.run (va_runV (As := [.int p_0, .int p_2]) (rest := [.int (ti f q0 1)]) ⟨hx, hb, hml, hown, htb⟩ (c_Md_minutesOf_t l dC dI ct L f hO_0 q0 m0 p_0 p_2 as_0 as_1 as_4 as_5) (cwV 2 htb (gd_V tw_629 tw_630 tw_631 tw_479 tw_628) rfl rfl rfl (by decide +kernel) ⟨Nat.le_of_ble_eq_true rfl, Nat.le_of_ble_eq_true rfl⟩) ⟨pr_blind, tw_recv hK hP m0 rfl rfl, pr_pre hP hK hN⟩ rfl rfl hl.1 rfl (lv_room (Nat.le_of_ble_eq_true rfl)) d_Md_hinders_279 ⟨Nat.le_of_ble_eq_true rfl, Nat.le_of_ble_eq_true rfl⟩)) (fun r_96 er_96 => ?_)
                              clear er_96
                              refine lv_iadd hx hb d_Md_hinders_282 ?_
                              refine lv_ldcw (v := 359999) hx hb hown (htb (.constant R_Md 305 359999) tw_632) d_Md_hinders_283 ?_
                              refine lv_icmp_le (tgt := 294) hx hb d_Md_hinders_286 (by decide) (fun c_97 => ?_) (fun c_97 => ?_)
                              · refine lv_iconst (v := 0) hx hb d_Md_hinders_294 (by decide +kernel) ?_
                                exact W.iret (v := 0) hx hb hr (fun t ht hW => ⟨0, rfl, trivial, ht⟩) t_nil d_Md_hinders_295
                              · refine lv_bipush (v := 7) hx hb d_Md_hinders_289 (by decide +kernel) ?_
                                refine lv_goto (tgt := 295) hx hb d_Md_hinders_291 (by decide) ?_
                                exact W.iret (v := 7) hx hb hr (fun t ht hW => ⟨7, rfl, trivial, ht⟩) t_nil d_Md_hinders_295
                            · refine lv_bipush (v := 6) hx hb d_Md_hinders_269 (by decide +kernel) ?_
                              exact W.iret (v := 6) hx hb hr (fun t ht hW => ⟨6, rfl, trivial, ht⟩) t_nil d_Md_hinders_271
                      · refine lv_aload_n hx hb d_Md_hinders_201 rfl (lv_at hl 4 rfl) ?_
                        refine vp_callSi (va_Run.run (va_runV (As := []) (rest := []) ⟨hx, hb, hml, hown, htb⟩ (c_Md_hourNow_t l dC dI ct L f hO_0 q0 m0) (cwV 0 htb (gd_V tw_625 tw_626 tw_627 tw_479 tw_624) rfl rfl rfl (by decide +kernel) ⟨Nat.le_of_ble_eq_true rfl, Nat.le_of_ble_eq_true rfl⟩) ⟨pr_blind, tw_recv hK hP m0 rfl rfl, pr_pre hP hK hN⟩ rfl rfl hl.1 rfl (lv_room (Nat.le_of_ble_eq_true rfl)) d_Md_hinders_202 ⟨Nat.le_of_ble_eq_true rfl, Nat.le_of_ble_eq_true rfl⟩)) (fun r_98 er_98 => ?_)
                        obtain ⟨po_99, po_100, -⟩ := er_98
                        refine lv_aload_n hx hb d_Md_hinders_205 rfl (lv_at hl 4 rfl) ?_
                        refine lv_iload hx hb d_Md_hinders_206 (lv_at hl 2 rfl) ?_
                        refine lv_bipush (v := 16) hx hb d_Md_hinders_208 (by decide +kernel) ?_
                        refine vp_callSi (va_Run.run (va_runV (As := [.int r_33, .int 16]) (rest := [.int r_98]) ⟨hx, hb, hml, hown, htb⟩ (c_Md_lineOf_t l dC dI ct L f hO_0 q0 m0 r_33 (16 : Int32) po_34 po_35 (by decide +kernel) (by decide +kernel)) (cwV 2 htb (gd_V tw_611 tw_612 tw_613 tw_479 tw_610) rfl rfl rfl (by decide +kernel) ⟨Nat.le_of_ble_eq_true rfl, Nat.le_of_ble_eq_true rfl⟩) ⟨pr_blind, tw_recv hK hP m0 rfl rfl, pr_pre hP hK hN⟩ rfl rfl hl.1 rfl (lv_room (Nat.le_of_ble_eq_true rfl)) d_Md_hinders_210 ⟨Nat.le_of_ble_eq_true rfl, Nat.le_of_ble_eq_true rfl⟩)) (fun r_101 er_101 => ?_)
                        clear er_101
                        refine lv_aload_n hx hb d_Md_hinders_213 rfl (lv_at hl 4 rfl) ?_
                        refine tw_getr (D := (dC, dI)) (C := R_Md) (T := F_Md) (N := 64) (ci := 7) (kd := 27) (ct := ct) hx hb htb i_Md hown hK hP hO_0 m0 rfl rfl 41 (by decide) (htb (.fieldLink R_Md 146 "WaterMenModel" "singleTo" "[I") tw_590) (fun _ h9 => h9) rfl d_Md_hinders_214 (fun q_102 e_102 m_102 => ?_)
                        refine lv_iload hx hb d_Md_hinders_217 (lv_at hl 2 rfl) ?_
                        refine tw_aldI (ct := ct) hx hb hK hP hO_0 m_102 rfl (hb_inl po_34 po_35 (by decide +kernel)) d_Md_hinders_219 (fun x_103 e_103 b_103 => ?_)
                        refine vp_callSi (va_Run.run (va_runS (As := [.int r_98, .int r_101, .int x_103]) (rest := []) ⟨hx, hb, hml, hown, htb⟩ (c_Md_in l r_98 r_101 x_103) (cwS 3 htb (gd_S tw_480 tw_481 tw_479 tw_478) rfl rfl rfl (by decide +kernel) ⟨Nat.le_of_ble_eq_true rfl, Nat.le_of_ble_eq_true rfl⟩) ⟨fun _ _ _ _ h => h, fun U _ _ => ⟨rfl, trivial⟩⟩ rfl rfl hl.1 rfl (lv_room (Nat.le_of_ble_eq_true rfl)) d_Md_hinders_220 ⟨Nat.le_of_ble_eq_true rfl, Nat.le_of_ble_eq_true rfl⟩)) (fun r er => ?_)
                        subst er
                        by_cases c_105 : r_98 < r_101
                        · refine hb_ti 0 (by unfold f_Md_in; rw [if_pos c_105]; first | done | rfl) ?_
                          refine lv_if_ne (tgt := 229) hx hb d_Md_hinders_223 (by decide) (fun h => absurd (by decide +kernel) h) (fun _ => ?_)
                          refine lv_bipush (v := 6) hx hb d_Md_hinders_226 (by decide +kernel) ?_
                          exact W.iret (v := 6) hx hb hr (fun t ht hW => ⟨6, rfl, trivial, ht⟩) t_nil d_Md_hinders_228
                        · by_cases c_106 : x_103 < r_98
                          · refine hb_ti 0 (by unfold f_Md_in; rw [if_neg c_105, if_pos c_106]; first | done | rfl) ?_
                            refine lv_if_ne (tgt := 229) hx hb d_Md_hinders_223 (by decide) (fun h => absurd (by decide +kernel) h) (fun _ => ?_)
                            refine lv_bipush (v := 6) hx hb d_Md_hinders_226 (by decide +kernel) ?_
                            exact W.iret (v := 6) hx hb hr (fun t ht hW => ⟨6, rfl, trivial, ht⟩) t_nil d_Md_hinders_228
                          · refine hb_ti 1 (by unfold f_Md_in; rw [if_neg c_105, if_neg c_106]; first | done | rfl) ?_
                            refine lv_if_ne (tgt := 229) hx hb d_Md_hinders_223 (by decide) (fun _ => ?_) (fun h => absurd h (by decide +kernel))
                            refine lv_iload hx hb d_Md_hinders_229 (lv_at hl 1 rfl) ?_
                            refine lv_if_eq (tgt := 272) hx hb d_Md_hinders_231 (by decide) (fun h => absurd h (by decide +kernel)) (fun _ => ?_)
                            refine lv_aload_n hx hb d_Md_hinders_234 rfl (lv_at hl 4 rfl) ?_
                            refine lv_iload hx hb d_Md_hinders_235 (lv_at hl 2 rfl) ?_
                            refine lv_bipush (v := 17) hx hb d_Md_hinders_237 (by decide +kernel) ?_
                            refine vp_callSi (va_Run.run (va_runV (As := [.int r_33, .int 17]) (rest := []) ⟨hx, hb, hml, hown, htb⟩ (c_Md_lineOf_t l dC dI ct L f hO_0 q0 m0 r_33 (17 : Int32) po_34 po_35 (by decide +kernel) (by decide +kernel)) (cwV 2 htb (gd_V tw_611 tw_612 tw_613 tw_479 tw_610) rfl rfl rfl (by decide +kernel) ⟨Nat.le_of_ble_eq_true rfl, Nat.le_of_ble_eq_true rfl⟩) ⟨pr_blind, tw_recv hK hP m0 rfl rfl, pr_pre hP hK hN⟩ rfl rfl hl.1 rfl (lv_room (Nat.le_of_ble_eq_true rfl)) d_Md_hinders_239 ⟨Nat.le_of_ble_eq_true rfl, Nat.le_of_ble_eq_true rfl⟩)) (fun r_107 er_107 => ?_)
                            clear er_107
                            refine lv_if_lt (tgt := 272) hx hb d_Md_hinders_242 (by decide) (fun c_108 => ?_) (fun c_108 => ?_)
                            · refine lv_aload_n hx hb d_Md_hinders_272 rfl (lv_at hl 4 rfl) ?_
                              refine tw_getI (x := (ti f q0 1)) (D := (dC, dI)) (C := R_Md) (T := F_Md) (N := 64) (ci := 7) (kd := 27) (ct := ct) hx hb htb i_Md hown hK hP m0 rfl rfl 1 rfl (by decide) (htb (.fieldLink R_Md 7 "WaterMenModel" "time" "I") tw_476) (fun _ h9 => h9) rfl d_Md_hinders_273 ?_
                              refine lv_aload_n hx hb d_Md_hinders_276 rfl (lv_at hl 4 rfl) ?_
                              refine lv_iload_n hx hb d_Md_hinders_277 rfl (lv_at hl 5 rfl) ?_
                              refine lv_iload_n hx hb d_Md_hinders_278 rfl (lv_at hl 7 rfl) ?_
                              refine vp_callSi (va_Run.run (va_runV (As := [.int p_0, .int p_2]) (rest := [.int (ti f q0 1)]) ⟨hx, hb, hml, hown, htb⟩ (c_Md_minutesOf_t l dC dI ct L f hO_0 q0 m0 p_0 p_2 as_0 as_1 as_4 as_5) (cwV 2 htb (gd_V tw_629 tw_630 tw_631 tw_479 tw_628) rfl rfl rfl (by decide +kernel) ⟨Nat.le_of_ble_eq_true rfl, Nat.le_of_ble_eq_true rfl⟩) ⟨pr_blind, tw_recv hK hP m0 rfl rfl, pr_pre hP hK hN⟩ rfl rfl hl.1 rfl (lv_room (Nat.le_of_ble_eq_true rfl)) d_Md_hinders_279 ⟨Nat.le_of_ble_eq_true rfl, Nat.le_of_ble_eq_true rfl⟩)) (fun r_109 er_109 => ?_)
                              clear er_109
                              refine lv_iadd hx hb d_Md_hinders_282 ?_
                              refine lv_ldcw (v := 359999) hx hb hown (htb (.constant R_Md 305 359999) tw_632) d_Md_hinders_283 ?_
                              refine lv_icmp_le (tgt := 294) hx hb d_Md_hinders_286 (by decide) (fun c_110 => ?_) (fun c_110 => ?_)
                              · refine lv_iconst (v := 0) hx hb d_Md_hinders_294 (by decide +kernel) ?_
                                exact W.iret (v := 0) hx hb hr (fun t ht hW => ⟨0, rfl, trivial, ht⟩) t_nil d_Md_hinders_295
                              · refine lv_bipush (v := 7) hx hb d_Md_hinders_289 (by decide +kernel) ?_
                                refine lv_goto (tgt := 295) hx hb d_Md_hinders_291 (by decide) ?_
                                exact W.iret (v := 7) hx hb hr (fun t ht hW => ⟨7, rfl, trivial, ht⟩) t_nil d_Md_hinders_295
                            · refine lv_iload hx hb d_Md_hinders_245 (lv_at hl 0 rfl) ?_
                              refine lv_if_ge (tgt := 256) hx hb d_Md_hinders_247 (by decide) (fun c_111 => ?_) (fun c_111 => ?_)
                              · refine lv_iload hx hb d_Md_hinders_256 (lv_at hl 0 rfl) ?_
                                refine lv_aload_n hx hb d_Md_hinders_258 rfl (lv_at hl 4 rfl) ?_
                                refine lv_iload hx hb d_Md_hinders_259 (lv_at hl 2 rfl) ?_
                                refine lv_bipush (v := 17) hx hb d_Md_hinders_261 (by decide +kernel) ?_
                                refine vp_callSi (va_Run.run (va_runV (As := [.int r_33, .int 17]) (rest := [.int r_82]) ⟨hx, hb, hml, hown, htb⟩ (c_Md_lineOf_t l dC dI ct L f hO_0 q0 m0 r_33 (17 : Int32) po_34 po_35 (by decide +kernel) (by decide +kernel)) (cwV 2 htb (gd_V tw_611 tw_612 tw_613 tw_479 tw_610) rfl rfl rfl (by decide +kernel) ⟨Nat.le_of_ble_eq_true rfl, Nat.le_of_ble_eq_true rfl⟩) ⟨pr_blind, tw_recv hK hP m0 rfl rfl, pr_pre hP hK hN⟩ rfl rfl hl.1 rfl (lv_room (Nat.le_of_ble_eq_true rfl)) d_Md_hinders_263 ⟨Nat.le_of_ble_eq_true rfl, Nat.le_of_ble_eq_true rfl⟩)) (fun r_112 er_112 => ?_)
                                clear er_112
                                refine lv_icmp_le (tgt := 272) hx hb d_Md_hinders_266 (by decide) (fun c_113 => ?_) (fun c_113 => ?_)
                                · refine lv_aload_n hx hb d_Md_hinders_272 rfl (lv_at hl 4 rfl) ?_
                                  refine tw_getI (x := (ti f q0 1)) (D := (dC, dI)) (C := R_Md) (T := F_Md) (N := 64) (ci := 7) (kd := 27) (ct := ct) hx hb htb i_Md hown hK hP m0 rfl rfl 1 rfl (by decide) (htb (.fieldLink R_Md 7 "WaterMenModel" "time" "I") tw_476) (fun _ h9 => h9) rfl d_Md_hinders_273 ?_
                                  refine lv_aload_n hx hb d_Md_hinders_276 rfl (lv_at hl 4 rfl) ?_
                                  refine lv_iload_n hx hb d_Md_hinders_277 rfl (lv_at hl 5 rfl) ?_
                                  refine lv_iload_n hx hb d_Md_hinders_278 rfl (lv_at hl 7 rfl) ?_
                                  refine vp_callSi (va_Run.run (va_runV (As := [.int p_0, .int p_2]) (rest := [.int (ti f q0 1)]) ⟨hx, hb, hml, hown, htb⟩ (c_Md_minutesOf_t l dC dI ct L f hO_0 q0 m0 p_0 p_2 as_0 as_1 as_4 as_5) (cwV 2 htb (gd_V tw_629 tw_630 tw_631 tw_479 tw_628) rfl rfl rfl (by decide +kernel) ⟨Nat.le_of_ble_eq_true rfl, Nat.le_of_ble_eq_true rfl⟩) ⟨pr_blind, tw_recv hK hP m0 rfl rfl, pr_pre hP hK hN⟩ rfl rfl hl.1 rfl (lv_room (Nat.le_of_ble_eq_true rfl)) d_Md_hinders_279 ⟨Nat.le_of_ble_eq_true rfl, Nat.le_of_ble_eq_true rfl⟩)) (fun r_114 er_114 => ?_)
                                  clear er_114
                                  refine lv_iadd hx hb d_Md_hinders_282 ?_
                                  refine lv_ldcw (v := 359999) hx hb hown (htb (.constant R_Md 305 359999) tw_632) d_Md_hinders_283 ?_
                                  refine lv_icmp_le (tgt := 294) hx hb d_Md_hinders_286 (by decide) (fun c_115 => ?_) (fun c_115 => ?_)
                                  · refine lv_iconst (v := 0) hx hb d_Md_hinders_294 (by decide +kernel) ?_
                                    exact W.iret (v := 0) hx hb hr (fun t ht hW => ⟨0, rfl, trivial, ht⟩) t_nil d_Md_hinders_295
                                  · refine lv_bipush (v := 7) hx hb d_Md_hinders_289 (by decide +kernel) ?_
                                    refine lv_goto (tgt := 295) hx hb d_Md_hinders_291 (by decide) ?_
                                    exact W.iret (v := 7) hx hb hr (fun t ht hW => ⟨7, rfl, trivial, ht⟩) t_nil d_Md_hinders_295
                                · refine lv_bipush (v := 6) hx hb d_Md_hinders_269 (by decide +kernel) ?_
                                  exact W.iret (v := 6) hx hb hr (fun t ht hW => ⟨6, rfl, trivial, ht⟩) t_nil d_Md_hinders_271
                              · refine lv_iload hx hb d_Md_hinders_250 (lv_at hl 0 rfl) ?_
                                refine lv_ineg hx hb d_Md_hinders_252 ?_
                                refine lv_goto (tgt := 258) hx hb d_Md_hinders_253 (by decide) ?_
                                refine lv_aload_n hx hb d_Md_hinders_258 rfl (lv_at hl 4 rfl) ?_
                                refine lv_iload hx hb d_Md_hinders_259 (lv_at hl 2 rfl) ?_
                                refine lv_bipush (v := 17) hx hb d_Md_hinders_261 (by decide +kernel) ?_
                                refine vp_callSi (va_Run.run (va_runV (As := [.int r_33, .int 17]) (rest := [.int (-r_82)]) ⟨hx, hb, hml, hown, htb⟩ (c_Md_lineOf_t l dC dI ct L f hO_0 q0 m0 r_33 (17 : Int32) po_34 po_35 (by decide +kernel) (by decide +kernel)) (cwV 2 htb (gd_V tw_611 tw_612 tw_613 tw_479 tw_610) rfl rfl rfl (by decide +kernel) ⟨Nat.le_of_ble_eq_true rfl, Nat.le_of_ble_eq_true rfl⟩) ⟨pr_blind, tw_recv hK hP m0 rfl rfl, pr_pre hP hK hN⟩ rfl rfl hl.1 rfl (lv_room (Nat.le_of_ble_eq_true rfl)) d_Md_hinders_263 ⟨Nat.le_of_ble_eq_true rfl, Nat.le_of_ble_eq_true rfl⟩)) (fun r_116 er_116 => ?_)
                                clear er_116
                                refine lv_icmp_le (tgt := 272) hx hb d_Md_hinders_266 (by decide) (fun c_117 => ?_) (fun c_117 => ?_)
                                · refine lv_aload_n hx hb d_Md_hinders_272 rfl (lv_at hl 4 rfl) ?_
                                  refine tw_getI (x := (ti f q0 1)) (D := (dC, dI)) (C := R_Md) (T := F_Md) (N := 64) (ci := 7) (kd := 27) (ct := ct) hx hb htb i_Md hown hK hP m0 rfl rfl 1 rfl (by decide) (htb (.fieldLink R_Md 7 "WaterMenModel" "time" "I") tw_476) (fun _ h9 => h9) rfl d_Md_hinders_273 ?_
                                  refine lv_aload_n hx hb d_Md_hinders_276 rfl (lv_at hl 4 rfl) ?_
                                  refine lv_iload_n hx hb d_Md_hinders_277 rfl (lv_at hl 5 rfl) ?_
                                  refine lv_iload_n hx hb d_Md_hinders_278 rfl (lv_at hl 7 rfl) ?_
                                  refine vp_callSi (va_Run.run (va_runV (As := [.int p_0, .int p_2]) (rest := [.int (ti f q0 1)]) ⟨hx, hb, hml, hown, htb⟩ (c_Md_minutesOf_t l dC dI ct L f hO_0 q0 m0 p_0 p_2 as_0 as_1 as_4 as_5) (cwV 2 htb (gd_V tw_629 tw_630 tw_631 tw_479 tw_628) rfl rfl rfl (by decide +kernel) ⟨Nat.le_of_ble_eq_true rfl, Nat.le_of_ble_eq_true rfl⟩) ⟨pr_blind, tw_recv hK hP m0 rfl rfl, pr_pre hP hK hN⟩ rfl rfl hl.1 rfl (lv_room (Nat.le_of_ble_eq_true rfl)) d_Md_hinders_279 ⟨Nat.le_of_ble_eq_true rfl, Nat.le_of_ble_eq_true rfl⟩)) (fun r_118 er_118 => ?_)
                                  clear er_118
                                  refine lv_iadd hx hb d_Md_hinders_282 ?_
                                  refine lv_ldcw (v := 359999) hx hb hown (htb (.constant R_Md 305 359999) tw_632) d_Md_hinders_283 ?_
                                  refine lv_icmp_le (tgt := 294) hx hb d_Md_hinders_286 (by decide) (fun c_119 => ?_) (fun c_119 => ?_)
                                  · refine lv_iconst (v := 0) hx hb d_Md_hinders_294 (by decide +kernel) ?_
                                    exact W.iret (v := 0) hx hb hr (fun t ht hW => ⟨0, rfl, trivial, ht⟩) t_nil d_Md_hinders_295
                                  · refine lv_bipush (v := 7) hx hb d_Md_hinders_289 (by decide +kernel) ?_
                                    refine lv_goto (tgt := 295) hx hb d_Md_hinders_291 (by decide) ?_
                                    exact W.iret (v := 7) hx hb hr (fun t ht hW => ⟨7, rfl, trivial, ht⟩) t_nil d_Md_hinders_295
                                · refine lv_bipush (v := 6) hx hb d_Md_hinders_269 (by decide +kernel) ?_
                                  exact W.iret (v := 6) hx hb hr (fun t ht hW => ⟨6, rfl, trivial, ht⟩) t_nil d_Md_hinders_271
                  · refine lv_iconst (v := 1) hx hb d_Md_hinders_143 (by decide +kernel) ?_
                    refine lv_goto (tgt := 148) hx hb d_Md_hinders_144 (by decide) ?_
                    refine lv_iload_n hx hb d_Md_hinders_148 rfl (lv_at hl 5 rfl) ?_
                    refine lv_aload_n hx hb d_Md_hinders_149 rfl (lv_at hl 2 rfl) ?_
                    refine tw_getI (x := x_48) (D := (dC, dI)) (C := R_Md) (T := F_Md) (N := 64) (ci := 7) (kd := 27) (ct := ct) hx hb htb i_Md hown hK hP m0 rfl rfl 4 e_48 (by decide) (htb (.fieldLink R_Md 35 "WaterMenModel" "bridge" "I") tw_490) (fun _ h9 => h9) rfl d_Md_hinders_150 ?_
                    refine lv_icmp_gt (tgt := 160) hx hb d_Md_hinders_153 (by decide) (fun c_120 => ?_) (fun c_120 => ?_)
                    · refine lv_iconst (v := 0) hx hb d_Md_hinders_160 (by decide +kernel) ?_
                      refine lv_icmp_eq (tgt := 168) hx hb d_Md_hinders_161 (by decide) (fun h => absurd h (by decide +kernel)) (fun _ => ?_)
                      refine lv_iconst (v := 1) hx hb d_Md_hinders_164 (by decide +kernel) ?_
                      refine lv_goto (tgt := 169) hx hb d_Md_hinders_165 (by decide) ?_
                      refine lv_istore (lv' := [(6, .int 1), (5, .int r_33), (4, .int x_19), (0, .ref q0), (1, .int p_0), (2, .int p_1), (3, .int p_2)]) hx hb d_Md_hinders_169 hl (by decide) rfl (fun ls hl => ?_)
                      refine lv_aload_n hx hb d_Md_hinders_171 rfl (lv_at hl 3 rfl) ?_
                      refine lv_aload_n hx hb d_Md_hinders_172 rfl (lv_at hl 3 rfl) ?_
                      refine vp_callSi (va_Run.run (va_runV (As := []) (rest := [.ref q0]) ⟨hx, hb, hml, hown, htb⟩ (c_Md_today_t l dC dI ct L f hO_0 q0 m0) (cwV 0 htb (gd_V tw_499 tw_500 tw_501 tw_479 tw_498) rfl rfl rfl (by decide +kernel) ⟨Nat.le_of_ble_eq_true rfl, Nat.le_of_ble_eq_true rfl⟩) ⟨pr_blind, tw_recv hK hP m0 rfl rfl, pr_pre hP hK hN⟩ rfl rfl hl.1 rfl (lv_room (Nat.le_of_ble_eq_true rfl)) d_Md_hinders_173 ⟨Nat.le_of_ble_eq_true rfl, Nat.le_of_ble_eq_true rfl⟩)) (fun r_121 er_121 => ?_)
                      obtain ⟨po_122, po_123, po_124, po_125, -⟩ := er_121
                      refine lv_aload_n hx hb d_Md_hinders_176 rfl (lv_at hl 3 rfl) ?_
                      refine vp_callSi (va_Run.run (va_runV (As := []) (rest := [.int r_121, .ref q0]) ⟨hx, hb, hml, hown, htb⟩ (c_Md_hourNow_t l dC dI ct L f hO_0 q0 m0) (cwV 0 htb (gd_V tw_625 tw_626 tw_627 tw_479 tw_624) rfl rfl rfl (by decide +kernel) ⟨Nat.le_of_ble_eq_true rfl, Nat.le_of_ble_eq_true rfl⟩) ⟨pr_blind, tw_recv hK hP m0 rfl rfl, pr_pre hP hK hN⟩ rfl rfl hl.1 rfl (lv_room (Nat.le_of_ble_eq_true rfl)) d_Md_hinders_177 ⟨Nat.le_of_ble_eq_true rfl, Nat.le_of_ble_eq_true rfl⟩)) (fun r_126 er_126 => ?_)
                      obtain ⟨po_127, po_128, -⟩ := er_126
                      refine vp_callSi (va_Run.run (va_runV (As := [.int r_121, .int r_126]) (rest := []) ⟨hx, hb, hml, hown, htb⟩ (c_Md_flowOf_t l dC dI ct L f hO_0 q0 m0 r_121 r_126 po_122 po_123 po_127 po_128) (cwV 2 htb (gd_V tw_495 tw_496 tw_497 tw_479 tw_494) rfl rfl rfl (by decide +kernel) ⟨Nat.le_of_ble_eq_true rfl, Nat.le_of_ble_eq_true rfl⟩) ⟨pr_blind, tw_recv hK hP m0 rfl rfl, pr_pre hP hK hN⟩ rfl rfl hl.1 rfl (lv_room (Nat.le_of_ble_eq_true rfl)) d_Md_hinders_180 ⟨Nat.le_of_ble_eq_true rfl, Nat.le_of_ble_eq_true rfl⟩)) (fun r_129 er_129 => ?_)
                      clear er_129
                      refine lv_istore (lv' := [(7, .int r_129), (6, .int 1), (5, .int r_33), (4, .int x_19), (0, .ref q0), (1, .int p_0), (2, .int p_1), (3, .int p_2)]) hx hb d_Md_hinders_183 hl (by decide) rfl (fun ls hl => ?_)
                      refine lv_iload hx hb d_Md_hinders_185 (lv_at hl 1 rfl) ?_
                      refine lv_if_eq (tgt := 229) hx hb d_Md_hinders_187 (by decide) (fun h => absurd h (by decide +kernel)) (fun _ => ?_)
                      refine lv_aload_n hx hb d_Md_hinders_190 rfl (lv_at hl 4 rfl) ?_
                      refine lv_iload hx hb d_Md_hinders_191 (lv_at hl 2 rfl) ?_
                      refine lv_bipush (v := 16) hx hb d_Md_hinders_193 (by decide +kernel) ?_
                      refine vp_callSi (va_Run.run (va_runV (As := [.int r_33, .int 16]) (rest := []) ⟨hx, hb, hml, hown, htb⟩ (c_Md_lineOf_t l dC dI ct L f hO_0 q0 m0 r_33 (16 : Int32) po_34 po_35 (by decide +kernel) (by decide +kernel)) (cwV 2 htb (gd_V tw_611 tw_612 tw_613 tw_479 tw_610) rfl rfl rfl (by decide +kernel) ⟨Nat.le_of_ble_eq_true rfl, Nat.le_of_ble_eq_true rfl⟩) ⟨pr_blind, tw_recv hK hP m0 rfl rfl, pr_pre hP hK hN⟩ rfl rfl hl.1 rfl (lv_room (Nat.le_of_ble_eq_true rfl)) d_Md_hinders_195 ⟨Nat.le_of_ble_eq_true rfl, Nat.le_of_ble_eq_true rfl⟩)) (fun r_130 er_130 => ?_)
                      clear er_130
                      refine lv_if_lt (tgt := 229) hx hb d_Md_hinders_198 (by decide) (fun c_131 => ?_) (fun c_131 => ?_)
                      · refine lv_iload hx hb d_Md_hinders_229 (lv_at hl 1 rfl) ?_
                        refine lv_if_eq (tgt := 272) hx hb d_Md_hinders_231 (by decide) (fun h => absurd h (by decide +kernel)) (fun _ => ?_)
                        refine lv_aload_n hx hb d_Md_hinders_234 rfl (lv_at hl 4 rfl) ?_
                        refine lv_iload hx hb d_Md_hinders_235 (lv_at hl 2 rfl) ?_
                        refine lv_bipush (v := 17) hx hb d_Md_hinders_237 (by decide +kernel) ?_
                        refine vp_callSi (va_Run.run (va_runV (As := [.int r_33, .int 17]) (rest := []) ⟨hx, hb, hml, hown, htb⟩ (c_Md_lineOf_t l dC dI ct L f hO_0 q0 m0 r_33 (17 : Int32) po_34 po_35 (by decide +kernel) (by decide +kernel)) (cwV 2 htb (gd_V tw_611 tw_612 tw_613 tw_479 tw_610) rfl rfl rfl (by decide +kernel) ⟨Nat.le_of_ble_eq_true rfl, Nat.le_of_ble_eq_true rfl⟩) ⟨pr_blind, tw_recv hK hP m0 rfl rfl, pr_pre hP hK hN⟩ rfl rfl hl.1 rfl (lv_room (Nat.le_of_ble_eq_true rfl)) d_Md_hinders_239 ⟨Nat.le_of_ble_eq_true rfl, Nat.le_of_ble_eq_true rfl⟩)) (fun r_132 er_132 => ?_)
                        clear er_132
                        refine lv_if_lt (tgt := 272) hx hb d_Md_hinders_242 (by decide) (fun c_133 => ?_) (fun c_133 => ?_)
                        · refine lv_aload_n hx hb d_Md_hinders_272 rfl (lv_at hl 4 rfl) ?_
                          refine tw_getI (x := (ti f q0 1)) (D := (dC, dI)) (C := R_Md) (T := F_Md) (N := 64) (ci := 7) (kd := 27) (ct := ct) hx hb htb i_Md hown hK hP m0 rfl rfl 1 rfl (by decide) (htb (.fieldLink R_Md 7 "WaterMenModel" "time" "I") tw_476) (fun _ h9 => h9) rfl d_Md_hinders_273 ?_
                          refine lv_aload_n hx hb d_Md_hinders_276 rfl (lv_at hl 4 rfl) ?_
                          refine lv_iload_n hx hb d_Md_hinders_277 rfl (lv_at hl 5 rfl) ?_
                          refine lv_iload_n hx hb d_Md_hinders_278 rfl (lv_at hl 7 rfl) ?_
                          refine vp_callSi (va_Run.run (va_runV (As := [.int p_0, .int p_2]) (rest := [.int (ti f q0 1)]) ⟨hx, hb, hml, hown, htb⟩ (c_Md_minutesOf_t l dC dI ct L f hO_0 q0 m0 p_0 p_2 as_0 as_1 as_4 as_5) (cwV 2 htb (gd_V tw_629 tw_630 tw_631 tw_479 tw_628) rfl rfl rfl (by decide +kernel) ⟨Nat.le_of_ble_eq_true rfl, Nat.le_of_ble_eq_true rfl⟩) ⟨pr_blind, tw_recv hK hP m0 rfl rfl, pr_pre hP hK hN⟩ rfl rfl hl.1 rfl (lv_room (Nat.le_of_ble_eq_true rfl)) d_Md_hinders_279 ⟨Nat.le_of_ble_eq_true rfl, Nat.le_of_ble_eq_true rfl⟩)) (fun r_134 er_134 => ?_)
                          clear er_134
                          refine lv_iadd hx hb d_Md_hinders_282 ?_
                          refine lv_ldcw (v := 359999) hx hb hown (htb (.constant R_Md 305 359999) tw_632) d_Md_hinders_283 ?_
                          refine lv_icmp_le (tgt := 294) hx hb d_Md_hinders_286 (by decide) (fun c_135 => ?_) (fun c_135 => ?_)
                          · refine lv_iconst (v := 0) hx hb d_Md_hinders_294 (by decide +kernel) ?_
                            exact W.iret (v := 0) hx hb hr (fun t ht hW => ⟨0, rfl, trivial, ht⟩) t_nil d_Md_hinders_295
                          · refine lv_bipush (v := 7) hx hb d_Md_hinders_289 (by decide +kernel) ?_
                            refine lv_goto (tgt := 295) hx hb d_Md_hinders_291 (by decide) ?_
                            exact W.iret (v := 7) hx hb hr (fun t ht hW => ⟨7, rfl, trivial, ht⟩) t_nil d_Md_hinders_295
                        · refine lv_iload hx hb d_Md_hinders_245 (lv_at hl 0 rfl) ?_
                          refine lv_if_ge (tgt := 256) hx hb d_Md_hinders_247 (by decide) (fun c_136 => ?_) (fun c_136 => ?_)
                          · refine lv_iload hx hb d_Md_hinders_256 (lv_at hl 0 rfl) ?_
                            refine lv_aload_n hx hb d_Md_hinders_258 rfl (lv_at hl 4 rfl) ?_
                            refine lv_iload hx hb d_Md_hinders_259 (lv_at hl 2 rfl) ?_
                            refine lv_bipush (v := 17) hx hb d_Md_hinders_261 (by decide +kernel) ?_
                            refine vp_callSi (va_Run.run (va_runV (As := [.int r_33, .int 17]) (rest := [.int r_129]) ⟨hx, hb, hml, hown, htb⟩ (c_Md_lineOf_t l dC dI ct L f hO_0 q0 m0 r_33 (17 : Int32) po_34 po_35 (by decide +kernel) (by decide +kernel)) (cwV 2 htb (gd_V tw_611 tw_612 tw_613 tw_479 tw_610) rfl rfl rfl (by decide +kernel) ⟨Nat.le_of_ble_eq_true rfl, Nat.le_of_ble_eq_true rfl⟩) ⟨pr_blind, tw_recv hK hP m0 rfl rfl, pr_pre hP hK hN⟩ rfl rfl hl.1 rfl (lv_room (Nat.le_of_ble_eq_true rfl)) d_Md_hinders_263 ⟨Nat.le_of_ble_eq_true rfl, Nat.le_of_ble_eq_true rfl⟩)) (fun r_137 er_137 => ?_)
                            clear er_137
                            refine lv_icmp_le (tgt := 272) hx hb d_Md_hinders_266 (by decide) (fun c_138 => ?_) (fun c_138 => ?_)
                            · refine lv_aload_n hx hb d_Md_hinders_272 rfl (lv_at hl 4 rfl) ?_
                              refine tw_getI (x := (ti f q0 1)) (D := (dC, dI)) (C := R_Md) (T := F_Md) (N := 64) (ci := 7) (kd := 27) (ct := ct) hx hb htb i_Md hown hK hP m0 rfl rfl 1 rfl (by decide) (htb (.fieldLink R_Md 7 "WaterMenModel" "time" "I") tw_476) (fun _ h9 => h9) rfl d_Md_hinders_273 ?_
                              refine lv_aload_n hx hb d_Md_hinders_276 rfl (lv_at hl 4 rfl) ?_
                              refine lv_iload_n hx hb d_Md_hinders_277 rfl (lv_at hl 5 rfl) ?_
                              refine lv_iload_n hx hb d_Md_hinders_278 rfl (lv_at hl 7 rfl) ?_
                              refine vp_callSi (va_Run.run (va_runV (As := [.int p_0, .int p_2]) (rest := [.int (ti f q0 1)]) ⟨hx, hb, hml, hown, htb⟩ (c_Md_minutesOf_t l dC dI ct L f hO_0 q0 m0 p_0 p_2 as_0 as_1 as_4 as_5) (cwV 2 htb (gd_V tw_629 tw_630 tw_631 tw_479 tw_628) rfl rfl rfl (by decide +kernel) ⟨Nat.le_of_ble_eq_true rfl, Nat.le_of_ble_eq_true rfl⟩) ⟨pr_blind, tw_recv hK hP m0 rfl rfl, pr_pre hP hK hN⟩ rfl rfl hl.1 rfl (lv_room (Nat.le_of_ble_eq_true rfl)) d_Md_hinders_279 ⟨Nat.le_of_ble_eq_true rfl, Nat.le_of_ble_eq_true rfl⟩)) (fun r_139 er_139 => ?_)
                              clear er_139
                              refine lv_iadd hx hb d_Md_hinders_282 ?_
                              refine lv_ldcw (v := 359999) hx hb hown (htb (.constant R_Md 305 359999) tw_632) d_Md_hinders_283 ?_
                              refine lv_icmp_le (tgt := 294) hx hb d_Md_hinders_286 (by decide) (fun c_140 => ?_) (fun c_140 => ?_)
                              · refine lv_iconst (v := 0) hx hb d_Md_hinders_294 (by decide +kernel) ?_
                                exact W.iret (v := 0) hx hb hr (fun t ht hW => ⟨0, rfl, trivial, ht⟩) t_nil d_Md_hinders_295
                              · refine lv_bipush (v := 7) hx hb d_Md_hinders_289 (by decide +kernel) ?_
                                refine lv_goto (tgt := 295) hx hb d_Md_hinders_291 (by decide) ?_
                                exact W.iret (v := 7) hx hb hr (fun t ht hW => ⟨7, rfl, trivial, ht⟩) t_nil d_Md_hinders_295
                            · refine lv_bipush (v := 6) hx hb d_Md_hinders_269 (by decide +kernel) ?_
                              exact W.iret (v := 6) hx hb hr (fun t ht hW => ⟨6, rfl, trivial, ht⟩) t_nil d_Md_hinders_271
                          · refine lv_iload hx hb d_Md_hinders_250 (lv_at hl 0 rfl) ?_
                            refine lv_ineg hx hb d_Md_hinders_252 ?_
                            refine lv_goto (tgt := 258) hx hb d_Md_hinders_253 (by decide) ?_
                            refine lv_aload_n hx hb d_Md_hinders_258 rfl (lv_at hl 4 rfl) ?_
                            refine lv_iload hx hb d_Md_hinders_259 (lv_at hl 2 rfl) ?_
                            refine lv_bipush (v := 17) hx hb d_Md_hinders_261 (by decide +kernel) ?_
                            refine vp_callSi (va_Run.run (va_runV (As := [.int r_33, .int 17]) (rest := [.int (-r_129)]) ⟨hx, hb, hml, hown, htb⟩ (c_Md_lineOf_t l dC dI ct L f hO_0 q0 m0 r_33 (17 : Int32) po_34 po_35 (by decide +kernel) (by decide +kernel)) (cwV 2 htb (gd_V tw_611 tw_612 tw_613 tw_479 tw_610) rfl rfl rfl (by decide +kernel) ⟨Nat.le_of_ble_eq_true rfl, Nat.le_of_ble_eq_true rfl⟩) ⟨pr_blind, tw_recv hK hP m0 rfl rfl, pr_pre hP hK hN⟩ rfl rfl hl.1 rfl (lv_room (Nat.le_of_ble_eq_true rfl)) d_Md_hinders_263 ⟨Nat.le_of_ble_eq_true rfl, Nat.le_of_ble_eq_true rfl⟩)) (fun r_141 er_141 => ?_)
                            clear er_141
                            refine lv_icmp_le (tgt := 272) hx hb d_Md_hinders_266 (by decide) (fun c_142 => ?_) (fun c_142 => ?_)
                            · refine lv_aload_n hx hb d_Md_hinders_272 rfl (lv_at hl 4 rfl) ?_
                              refine tw_getI (x := (ti f q0 1)) (D := (dC, dI)) (C := R_Md) (T := F_Md) (N := 64) (ci := 7) (kd := 27) (ct := ct) hx hb htb i_Md hown hK hP m0 rfl rfl 1 rfl (by decide) (htb (.fieldLink R_Md 7 "WaterMenModel" "time" "I") tw_476) (fun _ h9 => h9) rfl d_Md_hinders_273 ?_
                              refine lv_aload_n hx hb d_Md_hinders_276 rfl (lv_at hl 4 rfl) ?_
                              refine lv_iload_n hx hb d_Md_hinders_277 rfl (lv_at hl 5 rfl) ?_
                              refine lv_iload_n hx hb d_Md_hinders_278 rfl (lv_at hl 7 rfl) ?_
                              refine vp_callSi (va_Run.run (va_runV (As := [.int p_0, .int p_2]) (rest := [.int (ti f q0 1)]) ⟨hx, hb, hml, hown, htb⟩ (c_Md_minutesOf_t l dC dI ct L f hO_0 q0 m0 p_0 p_2 as_0 as_1 as_4 as_5) (cwV 2 htb (gd_V tw_629 tw_630 tw_631 tw_479 tw_628) rfl rfl rfl (by decide +kernel) ⟨Nat.le_of_ble_eq_true rfl, Nat.le_of_ble_eq_true rfl⟩) ⟨pr_blind, tw_recv hK hP m0 rfl rfl, pr_pre hP hK hN⟩ rfl rfl hl.1 rfl (lv_room (Nat.le_of_ble_eq_true rfl)) d_Md_hinders_279 ⟨Nat.le_of_ble_eq_true rfl, Nat.le_of_ble_eq_true rfl⟩)) (fun r_143 er_143 => ?_)
                              clear er_143
                              refine lv_iadd hx hb d_Md_hinders_282 ?_
                              refine lv_ldcw (v := 359999) hx hb hown (htb (.constant R_Md 305 359999) tw_632) d_Md_hinders_283 ?_
                              refine lv_icmp_le (tgt := 294) hx hb d_Md_hinders_286 (by decide) (fun c_144 => ?_) (fun c_144 => ?_)
                              · refine lv_iconst (v := 0) hx hb d_Md_hinders_294 (by decide +kernel) ?_
                                exact W.iret (v := 0) hx hb hr (fun t ht hW => ⟨0, rfl, trivial, ht⟩) t_nil d_Md_hinders_295
                              · refine lv_bipush (v := 7) hx hb d_Md_hinders_289 (by decide +kernel) ?_
                                refine lv_goto (tgt := 295) hx hb d_Md_hinders_291 (by decide) ?_
                                exact W.iret (v := 7) hx hb hr (fun t ht hW => ⟨7, rfl, trivial, ht⟩) t_nil d_Md_hinders_295
                            · refine lv_bipush (v := 6) hx hb d_Md_hinders_269 (by decide +kernel) ?_
                              exact W.iret (v := 6) hx hb hr (fun t ht hW => ⟨6, rfl, trivial, ht⟩) t_nil d_Md_hinders_271
                      · refine lv_aload_n hx hb d_Md_hinders_201 rfl (lv_at hl 4 rfl) ?_
                        refine vp_callSi (va_Run.run (va_runV (As := []) (rest := []) ⟨hx, hb, hml, hown, htb⟩ (c_Md_hourNow_t l dC dI ct L f hO_0 q0 m0) (cwV 0 htb (gd_V tw_625 tw_626 tw_627 tw_479 tw_624) rfl rfl rfl (by decide +kernel) ⟨Nat.le_of_ble_eq_true rfl, Nat.le_of_ble_eq_true rfl⟩) ⟨pr_blind, tw_recv hK hP m0 rfl rfl, pr_pre hP hK hN⟩ rfl rfl hl.1 rfl (lv_room (Nat.le_of_ble_eq_true rfl)) d_Md_hinders_202 ⟨Nat.le_of_ble_eq_true rfl, Nat.le_of_ble_eq_true rfl⟩)) (fun r_145 er_145 => ?_)
                        obtain ⟨po_146, po_147, -⟩ := er_145
                        refine lv_aload_n hx hb d_Md_hinders_205 rfl (lv_at hl 4 rfl) ?_
                        refine lv_iload hx hb d_Md_hinders_206 (lv_at hl 2 rfl) ?_
                        refine lv_bipush (v := 16) hx hb d_Md_hinders_208 (by decide +kernel) ?_
                        refine vp_callSi (va_Run.run (va_runV (As := [.int r_33, .int 16]) (rest := [.int r_145]) ⟨hx, hb, hml, hown, htb⟩ (c_Md_lineOf_t l dC dI ct L f hO_0 q0 m0 r_33 (16 : Int32) po_34 po_35 (by decide +kernel) (by decide +kernel)) (cwV 2 htb (gd_V tw_611 tw_612 tw_613 tw_479 tw_610) rfl rfl rfl (by decide +kernel) ⟨Nat.le_of_ble_eq_true rfl, Nat.le_of_ble_eq_true rfl⟩) ⟨pr_blind, tw_recv hK hP m0 rfl rfl, pr_pre hP hK hN⟩ rfl rfl hl.1 rfl (lv_room (Nat.le_of_ble_eq_true rfl)) d_Md_hinders_210 ⟨Nat.le_of_ble_eq_true rfl, Nat.le_of_ble_eq_true rfl⟩)) (fun r_148 er_148 => ?_)
                        clear er_148
                        refine lv_aload_n hx hb d_Md_hinders_213 rfl (lv_at hl 4 rfl) ?_
                        refine tw_getr (D := (dC, dI)) (C := R_Md) (T := F_Md) (N := 64) (ci := 7) (kd := 27) (ct := ct) hx hb htb i_Md hown hK hP hO_0 m0 rfl rfl 41 (by decide) (htb (.fieldLink R_Md 146 "WaterMenModel" "singleTo" "[I") tw_590) (fun _ h9 => h9) rfl d_Md_hinders_214 (fun q_149 e_149 m_149 => ?_)
                        refine lv_iload hx hb d_Md_hinders_217 (lv_at hl 2 rfl) ?_
                        refine tw_aldI (ct := ct) hx hb hK hP hO_0 m_149 rfl (hb_inl po_34 po_35 (by decide +kernel)) d_Md_hinders_219 (fun x_150 e_150 b_150 => ?_)
                        refine vp_callSi (va_Run.run (va_runS (As := [.int r_145, .int r_148, .int x_150]) (rest := []) ⟨hx, hb, hml, hown, htb⟩ (c_Md_in l r_145 r_148 x_150) (cwS 3 htb (gd_S tw_480 tw_481 tw_479 tw_478) rfl rfl rfl (by decide +kernel) ⟨Nat.le_of_ble_eq_true rfl, Nat.le_of_ble_eq_true rfl⟩) ⟨fun _ _ _ _ h => h, fun U _ _ => ⟨rfl, trivial⟩⟩ rfl rfl hl.1 rfl (lv_room (Nat.le_of_ble_eq_true rfl)) d_Md_hinders_220 ⟨Nat.le_of_ble_eq_true rfl, Nat.le_of_ble_eq_true rfl⟩)) (fun r er => ?_)
                        subst er
                        by_cases c_152 : r_145 < r_148
                        · refine hb_ti 0 (by unfold f_Md_in; rw [if_pos c_152]; first | done | rfl) ?_
                          refine lv_if_ne (tgt := 229) hx hb d_Md_hinders_223 (by decide) (fun h => absurd (by decide +kernel) h) (fun _ => ?_)
                          refine lv_bipush (v := 6) hx hb d_Md_hinders_226 (by decide +kernel) ?_
                          exact W.iret (v := 6) hx hb hr (fun t ht hW => ⟨6, rfl, trivial, ht⟩) t_nil d_Md_hinders_228
                        · by_cases c_153 : x_150 < r_145
                          · refine hb_ti 0 (by unfold f_Md_in; rw [if_neg c_152, if_pos c_153]; first | done | rfl) ?_
                            refine lv_if_ne (tgt := 229) hx hb d_Md_hinders_223 (by decide) (fun h => absurd (by decide +kernel) h) (fun _ => ?_)
                            refine lv_bipush (v := 6) hx hb d_Md_hinders_226 (by decide +kernel) ?_
                            exact W.iret (v := 6) hx hb hr (fun t ht hW => ⟨6, rfl, trivial, ht⟩) t_nil d_Md_hinders_228
                          · refine hb_ti 1 (by unfold f_Md_in; rw [if_neg c_152, if_neg c_153]; first | done | rfl) ?_
                            refine lv_if_ne (tgt := 229) hx hb d_Md_hinders_223 (by decide) (fun _ => ?_) (fun h => absurd h (by decide +kernel))
                            refine lv_iload hx hb d_Md_hinders_229 (lv_at hl 1 rfl) ?_
                            refine lv_if_eq (tgt := 272) hx hb d_Md_hinders_231 (by decide) (fun h => absurd h (by decide +kernel)) (fun _ => ?_)
                            refine lv_aload_n hx hb d_Md_hinders_234 rfl (lv_at hl 4 rfl) ?_
                            refine lv_iload hx hb d_Md_hinders_235 (lv_at hl 2 rfl) ?_
                            refine lv_bipush (v := 17) hx hb d_Md_hinders_237 (by decide +kernel) ?_
                            refine vp_callSi (va_Run.run (va_runV (As := [.int r_33, .int 17]) (rest := []) ⟨hx, hb, hml, hown, htb⟩ (c_Md_lineOf_t l dC dI ct L f hO_0 q0 m0 r_33 (17 : Int32) po_34 po_35 (by decide +kernel) (by decide +kernel)) (cwV 2 htb (gd_V tw_611 tw_612 tw_613 tw_479 tw_610) rfl rfl rfl (by decide +kernel) ⟨Nat.le_of_ble_eq_true rfl, Nat.le_of_ble_eq_true rfl⟩) ⟨pr_blind, tw_recv hK hP m0 rfl rfl, pr_pre hP hK hN⟩ rfl rfl hl.1 rfl (lv_room (Nat.le_of_ble_eq_true rfl)) d_Md_hinders_239 ⟨Nat.le_of_ble_eq_true rfl, Nat.le_of_ble_eq_true rfl⟩)) (fun r_154 er_154 => ?_)
                            clear er_154
                            refine lv_if_lt (tgt := 272) hx hb d_Md_hinders_242 (by decide) (fun c_155 => ?_) (fun c_155 => ?_)
                            · refine lv_aload_n hx hb d_Md_hinders_272 rfl (lv_at hl 4 rfl) ?_
                              refine tw_getI (x := (ti f q0 1)) (D := (dC, dI)) (C := R_Md) (T := F_Md) (N := 64) (ci := 7) (kd := 27) (ct := ct) hx hb htb i_Md hown hK hP m0 rfl rfl 1 rfl (by decide) (htb (.fieldLink R_Md 7 "WaterMenModel" "time" "I") tw_476) (fun _ h9 => h9) rfl d_Md_hinders_273 ?_
                              refine lv_aload_n hx hb d_Md_hinders_276 rfl (lv_at hl 4 rfl) ?_
                              refine lv_iload_n hx hb d_Md_hinders_277 rfl (lv_at hl 5 rfl) ?_
                              refine lv_iload_n hx hb d_Md_hinders_278 rfl (lv_at hl 7 rfl) ?_
                              refine vp_callSi (va_Run.run (va_runV (As := [.int p_0, .int p_2]) (rest := [.int (ti f q0 1)]) ⟨hx, hb, hml, hown, htb⟩ (c_Md_minutesOf_t l dC dI ct L f hO_0 q0 m0 p_0 p_2 as_0 as_1 as_4 as_5) (cwV 2 htb (gd_V tw_629 tw_630 tw_631 tw_479 tw_628) rfl rfl rfl (by decide +kernel) ⟨Nat.le_of_ble_eq_true rfl, Nat.le_of_ble_eq_true rfl⟩) ⟨pr_blind, tw_recv hK hP m0 rfl rfl, pr_pre hP hK hN⟩ rfl rfl hl.1 rfl (lv_room (Nat.le_of_ble_eq_true rfl)) d_Md_hinders_279 ⟨Nat.le_of_ble_eq_true rfl, Nat.le_of_ble_eq_true rfl⟩)) (fun r_156 er_156 => ?_)
                              clear er_156
                              refine lv_iadd hx hb d_Md_hinders_282 ?_
                              refine lv_ldcw (v := 359999) hx hb hown (htb (.constant R_Md 305 359999) tw_632) d_Md_hinders_283 ?_
                              refine lv_icmp_le (tgt := 294) hx hb d_Md_hinders_286 (by decide) (fun c_157 => ?_) (fun c_157 => ?_)
                              · refine lv_iconst (v := 0) hx hb d_Md_hinders_294 (by decide +kernel) ?_
                                exact W.iret (v := 0) hx hb hr (fun t ht hW => ⟨0, rfl, trivial, ht⟩) t_nil d_Md_hinders_295
                              · refine lv_bipush (v := 7) hx hb d_Md_hinders_289 (by decide +kernel) ?_
                                refine lv_goto (tgt := 295) hx hb d_Md_hinders_291 (by decide) ?_
                                exact W.iret (v := 7) hx hb hr (fun t ht hW => ⟨7, rfl, trivial, ht⟩) t_nil d_Md_hinders_295
                            · refine lv_iload hx hb d_Md_hinders_245 (lv_at hl 0 rfl) ?_
                              refine lv_if_ge (tgt := 256) hx hb d_Md_hinders_247 (by decide) (fun c_158 => ?_) (fun c_158 => ?_)
                              · refine lv_iload hx hb d_Md_hinders_256 (lv_at hl 0 rfl) ?_
                                refine lv_aload_n hx hb d_Md_hinders_258 rfl (lv_at hl 4 rfl) ?_
                                refine lv_iload hx hb d_Md_hinders_259 (lv_at hl 2 rfl) ?_
                                refine lv_bipush (v := 17) hx hb d_Md_hinders_261 (by decide +kernel) ?_
                                refine vp_callSi (va_Run.run (va_runV (As := [.int r_33, .int 17]) (rest := [.int r_129]) ⟨hx, hb, hml, hown, htb⟩ (c_Md_lineOf_t l dC dI ct L f hO_0 q0 m0 r_33 (17 : Int32) po_34 po_35 (by decide +kernel) (by decide +kernel)) (cwV 2 htb (gd_V tw_611 tw_612 tw_613 tw_479 tw_610) rfl rfl rfl (by decide +kernel) ⟨Nat.le_of_ble_eq_true rfl, Nat.le_of_ble_eq_true rfl⟩) ⟨pr_blind, tw_recv hK hP m0 rfl rfl, pr_pre hP hK hN⟩ rfl rfl hl.1 rfl (lv_room (Nat.le_of_ble_eq_true rfl)) d_Md_hinders_263 ⟨Nat.le_of_ble_eq_true rfl, Nat.le_of_ble_eq_true rfl⟩)) (fun r_159 er_159 => ?_)
                                clear er_159
                                refine lv_icmp_le (tgt := 272) hx hb d_Md_hinders_266 (by decide) (fun c_160 => ?_) (fun c_160 => ?_)
                                · refine lv_aload_n hx hb d_Md_hinders_272 rfl (lv_at hl 4 rfl) ?_
                                  refine tw_getI (x := (ti f q0 1)) (D := (dC, dI)) (C := R_Md) (T := F_Md) (N := 64) (ci := 7) (kd := 27) (ct := ct) hx hb htb i_Md hown hK hP m0 rfl rfl 1 rfl (by decide) (htb (.fieldLink R_Md 7 "WaterMenModel" "time" "I") tw_476) (fun _ h9 => h9) rfl d_Md_hinders_273 ?_
                                  refine lv_aload_n hx hb d_Md_hinders_276 rfl (lv_at hl 4 rfl) ?_
                                  refine lv_iload_n hx hb d_Md_hinders_277 rfl (lv_at hl 5 rfl) ?_
                                  refine lv_iload_n hx hb d_Md_hinders_278 rfl (lv_at hl 7 rfl) ?_
                                  refine vp_callSi (va_Run.run (va_runV (As := [.int p_0, .int p_2]) (rest := [.int (ti f q0 1)]) ⟨hx, hb, hml, hown, htb⟩ (c_Md_minutesOf_t l dC dI ct L f hO_0 q0 m0 p_0 p_2 as_0 as_1 as_4 as_5) (cwV 2 htb (gd_V tw_629 tw_630 tw_631 tw_479 tw_628) rfl rfl rfl (by decide +kernel) ⟨Nat.le_of_ble_eq_true rfl, Nat.le_of_ble_eq_true rfl⟩) ⟨pr_blind, tw_recv hK hP m0 rfl rfl, pr_pre hP hK hN⟩ rfl rfl hl.1 rfl (lv_room (Nat.le_of_ble_eq_true rfl)) d_Md_hinders_279 ⟨Nat.le_of_ble_eq_true rfl, Nat.le_of_ble_eq_true rfl⟩)) (fun r_161 er_161 => ?_)
                                  clear er_161
                                  refine lv_iadd hx hb d_Md_hinders_282 ?_
                                  refine lv_ldcw (v := 359999) hx hb hown (htb (.constant R_Md 305 359999) tw_632) d_Md_hinders_283 ?_
                                  refine lv_icmp_le (tgt := 294) hx hb d_Md_hinders_286 (by decide) (fun c_162 => ?_) (fun c_162 => ?_)
                                  · refine lv_iconst (v := 0) hx hb d_Md_hinders_294 (by decide +kernel) ?_
                                    exact W.iret (v := 0) hx hb hr (fun t ht hW => ⟨0, rfl, trivial, ht⟩) t_nil d_Md_hinders_295
                                  · refine lv_bipush (v := 7) hx hb d_Md_hinders_289 (by decide +kernel) ?_
                                    refine lv_goto (tgt := 295) hx hb d_Md_hinders_291 (by decide) ?_
                                    exact W.iret (v := 7) hx hb hr (fun t ht hW => ⟨7, rfl, trivial, ht⟩) t_nil d_Md_hinders_295
                                · refine lv_bipush (v := 6) hx hb d_Md_hinders_269 (by decide +kernel) ?_
                                  exact W.iret (v := 6) hx hb hr (fun t ht hW => ⟨6, rfl, trivial, ht⟩) t_nil d_Md_hinders_271
                              · refine lv_iload hx hb d_Md_hinders_250 (lv_at hl 0 rfl) ?_
                                refine lv_ineg hx hb d_Md_hinders_252 ?_
                                refine lv_goto (tgt := 258) hx hb d_Md_hinders_253 (by decide) ?_
                                refine lv_aload_n hx hb d_Md_hinders_258 rfl (lv_at hl 4 rfl) ?_
                                refine lv_iload hx hb d_Md_hinders_259 (lv_at hl 2 rfl) ?_
                                refine lv_bipush (v := 17) hx hb d_Md_hinders_261 (by decide +kernel) ?_
                                refine vp_callSi (va_Run.run (va_runV (As := [.int r_33, .int 17]) (rest := [.int (-r_129)]) ⟨hx, hb, hml, hown, htb⟩ (c_Md_lineOf_t l dC dI ct L f hO_0 q0 m0 r_33 (17 : Int32) po_34 po_35 (by decide +kernel) (by decide +kernel)) (cwV 2 htb (gd_V tw_611 tw_612 tw_613 tw_479 tw_610) rfl rfl rfl (by decide +kernel) ⟨Nat.le_of_ble_eq_true rfl, Nat.le_of_ble_eq_true rfl⟩) ⟨pr_blind, tw_recv hK hP m0 rfl rfl, pr_pre hP hK hN⟩ rfl rfl hl.1 rfl (lv_room (Nat.le_of_ble_eq_true rfl)) d_Md_hinders_263 ⟨Nat.le_of_ble_eq_true rfl, Nat.le_of_ble_eq_true rfl⟩)) (fun r_163 er_163 => ?_)
                                clear er_163
                                refine lv_icmp_le (tgt := 272) hx hb d_Md_hinders_266 (by decide) (fun c_164 => ?_) (fun c_164 => ?_)
                                · refine lv_aload_n hx hb d_Md_hinders_272 rfl (lv_at hl 4 rfl) ?_
                                  refine tw_getI (x := (ti f q0 1)) (D := (dC, dI)) (C := R_Md) (T := F_Md) (N := 64) (ci := 7) (kd := 27) (ct := ct) hx hb htb i_Md hown hK hP m0 rfl rfl 1 rfl (by decide) (htb (.fieldLink R_Md 7 "WaterMenModel" "time" "I") tw_476) (fun _ h9 => h9) rfl d_Md_hinders_273 ?_
                                  refine lv_aload_n hx hb d_Md_hinders_276 rfl (lv_at hl 4 rfl) ?_
                                  refine lv_iload_n hx hb d_Md_hinders_277 rfl (lv_at hl 5 rfl) ?_
                                  refine lv_iload_n hx hb d_Md_hinders_278 rfl (lv_at hl 7 rfl) ?_
                                  refine vp_callSi (va_Run.run (va_runV (As := [.int p_0, .int p_2]) (rest := [.int (ti f q0 1)]) ⟨hx, hb, hml, hown, htb⟩ (c_Md_minutesOf_t l dC dI ct L f hO_0 q0 m0 p_0 p_2 as_0 as_1 as_4 as_5) (cwV 2 htb (gd_V tw_629 tw_630 tw_631 tw_479 tw_628) rfl rfl rfl (by decide +kernel) ⟨Nat.le_of_ble_eq_true rfl, Nat.le_of_ble_eq_true rfl⟩) ⟨pr_blind, tw_recv hK hP m0 rfl rfl, pr_pre hP hK hN⟩ rfl rfl hl.1 rfl (lv_room (Nat.le_of_ble_eq_true rfl)) d_Md_hinders_279 ⟨Nat.le_of_ble_eq_true rfl, Nat.le_of_ble_eq_true rfl⟩)) (fun r_165 er_165 => ?_)
                                  clear er_165
                                  refine lv_iadd hx hb d_Md_hinders_282 ?_
                                  refine lv_ldcw (v := 359999) hx hb hown (htb (.constant R_Md 305 359999) tw_632) d_Md_hinders_283 ?_
                                  refine lv_icmp_le (tgt := 294) hx hb d_Md_hinders_286 (by decide) (fun c_166 => ?_) (fun c_166 => ?_)
                                  · refine lv_iconst (v := 0) hx hb d_Md_hinders_294 (by decide +kernel) ?_
                                    exact W.iret (v := 0) hx hb hr (fun t ht hW => ⟨0, rfl, trivial, ht⟩) t_nil d_Md_hinders_295
                                  · refine lv_bipush (v := 7) hx hb d_Md_hinders_289 (by decide +kernel) ?_
                                    refine lv_goto (tgt := 295) hx hb d_Md_hinders_291 (by decide) ?_
                                    exact W.iret (v := 7) hx hb hr (fun t ht hW => ⟨7, rfl, trivial, ht⟩) t_nil d_Md_hinders_295
                                · refine lv_bipush (v := 6) hx hb d_Md_hinders_269 (by decide +kernel) ?_
                                  exact W.iret (v := 6) hx hb hr (fun t ht hW => ⟨6, rfl, trivial, ht⟩) t_nil d_Md_hinders_271
                    · refine lv_iconst (v := 1) hx hb d_Md_hinders_156 (by decide +kernel) ?_
                      refine lv_goto (tgt := 161) hx hb d_Md_hinders_157 (by decide) ?_
                      refine lv_icmp_eq (tgt := 168) hx hb d_Md_hinders_161 (by decide) (fun _ => ?_) (fun h => absurd (by decide +kernel) h)
                      refine lv_iconst (v := 0) hx hb d_Md_hinders_168 (by decide +kernel) ?_
                      refine lv_istore (lv' := [(6, .int 0), (5, .int r_33), (4, .int x_19), (0, .ref q0), (1, .int p_0), (2, .int p_1), (3, .int p_2)]) hx hb d_Md_hinders_169 hl (by decide) rfl (fun ls hl => ?_)
                      refine lv_aload_n hx hb d_Md_hinders_171 rfl (lv_at hl 3 rfl) ?_
                      refine lv_aload_n hx hb d_Md_hinders_172 rfl (lv_at hl 3 rfl) ?_
                      refine vp_callSi (va_Run.run (va_runV (As := []) (rest := [.ref q0]) ⟨hx, hb, hml, hown, htb⟩ (c_Md_today_t l dC dI ct L f hO_0 q0 m0) (cwV 0 htb (gd_V tw_499 tw_500 tw_501 tw_479 tw_498) rfl rfl rfl (by decide +kernel) ⟨Nat.le_of_ble_eq_true rfl, Nat.le_of_ble_eq_true rfl⟩) ⟨pr_blind, tw_recv hK hP m0 rfl rfl, pr_pre hP hK hN⟩ rfl rfl hl.1 rfl (lv_room (Nat.le_of_ble_eq_true rfl)) d_Md_hinders_173 ⟨Nat.le_of_ble_eq_true rfl, Nat.le_of_ble_eq_true rfl⟩)) (fun r_167 er_167 => ?_)
                      obtain ⟨po_168, po_169, po_170, po_171, -⟩ := er_167
                      refine lv_aload_n hx hb d_Md_hinders_176 rfl (lv_at hl 3 rfl) ?_
                      refine vp_callSi (va_Run.run (va_runV (As := []) (rest := [.int r_167, .ref q0]) ⟨hx, hb, hml, hown, htb⟩ (c_Md_hourNow_t l dC dI ct L f hO_0 q0 m0) (cwV 0 htb (gd_V tw_625 tw_626 tw_627 tw_479 tw_624) rfl rfl rfl (by decide +kernel) ⟨Nat.le_of_ble_eq_true rfl, Nat.le_of_ble_eq_true rfl⟩) ⟨pr_blind, tw_recv hK hP m0 rfl rfl, pr_pre hP hK hN⟩ rfl rfl hl.1 rfl (lv_room (Nat.le_of_ble_eq_true rfl)) d_Md_hinders_177 ⟨Nat.le_of_ble_eq_true rfl, Nat.le_of_ble_eq_true rfl⟩)) (fun r_172 er_172 => ?_)
                      obtain ⟨po_173, po_174, -⟩ := er_172
                      refine vp_callSi (va_Run.run (va_runV (As := [.int r_167, .int r_172]) (rest := []) ⟨hx, hb, hml, hown, htb⟩ (c_Md_flowOf_t l dC dI ct L f hO_0 q0 m0 r_167 r_172 po_168 po_169 po_173 po_174) (cwV 2 htb (gd_V tw_495 tw_496 tw_497 tw_479 tw_494) rfl rfl rfl (by decide +kernel) ⟨Nat.le_of_ble_eq_true rfl, Nat.le_of_ble_eq_true rfl⟩) ⟨pr_blind, tw_recv hK hP m0 rfl rfl, pr_pre hP hK hN⟩ rfl rfl hl.1 rfl (lv_room (Nat.le_of_ble_eq_true rfl)) d_Md_hinders_180 ⟨Nat.le_of_ble_eq_true rfl, Nat.le_of_ble_eq_true rfl⟩)) (fun r_175 er_175 => ?_)
                      clear er_175
                      refine lv_istore (lv' := [(7, .int r_175), (6, .int 0), (5, .int r_33), (4, .int x_19), (0, .ref q0), (1, .int p_0), (2, .int p_1), (3, .int p_2)]) hx hb d_Md_hinders_183 hl (by decide) rfl (fun ls hl => ?_)
                      refine lv_iload hx hb d_Md_hinders_185 (lv_at hl 1 rfl) ?_
                      refine lv_if_eq (tgt := 229) hx hb d_Md_hinders_187 (by decide) (fun _ => ?_) (fun h => absurd (by decide +kernel) h)
                      refine lv_iload hx hb d_Md_hinders_229 (lv_at hl 1 rfl) ?_
                      refine lv_if_eq (tgt := 272) hx hb d_Md_hinders_231 (by decide) (fun _ => ?_) (fun h => absurd (by decide +kernel) h)
                      refine lv_aload_n hx hb d_Md_hinders_272 rfl (lv_at hl 4 rfl) ?_
                      refine tw_getI (x := (ti f q0 1)) (D := (dC, dI)) (C := R_Md) (T := F_Md) (N := 64) (ci := 7) (kd := 27) (ct := ct) hx hb htb i_Md hown hK hP m0 rfl rfl 1 rfl (by decide) (htb (.fieldLink R_Md 7 "WaterMenModel" "time" "I") tw_476) (fun _ h9 => h9) rfl d_Md_hinders_273 ?_
                      refine lv_aload_n hx hb d_Md_hinders_276 rfl (lv_at hl 4 rfl) ?_
                      refine lv_iload_n hx hb d_Md_hinders_277 rfl (lv_at hl 5 rfl) ?_
                      refine lv_iload_n hx hb d_Md_hinders_278 rfl (lv_at hl 7 rfl) ?_
                      refine vp_callSi (va_Run.run (va_runV (As := [.int p_0, .int p_2]) (rest := [.int (ti f q0 1)]) ⟨hx, hb, hml, hown, htb⟩ (c_Md_minutesOf_t l dC dI ct L f hO_0 q0 m0 p_0 p_2 as_0 as_1 as_4 as_5) (cwV 2 htb (gd_V tw_629 tw_630 tw_631 tw_479 tw_628) rfl rfl rfl (by decide +kernel) ⟨Nat.le_of_ble_eq_true rfl, Nat.le_of_ble_eq_true rfl⟩) ⟨pr_blind, tw_recv hK hP m0 rfl rfl, pr_pre hP hK hN⟩ rfl rfl hl.1 rfl (lv_room (Nat.le_of_ble_eq_true rfl)) d_Md_hinders_279 ⟨Nat.le_of_ble_eq_true rfl, Nat.le_of_ble_eq_true rfl⟩)) (fun r_176 er_176 => ?_)
                      clear er_176
                      refine lv_iadd hx hb d_Md_hinders_282 ?_
                      refine lv_ldcw (v := 359999) hx hb hown (htb (.constant R_Md 305 359999) tw_632) d_Md_hinders_283 ?_
                      refine lv_icmp_le (tgt := 294) hx hb d_Md_hinders_286 (by decide) (fun c_177 => ?_) (fun c_177 => ?_)
                      · refine lv_iconst (v := 0) hx hb d_Md_hinders_294 (by decide +kernel) ?_
                        exact W.iret (v := 0) hx hb hr (fun t ht hW => ⟨0, rfl, trivial, ht⟩) t_nil d_Md_hinders_295
                      · refine lv_bipush (v := 7) hx hb d_Md_hinders_289 (by decide +kernel) ?_
                        refine lv_goto (tgt := 295) hx hb d_Md_hinders_291 (by decide) ?_
                        exact W.iret (v := 7) hx hb hr (fun t ht hW => ⟨7, rfl, trivial, ht⟩) t_nil d_Md_hinders_295
              · refine lv_iconst (v := 5) hx hb d_Md_hinders_125 (by decide +kernel) ?_
                exact W.iret (v := 5) hx hb hr (fun t ht hW => ⟨5, rfl, trivial, ht⟩) t_nil d_Md_hinders_126
          · refine lv_aload_n hx hb d_Md_hinders_64 rfl (lv_at hl 1 rfl) ?_
            refine tw_getr (D := (dC, dI)) (C := R_Md) (T := F_Md) (N := 64) (ci := 7) (kd := 27) (ct := ct) hx hb htb i_Md hown hK hP hO_0 m0 rfl rfl 20 (by decide) (htb (.fieldLink R_Md 91 "WaterMenModel" "turn" "[I") tw_517) (fun _ h9 => h9) rfl d_Md_hinders_65 (fun q_178 e_178 m_178 => ?_)
            refine lv_bipush (v := 40) hx hb d_Md_hinders_68 (by decide +kernel) ?_
            refine lv_iload hx hb d_Md_hinders_70 (lv_at hl 0 rfl) ?_
            refine lv_imul hx hb d_Md_hinders_72 ?_
            refine tw_aldI (ct := ct) hx hb hK hP hO_0 m_178 rfl ((fun (a_0 : Int32) (k_0 : ¬ (a_0 < 0)) (k_1 : ¬ (11 < a_0)) => (show vp_in ((40 * a_0)) 480 from by have z0 : (0 : Int32).toInt = 0 := (by decide +kernel); have z1 : (11 : Int32).toInt = 11 := (by decide +kernel); have z2 : (40 : Int32).toInt = 40 := (by decide +kernel); have r0 := fb_rng (a_0); have e0 := k_0; rw [Int32.lt_iff_toInt_lt, z0] at e0; have e1 := k_1; rw [Int32.lt_iff_toInt_lt, z1] at e1; obtain ⟨n_0, hn_0, s0⟩ := nd_mul (x := (40 : Int32)) (y := (a_0)) (by (try rw [z2]); omega) (by (try rw [z2]); omega); rw [z2] at s0; rw [hn_0, vp_in_iff]; omega)) x_19 b_19.1 b_19.2) d_Md_hinders_73 (fun x_179 e_179 b_179 => ?_)
            refine lv_iload_n hx hb d_Md_hinders_74 rfl (lv_at hl 3 rfl) ?_
            refine lv_icmp_eq (tgt := 80) hx hb d_Md_hinders_75 (by decide) (fun c_180 => ?_) (fun c_180 => ?_)
            · refine lv_aload_n hx hb d_Md_hinders_80 rfl (lv_at hl 1 rfl) ?_
              refine lv_aload_n hx hb d_Md_hinders_81 rfl (lv_at hl 1 rfl) ?_
              refine vp_callSi (va_Run.run (va_runV (As := []) (rest := [.ref q0]) ⟨hx, hb, hml, hown, htb⟩ (c_Md_today_t l dC dI ct L f hO_0 q0 m0) (cwV 0 htb (gd_V tw_499 tw_500 tw_501 tw_479 tw_498) rfl rfl rfl (by decide +kernel) ⟨Nat.le_of_ble_eq_true rfl, Nat.le_of_ble_eq_true rfl⟩) ⟨pr_blind, tw_recv hK hP m0 rfl rfl, pr_pre hP hK hN⟩ rfl rfl hl.1 rfl (lv_room (Nat.le_of_ble_eq_true rfl)) d_Md_hinders_82 ⟨Nat.le_of_ble_eq_true rfl, Nat.le_of_ble_eq_true rfl⟩)) (fun r_181 er_181 => ?_)
              obtain ⟨po_182, po_183, po_184, po_185, -⟩ := er_181
              refine lv_aload_n hx hb d_Md_hinders_85 rfl (lv_at hl 1 rfl) ?_
              refine vp_callSi (va_Run.run (va_runV (As := []) (rest := [.int r_181, .ref q0]) ⟨hx, hb, hml, hown, htb⟩ (c_Md_today_t l dC dI ct L f hO_0 q0 m0) (cwV 0 htb (gd_V tw_499 tw_500 tw_501 tw_479 tw_498) rfl rfl rfl (by decide +kernel) ⟨Nat.le_of_ble_eq_true rfl, Nat.le_of_ble_eq_true rfl⟩) ⟨pr_blind, tw_recv hK hP m0 rfl rfl, pr_pre hP hK hN⟩ rfl rfl hl.1 rfl (lv_room (Nat.le_of_ble_eq_true rfl)) d_Md_hinders_86 ⟨Nat.le_of_ble_eq_true rfl, Nat.le_of_ble_eq_true rfl⟩)) (fun r_186 er_186 => ?_)
              obtain ⟨po_187, po_188, po_189, po_190, -⟩ := er_186
              refine vp_callSi (va_Run.run (va_runV (As := [.int r_181, .int r_186]) (rest := []) ⟨hx, hb, hml, hown, htb⟩ (c_Md_forceOn_t l dC dI ct L f hO_0 q0 m0 r_181 r_186) (cwV 2 htb (gd_V tw_607 tw_608 tw_609 tw_479 tw_606) rfl rfl rfl (by decide +kernel) ⟨Nat.le_of_ble_eq_true rfl, Nat.le_of_ble_eq_true rfl⟩) ⟨pr_blind, tw_recv hK hP m0 rfl rfl, pr_pre hP hK hN⟩ rfl rfl hl.1 rfl (lv_room (Nat.le_of_ble_eq_true rfl)) d_Md_hinders_89 ⟨Nat.le_of_ble_eq_true rfl, Nat.le_of_ble_eq_true rfl⟩)) (fun r_191 er_191 => ?_)
              rcases er_191 with ⟨rfl, -⟩ | ⟨po_192, po_193, -⟩
              · refine lv_istore (lv' := [(5, .int (-2)), (4, .int x_19), (0, .ref q0), (1, .int p_0), (2, .int p_1), (3, .int p_2)]) hx hb d_Md_hinders_92 hl (by decide) rfl (fun ls hl => ?_)
                refine lv_iload hx hb d_Md_hinders_94 (lv_at hl 0 rfl) ?_
                refine lv_if_lt (tgt := 125) hx hb d_Md_hinders_96 (by decide) (fun _ => ?_) (fun h => absurd (by decide +kernel) h)
                refine lv_iconst (v := 5) hx hb d_Md_hinders_125 (by decide +kernel) ?_
                exact W.iret (v := 5) hx hb hr (fun t ht hW => ⟨5, rfl, trivial, ht⟩) t_nil d_Md_hinders_126
              · refine lv_istore (lv' := [(5, .int r_191), (4, .int x_19), (0, .ref q0), (1, .int p_0), (2, .int p_1), (3, .int p_2)]) hx hb d_Md_hinders_92 hl (by decide) rfl (fun ls hl => ?_)
                refine lv_iload hx hb d_Md_hinders_94 (lv_at hl 0 rfl) ?_
                refine lv_if_lt (tgt := 125) hx hb d_Md_hinders_96 (by decide) (fun h => absurd h po_192) (fun _ => ?_)
                refine lv_aload_n hx hb d_Md_hinders_99 rfl (lv_at hl 2 rfl) ?_
                refine lv_iload hx hb d_Md_hinders_100 (lv_at hl 0 rfl) ?_
                refine lv_iload hx hb d_Md_hinders_102 (lv_at hl 1 rfl) ?_
                refine lv_iload_n hx hb d_Md_hinders_104 rfl (lv_at hl 5 rfl) ?_
                refine lv_aload_n hx hb d_Md_hinders_105 rfl (lv_at hl 2 rfl) ?_
                refine vp_callSi (va_Run.run (va_runV (As := []) (rest := [.int p_2, .int x_19, .int r_191, .ref q0]) ⟨hx, hb, hml, hown, htb⟩ (c_Md_today_t l dC dI ct L f hO_0 q0 m0) (cwV 0 htb (gd_V tw_499 tw_500 tw_501 tw_479 tw_498) rfl rfl rfl (by decide +kernel) ⟨Nat.le_of_ble_eq_true rfl, Nat.le_of_ble_eq_true rfl⟩) ⟨pr_blind, tw_recv hK hP m0 rfl rfl, pr_pre hP hK hN⟩ rfl rfl hl.1 rfl (lv_room (Nat.le_of_ble_eq_true rfl)) d_Md_hinders_106 ⟨Nat.le_of_ble_eq_true rfl, Nat.le_of_ble_eq_true rfl⟩)) (fun r_194 er_194 => ?_)
                obtain ⟨po_195, po_196, po_197, po_198, -⟩ := er_194
                refine lv_aload_n hx hb d_Md_hinders_109 rfl (lv_at hl 2 rfl) ?_
                refine vp_callSi (va_Run.run (va_runV (As := []) (rest := [.int r_194, .int p_2, .int x_19, .int r_191, .ref q0]) ⟨hx, hb, hml, hown, htb⟩ (c_Md_hourNow_t l dC dI ct L f hO_0 q0 m0) (cwV 0 htb (gd_V tw_625 tw_626 tw_627 tw_479 tw_624) rfl rfl rfl (by decide +kernel) ⟨Nat.le_of_ble_eq_true rfl, Nat.le_of_ble_eq_true rfl⟩) ⟨pr_blind, tw_recv hK hP m0 rfl rfl, pr_pre hP hK hN⟩ rfl rfl hl.1 rfl (lv_room (Nat.le_of_ble_eq_true rfl)) d_Md_hinders_110 ⟨Nat.le_of_ble_eq_true rfl, Nat.le_of_ble_eq_true rfl⟩)) (fun r_199 er_199 => ?_)
                obtain ⟨po_200, po_201, -⟩ := er_199
                refine lv_aload_n hx hb d_Md_hinders_113 rfl (lv_at hl 2 rfl) ?_
                refine tw_getr (D := (dC, dI)) (C := R_Md) (T := F_Md) (N := 64) (ci := 7) (kd := 27) (ct := ct) hx hb htb i_Md hown hK hP hO_0 m0 rfl rfl 22 (by decide) (htb (.fieldLink R_Md 94 "WaterMenModel" "boatOars" "[I") tw_538) (fun _ h9 => h9) rfl d_Md_hinders_114 (fun q_202 e_202 m_202 => ?_)
                refine lv_iload_n hx hb d_Md_hinders_117 rfl (lv_at hl 3 rfl) ?_
                refine tw_aldI (ct := ct) hx hb hK hP hO_0 m_202 rfl (hb_inl as_0 as_1 (by decide +kernel)) d_Md_hinders_118 (fun x_203 e_203 b_203 => ?_)
                refine vp_callSi (va_Run.run (va_runV (As := [.int r_191, .int x_19, .int p_2, .int r_194, .int r_199, .int x_203]) (rest := []) ⟨hx, hb, hml, hown, htb⟩ (c_Md_fareOf_t l dC dI ct L f hO_0 q0 m0 r_191 x_19 p_2 r_194 r_199 x_203 po_192 po_193 b_19.1 b_19.2 as_4 as_5 po_195 po_196 po_200 po_201) (cwV 6 htb (gd_V tw_621 tw_622 tw_623 tw_479 tw_620) rfl rfl rfl (by decide +kernel) ⟨Nat.le_of_ble_eq_true rfl, Nat.le_of_ble_eq_true rfl⟩) ⟨pr_blind, tw_recv hK hP m0 rfl rfl, pr_pre hP hK hN⟩ rfl rfl hl.1 rfl (lv_room (Nat.le_of_ble_eq_true rfl)) d_Md_hinders_119 ⟨Nat.le_of_ble_eq_true rfl, Nat.le_of_ble_eq_true rfl⟩)) (fun r_204 er_204 => ?_)
                clear er_204
                refine lv_if_ge (tgt := 127) hx hb d_Md_hinders_122 (by decide) (fun c_205 => ?_) (fun c_205 => ?_)
                · refine lv_aload_n hx hb d_Md_hinders_127 rfl (lv_at hl 2 rfl) ?_
                  refine tw_geti (D := (dC, dI)) (C := R_Md) (T := F_Md) (N := 64) (ci := 7) (kd := 27) (ct := ct) hx hb htb i_Md hown hK hP hO_0 m0 rfl rfl 4 (by decide) (htb (.fieldLink R_Md 35 "WaterMenModel" "bridge" "I") tw_490) (fun _ h9 => h9) rfl d_Md_hinders_128 (fun x_206 e_206 b_206 => ?_)
                  refine lv_if_lt (tgt := 168) hx hb d_Md_hinders_131 (by decide) (fun c_207 => ?_) (fun c_207 => ?_)
                  · refine lv_iconst (v := 0) hx hb d_Md_hinders_168 (by decide +kernel) ?_
                    refine lv_istore (lv' := [(6, .int 0), (5, .int r_191), (4, .int x_19), (0, .ref q0), (1, .int p_0), (2, .int p_1), (3, .int p_2)]) hx hb d_Md_hinders_169 hl (by decide) rfl (fun ls hl => ?_)
                    refine lv_aload_n hx hb d_Md_hinders_171 rfl (lv_at hl 3 rfl) ?_
                    refine lv_aload_n hx hb d_Md_hinders_172 rfl (lv_at hl 3 rfl) ?_
                    refine vp_callSi (va_Run.run (va_runV (As := []) (rest := [.ref q0]) ⟨hx, hb, hml, hown, htb⟩ (c_Md_today_t l dC dI ct L f hO_0 q0 m0) (cwV 0 htb (gd_V tw_499 tw_500 tw_501 tw_479 tw_498) rfl rfl rfl (by decide +kernel) ⟨Nat.le_of_ble_eq_true rfl, Nat.le_of_ble_eq_true rfl⟩) ⟨pr_blind, tw_recv hK hP m0 rfl rfl, pr_pre hP hK hN⟩ rfl rfl hl.1 rfl (lv_room (Nat.le_of_ble_eq_true rfl)) d_Md_hinders_173 ⟨Nat.le_of_ble_eq_true rfl, Nat.le_of_ble_eq_true rfl⟩)) (fun r_208 er_208 => ?_)
                    obtain ⟨po_209, po_210, po_211, po_212, -⟩ := er_208
                    refine lv_aload_n hx hb d_Md_hinders_176 rfl (lv_at hl 3 rfl) ?_
                    refine vp_callSi (va_Run.run (va_runV (As := []) (rest := [.int r_208, .ref q0]) ⟨hx, hb, hml, hown, htb⟩ (c_Md_hourNow_t l dC dI ct L f hO_0 q0 m0) (cwV 0 htb (gd_V tw_625 tw_626 tw_627 tw_479 tw_624) rfl rfl rfl (by decide +kernel) ⟨Nat.le_of_ble_eq_true rfl, Nat.le_of_ble_eq_true rfl⟩) ⟨pr_blind, tw_recv hK hP m0 rfl rfl, pr_pre hP hK hN⟩ rfl rfl hl.1 rfl (lv_room (Nat.le_of_ble_eq_true rfl)) d_Md_hinders_177 ⟨Nat.le_of_ble_eq_true rfl, Nat.le_of_ble_eq_true rfl⟩)) (fun r_213 er_213 => ?_)
                    obtain ⟨po_214, po_215, -⟩ := er_213
                    refine vp_callSi (va_Run.run (va_runV (As := [.int r_208, .int r_213]) (rest := []) ⟨hx, hb, hml, hown, htb⟩ (c_Md_flowOf_t l dC dI ct L f hO_0 q0 m0 r_208 r_213 po_209 po_210 po_214 po_215) (cwV 2 htb (gd_V tw_495 tw_496 tw_497 tw_479 tw_494) rfl rfl rfl (by decide +kernel) ⟨Nat.le_of_ble_eq_true rfl, Nat.le_of_ble_eq_true rfl⟩) ⟨pr_blind, tw_recv hK hP m0 rfl rfl, pr_pre hP hK hN⟩ rfl rfl hl.1 rfl (lv_room (Nat.le_of_ble_eq_true rfl)) d_Md_hinders_180 ⟨Nat.le_of_ble_eq_true rfl, Nat.le_of_ble_eq_true rfl⟩)) (fun r_216 er_216 => ?_)
                    clear er_216
                    refine lv_istore (lv' := [(7, .int r_216), (6, .int 0), (5, .int r_191), (4, .int x_19), (0, .ref q0), (1, .int p_0), (2, .int p_1), (3, .int p_2)]) hx hb d_Md_hinders_183 hl (by decide) rfl (fun ls hl => ?_)
                    refine lv_iload hx hb d_Md_hinders_185 (lv_at hl 1 rfl) ?_
                    refine lv_if_eq (tgt := 229) hx hb d_Md_hinders_187 (by decide) (fun _ => ?_) (fun h => absurd (by decide +kernel) h)
                    refine lv_iload hx hb d_Md_hinders_229 (lv_at hl 1 rfl) ?_
                    refine lv_if_eq (tgt := 272) hx hb d_Md_hinders_231 (by decide) (fun _ => ?_) (fun h => absurd (by decide +kernel) h)
                    refine lv_aload_n hx hb d_Md_hinders_272 rfl (lv_at hl 4 rfl) ?_
                    refine tw_getI (x := (ti f q0 1)) (D := (dC, dI)) (C := R_Md) (T := F_Md) (N := 64) (ci := 7) (kd := 27) (ct := ct) hx hb htb i_Md hown hK hP m0 rfl rfl 1 rfl (by decide) (htb (.fieldLink R_Md 7 "WaterMenModel" "time" "I") tw_476) (fun _ h9 => h9) rfl d_Md_hinders_273 ?_
                    refine lv_aload_n hx hb d_Md_hinders_276 rfl (lv_at hl 4 rfl) ?_
                    refine lv_iload_n hx hb d_Md_hinders_277 rfl (lv_at hl 5 rfl) ?_
                    refine lv_iload_n hx hb d_Md_hinders_278 rfl (lv_at hl 7 rfl) ?_
                    refine vp_callSi (va_Run.run (va_runV (As := [.int p_0, .int p_2]) (rest := [.int (ti f q0 1)]) ⟨hx, hb, hml, hown, htb⟩ (c_Md_minutesOf_t l dC dI ct L f hO_0 q0 m0 p_0 p_2 as_0 as_1 as_4 as_5) (cwV 2 htb (gd_V tw_629 tw_630 tw_631 tw_479 tw_628) rfl rfl rfl (by decide +kernel) ⟨Nat.le_of_ble_eq_true rfl, Nat.le_of_ble_eq_true rfl⟩) ⟨pr_blind, tw_recv hK hP m0 rfl rfl, pr_pre hP hK hN⟩ rfl rfl hl.1 rfl (lv_room (Nat.le_of_ble_eq_true rfl)) d_Md_hinders_279 ⟨Nat.le_of_ble_eq_true rfl, Nat.le_of_ble_eq_true rfl⟩)) (fun r_217 er_217 => ?_)
                    clear er_217
                    refine lv_iadd hx hb d_Md_hinders_282 ?_
                    refine lv_ldcw (v := 359999) hx hb hown (htb (.constant R_Md 305 359999) tw_632) d_Md_hinders_283 ?_
                    refine lv_icmp_le (tgt := 294) hx hb d_Md_hinders_286 (by decide) (fun c_218 => ?_) (fun c_218 => ?_)
                    · refine lv_iconst (v := 0) hx hb d_Md_hinders_294 (by decide +kernel) ?_
                      exact W.iret (v := 0) hx hb hr (fun t ht hW => ⟨0, rfl, trivial, ht⟩) t_nil d_Md_hinders_295
                    · refine lv_bipush (v := 7) hx hb d_Md_hinders_289 (by decide +kernel) ?_
                      refine lv_goto (tgt := 295) hx hb d_Md_hinders_291 (by decide) ?_
                      exact W.iret (v := 7) hx hb hr (fun t ht hW => ⟨7, rfl, trivial, ht⟩) t_nil d_Md_hinders_295
                  · refine lv_iload hx hb d_Md_hinders_134 (lv_at hl 1 rfl) ?_
                    refine lv_aload_n hx hb d_Md_hinders_136 rfl (lv_at hl 2 rfl) ?_
                    refine tw_getI (x := x_206) (D := (dC, dI)) (C := R_Md) (T := F_Md) (N := 64) (ci := 7) (kd := 27) (ct := ct) hx hb htb i_Md hown hK hP m0 rfl rfl 4 e_206 (by decide) (htb (.fieldLink R_Md 35 "WaterMenModel" "bridge" "I") tw_490) (fun _ h9 => h9) rfl d_Md_hinders_137 ?_
                    refine lv_icmp_gt (tgt := 147) hx hb d_Md_hinders_140 (by decide) (fun c_219 => ?_) (fun c_219 => ?_)
                    · refine lv_iconst (v := 0) hx hb d_Md_hinders_147 (by decide +kernel) ?_
                      refine lv_iload_n hx hb d_Md_hinders_148 rfl (lv_at hl 5 rfl) ?_
                      refine lv_aload_n hx hb d_Md_hinders_149 rfl (lv_at hl 2 rfl) ?_
                      refine tw_getI (x := x_206) (D := (dC, dI)) (C := R_Md) (T := F_Md) (N := 64) (ci := 7) (kd := 27) (ct := ct) hx hb htb i_Md hown hK hP m0 rfl rfl 4 e_206 (by decide) (htb (.fieldLink R_Md 35 "WaterMenModel" "bridge" "I") tw_490) (fun _ h9 => h9) rfl d_Md_hinders_150 ?_
                      refine lv_icmp_gt (tgt := 160) hx hb d_Md_hinders_153 (by decide) (fun c_220 => ?_) (fun c_220 => ?_)
                      · refine lv_iconst (v := 0) hx hb d_Md_hinders_160 (by decide +kernel) ?_
                        refine lv_icmp_eq (tgt := 168) hx hb d_Md_hinders_161 (by decide) (fun _ => ?_) (fun h => absurd (by decide +kernel) h)
                        refine lv_iconst (v := 0) hx hb d_Md_hinders_168 (by decide +kernel) ?_
                        refine lv_istore (lv' := [(6, .int 0), (5, .int r_191), (4, .int x_19), (0, .ref q0), (1, .int p_0), (2, .int p_1), (3, .int p_2)]) hx hb d_Md_hinders_169 hl (by decide) rfl (fun ls hl => ?_)
                        refine lv_aload_n hx hb d_Md_hinders_171 rfl (lv_at hl 3 rfl) ?_
                        refine lv_aload_n hx hb d_Md_hinders_172 rfl (lv_at hl 3 rfl) ?_
                        refine vp_callSi (va_Run.run (va_runV (As := []) (rest := [.ref q0]) ⟨hx, hb, hml, hown, htb⟩ (c_Md_today_t l dC dI ct L f hO_0 q0 m0) (cwV 0 htb (gd_V tw_499 tw_500 tw_501 tw_479 tw_498) rfl rfl rfl (by decide +kernel) ⟨Nat.le_of_ble_eq_true rfl, Nat.le_of_ble_eq_true rfl⟩) ⟨pr_blind, tw_recv hK hP m0 rfl rfl, pr_pre hP hK hN⟩ rfl rfl hl.1 rfl (lv_room (Nat.le_of_ble_eq_true rfl)) d_Md_hinders_173 ⟨Nat.le_of_ble_eq_true rfl, Nat.le_of_ble_eq_true rfl⟩)) (fun r_221 er_221 => ?_)
                        obtain ⟨po_222, po_223, po_224, po_225, -⟩ := er_221
                        refine lv_aload_n hx hb d_Md_hinders_176 rfl (lv_at hl 3 rfl) ?_
                        refine vp_callSi (va_Run.run (va_runV (As := []) (rest := [.int r_221, .ref q0]) ⟨hx, hb, hml, hown, htb⟩ (c_Md_hourNow_t l dC dI ct L f hO_0 q0 m0) (cwV 0 htb (gd_V tw_625 tw_626 tw_627 tw_479 tw_624) rfl rfl rfl (by decide +kernel) ⟨Nat.le_of_ble_eq_true rfl, Nat.le_of_ble_eq_true rfl⟩) ⟨pr_blind, tw_recv hK hP m0 rfl rfl, pr_pre hP hK hN⟩ rfl rfl hl.1 rfl (lv_room (Nat.le_of_ble_eq_true rfl)) d_Md_hinders_177 ⟨Nat.le_of_ble_eq_true rfl, Nat.le_of_ble_eq_true rfl⟩)) (fun r_226 er_226 => ?_)
                        obtain ⟨po_227, po_228, -⟩ := er_226
                        refine vp_callSi (va_Run.run (va_runV (As := [.int r_221, .int r_226]) (rest := []) ⟨hx, hb, hml, hown, htb⟩ (c_Md_flowOf_t l dC dI ct L f hO_0 q0 m0 r_221 r_226 po_222 po_223 po_227 po_228) (cwV 2 htb (gd_V tw_495 tw_496 tw_497 tw_479 tw_494) rfl rfl rfl (by decide +kernel) ⟨Nat.le_of_ble_eq_true rfl, Nat.le_of_ble_eq_true rfl⟩) ⟨pr_blind, tw_recv hK hP m0 rfl rfl, pr_pre hP hK hN⟩ rfl rfl hl.1 rfl (lv_room (Nat.le_of_ble_eq_true rfl)) d_Md_hinders_180 ⟨Nat.le_of_ble_eq_true rfl, Nat.le_of_ble_eq_true rfl⟩)) (fun r_229 er_229 => ?_)
                        clear er_229
                        refine lv_istore (lv' := [(7, .int r_229), (6, .int 0), (5, .int r_191), (4, .int x_19), (0, .ref q0), (1, .int p_0), (2, .int p_1), (3, .int p_2)]) hx hb d_Md_hinders_183 hl (by decide) rfl (fun ls hl => ?_)
                        refine lv_iload hx hb d_Md_hinders_185 (lv_at hl 1 rfl) ?_
                        refine lv_if_eq (tgt := 229) hx hb d_Md_hinders_187 (by decide) (fun _ => ?_) (fun h => absurd (by decide +kernel) h)
                        refine lv_iload hx hb d_Md_hinders_229 (lv_at hl 1 rfl) ?_
                        refine lv_if_eq (tgt := 272) hx hb d_Md_hinders_231 (by decide) (fun _ => ?_) (fun h => absurd (by decide +kernel) h)
                        refine lv_aload_n hx hb d_Md_hinders_272 rfl (lv_at hl 4 rfl) ?_
                        refine tw_getI (x := (ti f q0 1)) (D := (dC, dI)) (C := R_Md) (T := F_Md) (N := 64) (ci := 7) (kd := 27) (ct := ct) hx hb htb i_Md hown hK hP m0 rfl rfl 1 rfl (by decide) (htb (.fieldLink R_Md 7 "WaterMenModel" "time" "I") tw_476) (fun _ h9 => h9) rfl d_Md_hinders_273 ?_
                        refine lv_aload_n hx hb d_Md_hinders_276 rfl (lv_at hl 4 rfl) ?_
                        refine lv_iload_n hx hb d_Md_hinders_277 rfl (lv_at hl 5 rfl) ?_
                        refine lv_iload_n hx hb d_Md_hinders_278 rfl (lv_at hl 7 rfl) ?_
                        refine vp_callSi (va_Run.run (va_runV (As := [.int p_0, .int p_2]) (rest := [.int (ti f q0 1)]) ⟨hx, hb, hml, hown, htb⟩ (c_Md_minutesOf_t l dC dI ct L f hO_0 q0 m0 p_0 p_2 as_0 as_1 as_4 as_5) (cwV 2 htb (gd_V tw_629 tw_630 tw_631 tw_479 tw_628) rfl rfl rfl (by decide +kernel) ⟨Nat.le_of_ble_eq_true rfl, Nat.le_of_ble_eq_true rfl⟩) ⟨pr_blind, tw_recv hK hP m0 rfl rfl, pr_pre hP hK hN⟩ rfl rfl hl.1 rfl (lv_room (Nat.le_of_ble_eq_true rfl)) d_Md_hinders_279 ⟨Nat.le_of_ble_eq_true rfl, Nat.le_of_ble_eq_true rfl⟩)) (fun r_230 er_230 => ?_)
                        clear er_230
                        refine lv_iadd hx hb d_Md_hinders_282 ?_
                        refine lv_ldcw (v := 359999) hx hb hown (htb (.constant R_Md 305 359999) tw_632) d_Md_hinders_283 ?_
                        refine lv_icmp_le (tgt := 294) hx hb d_Md_hinders_286 (by decide) (fun c_231 => ?_) (fun c_231 => ?_)
                        · refine lv_iconst (v := 0) hx hb d_Md_hinders_294 (by decide +kernel) ?_
                          exact W.iret (v := 0) hx hb hr (fun t ht hW => ⟨0, rfl, trivial, ht⟩) t_nil d_Md_hinders_295
                        · refine lv_bipush (v := 7) hx hb d_Md_hinders_289 (by decide +kernel) ?_
                          refine lv_goto (tgt := 295) hx hb d_Md_hinders_291 (by decide) ?_
                          exact W.iret (v := 7) hx hb hr (fun t ht hW => ⟨7, rfl, trivial, ht⟩) t_nil d_Md_hinders_295
                      · refine lv_iconst (v := 1) hx hb d_Md_hinders_156 (by decide +kernel) ?_
                        refine lv_goto (tgt := 161) hx hb d_Md_hinders_157 (by decide) ?_
                        refine lv_icmp_eq (tgt := 168) hx hb d_Md_hinders_161 (by decide) (fun h => absurd h (by decide +kernel)) (fun _ => ?_)
                        refine lv_iconst (v := 1) hx hb d_Md_hinders_164 (by decide +kernel) ?_
                        refine lv_goto (tgt := 169) hx hb d_Md_hinders_165 (by decide) ?_
                        refine lv_istore (lv' := [(6, .int 1), (5, .int r_191), (4, .int x_19), (0, .ref q0), (1, .int p_0), (2, .int p_1), (3, .int p_2)]) hx hb d_Md_hinders_169 hl (by decide) rfl (fun ls hl => ?_)
                        refine lv_aload_n hx hb d_Md_hinders_171 rfl (lv_at hl 3 rfl) ?_
                        refine lv_aload_n hx hb d_Md_hinders_172 rfl (lv_at hl 3 rfl) ?_
                        refine vp_callSi (va_Run.run (va_runV (As := []) (rest := [.ref q0]) ⟨hx, hb, hml, hown, htb⟩ (c_Md_today_t l dC dI ct L f hO_0 q0 m0) (cwV 0 htb (gd_V tw_499 tw_500 tw_501 tw_479 tw_498) rfl rfl rfl (by decide +kernel) ⟨Nat.le_of_ble_eq_true rfl, Nat.le_of_ble_eq_true rfl⟩) ⟨pr_blind, tw_recv hK hP m0 rfl rfl, pr_pre hP hK hN⟩ rfl rfl hl.1 rfl (lv_room (Nat.le_of_ble_eq_true rfl)) d_Md_hinders_173 ⟨Nat.le_of_ble_eq_true rfl, Nat.le_of_ble_eq_true rfl⟩)) (fun r_232 er_232 => ?_)
                        obtain ⟨po_233, po_234, po_235, po_236, -⟩ := er_232
                        refine lv_aload_n hx hb d_Md_hinders_176 rfl (lv_at hl 3 rfl) ?_
                        refine vp_callSi (va_Run.run (va_runV (As := []) (rest := [.int r_232, .ref q0]) ⟨hx, hb, hml, hown, htb⟩ (c_Md_hourNow_t l dC dI ct L f hO_0 q0 m0) (cwV 0 htb (gd_V tw_625 tw_626 tw_627 tw_479 tw_624) rfl rfl rfl (by decide +kernel) ⟨Nat.le_of_ble_eq_true rfl, Nat.le_of_ble_eq_true rfl⟩) ⟨pr_blind, tw_recv hK hP m0 rfl rfl, pr_pre hP hK hN⟩ rfl rfl hl.1 rfl (lv_room (Nat.le_of_ble_eq_true rfl)) d_Md_hinders_177 ⟨Nat.le_of_ble_eq_true rfl, Nat.le_of_ble_eq_true rfl⟩)) (fun r_237 er_237 => ?_)
                        obtain ⟨po_238, po_239, -⟩ := er_237
                        refine vp_callSi (va_Run.run (va_runV (As := [.int r_232, .int r_237]) (rest := []) ⟨hx, hb, hml, hown, htb⟩ (c_Md_flowOf_t l dC dI ct L f hO_0 q0 m0 r_232 r_237 po_233 po_234 po_238 po_239) (cwV 2 htb (gd_V tw_495 tw_496 tw_497 tw_479 tw_494) rfl rfl rfl (by decide +kernel) ⟨Nat.le_of_ble_eq_true rfl, Nat.le_of_ble_eq_true rfl⟩) ⟨pr_blind, tw_recv hK hP m0 rfl rfl, pr_pre hP hK hN⟩ rfl rfl hl.1 rfl (lv_room (Nat.le_of_ble_eq_true rfl)) d_Md_hinders_180 ⟨Nat.le_of_ble_eq_true rfl, Nat.le_of_ble_eq_true rfl⟩)) (fun r_240 er_240 => ?_)
                        clear er_240
                        refine lv_istore (lv' := [(7, .int r_240), (6, .int 1), (5, .int r_191), (4, .int x_19), (0, .ref q0), (1, .int p_0), (2, .int p_1), (3, .int p_2)]) hx hb d_Md_hinders_183 hl (by decide) rfl (fun ls hl => ?_)
                        refine lv_iload hx hb d_Md_hinders_185 (lv_at hl 1 rfl) ?_
                        refine lv_if_eq (tgt := 229) hx hb d_Md_hinders_187 (by decide) (fun h => absurd h (by decide +kernel)) (fun _ => ?_)
                        refine lv_aload_n hx hb d_Md_hinders_190 rfl (lv_at hl 4 rfl) ?_
                        refine lv_iload hx hb d_Md_hinders_191 (lv_at hl 2 rfl) ?_
                        refine lv_bipush (v := 16) hx hb d_Md_hinders_193 (by decide +kernel) ?_
                        refine vp_callSi (va_Run.run (va_runV (As := [.int r_191, .int 16]) (rest := []) ⟨hx, hb, hml, hown, htb⟩ (c_Md_lineOf_t l dC dI ct L f hO_0 q0 m0 r_191 (16 : Int32) po_192 po_193 (by decide +kernel) (by decide +kernel)) (cwV 2 htb (gd_V tw_611 tw_612 tw_613 tw_479 tw_610) rfl rfl rfl (by decide +kernel) ⟨Nat.le_of_ble_eq_true rfl, Nat.le_of_ble_eq_true rfl⟩) ⟨pr_blind, tw_recv hK hP m0 rfl rfl, pr_pre hP hK hN⟩ rfl rfl hl.1 rfl (lv_room (Nat.le_of_ble_eq_true rfl)) d_Md_hinders_195 ⟨Nat.le_of_ble_eq_true rfl, Nat.le_of_ble_eq_true rfl⟩)) (fun r_241 er_241 => ?_)
                        clear er_241
                        refine lv_if_lt (tgt := 229) hx hb d_Md_hinders_198 (by decide) (fun c_242 => ?_) (fun c_242 => ?_)
                        · refine lv_iload hx hb d_Md_hinders_229 (lv_at hl 1 rfl) ?_
                          refine lv_if_eq (tgt := 272) hx hb d_Md_hinders_231 (by decide) (fun h => absurd h (by decide +kernel)) (fun _ => ?_)
                          refine lv_aload_n hx hb d_Md_hinders_234 rfl (lv_at hl 4 rfl) ?_
                          refine lv_iload hx hb d_Md_hinders_235 (lv_at hl 2 rfl) ?_
                          refine lv_bipush (v := 17) hx hb d_Md_hinders_237 (by decide +kernel) ?_
                          refine vp_callSi (va_Run.run (va_runV (As := [.int r_191, .int 17]) (rest := []) ⟨hx, hb, hml, hown, htb⟩ (c_Md_lineOf_t l dC dI ct L f hO_0 q0 m0 r_191 (17 : Int32) po_192 po_193 (by decide +kernel) (by decide +kernel)) (cwV 2 htb (gd_V tw_611 tw_612 tw_613 tw_479 tw_610) rfl rfl rfl (by decide +kernel) ⟨Nat.le_of_ble_eq_true rfl, Nat.le_of_ble_eq_true rfl⟩) ⟨pr_blind, tw_recv hK hP m0 rfl rfl, pr_pre hP hK hN⟩ rfl rfl hl.1 rfl (lv_room (Nat.le_of_ble_eq_true rfl)) d_Md_hinders_239 ⟨Nat.le_of_ble_eq_true rfl, Nat.le_of_ble_eq_true rfl⟩)) (fun r_243 er_243 => ?_)
                          clear er_243
                          refine lv_if_lt (tgt := 272) hx hb d_Md_hinders_242 (by decide) (fun c_244 => ?_) (fun c_244 => ?_)
                          · refine lv_aload_n hx hb d_Md_hinders_272 rfl (lv_at hl 4 rfl) ?_
                            refine tw_getI (x := (ti f q0 1)) (D := (dC, dI)) (C := R_Md) (T := F_Md) (N := 64) (ci := 7) (kd := 27) (ct := ct) hx hb htb i_Md hown hK hP m0 rfl rfl 1 rfl (by decide) (htb (.fieldLink R_Md 7 "WaterMenModel" "time" "I") tw_476) (fun _ h9 => h9) rfl d_Md_hinders_273 ?_
                            refine lv_aload_n hx hb d_Md_hinders_276 rfl (lv_at hl 4 rfl) ?_
                            refine lv_iload_n hx hb d_Md_hinders_277 rfl (lv_at hl 5 rfl) ?_
                            refine lv_iload_n hx hb d_Md_hinders_278 rfl (lv_at hl 7 rfl) ?_
                            refine vp_callSi (va_Run.run (va_runV (As := [.int p_0, .int p_2]) (rest := [.int (ti f q0 1)]) ⟨hx, hb, hml, hown, htb⟩ (c_Md_minutesOf_t l dC dI ct L f hO_0 q0 m0 p_0 p_2 as_0 as_1 as_4 as_5) (cwV 2 htb (gd_V tw_629 tw_630 tw_631 tw_479 tw_628) rfl rfl rfl (by decide +kernel) ⟨Nat.le_of_ble_eq_true rfl, Nat.le_of_ble_eq_true rfl⟩) ⟨pr_blind, tw_recv hK hP m0 rfl rfl, pr_pre hP hK hN⟩ rfl rfl hl.1 rfl (lv_room (Nat.le_of_ble_eq_true rfl)) d_Md_hinders_279 ⟨Nat.le_of_ble_eq_true rfl, Nat.le_of_ble_eq_true rfl⟩)) (fun r_245 er_245 => ?_)
                            clear er_245
                            refine lv_iadd hx hb d_Md_hinders_282 ?_
                            refine lv_ldcw (v := 359999) hx hb hown (htb (.constant R_Md 305 359999) tw_632) d_Md_hinders_283 ?_
                            refine lv_icmp_le (tgt := 294) hx hb d_Md_hinders_286 (by decide) (fun c_246 => ?_) (fun c_246 => ?_)
                            · refine lv_iconst (v := 0) hx hb d_Md_hinders_294 (by decide +kernel) ?_
                              exact W.iret (v := 0) hx hb hr (fun t ht hW => ⟨0, rfl, trivial, ht⟩) t_nil d_Md_hinders_295
                            · refine lv_bipush (v := 7) hx hb d_Md_hinders_289 (by decide +kernel) ?_
                              refine lv_goto (tgt := 295) hx hb d_Md_hinders_291 (by decide) ?_
                              exact W.iret (v := 7) hx hb hr (fun t ht hW => ⟨7, rfl, trivial, ht⟩) t_nil d_Md_hinders_295
                          · refine lv_iload hx hb d_Md_hinders_245 (lv_at hl 0 rfl) ?_
                            refine lv_if_ge (tgt := 256) hx hb d_Md_hinders_247 (by decide) (fun c_247 => ?_) (fun c_247 => ?_)
                            · refine lv_iload hx hb d_Md_hinders_256 (lv_at hl 0 rfl) ?_
                              refine lv_aload_n hx hb d_Md_hinders_258 rfl (lv_at hl 4 rfl) ?_
                              refine lv_iload hx hb d_Md_hinders_259 (lv_at hl 2 rfl) ?_
                              refine lv_bipush (v := 17) hx hb d_Md_hinders_261 (by decide +kernel) ?_
                              refine vp_callSi (va_Run.run (va_runV (As := [.int r_191, .int 17]) (rest := [.int r_240]) ⟨hx, hb, hml, hown, htb⟩ (c_Md_lineOf_t l dC dI ct L f hO_0 q0 m0 r_191 (17 : Int32) po_192 po_193 (by decide +kernel) (by decide +kernel)) (cwV 2 htb (gd_V tw_611 tw_612 tw_613 tw_479 tw_610) rfl rfl rfl (by decide +kernel) ⟨Nat.le_of_ble_eq_true rfl, Nat.le_of_ble_eq_true rfl⟩) ⟨pr_blind, tw_recv hK hP m0 rfl rfl, pr_pre hP hK hN⟩ rfl rfl hl.1 rfl (lv_room (Nat.le_of_ble_eq_true rfl)) d_Md_hinders_263 ⟨Nat.le_of_ble_eq_true rfl, Nat.le_of_ble_eq_true rfl⟩)) (fun r_248 er_248 => ?_)
                              clear er_248
                              refine lv_icmp_le (tgt := 272) hx hb d_Md_hinders_266 (by decide) (fun c_249 => ?_) (fun c_249 => ?_)
                              · refine lv_aload_n hx hb d_Md_hinders_272 rfl (lv_at hl 4 rfl) ?_
                                refine tw_getI (x := (ti f q0 1)) (D := (dC, dI)) (C := R_Md) (T := F_Md) (N := 64) (ci := 7) (kd := 27) (ct := ct) hx hb htb i_Md hown hK hP m0 rfl rfl 1 rfl (by decide) (htb (.fieldLink R_Md 7 "WaterMenModel" "time" "I") tw_476) (fun _ h9 => h9) rfl d_Md_hinders_273 ?_
                                refine lv_aload_n hx hb d_Md_hinders_276 rfl (lv_at hl 4 rfl) ?_
                                refine lv_iload_n hx hb d_Md_hinders_277 rfl (lv_at hl 5 rfl) ?_
                                refine lv_iload_n hx hb d_Md_hinders_278 rfl (lv_at hl 7 rfl) ?_
                                refine vp_callSi (va_Run.run (va_runV (As := [.int p_0, .int p_2]) (rest := [.int (ti f q0 1)]) ⟨hx, hb, hml, hown, htb⟩ (c_Md_minutesOf_t l dC dI ct L f hO_0 q0 m0 p_0 p_2 as_0 as_1 as_4 as_5) (cwV 2 htb (gd_V tw_629 tw_630 tw_631 tw_479 tw_628) rfl rfl rfl (by decide +kernel) ⟨Nat.le_of_ble_eq_true rfl, Nat.le_of_ble_eq_true rfl⟩) ⟨pr_blind, tw_recv hK hP m0 rfl rfl, pr_pre hP hK hN⟩ rfl rfl hl.1 rfl (lv_room (Nat.le_of_ble_eq_true rfl)) d_Md_hinders_279 ⟨Nat.le_of_ble_eq_true rfl, Nat.le_of_ble_eq_true rfl⟩)) (fun r_250 er_250 => ?_)
                                clear er_250
                                refine lv_iadd hx hb d_Md_hinders_282 ?_
                                refine lv_ldcw (v := 359999) hx hb hown (htb (.constant R_Md 305 359999) tw_632) d_Md_hinders_283 ?_
                                refine lv_icmp_le (tgt := 294) hx hb d_Md_hinders_286 (by decide) (fun c_251 => ?_) (fun c_251 => ?_)
                                · refine lv_iconst (v := 0) hx hb d_Md_hinders_294 (by decide +kernel) ?_
                                  exact W.iret (v := 0) hx hb hr (fun t ht hW => ⟨0, rfl, trivial, ht⟩) t_nil d_Md_hinders_295
                                · refine lv_bipush (v := 7) hx hb d_Md_hinders_289 (by decide +kernel) ?_
                                  refine lv_goto (tgt := 295) hx hb d_Md_hinders_291 (by decide) ?_
                                  exact W.iret (v := 7) hx hb hr (fun t ht hW => ⟨7, rfl, trivial, ht⟩) t_nil d_Md_hinders_295
                              · refine lv_bipush (v := 6) hx hb d_Md_hinders_269 (by decide +kernel) ?_
                                exact W.iret (v := 6) hx hb hr (fun t ht hW => ⟨6, rfl, trivial, ht⟩) t_nil d_Md_hinders_271
                            · refine lv_iload hx hb d_Md_hinders_250 (lv_at hl 0 rfl) ?_
                              refine lv_ineg hx hb d_Md_hinders_252 ?_
                              refine lv_goto (tgt := 258) hx hb d_Md_hinders_253 (by decide) ?_
                              refine lv_aload_n hx hb d_Md_hinders_258 rfl (lv_at hl 4 rfl) ?_
                              refine lv_iload hx hb d_Md_hinders_259 (lv_at hl 2 rfl) ?_
                              refine lv_bipush (v := 17) hx hb d_Md_hinders_261 (by decide +kernel) ?_
                              refine vp_callSi (va_Run.run (va_runV (As := [.int r_191, .int 17]) (rest := [.int (-r_240)]) ⟨hx, hb, hml, hown, htb⟩ (c_Md_lineOf_t l dC dI ct L f hO_0 q0 m0 r_191 (17 : Int32) po_192 po_193 (by decide +kernel) (by decide +kernel)) (cwV 2 htb (gd_V tw_611 tw_612 tw_613 tw_479 tw_610) rfl rfl rfl (by decide +kernel) ⟨Nat.le_of_ble_eq_true rfl, Nat.le_of_ble_eq_true rfl⟩) ⟨pr_blind, tw_recv hK hP m0 rfl rfl, pr_pre hP hK hN⟩ rfl rfl hl.1 rfl (lv_room (Nat.le_of_ble_eq_true rfl)) d_Md_hinders_263 ⟨Nat.le_of_ble_eq_true rfl, Nat.le_of_ble_eq_true rfl⟩)) (fun r_252 er_252 => ?_)
                              clear er_252
                              refine lv_icmp_le (tgt := 272) hx hb d_Md_hinders_266 (by decide) (fun c_253 => ?_) (fun c_253 => ?_)
                              · refine lv_aload_n hx hb d_Md_hinders_272 rfl (lv_at hl 4 rfl) ?_
                                refine tw_getI (x := (ti f q0 1)) (D := (dC, dI)) (C := R_Md) (T := F_Md) (N := 64) (ci := 7) (kd := 27) (ct := ct) hx hb htb i_Md hown hK hP m0 rfl rfl 1 rfl (by decide) (htb (.fieldLink R_Md 7 "WaterMenModel" "time" "I") tw_476) (fun _ h9 => h9) rfl d_Md_hinders_273 ?_
                                refine lv_aload_n hx hb d_Md_hinders_276 rfl (lv_at hl 4 rfl) ?_
                                refine lv_iload_n hx hb d_Md_hinders_277 rfl (lv_at hl 5 rfl) ?_
                                refine lv_iload_n hx hb d_Md_hinders_278 rfl (lv_at hl 7 rfl) ?_
                                refine vp_callSi (va_Run.run (va_runV (As := [.int p_0, .int p_2]) (rest := [.int (ti f q0 1)]) ⟨hx, hb, hml, hown, htb⟩ (c_Md_minutesOf_t l dC dI ct L f hO_0 q0 m0 p_0 p_2 as_0 as_1 as_4 as_5) (cwV 2 htb (gd_V tw_629 tw_630 tw_631 tw_479 tw_628) rfl rfl rfl (by decide +kernel) ⟨Nat.le_of_ble_eq_true rfl, Nat.le_of_ble_eq_true rfl⟩) ⟨pr_blind, tw_recv hK hP m0 rfl rfl, pr_pre hP hK hN⟩ rfl rfl hl.1 rfl (lv_room (Nat.le_of_ble_eq_true rfl)) d_Md_hinders_279 ⟨Nat.le_of_ble_eq_true rfl, Nat.le_of_ble_eq_true rfl⟩)) (fun r_254 er_254 => ?_)
                                clear er_254
                                refine lv_iadd hx hb d_Md_hinders_282 ?_
                                refine lv_ldcw (v := 359999) hx hb hown (htb (.constant R_Md 305 359999) tw_632) d_Md_hinders_283 ?_
                                refine lv_icmp_le (tgt := 294) hx hb d_Md_hinders_286 (by decide) (fun c_255 => ?_) (fun c_255 => ?_)
                                · refine lv_iconst (v := 0) hx hb d_Md_hinders_294 (by decide +kernel) ?_
                                  exact W.iret (v := 0) hx hb hr (fun t ht hW => ⟨0, rfl, trivial, ht⟩) t_nil d_Md_hinders_295
                                · refine lv_bipush (v := 7) hx hb d_Md_hinders_289 (by decide +kernel) ?_
                                  refine lv_goto (tgt := 295) hx hb d_Md_hinders_291 (by decide) ?_
                                  exact W.iret (v := 7) hx hb hr (fun t ht hW => ⟨7, rfl, trivial, ht⟩) t_nil d_Md_hinders_295
                              · refine lv_bipush (v := 6) hx hb d_Md_hinders_269 (by decide +kernel) ?_
                                exact W.iret (v := 6) hx hb hr (fun t ht hW => ⟨6, rfl, trivial, ht⟩) t_nil d_Md_hinders_271
                        · refine lv_aload_n hx hb d_Md_hinders_201 rfl (lv_at hl 4 rfl) ?_
                          refine vp_callSi (va_Run.run (va_runV (As := []) (rest := []) ⟨hx, hb, hml, hown, htb⟩ (c_Md_hourNow_t l dC dI ct L f hO_0 q0 m0) (cwV 0 htb (gd_V tw_625 tw_626 tw_627 tw_479 tw_624) rfl rfl rfl (by decide +kernel) ⟨Nat.le_of_ble_eq_true rfl, Nat.le_of_ble_eq_true rfl⟩) ⟨pr_blind, tw_recv hK hP m0 rfl rfl, pr_pre hP hK hN⟩ rfl rfl hl.1 rfl (lv_room (Nat.le_of_ble_eq_true rfl)) d_Md_hinders_202 ⟨Nat.le_of_ble_eq_true rfl, Nat.le_of_ble_eq_true rfl⟩)) (fun r_256 er_256 => ?_)
                          obtain ⟨po_257, po_258, -⟩ := er_256
                          refine lv_aload_n hx hb d_Md_hinders_205 rfl (lv_at hl 4 rfl) ?_
                          refine lv_iload hx hb d_Md_hinders_206 (lv_at hl 2 rfl) ?_
                          refine lv_bipush (v := 16) hx hb d_Md_hinders_208 (by decide +kernel) ?_
                          refine vp_callSi (va_Run.run (va_runV (As := [.int r_191, .int 16]) (rest := [.int r_256]) ⟨hx, hb, hml, hown, htb⟩ (c_Md_lineOf_t l dC dI ct L f hO_0 q0 m0 r_191 (16 : Int32) po_192 po_193 (by decide +kernel) (by decide +kernel)) (cwV 2 htb (gd_V tw_611 tw_612 tw_613 tw_479 tw_610) rfl rfl rfl (by decide +kernel) ⟨Nat.le_of_ble_eq_true rfl, Nat.le_of_ble_eq_true rfl⟩) ⟨pr_blind, tw_recv hK hP m0 rfl rfl, pr_pre hP hK hN⟩ rfl rfl hl.1 rfl (lv_room (Nat.le_of_ble_eq_true rfl)) d_Md_hinders_210 ⟨Nat.le_of_ble_eq_true rfl, Nat.le_of_ble_eq_true rfl⟩)) (fun r_259 er_259 => ?_)
                          clear er_259
                          refine lv_aload_n hx hb d_Md_hinders_213 rfl (lv_at hl 4 rfl) ?_
                          refine tw_getr (D := (dC, dI)) (C := R_Md) (T := F_Md) (N := 64) (ci := 7) (kd := 27) (ct := ct) hx hb htb i_Md hown hK hP hO_0 m0 rfl rfl 41 (by decide) (htb (.fieldLink R_Md 146 "WaterMenModel" "singleTo" "[I") tw_590) (fun _ h9 => h9) rfl d_Md_hinders_214 (fun q_260 e_260 m_260 => ?_)
                          refine lv_iload hx hb d_Md_hinders_217 (lv_at hl 2 rfl) ?_
                          refine tw_aldI (ct := ct) hx hb hK hP hO_0 m_260 rfl (hb_inl po_192 po_193 (by decide +kernel)) d_Md_hinders_219 (fun x_261 e_261 b_261 => ?_)
                          refine vp_callSi (va_Run.run (va_runS (As := [.int r_256, .int r_259, .int x_261]) (rest := []) ⟨hx, hb, hml, hown, htb⟩ (c_Md_in l r_256 r_259 x_261) (cwS 3 htb (gd_S tw_480 tw_481 tw_479 tw_478) rfl rfl rfl (by decide +kernel) ⟨Nat.le_of_ble_eq_true rfl, Nat.le_of_ble_eq_true rfl⟩) ⟨fun _ _ _ _ h => h, fun U _ _ => ⟨rfl, trivial⟩⟩ rfl rfl hl.1 rfl (lv_room (Nat.le_of_ble_eq_true rfl)) d_Md_hinders_220 ⟨Nat.le_of_ble_eq_true rfl, Nat.le_of_ble_eq_true rfl⟩)) (fun r er => ?_)
                          subst er
                          by_cases c_263 : r_256 < r_259
                          · refine hb_ti 0 (by unfold f_Md_in; rw [if_pos c_263]; first | done | rfl) ?_
                            refine lv_if_ne (tgt := 229) hx hb d_Md_hinders_223 (by decide) (fun h => absurd (by decide +kernel) h) (fun _ => ?_)
                            refine lv_bipush (v := 6) hx hb d_Md_hinders_226 (by decide +kernel) ?_
                            exact W.iret (v := 6) hx hb hr (fun t ht hW => ⟨6, rfl, trivial, ht⟩) t_nil d_Md_hinders_228
                          · by_cases c_264 : x_261 < r_256
                            · refine hb_ti 0 (by unfold f_Md_in; rw [if_neg c_263, if_pos c_264]; first | done | rfl) ?_
                              refine lv_if_ne (tgt := 229) hx hb d_Md_hinders_223 (by decide) (fun h => absurd (by decide +kernel) h) (fun _ => ?_)
                              refine lv_bipush (v := 6) hx hb d_Md_hinders_226 (by decide +kernel) ?_
                              exact W.iret (v := 6) hx hb hr (fun t ht hW => ⟨6, rfl, trivial, ht⟩) t_nil d_Md_hinders_228
                            · refine hb_ti 1 (by unfold f_Md_in; rw [if_neg c_263, if_neg c_264]; first | done | rfl) ?_
                              refine lv_if_ne (tgt := 229) hx hb d_Md_hinders_223 (by decide) (fun _ => ?_) (fun h => absurd h (by decide +kernel))
                              refine lv_iload hx hb d_Md_hinders_229 (lv_at hl 1 rfl) ?_
                              refine lv_if_eq (tgt := 272) hx hb d_Md_hinders_231 (by decide) (fun h => absurd h (by decide +kernel)) (fun _ => ?_)
                              refine lv_aload_n hx hb d_Md_hinders_234 rfl (lv_at hl 4 rfl) ?_
                              refine lv_iload hx hb d_Md_hinders_235 (lv_at hl 2 rfl) ?_
                              refine lv_bipush (v := 17) hx hb d_Md_hinders_237 (by decide +kernel) ?_
                              refine vp_callSi (va_Run.run (va_runV (As := [.int r_191, .int 17]) (rest := []) ⟨hx, hb, hml, hown, htb⟩ (c_Md_lineOf_t l dC dI ct L f hO_0 q0 m0 r_191 (17 : Int32) po_192 po_193 (by decide +kernel) (by decide +kernel)) (cwV 2 htb (gd_V tw_611 tw_612 tw_613 tw_479 tw_610) rfl rfl rfl (by decide +kernel) ⟨Nat.le_of_ble_eq_true rfl, Nat.le_of_ble_eq_true rfl⟩) ⟨pr_blind, tw_recv hK hP m0 rfl rfl, pr_pre hP hK hN⟩ rfl rfl hl.1 rfl (lv_room (Nat.le_of_ble_eq_true rfl)) d_Md_hinders_239 ⟨Nat.le_of_ble_eq_true rfl, Nat.le_of_ble_eq_true rfl⟩)) (fun r_265 er_265 => ?_)
                              clear er_265
                              refine lv_if_lt (tgt := 272) hx hb d_Md_hinders_242 (by decide) (fun c_266 => ?_) (fun c_266 => ?_)
                              · refine lv_aload_n hx hb d_Md_hinders_272 rfl (lv_at hl 4 rfl) ?_
                                refine tw_getI (x := (ti f q0 1)) (D := (dC, dI)) (C := R_Md) (T := F_Md) (N := 64) (ci := 7) (kd := 27) (ct := ct) hx hb htb i_Md hown hK hP m0 rfl rfl 1 rfl (by decide) (htb (.fieldLink R_Md 7 "WaterMenModel" "time" "I") tw_476) (fun _ h9 => h9) rfl d_Md_hinders_273 ?_
                                refine lv_aload_n hx hb d_Md_hinders_276 rfl (lv_at hl 4 rfl) ?_
                                refine lv_iload_n hx hb d_Md_hinders_277 rfl (lv_at hl 5 rfl) ?_
                                refine lv_iload_n hx hb d_Md_hinders_278 rfl (lv_at hl 7 rfl) ?_
                                refine vp_callSi (va_Run.run (va_runV (As := [.int p_0, .int p_2]) (rest := [.int (ti f q0 1)]) ⟨hx, hb, hml, hown, htb⟩ (c_Md_minutesOf_t l dC dI ct L f hO_0 q0 m0 p_0 p_2 as_0 as_1 as_4 as_5) (cwV 2 htb (gd_V tw_629 tw_630 tw_631 tw_479 tw_628) rfl rfl rfl (by decide +kernel) ⟨Nat.le_of_ble_eq_true rfl, Nat.le_of_ble_eq_true rfl⟩) ⟨pr_blind, tw_recv hK hP m0 rfl rfl, pr_pre hP hK hN⟩ rfl rfl hl.1 rfl (lv_room (Nat.le_of_ble_eq_true rfl)) d_Md_hinders_279 ⟨Nat.le_of_ble_eq_true rfl, Nat.le_of_ble_eq_true rfl⟩)) (fun r_267 er_267 => ?_)
                                clear er_267
                                refine lv_iadd hx hb d_Md_hinders_282 ?_
                                refine lv_ldcw (v := 359999) hx hb hown (htb (.constant R_Md 305 359999) tw_632) d_Md_hinders_283 ?_
                                refine lv_icmp_le (tgt := 294) hx hb d_Md_hinders_286 (by decide) (fun c_268 => ?_) (fun c_268 => ?_)
                                · refine lv_iconst (v := 0) hx hb d_Md_hinders_294 (by decide +kernel) ?_
                                  exact W.iret (v := 0) hx hb hr (fun t ht hW => ⟨0, rfl, trivial, ht⟩) t_nil d_Md_hinders_295
                                · refine lv_bipush (v := 7) hx hb d_Md_hinders_289 (by decide +kernel) ?_
                                  refine lv_goto (tgt := 295) hx hb d_Md_hinders_291 (by decide) ?_
                                  exact W.iret (v := 7) hx hb hr (fun t ht hW => ⟨7, rfl, trivial, ht⟩) t_nil d_Md_hinders_295
                              · refine lv_iload hx hb d_Md_hinders_245 (lv_at hl 0 rfl) ?_
                                refine lv_if_ge (tgt := 256) hx hb d_Md_hinders_247 (by decide) (fun c_269 => ?_) (fun c_269 => ?_)
                                · refine lv_iload hx hb d_Md_hinders_256 (lv_at hl 0 rfl) ?_
                                  refine lv_aload_n hx hb d_Md_hinders_258 rfl (lv_at hl 4 rfl) ?_
                                  refine lv_iload hx hb d_Md_hinders_259 (lv_at hl 2 rfl) ?_
                                  refine lv_bipush (v := 17) hx hb d_Md_hinders_261 (by decide +kernel) ?_
                                  refine vp_callSi (va_Run.run (va_runV (As := [.int r_191, .int 17]) (rest := [.int r_240]) ⟨hx, hb, hml, hown, htb⟩ (c_Md_lineOf_t l dC dI ct L f hO_0 q0 m0 r_191 (17 : Int32) po_192 po_193 (by decide +kernel) (by decide +kernel)) (cwV 2 htb (gd_V tw_611 tw_612 tw_613 tw_479 tw_610) rfl rfl rfl (by decide +kernel) ⟨Nat.le_of_ble_eq_true rfl, Nat.le_of_ble_eq_true rfl⟩) ⟨pr_blind, tw_recv hK hP m0 rfl rfl, pr_pre hP hK hN⟩ rfl rfl hl.1 rfl (lv_room (Nat.le_of_ble_eq_true rfl)) d_Md_hinders_263 ⟨Nat.le_of_ble_eq_true rfl, Nat.le_of_ble_eq_true rfl⟩)) (fun r_270 er_270 => ?_)
                                  clear er_270
                                  refine lv_icmp_le (tgt := 272) hx hb d_Md_hinders_266 (by decide) (fun c_271 => ?_) (fun c_271 => ?_)
                                  · refine lv_aload_n hx hb d_Md_hinders_272 rfl (lv_at hl 4 rfl) ?_
                                    refine tw_getI (x := (ti f q0 1)) (D := (dC, dI)) (C := R_Md) (T := F_Md) (N := 64) (ci := 7) (kd := 27) (ct := ct) hx hb htb i_Md hown hK hP m0 rfl rfl 1 rfl (by decide) (htb (.fieldLink R_Md 7 "WaterMenModel" "time" "I") tw_476) (fun _ h9 => h9) rfl d_Md_hinders_273 ?_
                                    refine lv_aload_n hx hb d_Md_hinders_276 rfl (lv_at hl 4 rfl) ?_
                                    refine lv_iload_n hx hb d_Md_hinders_277 rfl (lv_at hl 5 rfl) ?_
                                    refine lv_iload_n hx hb d_Md_hinders_278 rfl (lv_at hl 7 rfl) ?_
                                    refine vp_callSi (va_Run.run (va_runV (As := [.int p_0, .int p_2]) (rest := [.int (ti f q0 1)]) ⟨hx, hb, hml, hown, htb⟩ (c_Md_minutesOf_t l dC dI ct L f hO_0 q0 m0 p_0 p_2 as_0 as_1 as_4 as_5) (cwV 2 htb (gd_V tw_629 tw_630 tw_631 tw_479 tw_628) rfl rfl rfl (by decide +kernel) ⟨Nat.le_of_ble_eq_true rfl, Nat.le_of_ble_eq_true rfl⟩) ⟨pr_blind, tw_recv hK hP m0 rfl rfl, pr_pre hP hK hN⟩ rfl rfl hl.1 rfl (lv_room (Nat.le_of_ble_eq_true rfl)) d_Md_hinders_279 ⟨Nat.le_of_ble_eq_true rfl, Nat.le_of_ble_eq_true rfl⟩)) (fun r_272 er_272 => ?_)
                                    clear er_272
                                    refine lv_iadd hx hb d_Md_hinders_282 ?_
                                    refine lv_ldcw (v := 359999) hx hb hown (htb (.constant R_Md 305 359999) tw_632) d_Md_hinders_283 ?_
                                    refine lv_icmp_le (tgt := 294) hx hb d_Md_hinders_286 (by decide) (fun c_273 => ?_) (fun c_273 => ?_)
                                    · refine lv_iconst (v := 0) hx hb d_Md_hinders_294 (by decide +kernel) ?_
                                      exact W.iret (v := 0) hx hb hr (fun t ht hW => ⟨0, rfl, trivial, ht⟩) t_nil d_Md_hinders_295
                                    · refine lv_bipush (v := 7) hx hb d_Md_hinders_289 (by decide +kernel) ?_
                                      refine lv_goto (tgt := 295) hx hb d_Md_hinders_291 (by decide) ?_
                                      exact W.iret (v := 7) hx hb hr (fun t ht hW => ⟨7, rfl, trivial, ht⟩) t_nil d_Md_hinders_295
                                  · refine lv_bipush (v := 6) hx hb d_Md_hinders_269 (by decide +kernel) ?_
                                    exact W.iret (v := 6) hx hb hr (fun t ht hW => ⟨6, rfl, trivial, ht⟩) t_nil d_Md_hinders_271
                                · refine lv_iload hx hb d_Md_hinders_250 (lv_at hl 0 rfl) ?_
                                  refine lv_ineg hx hb d_Md_hinders_252 ?_
                                  refine lv_goto (tgt := 258) hx hb d_Md_hinders_253 (by decide) ?_
                                  refine lv_aload_n hx hb d_Md_hinders_258 rfl (lv_at hl 4 rfl) ?_
                                  refine lv_iload hx hb d_Md_hinders_259 (lv_at hl 2 rfl) ?_
                                  refine lv_bipush (v := 17) hx hb d_Md_hinders_261 (by decide +kernel) ?_
                                  refine vp_callSi (va_Run.run (va_runV (As := [.int r_191, .int 17]) (rest := [.int (-r_240)]) ⟨hx, hb, hml, hown, htb⟩ (c_Md_lineOf_t l dC dI ct L f hO_0 q0 m0 r_191 (17 : Int32) po_192 po_193 (by decide +kernel) (by decide +kernel)) (cwV 2 htb (gd_V tw_611 tw_612 tw_613 tw_479 tw_610) rfl rfl rfl (by decide +kernel) ⟨Nat.le_of_ble_eq_true rfl, Nat.le_of_ble_eq_true rfl⟩) ⟨pr_blind, tw_recv hK hP m0 rfl rfl, pr_pre hP hK hN⟩ rfl rfl hl.1 rfl (lv_room (Nat.le_of_ble_eq_true rfl)) d_Md_hinders_263 ⟨Nat.le_of_ble_eq_true rfl, Nat.le_of_ble_eq_true rfl⟩)) (fun r_274 er_274 => ?_)
                                  clear er_274
                                  refine lv_icmp_le (tgt := 272) hx hb d_Md_hinders_266 (by decide) (fun c_275 => ?_) (fun c_275 => ?_)
                                  · refine lv_aload_n hx hb d_Md_hinders_272 rfl (lv_at hl 4 rfl) ?_
                                    refine tw_getI (x := (ti f q0 1)) (D := (dC, dI)) (C := R_Md) (T := F_Md) (N := 64) (ci := 7) (kd := 27) (ct := ct) hx hb htb i_Md hown hK hP m0 rfl rfl 1 rfl (by decide) (htb (.fieldLink R_Md 7 "WaterMenModel" "time" "I") tw_476) (fun _ h9 => h9) rfl d_Md_hinders_273 ?_
                                    refine lv_aload_n hx hb d_Md_hinders_276 rfl (lv_at hl 4 rfl) ?_
                                    refine lv_iload_n hx hb d_Md_hinders_277 rfl (lv_at hl 5 rfl) ?_
                                    refine lv_iload_n hx hb d_Md_hinders_278 rfl (lv_at hl 7 rfl) ?_
                                    refine vp_callSi (va_Run.run (va_runV (As := [.int p_0, .int p_2]) (rest := [.int (ti f q0 1)]) ⟨hx, hb, hml, hown, htb⟩ (c_Md_minutesOf_t l dC dI ct L f hO_0 q0 m0 p_0 p_2 as_0 as_1 as_4 as_5) (cwV 2 htb (gd_V tw_629 tw_630 tw_631 tw_479 tw_628) rfl rfl rfl (by decide +kernel) ⟨Nat.le_of_ble_eq_true rfl, Nat.le_of_ble_eq_true rfl⟩) ⟨pr_blind, tw_recv hK hP m0 rfl rfl, pr_pre hP hK hN⟩ rfl rfl hl.1 rfl (lv_room (Nat.le_of_ble_eq_true rfl)) d_Md_hinders_279 ⟨Nat.le_of_ble_eq_true rfl, Nat.le_of_ble_eq_true rfl⟩)) (fun r_276 er_276 => ?_)
                                    clear er_276
                                    refine lv_iadd hx hb d_Md_hinders_282 ?_
                                    refine lv_ldcw (v := 359999) hx hb hown (htb (.constant R_Md 305 359999) tw_632) d_Md_hinders_283 ?_
                                    refine lv_icmp_le (tgt := 294) hx hb d_Md_hinders_286 (by decide) (fun c_277 => ?_) (fun c_277 => ?_)
                                    · refine lv_iconst (v := 0) hx hb d_Md_hinders_294 (by decide +kernel) ?_
                                      exact W.iret (v := 0) hx hb hr (fun t ht hW => ⟨0, rfl, trivial, ht⟩) t_nil d_Md_hinders_295
                                    · refine lv_bipush (v := 7) hx hb d_Md_hinders_289 (by decide +kernel) ?_
                                      refine lv_goto (tgt := 295) hx hb d_Md_hinders_291 (by decide) ?_
                                      exact W.iret (v := 7) hx hb hr (fun t ht hW => ⟨7, rfl, trivial, ht⟩) t_nil d_Md_hinders_295
                                  · refine lv_bipush (v := 6) hx hb d_Md_hinders_269 (by decide +kernel) ?_
                                    exact W.iret (v := 6) hx hb hr (fun t ht hW => ⟨6, rfl, trivial, ht⟩) t_nil d_Md_hinders_271
                    · refine lv_iconst (v := 1) hx hb d_Md_hinders_143 (by decide +kernel) ?_
                      refine lv_goto (tgt := 148) hx hb d_Md_hinders_144 (by decide) ?_
                      refine lv_iload_n hx hb d_Md_hinders_148 rfl (lv_at hl 5 rfl) ?_
                      refine lv_aload_n hx hb d_Md_hinders_149 rfl (lv_at hl 2 rfl) ?_
                      refine tw_getI (x := x_206) (D := (dC, dI)) (C := R_Md) (T := F_Md) (N := 64) (ci := 7) (kd := 27) (ct := ct) hx hb htb i_Md hown hK hP m0 rfl rfl 4 e_206 (by decide) (htb (.fieldLink R_Md 35 "WaterMenModel" "bridge" "I") tw_490) (fun _ h9 => h9) rfl d_Md_hinders_150 ?_
                      refine lv_icmp_gt (tgt := 160) hx hb d_Md_hinders_153 (by decide) (fun c_278 => ?_) (fun c_278 => ?_)
                      · refine lv_iconst (v := 0) hx hb d_Md_hinders_160 (by decide +kernel) ?_
                        refine lv_icmp_eq (tgt := 168) hx hb d_Md_hinders_161 (by decide) (fun h => absurd h (by decide +kernel)) (fun _ => ?_)
                        refine lv_iconst (v := 1) hx hb d_Md_hinders_164 (by decide +kernel) ?_
                        refine lv_goto (tgt := 169) hx hb d_Md_hinders_165 (by decide) ?_
                        refine lv_istore (lv' := [(6, .int 1), (5, .int r_191), (4, .int x_19), (0, .ref q0), (1, .int p_0), (2, .int p_1), (3, .int p_2)]) hx hb d_Md_hinders_169 hl (by decide) rfl (fun ls hl => ?_)
                        refine lv_aload_n hx hb d_Md_hinders_171 rfl (lv_at hl 3 rfl) ?_
                        refine lv_aload_n hx hb d_Md_hinders_172 rfl (lv_at hl 3 rfl) ?_
                        refine vp_callSi (va_Run.run (va_runV (As := []) (rest := [.ref q0]) ⟨hx, hb, hml, hown, htb⟩ (c_Md_today_t l dC dI ct L f hO_0 q0 m0) (cwV 0 htb (gd_V tw_499 tw_500 tw_501 tw_479 tw_498) rfl rfl rfl (by decide +kernel) ⟨Nat.le_of_ble_eq_true rfl, Nat.le_of_ble_eq_true rfl⟩) ⟨pr_blind, tw_recv hK hP m0 rfl rfl, pr_pre hP hK hN⟩ rfl rfl hl.1 rfl (lv_room (Nat.le_of_ble_eq_true rfl)) d_Md_hinders_173 ⟨Nat.le_of_ble_eq_true rfl, Nat.le_of_ble_eq_true rfl⟩)) (fun r_279 er_279 => ?_)
                        obtain ⟨po_280, po_281, po_282, po_283, -⟩ := er_279
                        refine lv_aload_n hx hb d_Md_hinders_176 rfl (lv_at hl 3 rfl) ?_
                        refine vp_callSi (va_Run.run (va_runV (As := []) (rest := [.int r_279, .ref q0]) ⟨hx, hb, hml, hown, htb⟩ (c_Md_hourNow_t l dC dI ct L f hO_0 q0 m0) (cwV 0 htb (gd_V tw_625 tw_626 tw_627 tw_479 tw_624) rfl rfl rfl (by decide +kernel) ⟨Nat.le_of_ble_eq_true rfl, Nat.le_of_ble_eq_true rfl⟩) ⟨pr_blind, tw_recv hK hP m0 rfl rfl, pr_pre hP hK hN⟩ rfl rfl hl.1 rfl (lv_room (Nat.le_of_ble_eq_true rfl)) d_Md_hinders_177 ⟨Nat.le_of_ble_eq_true rfl, Nat.le_of_ble_eq_true rfl⟩)) (fun r_284 er_284 => ?_)
                        obtain ⟨po_285, po_286, -⟩ := er_284
                        refine vp_callSi (va_Run.run (va_runV (As := [.int r_279, .int r_284]) (rest := []) ⟨hx, hb, hml, hown, htb⟩ (c_Md_flowOf_t l dC dI ct L f hO_0 q0 m0 r_279 r_284 po_280 po_281 po_285 po_286) (cwV 2 htb (gd_V tw_495 tw_496 tw_497 tw_479 tw_494) rfl rfl rfl (by decide +kernel) ⟨Nat.le_of_ble_eq_true rfl, Nat.le_of_ble_eq_true rfl⟩) ⟨pr_blind, tw_recv hK hP m0 rfl rfl, pr_pre hP hK hN⟩ rfl rfl hl.1 rfl (lv_room (Nat.le_of_ble_eq_true rfl)) d_Md_hinders_180 ⟨Nat.le_of_ble_eq_true rfl, Nat.le_of_ble_eq_true rfl⟩)) (fun r_287 er_287 => ?_)
                        clear er_287
                        refine lv_istore (lv' := [(7, .int r_287), (6, .int 1), (5, .int r_191), (4, .int x_19), (0, .ref q0), (1, .int p_0), (2, .int p_1), (3, .int p_2)]) hx hb d_Md_hinders_183 hl (by decide) rfl (fun ls hl => ?_)
                        refine lv_iload hx hb d_Md_hinders_185 (lv_at hl 1 rfl) ?_
                        refine lv_if_eq (tgt := 229) hx hb d_Md_hinders_187 (by decide) (fun h => absurd h (by decide +kernel)) (fun _ => ?_)
                        refine lv_aload_n hx hb d_Md_hinders_190 rfl (lv_at hl 4 rfl) ?_
                        refine lv_iload hx hb d_Md_hinders_191 (lv_at hl 2 rfl) ?_
                        refine lv_bipush (v := 16) hx hb d_Md_hinders_193 (by decide +kernel) ?_
                        refine vp_callSi (va_Run.run (va_runV (As := [.int r_191, .int 16]) (rest := []) ⟨hx, hb, hml, hown, htb⟩ (c_Md_lineOf_t l dC dI ct L f hO_0 q0 m0 r_191 (16 : Int32) po_192 po_193 (by decide +kernel) (by decide +kernel)) (cwV 2 htb (gd_V tw_611 tw_612 tw_613 tw_479 tw_610) rfl rfl rfl (by decide +kernel) ⟨Nat.le_of_ble_eq_true rfl, Nat.le_of_ble_eq_true rfl⟩) ⟨pr_blind, tw_recv hK hP m0 rfl rfl, pr_pre hP hK hN⟩ rfl rfl hl.1 rfl (lv_room (Nat.le_of_ble_eq_true rfl)) d_Md_hinders_195 ⟨Nat.le_of_ble_eq_true rfl, Nat.le_of_ble_eq_true rfl⟩)) (fun r_288 er_288 => ?_)
                        clear er_288
                        refine lv_if_lt (tgt := 229) hx hb d_Md_hinders_198 (by decide) (fun c_289 => ?_) (fun c_289 => ?_)
                        · refine lv_iload hx hb d_Md_hinders_229 (lv_at hl 1 rfl) ?_
                          refine lv_if_eq (tgt := 272) hx hb d_Md_hinders_231 (by decide) (fun h => absurd h (by decide +kernel)) (fun _ => ?_)
                          refine lv_aload_n hx hb d_Md_hinders_234 rfl (lv_at hl 4 rfl) ?_
                          refine lv_iload hx hb d_Md_hinders_235 (lv_at hl 2 rfl) ?_
                          refine lv_bipush (v := 17) hx hb d_Md_hinders_237 (by decide +kernel) ?_
                          refine vp_callSi (va_Run.run (va_runV (As := [.int r_191, .int 17]) (rest := []) ⟨hx, hb, hml, hown, htb⟩ (c_Md_lineOf_t l dC dI ct L f hO_0 q0 m0 r_191 (17 : Int32) po_192 po_193 (by decide +kernel) (by decide +kernel)) (cwV 2 htb (gd_V tw_611 tw_612 tw_613 tw_479 tw_610) rfl rfl rfl (by decide +kernel) ⟨Nat.le_of_ble_eq_true rfl, Nat.le_of_ble_eq_true rfl⟩) ⟨pr_blind, tw_recv hK hP m0 rfl rfl, pr_pre hP hK hN⟩ rfl rfl hl.1 rfl (lv_room (Nat.le_of_ble_eq_true rfl)) d_Md_hinders_239 ⟨Nat.le_of_ble_eq_true rfl, Nat.le_of_ble_eq_true rfl⟩)) (fun r_290 er_290 => ?_)
                          clear er_290
                          refine lv_if_lt (tgt := 272) hx hb d_Md_hinders_242 (by decide) (fun c_291 => ?_) (fun c_291 => ?_)
                          · refine lv_aload_n hx hb d_Md_hinders_272 rfl (lv_at hl 4 rfl) ?_
                            refine tw_getI (x := (ti f q0 1)) (D := (dC, dI)) (C := R_Md) (T := F_Md) (N := 64) (ci := 7) (kd := 27) (ct := ct) hx hb htb i_Md hown hK hP m0 rfl rfl 1 rfl (by decide) (htb (.fieldLink R_Md 7 "WaterMenModel" "time" "I") tw_476) (fun _ h9 => h9) rfl d_Md_hinders_273 ?_
                            refine lv_aload_n hx hb d_Md_hinders_276 rfl (lv_at hl 4 rfl) ?_
                            refine lv_iload_n hx hb d_Md_hinders_277 rfl (lv_at hl 5 rfl) ?_
                            refine lv_iload_n hx hb d_Md_hinders_278 rfl (lv_at hl 7 rfl) ?_
                            refine vp_callSi (va_Run.run (va_runV (As := [.int p_0, .int p_2]) (rest := [.int (ti f q0 1)]) ⟨hx, hb, hml, hown, htb⟩ (c_Md_minutesOf_t l dC dI ct L f hO_0 q0 m0 p_0 p_2 as_0 as_1 as_4 as_5) (cwV 2 htb (gd_V tw_629 tw_630 tw_631 tw_479 tw_628) rfl rfl rfl (by decide +kernel) ⟨Nat.le_of_ble_eq_true rfl, Nat.le_of_ble_eq_true rfl⟩) ⟨pr_blind, tw_recv hK hP m0 rfl rfl, pr_pre hP hK hN⟩ rfl rfl hl.1 rfl (lv_room (Nat.le_of_ble_eq_true rfl)) d_Md_hinders_279 ⟨Nat.le_of_ble_eq_true rfl, Nat.le_of_ble_eq_true rfl⟩)) (fun r_292 er_292 => ?_)
                            clear er_292
                            refine lv_iadd hx hb d_Md_hinders_282 ?_
                            refine lv_ldcw (v := 359999) hx hb hown (htb (.constant R_Md 305 359999) tw_632) d_Md_hinders_283 ?_
                            refine lv_icmp_le (tgt := 294) hx hb d_Md_hinders_286 (by decide) (fun c_293 => ?_) (fun c_293 => ?_)
                            · refine lv_iconst (v := 0) hx hb d_Md_hinders_294 (by decide +kernel) ?_
                              exact W.iret (v := 0) hx hb hr (fun t ht hW => ⟨0, rfl, trivial, ht⟩) t_nil d_Md_hinders_295
                            · refine lv_bipush (v := 7) hx hb d_Md_hinders_289 (by decide +kernel) ?_
                              refine lv_goto (tgt := 295) hx hb d_Md_hinders_291 (by decide) ?_
                              exact W.iret (v := 7) hx hb hr (fun t ht hW => ⟨7, rfl, trivial, ht⟩) t_nil d_Md_hinders_295
                          · refine lv_iload hx hb d_Md_hinders_245 (lv_at hl 0 rfl) ?_
                            refine lv_if_ge (tgt := 256) hx hb d_Md_hinders_247 (by decide) (fun c_294 => ?_) (fun c_294 => ?_)
                            · refine lv_iload hx hb d_Md_hinders_256 (lv_at hl 0 rfl) ?_
                              refine lv_aload_n hx hb d_Md_hinders_258 rfl (lv_at hl 4 rfl) ?_
                              refine lv_iload hx hb d_Md_hinders_259 (lv_at hl 2 rfl) ?_
                              refine lv_bipush (v := 17) hx hb d_Md_hinders_261 (by decide +kernel) ?_
                              refine vp_callSi (va_Run.run (va_runV (As := [.int r_191, .int 17]) (rest := [.int r_287]) ⟨hx, hb, hml, hown, htb⟩ (c_Md_lineOf_t l dC dI ct L f hO_0 q0 m0 r_191 (17 : Int32) po_192 po_193 (by decide +kernel) (by decide +kernel)) (cwV 2 htb (gd_V tw_611 tw_612 tw_613 tw_479 tw_610) rfl rfl rfl (by decide +kernel) ⟨Nat.le_of_ble_eq_true rfl, Nat.le_of_ble_eq_true rfl⟩) ⟨pr_blind, tw_recv hK hP m0 rfl rfl, pr_pre hP hK hN⟩ rfl rfl hl.1 rfl (lv_room (Nat.le_of_ble_eq_true rfl)) d_Md_hinders_263 ⟨Nat.le_of_ble_eq_true rfl, Nat.le_of_ble_eq_true rfl⟩)) (fun r_295 er_295 => ?_)
                              clear er_295
                              refine lv_icmp_le (tgt := 272) hx hb d_Md_hinders_266 (by decide) (fun c_296 => ?_) (fun c_296 => ?_)
                              · refine lv_aload_n hx hb d_Md_hinders_272 rfl (lv_at hl 4 rfl) ?_
                                refine tw_getI (x := (ti f q0 1)) (D := (dC, dI)) (C := R_Md) (T := F_Md) (N := 64) (ci := 7) (kd := 27) (ct := ct) hx hb htb i_Md hown hK hP m0 rfl rfl 1 rfl (by decide) (htb (.fieldLink R_Md 7 "WaterMenModel" "time" "I") tw_476) (fun _ h9 => h9) rfl d_Md_hinders_273 ?_
                                refine lv_aload_n hx hb d_Md_hinders_276 rfl (lv_at hl 4 rfl) ?_
                                refine lv_iload_n hx hb d_Md_hinders_277 rfl (lv_at hl 5 rfl) ?_
                                refine lv_iload_n hx hb d_Md_hinders_278 rfl (lv_at hl 7 rfl) ?_
                                refine vp_callSi (va_Run.run (va_runV (As := [.int p_0, .int p_2]) (rest := [.int (ti f q0 1)]) ⟨hx, hb, hml, hown, htb⟩ (c_Md_minutesOf_t l dC dI ct L f hO_0 q0 m0 p_0 p_2 as_0 as_1 as_4 as_5) (cwV 2 htb (gd_V tw_629 tw_630 tw_631 tw_479 tw_628) rfl rfl rfl (by decide +kernel) ⟨Nat.le_of_ble_eq_true rfl, Nat.le_of_ble_eq_true rfl⟩) ⟨pr_blind, tw_recv hK hP m0 rfl rfl, pr_pre hP hK hN⟩ rfl rfl hl.1 rfl (lv_room (Nat.le_of_ble_eq_true rfl)) d_Md_hinders_279 ⟨Nat.le_of_ble_eq_true rfl, Nat.le_of_ble_eq_true rfl⟩)) (fun r_297 er_297 => ?_)
                                clear er_297
                                refine lv_iadd hx hb d_Md_hinders_282 ?_
                                refine lv_ldcw (v := 359999) hx hb hown (htb (.constant R_Md 305 359999) tw_632) d_Md_hinders_283 ?_
                                refine lv_icmp_le (tgt := 294) hx hb d_Md_hinders_286 (by decide) (fun c_298 => ?_) (fun c_298 => ?_)
                                · refine lv_iconst (v := 0) hx hb d_Md_hinders_294 (by decide +kernel) ?_
                                  exact W.iret (v := 0) hx hb hr (fun t ht hW => ⟨0, rfl, trivial, ht⟩) t_nil d_Md_hinders_295
                                · refine lv_bipush (v := 7) hx hb d_Md_hinders_289 (by decide +kernel) ?_
                                  refine lv_goto (tgt := 295) hx hb d_Md_hinders_291 (by decide) ?_
                                  exact W.iret (v := 7) hx hb hr (fun t ht hW => ⟨7, rfl, trivial, ht⟩) t_nil d_Md_hinders_295
                              · refine lv_bipush (v := 6) hx hb d_Md_hinders_269 (by decide +kernel) ?_
                                exact W.iret (v := 6) hx hb hr (fun t ht hW => ⟨6, rfl, trivial, ht⟩) t_nil d_Md_hinders_271
                            · refine lv_iload hx hb d_Md_hinders_250 (lv_at hl 0 rfl) ?_
                              refine lv_ineg hx hb d_Md_hinders_252 ?_
                              refine lv_goto (tgt := 258) hx hb d_Md_hinders_253 (by decide) ?_
                              refine lv_aload_n hx hb d_Md_hinders_258 rfl (lv_at hl 4 rfl) ?_
                              refine lv_iload hx hb d_Md_hinders_259 (lv_at hl 2 rfl) ?_
                              refine lv_bipush (v := 17) hx hb d_Md_hinders_261 (by decide +kernel) ?_
                              refine vp_callSi (va_Run.run (va_runV (As := [.int r_191, .int 17]) (rest := [.int (-r_287)]) ⟨hx, hb, hml, hown, htb⟩ (c_Md_lineOf_t l dC dI ct L f hO_0 q0 m0 r_191 (17 : Int32) po_192 po_193 (by decide +kernel) (by decide +kernel)) (cwV 2 htb (gd_V tw_611 tw_612 tw_613 tw_479 tw_610) rfl rfl rfl (by decide +kernel) ⟨Nat.le_of_ble_eq_true rfl, Nat.le_of_ble_eq_true rfl⟩) ⟨pr_blind, tw_recv hK hP m0 rfl rfl, pr_pre hP hK hN⟩ rfl rfl hl.1 rfl (lv_room (Nat.le_of_ble_eq_true rfl)) d_Md_hinders_263 ⟨Nat.le_of_ble_eq_true rfl, Nat.le_of_ble_eq_true rfl⟩)) (fun r_299 er_299 => ?_)
                              clear er_299
                              refine lv_icmp_le (tgt := 272) hx hb d_Md_hinders_266 (by decide) (fun c_300 => ?_) (fun c_300 => ?_)
                              · refine lv_aload_n hx hb d_Md_hinders_272 rfl (lv_at hl 4 rfl) ?_
                                refine tw_getI (x := (ti f q0 1)) (D := (dC, dI)) (C := R_Md) (T := F_Md) (N := 64) (ci := 7) (kd := 27) (ct := ct) hx hb htb i_Md hown hK hP m0 rfl rfl 1 rfl (by decide) (htb (.fieldLink R_Md 7 "WaterMenModel" "time" "I") tw_476) (fun _ h9 => h9) rfl d_Md_hinders_273 ?_
                                refine lv_aload_n hx hb d_Md_hinders_276 rfl (lv_at hl 4 rfl) ?_
                                refine lv_iload_n hx hb d_Md_hinders_277 rfl (lv_at hl 5 rfl) ?_
                                refine lv_iload_n hx hb d_Md_hinders_278 rfl (lv_at hl 7 rfl) ?_
                                refine vp_callSi (va_Run.run (va_runV (As := [.int p_0, .int p_2]) (rest := [.int (ti f q0 1)]) ⟨hx, hb, hml, hown, htb⟩ (c_Md_minutesOf_t l dC dI ct L f hO_0 q0 m0 p_0 p_2 as_0 as_1 as_4 as_5) (cwV 2 htb (gd_V tw_629 tw_630 tw_631 tw_479 tw_628) rfl rfl rfl (by decide +kernel) ⟨Nat.le_of_ble_eq_true rfl, Nat.le_of_ble_eq_true rfl⟩) ⟨pr_blind, tw_recv hK hP m0 rfl rfl, pr_pre hP hK hN⟩ rfl rfl hl.1 rfl (lv_room (Nat.le_of_ble_eq_true rfl)) d_Md_hinders_279 ⟨Nat.le_of_ble_eq_true rfl, Nat.le_of_ble_eq_true rfl⟩)) (fun r_301 er_301 => ?_)
                                clear er_301
                                refine lv_iadd hx hb d_Md_hinders_282 ?_
                                refine lv_ldcw (v := 359999) hx hb hown (htb (.constant R_Md 305 359999) tw_632) d_Md_hinders_283 ?_
                                refine lv_icmp_le (tgt := 294) hx hb d_Md_hinders_286 (by decide) (fun c_302 => ?_) (fun c_302 => ?_)
                                · refine lv_iconst (v := 0) hx hb d_Md_hinders_294 (by decide +kernel) ?_
                                  exact W.iret (v := 0) hx hb hr (fun t ht hW => ⟨0, rfl, trivial, ht⟩) t_nil d_Md_hinders_295
                                · refine lv_bipush (v := 7) hx hb d_Md_hinders_289 (by decide +kernel) ?_
                                  refine lv_goto (tgt := 295) hx hb d_Md_hinders_291 (by decide) ?_
                                  exact W.iret (v := 7) hx hb hr (fun t ht hW => ⟨7, rfl, trivial, ht⟩) t_nil d_Md_hinders_295
                              · refine lv_bipush (v := 6) hx hb d_Md_hinders_269 (by decide +kernel) ?_
                                exact W.iret (v := 6) hx hb hr (fun t ht hW => ⟨6, rfl, trivial, ht⟩) t_nil d_Md_hinders_271
                        · refine lv_aload_n hx hb d_Md_hinders_201 rfl (lv_at hl 4 rfl) ?_
                          refine vp_callSi (va_Run.run (va_runV (As := []) (rest := []) ⟨hx, hb, hml, hown, htb⟩ (c_Md_hourNow_t l dC dI ct L f hO_0 q0 m0) (cwV 0 htb (gd_V tw_625 tw_626 tw_627 tw_479 tw_624) rfl rfl rfl (by decide +kernel) ⟨Nat.le_of_ble_eq_true rfl, Nat.le_of_ble_eq_true rfl⟩) ⟨pr_blind, tw_recv hK hP m0 rfl rfl, pr_pre hP hK hN⟩ rfl rfl hl.1 rfl (lv_room (Nat.le_of_ble_eq_true rfl)) d_Md_hinders_202 ⟨Nat.le_of_ble_eq_true rfl, Nat.le_of_ble_eq_true rfl⟩)) (fun r_303 er_303 => ?_)
                          obtain ⟨po_304, po_305, -⟩ := er_303
                          refine lv_aload_n hx hb d_Md_hinders_205 rfl (lv_at hl 4 rfl) ?_
                          refine lv_iload hx hb d_Md_hinders_206 (lv_at hl 2 rfl) ?_
                          refine lv_bipush (v := 16) hx hb d_Md_hinders_208 (by decide +kernel) ?_
                          refine vp_callSi (va_Run.run (va_runV (As := [.int r_191, .int 16]) (rest := [.int r_303]) ⟨hx, hb, hml, hown, htb⟩ (c_Md_lineOf_t l dC dI ct L f hO_0 q0 m0 r_191 (16 : Int32) po_192 po_193 (by decide +kernel) (by decide +kernel)) (cwV 2 htb (gd_V tw_611 tw_612 tw_613 tw_479 tw_610) rfl rfl rfl (by decide +kernel) ⟨Nat.le_of_ble_eq_true rfl, Nat.le_of_ble_eq_true rfl⟩) ⟨pr_blind, tw_recv hK hP m0 rfl rfl, pr_pre hP hK hN⟩ rfl rfl hl.1 rfl (lv_room (Nat.le_of_ble_eq_true rfl)) d_Md_hinders_210 ⟨Nat.le_of_ble_eq_true rfl, Nat.le_of_ble_eq_true rfl⟩)) (fun r_306 er_306 => ?_)
                          clear er_306
                          refine lv_aload_n hx hb d_Md_hinders_213 rfl (lv_at hl 4 rfl) ?_
                          refine tw_getr (D := (dC, dI)) (C := R_Md) (T := F_Md) (N := 64) (ci := 7) (kd := 27) (ct := ct) hx hb htb i_Md hown hK hP hO_0 m0 rfl rfl 41 (by decide) (htb (.fieldLink R_Md 146 "WaterMenModel" "singleTo" "[I") tw_590) (fun _ h9 => h9) rfl d_Md_hinders_214 (fun q_307 e_307 m_307 => ?_)
                          refine lv_iload hx hb d_Md_hinders_217 (lv_at hl 2 rfl) ?_
                          refine tw_aldI (ct := ct) hx hb hK hP hO_0 m_307 rfl (hb_inl po_192 po_193 (by decide +kernel)) d_Md_hinders_219 (fun x_308 e_308 b_308 => ?_)
                          refine vp_callSi (va_Run.run (va_runS (As := [.int r_303, .int r_306, .int x_308]) (rest := []) ⟨hx, hb, hml, hown, htb⟩ (c_Md_in l r_303 r_306 x_308) (cwS 3 htb (gd_S tw_480 tw_481 tw_479 tw_478) rfl rfl rfl (by decide +kernel) ⟨Nat.le_of_ble_eq_true rfl, Nat.le_of_ble_eq_true rfl⟩) ⟨fun _ _ _ _ h => h, fun U _ _ => ⟨rfl, trivial⟩⟩ rfl rfl hl.1 rfl (lv_room (Nat.le_of_ble_eq_true rfl)) d_Md_hinders_220 ⟨Nat.le_of_ble_eq_true rfl, Nat.le_of_ble_eq_true rfl⟩)) (fun r er => ?_)
                          subst er
                          by_cases c_310 : r_303 < r_306
                          · refine hb_ti 0 (by unfold f_Md_in; rw [if_pos c_310]; first | done | rfl) ?_
                            refine lv_if_ne (tgt := 229) hx hb d_Md_hinders_223 (by decide) (fun h => absurd (by decide +kernel) h) (fun _ => ?_)
                            refine lv_bipush (v := 6) hx hb d_Md_hinders_226 (by decide +kernel) ?_
                            exact W.iret (v := 6) hx hb hr (fun t ht hW => ⟨6, rfl, trivial, ht⟩) t_nil d_Md_hinders_228
                          · by_cases c_311 : x_308 < r_303
                            · refine hb_ti 0 (by unfold f_Md_in; rw [if_neg c_310, if_pos c_311]; first | done | rfl) ?_
                              refine lv_if_ne (tgt := 229) hx hb d_Md_hinders_223 (by decide) (fun h => absurd (by decide +kernel) h) (fun _ => ?_)
                              refine lv_bipush (v := 6) hx hb d_Md_hinders_226 (by decide +kernel) ?_
                              exact W.iret (v := 6) hx hb hr (fun t ht hW => ⟨6, rfl, trivial, ht⟩) t_nil d_Md_hinders_228
                            · refine hb_ti 1 (by unfold f_Md_in; rw [if_neg c_310, if_neg c_311]; first | done | rfl) ?_
                              refine lv_if_ne (tgt := 229) hx hb d_Md_hinders_223 (by decide) (fun _ => ?_) (fun h => absurd h (by decide +kernel))
                              refine lv_iload hx hb d_Md_hinders_229 (lv_at hl 1 rfl) ?_
                              refine lv_if_eq (tgt := 272) hx hb d_Md_hinders_231 (by decide) (fun h => absurd h (by decide +kernel)) (fun _ => ?_)
                              refine lv_aload_n hx hb d_Md_hinders_234 rfl (lv_at hl 4 rfl) ?_
                              refine lv_iload hx hb d_Md_hinders_235 (lv_at hl 2 rfl) ?_
                              refine lv_bipush (v := 17) hx hb d_Md_hinders_237 (by decide +kernel) ?_
                              refine vp_callSi (va_Run.run (va_runV (As := [.int r_191, .int 17]) (rest := []) ⟨hx, hb, hml, hown, htb⟩ (c_Md_lineOf_t l dC dI ct L f hO_0 q0 m0 r_191 (17 : Int32) po_192 po_193 (by decide +kernel) (by decide +kernel)) (cwV 2 htb (gd_V tw_611 tw_612 tw_613 tw_479 tw_610) rfl rfl rfl (by decide +kernel) ⟨Nat.le_of_ble_eq_true rfl, Nat.le_of_ble_eq_true rfl⟩) ⟨pr_blind, tw_recv hK hP m0 rfl rfl, pr_pre hP hK hN⟩ rfl rfl hl.1 rfl (lv_room (Nat.le_of_ble_eq_true rfl)) d_Md_hinders_239 ⟨Nat.le_of_ble_eq_true rfl, Nat.le_of_ble_eq_true rfl⟩)) (fun r_312 er_312 => ?_)
                              clear er_312
                              refine lv_if_lt (tgt := 272) hx hb d_Md_hinders_242 (by decide) (fun c_313 => ?_) (fun c_313 => ?_)
                              · refine lv_aload_n hx hb d_Md_hinders_272 rfl (lv_at hl 4 rfl) ?_
                                refine tw_getI (x := (ti f q0 1)) (D := (dC, dI)) (C := R_Md) (T := F_Md) (N := 64) (ci := 7) (kd := 27) (ct := ct) hx hb htb i_Md hown hK hP m0 rfl rfl 1 rfl (by decide) (htb (.fieldLink R_Md 7 "WaterMenModel" "time" "I") tw_476) (fun _ h9 => h9) rfl d_Md_hinders_273 ?_
                                refine lv_aload_n hx hb d_Md_hinders_276 rfl (lv_at hl 4 rfl) ?_
                                refine lv_iload_n hx hb d_Md_hinders_277 rfl (lv_at hl 5 rfl) ?_
                                refine lv_iload_n hx hb d_Md_hinders_278 rfl (lv_at hl 7 rfl) ?_
                                refine vp_callSi (va_Run.run (va_runV (As := [.int p_0, .int p_2]) (rest := [.int (ti f q0 1)]) ⟨hx, hb, hml, hown, htb⟩ (c_Md_minutesOf_t l dC dI ct L f hO_0 q0 m0 p_0 p_2 as_0 as_1 as_4 as_5) (cwV 2 htb (gd_V tw_629 tw_630 tw_631 tw_479 tw_628) rfl rfl rfl (by decide +kernel) ⟨Nat.le_of_ble_eq_true rfl, Nat.le_of_ble_eq_true rfl⟩) ⟨pr_blind, tw_recv hK hP m0 rfl rfl, pr_pre hP hK hN⟩ rfl rfl hl.1 rfl (lv_room (Nat.le_of_ble_eq_true rfl)) d_Md_hinders_279 ⟨Nat.le_of_ble_eq_true rfl, Nat.le_of_ble_eq_true rfl⟩)) (fun r_314 er_314 => ?_)
                                clear er_314
                                refine lv_iadd hx hb d_Md_hinders_282 ?_
                                refine lv_ldcw (v := 359999) hx hb hown (htb (.constant R_Md 305 359999) tw_632) d_Md_hinders_283 ?_
                                refine lv_icmp_le (tgt := 294) hx hb d_Md_hinders_286 (by decide) (fun c_315 => ?_) (fun c_315 => ?_)
                                · refine lv_iconst (v := 0) hx hb d_Md_hinders_294 (by decide +kernel) ?_
                                  exact W.iret (v := 0) hx hb hr (fun t ht hW => ⟨0, rfl, trivial, ht⟩) t_nil d_Md_hinders_295
                                · refine lv_bipush (v := 7) hx hb d_Md_hinders_289 (by decide +kernel) ?_
                                  refine lv_goto (tgt := 295) hx hb d_Md_hinders_291 (by decide) ?_
                                  exact W.iret (v := 7) hx hb hr (fun t ht hW => ⟨7, rfl, trivial, ht⟩) t_nil d_Md_hinders_295
                              · refine lv_iload hx hb d_Md_hinders_245 (lv_at hl 0 rfl) ?_
                                refine lv_if_ge (tgt := 256) hx hb d_Md_hinders_247 (by decide) (fun c_316 => ?_) (fun c_316 => ?_)
                                · refine lv_iload hx hb d_Md_hinders_256 (lv_at hl 0 rfl) ?_
                                  refine lv_aload_n hx hb d_Md_hinders_258 rfl (lv_at hl 4 rfl) ?_
                                  refine lv_iload hx hb d_Md_hinders_259 (lv_at hl 2 rfl) ?_
                                  refine lv_bipush (v := 17) hx hb d_Md_hinders_261 (by decide +kernel) ?_
                                  refine vp_callSi (va_Run.run (va_runV (As := [.int r_191, .int 17]) (rest := [.int r_287]) ⟨hx, hb, hml, hown, htb⟩ (c_Md_lineOf_t l dC dI ct L f hO_0 q0 m0 r_191 (17 : Int32) po_192 po_193 (by decide +kernel) (by decide +kernel)) (cwV 2 htb (gd_V tw_611 tw_612 tw_613 tw_479 tw_610) rfl rfl rfl (by decide +kernel) ⟨Nat.le_of_ble_eq_true rfl, Nat.le_of_ble_eq_true rfl⟩) ⟨pr_blind, tw_recv hK hP m0 rfl rfl, pr_pre hP hK hN⟩ rfl rfl hl.1 rfl (lv_room (Nat.le_of_ble_eq_true rfl)) d_Md_hinders_263 ⟨Nat.le_of_ble_eq_true rfl, Nat.le_of_ble_eq_true rfl⟩)) (fun r_317 er_317 => ?_)
                                  clear er_317
                                  refine lv_icmp_le (tgt := 272) hx hb d_Md_hinders_266 (by decide) (fun c_318 => ?_) (fun c_318 => ?_)
                                  · refine lv_aload_n hx hb d_Md_hinders_272 rfl (lv_at hl 4 rfl) ?_
                                    refine tw_getI (x := (ti f q0 1)) (D := (dC, dI)) (C := R_Md) (T := F_Md) (N := 64) (ci := 7) (kd := 27) (ct := ct) hx hb htb i_Md hown hK hP m0 rfl rfl 1 rfl (by decide) (htb (.fieldLink R_Md 7 "WaterMenModel" "time" "I") tw_476) (fun _ h9 => h9) rfl d_Md_hinders_273 ?_
                                    refine lv_aload_n hx hb d_Md_hinders_276 rfl (lv_at hl 4 rfl) ?_
                                    refine lv_iload_n hx hb d_Md_hinders_277 rfl (lv_at hl 5 rfl) ?_
                                    refine lv_iload_n hx hb d_Md_hinders_278 rfl (lv_at hl 7 rfl) ?_
                                    refine vp_callSi (va_Run.run (va_runV (As := [.int p_0, .int p_2]) (rest := [.int (ti f q0 1)]) ⟨hx, hb, hml, hown, htb⟩ (c_Md_minutesOf_t l dC dI ct L f hO_0 q0 m0 p_0 p_2 as_0 as_1 as_4 as_5) (cwV 2 htb (gd_V tw_629 tw_630 tw_631 tw_479 tw_628) rfl rfl rfl (by decide +kernel) ⟨Nat.le_of_ble_eq_true rfl, Nat.le_of_ble_eq_true rfl⟩) ⟨pr_blind, tw_recv hK hP m0 rfl rfl, pr_pre hP hK hN⟩ rfl rfl hl.1 rfl (lv_room (Nat.le_of_ble_eq_true rfl)) d_Md_hinders_279 ⟨Nat.le_of_ble_eq_true rfl, Nat.le_of_ble_eq_true rfl⟩)) (fun r_319 er_319 => ?_)
                                    clear er_319
                                    refine lv_iadd hx hb d_Md_hinders_282 ?_
                                    refine lv_ldcw (v := 359999) hx hb hown (htb (.constant R_Md 305 359999) tw_632) d_Md_hinders_283 ?_
                                    refine lv_icmp_le (tgt := 294) hx hb d_Md_hinders_286 (by decide) (fun c_320 => ?_) (fun c_320 => ?_)
                                    · refine lv_iconst (v := 0) hx hb d_Md_hinders_294 (by decide +kernel) ?_
                                      exact W.iret (v := 0) hx hb hr (fun t ht hW => ⟨0, rfl, trivial, ht⟩) t_nil d_Md_hinders_295
                                    · refine lv_bipush (v := 7) hx hb d_Md_hinders_289 (by decide +kernel) ?_
                                      refine lv_goto (tgt := 295) hx hb d_Md_hinders_291 (by decide) ?_
                                      exact W.iret (v := 7) hx hb hr (fun t ht hW => ⟨7, rfl, trivial, ht⟩) t_nil d_Md_hinders_295
                                  · refine lv_bipush (v := 6) hx hb d_Md_hinders_269 (by decide +kernel) ?_
                                    exact W.iret (v := 6) hx hb hr (fun t ht hW => ⟨6, rfl, trivial, ht⟩) t_nil d_Md_hinders_271
                                · refine lv_iload hx hb d_Md_hinders_250 (lv_at hl 0 rfl) ?_
                                  refine lv_ineg hx hb d_Md_hinders_252 ?_
                                  refine lv_goto (tgt := 258) hx hb d_Md_hinders_253 (by decide) ?_
                                  refine lv_aload_n hx hb d_Md_hinders_258 rfl (lv_at hl 4 rfl) ?_
                                  refine lv_iload hx hb d_Md_hinders_259 (lv_at hl 2 rfl) ?_
                                  refine lv_bipush (v := 17) hx hb d_Md_hinders_261 (by decide +kernel) ?_
                                  refine vp_callSi (va_Run.run (va_runV (As := [.int r_191, .int 17]) (rest := [.int (-r_287)]) ⟨hx, hb, hml, hown, htb⟩ (c_Md_lineOf_t l dC dI ct L f hO_0 q0 m0 r_191 (17 : Int32) po_192 po_193 (by decide +kernel) (by decide +kernel)) (cwV 2 htb (gd_V tw_611 tw_612 tw_613 tw_479 tw_610) rfl rfl rfl (by decide +kernel) ⟨Nat.le_of_ble_eq_true rfl, Nat.le_of_ble_eq_true rfl⟩) ⟨pr_blind, tw_recv hK hP m0 rfl rfl, pr_pre hP hK hN⟩ rfl rfl hl.1 rfl (lv_room (Nat.le_of_ble_eq_true rfl)) d_Md_hinders_263 ⟨Nat.le_of_ble_eq_true rfl, Nat.le_of_ble_eq_true rfl⟩)) (fun r_321 er_321 => ?_)
                                  clear er_321
                                  refine lv_icmp_le (tgt := 272) hx hb d_Md_hinders_266 (by decide) (fun c_322 => ?_) (fun c_322 => ?_)
                                  · refine lv_aload_n hx hb d_Md_hinders_272 rfl (lv_at hl 4 rfl) ?_
                                    refine tw_getI (x := (ti f q0 1)) (D := (dC, dI)) (C := R_Md) (T := F_Md) (N := 64) (ci := 7) (kd := 27) (ct := ct) hx hb htb i_Md hown hK hP m0 rfl rfl 1 rfl (by decide) (htb (.fieldLink R_Md 7 "WaterMenModel" "time" "I") tw_476) (fun _ h9 => h9) rfl d_Md_hinders_273 ?_
                                    refine lv_aload_n hx hb d_Md_hinders_276 rfl (lv_at hl 4 rfl) ?_
                                    refine lv_iload_n hx hb d_Md_hinders_277 rfl (lv_at hl 5 rfl) ?_
                                    refine lv_iload_n hx hb d_Md_hinders_278 rfl (lv_at hl 7 rfl) ?_
                                    refine vp_callSi (va_Run.run (va_runV (As := [.int p_0, .int p_2]) (rest := [.int (ti f q0 1)]) ⟨hx, hb, hml, hown, htb⟩ (c_Md_minutesOf_t l dC dI ct L f hO_0 q0 m0 p_0 p_2 as_0 as_1 as_4 as_5) (cwV 2 htb (gd_V tw_629 tw_630 tw_631 tw_479 tw_628) rfl rfl rfl (by decide +kernel) ⟨Nat.le_of_ble_eq_true rfl, Nat.le_of_ble_eq_true rfl⟩) ⟨pr_blind, tw_recv hK hP m0 rfl rfl, pr_pre hP hK hN⟩ rfl rfl hl.1 rfl (lv_room (Nat.le_of_ble_eq_true rfl)) d_Md_hinders_279 ⟨Nat.le_of_ble_eq_true rfl, Nat.le_of_ble_eq_true rfl⟩)) (fun r_323 er_323 => ?_)
                                    clear er_323
                                    refine lv_iadd hx hb d_Md_hinders_282 ?_
                                    refine lv_ldcw (v := 359999) hx hb hown (htb (.constant R_Md 305 359999) tw_632) d_Md_hinders_283 ?_
                                    refine lv_icmp_le (tgt := 294) hx hb d_Md_hinders_286 (by decide) (fun c_324 => ?_) (fun c_324 => ?_)
                                    · refine lv_iconst (v := 0) hx hb d_Md_hinders_294 (by decide +kernel) ?_
                                      exact W.iret (v := 0) hx hb hr (fun t ht hW => ⟨0, rfl, trivial, ht⟩) t_nil d_Md_hinders_295
                                    · refine lv_bipush (v := 7) hx hb d_Md_hinders_289 (by decide +kernel) ?_
                                      refine lv_goto (tgt := 295) hx hb d_Md_hinders_291 (by decide) ?_
                                      exact W.iret (v := 7) hx hb hr (fun t ht hW => ⟨7, rfl, trivial, ht⟩) t_nil d_Md_hinders_295
                                  · refine lv_bipush (v := 6) hx hb d_Md_hinders_269 (by decide +kernel) ?_
                                    exact W.iret (v := 6) hx hb hr (fun t ht hW => ⟨6, rfl, trivial, ht⟩) t_nil d_Md_hinders_271
                      · refine lv_iconst (v := 1) hx hb d_Md_hinders_156 (by decide +kernel) ?_
                        refine lv_goto (tgt := 161) hx hb d_Md_hinders_157 (by decide) ?_
                        refine lv_icmp_eq (tgt := 168) hx hb d_Md_hinders_161 (by decide) (fun _ => ?_) (fun h => absurd (by decide +kernel) h)
                        refine lv_iconst (v := 0) hx hb d_Md_hinders_168 (by decide +kernel) ?_
                        refine lv_istore (lv' := [(6, .int 0), (5, .int r_191), (4, .int x_19), (0, .ref q0), (1, .int p_0), (2, .int p_1), (3, .int p_2)]) hx hb d_Md_hinders_169 hl (by decide) rfl (fun ls hl => ?_)
                        refine lv_aload_n hx hb d_Md_hinders_171 rfl (lv_at hl 3 rfl) ?_
                        refine lv_aload_n hx hb d_Md_hinders_172 rfl (lv_at hl 3 rfl) ?_
                        refine vp_callSi (va_Run.run (va_runV (As := []) (rest := [.ref q0]) ⟨hx, hb, hml, hown, htb⟩ (c_Md_today_t l dC dI ct L f hO_0 q0 m0) (cwV 0 htb (gd_V tw_499 tw_500 tw_501 tw_479 tw_498) rfl rfl rfl (by decide +kernel) ⟨Nat.le_of_ble_eq_true rfl, Nat.le_of_ble_eq_true rfl⟩) ⟨pr_blind, tw_recv hK hP m0 rfl rfl, pr_pre hP hK hN⟩ rfl rfl hl.1 rfl (lv_room (Nat.le_of_ble_eq_true rfl)) d_Md_hinders_173 ⟨Nat.le_of_ble_eq_true rfl, Nat.le_of_ble_eq_true rfl⟩)) (fun r_325 er_325 => ?_)
                        obtain ⟨po_326, po_327, po_328, po_329, -⟩ := er_325
                        refine lv_aload_n hx hb d_Md_hinders_176 rfl (lv_at hl 3 rfl) ?_
                        refine vp_callSi (va_Run.run (va_runV (As := []) (rest := [.int r_325, .ref q0]) ⟨hx, hb, hml, hown, htb⟩ (c_Md_hourNow_t l dC dI ct L f hO_0 q0 m0) (cwV 0 htb (gd_V tw_625 tw_626 tw_627 tw_479 tw_624) rfl rfl rfl (by decide +kernel) ⟨Nat.le_of_ble_eq_true rfl, Nat.le_of_ble_eq_true rfl⟩) ⟨pr_blind, tw_recv hK hP m0 rfl rfl, pr_pre hP hK hN⟩ rfl rfl hl.1 rfl (lv_room (Nat.le_of_ble_eq_true rfl)) d_Md_hinders_177 ⟨Nat.le_of_ble_eq_true rfl, Nat.le_of_ble_eq_true rfl⟩)) (fun r_330 er_330 => ?_)
                        obtain ⟨po_331, po_332, -⟩ := er_330
                        refine vp_callSi (va_Run.run (va_runV (As := [.int r_325, .int r_330]) (rest := []) ⟨hx, hb, hml, hown, htb⟩ (c_Md_flowOf_t l dC dI ct L f hO_0 q0 m0 r_325 r_330 po_326 po_327 po_331 po_332) (cwV 2 htb (gd_V tw_495 tw_496 tw_497 tw_479 tw_494) rfl rfl rfl (by decide +kernel) ⟨Nat.le_of_ble_eq_true rfl, Nat.le_of_ble_eq_true rfl⟩) ⟨pr_blind, tw_recv hK hP m0 rfl rfl, pr_pre hP hK hN⟩ rfl rfl hl.1 rfl (lv_room (Nat.le_of_ble_eq_true rfl)) d_Md_hinders_180 ⟨Nat.le_of_ble_eq_true rfl, Nat.le_of_ble_eq_true rfl⟩)) (fun r_333 er_333 => ?_)
                        clear er_333
                        refine lv_istore (lv' := [(7, .int r_333), (6, .int 0), (5, .int r_191), (4, .int x_19), (0, .ref q0), (1, .int p_0), (2, .int p_1), (3, .int p_2)]) hx hb d_Md_hinders_183 hl (by decide) rfl (fun ls hl => ?_)
                        refine lv_iload hx hb d_Md_hinders_185 (lv_at hl 1 rfl) ?_
                        refine lv_if_eq (tgt := 229) hx hb d_Md_hinders_187 (by decide) (fun _ => ?_) (fun h => absurd (by decide +kernel) h)
                        refine lv_iload hx hb d_Md_hinders_229 (lv_at hl 1 rfl) ?_
                        refine lv_if_eq (tgt := 272) hx hb d_Md_hinders_231 (by decide) (fun _ => ?_) (fun h => absurd (by decide +kernel) h)
                        refine lv_aload_n hx hb d_Md_hinders_272 rfl (lv_at hl 4 rfl) ?_
                        refine tw_getI (x := (ti f q0 1)) (D := (dC, dI)) (C := R_Md) (T := F_Md) (N := 64) (ci := 7) (kd := 27) (ct := ct) hx hb htb i_Md hown hK hP m0 rfl rfl 1 rfl (by decide) (htb (.fieldLink R_Md 7 "WaterMenModel" "time" "I") tw_476) (fun _ h9 => h9) rfl d_Md_hinders_273 ?_
                        refine lv_aload_n hx hb d_Md_hinders_276 rfl (lv_at hl 4 rfl) ?_
                        refine lv_iload_n hx hb d_Md_hinders_277 rfl (lv_at hl 5 rfl) ?_
                        refine lv_iload_n hx hb d_Md_hinders_278 rfl (lv_at hl 7 rfl) ?_
                        refine vp_callSi (va_Run.run (va_runV (As := [.int p_0, .int p_2]) (rest := [.int (ti f q0 1)]) ⟨hx, hb, hml, hown, htb⟩ (c_Md_minutesOf_t l dC dI ct L f hO_0 q0 m0 p_0 p_2 as_0 as_1 as_4 as_5) (cwV 2 htb (gd_V tw_629 tw_630 tw_631 tw_479 tw_628) rfl rfl rfl (by decide +kernel) ⟨Nat.le_of_ble_eq_true rfl, Nat.le_of_ble_eq_true rfl⟩) ⟨pr_blind, tw_recv hK hP m0 rfl rfl, pr_pre hP hK hN⟩ rfl rfl hl.1 rfl (lv_room (Nat.le_of_ble_eq_true rfl)) d_Md_hinders_279 ⟨Nat.le_of_ble_eq_true rfl, Nat.le_of_ble_eq_true rfl⟩)) (fun r_334 er_334 => ?_)
                        clear er_334
                        refine lv_iadd hx hb d_Md_hinders_282 ?_
                        refine lv_ldcw (v := 359999) hx hb hown (htb (.constant R_Md 305 359999) tw_632) d_Md_hinders_283 ?_
                        refine lv_icmp_le (tgt := 294) hx hb d_Md_hinders_286 (by decide) (fun c_335 => ?_) (fun c_335 => ?_)
                        · refine lv_iconst (v := 0) hx hb d_Md_hinders_294 (by decide +kernel) ?_
                          exact W.iret (v := 0) hx hb hr (fun t ht hW => ⟨0, rfl, trivial, ht⟩) t_nil d_Md_hinders_295
                        · refine lv_bipush (v := 7) hx hb d_Md_hinders_289 (by decide +kernel) ?_
                          refine lv_goto (tgt := 295) hx hb d_Md_hinders_291 (by decide) ?_
                          exact W.iret (v := 7) hx hb hr (fun t ht hW => ⟨7, rfl, trivial, ht⟩) t_nil d_Md_hinders_295
                · refine lv_iconst (v := 5) hx hb d_Md_hinders_125 (by decide +kernel) ?_
                  exact W.iret (v := 5) hx hb hr (fun t ht hW => ⟨5, rfl, trivial, ht⟩) t_nil d_Md_hinders_126
            · refine lv_iconst (v := 4) hx hb d_Md_hinders_78 (by decide +kernel) ?_
              exact W.iret (v := 4) hx hb hr (fun t ht hW => ⟨4, rfl, trivial, ht⟩) t_nil d_Md_hinders_79
        · refine lv_iconst (v := 3) hx hb d_Md_hinders_44 (by decide +kernel) ?_
          exact W.iret (v := 3) hx hb hr (fun t ht hW => ⟨3, rfl, trivial, ht⟩) t_nil d_Md_hinders_45
    · refine lv_iconst (v := 2) hx hb d_Md_hinders_23 (by decide +kernel) ?_
      exact W.iret (v := 2) hx hb hr (fun t ht hW => ⟨2, rfl, trivial, ht⟩) t_nil d_Md_hinders_24
  · refine lv_iconst (v := 1) hx hb d_Md_hinders_12 (by decide +kernel) ?_
    exact W.iret (v := 1) hx hb hr (fun t ht hW => ⟨1, rfl, trivial, ht⟩) t_nil d_Md_hinders_13
