set_option maxHeartbeats 4000000 in
set_option maxRecDepth 100000 in
theorem c_Md_hinders_t (l : Launch) (dC : Nat → ClassId) (dI : Nat → Nat → Nat) (ct : Nat → ClassId) (L : List Nat) (f : TF) (hO_0 : Ok L f) (q0 : Nat) (m0 : q0 ∈ L ∧ tk f q0 = 27) (p_0 : Int32) (p_1 : Int32) (p_2 : Int32)  (as_0 : ¬ (p_0 < 0)) (as_1 : ¬ (19 < p_0)) (as_2 : ¬ (p_1 < 0)) (as_3 : ¬ (39 < p_1)) (as_4 : ¬ (p_2 < 0)) (as_5 : ¬ (11 < p_2)) : Met l y_Md_hinders (.code y_Md_hinders b_Md_hinders 8 (some .int) :: TB) ({ frames := 3, cells := 0, slots := 0, locals := 76 }) (va_Pc [.ref q0, .int p_0, .int p_1, .int p_2] (PR dC dI (TW ct L f) (TT ct))) (vp_Si (fun r => True)) 0 0 (fun _ => False) := by
  refine Met.ofW (cc := b_Md_hinders) (maxL := 8) (ret := (some .int)) (by decide) rfl ?_
  intro p e s m args below meth c s₁ B hml hv
  obtain ⟨rfl, hP, hK, hN⟩ := hv
  have hx := B.exec
  have hb := B.bytes
  have hr := B.returns
  have hts := atoms_spec (ws := (.code y_Md_hinders b_Md_hinders 8 (some .int) :: TB)) B.pre
  have htb := fun w (h : w ∈ TB) => hts w (List.mem_cons_of_mem _ h)
  have hown : s.vm.findClass R_Md = some m.cls := findClass_of_methodNamed B.named
  have hlocks := B.notSynchronized
  have hl := lv_entry ([.ref q0, .int p_0, .int p_1, .int p_2]) (n := 8) (Nat.le_of_ble_eq_true rfl)
  rw [lg_entry_eq]
  generalize (lg_sl ([.ref q0, .int p_0, .int p_1, .int p_2]) ++ List.replicate (8 - (lg_sl ([.ref q0, .int p_0, .int p_1, .int p_2])).length) Slot.unset).toArray = ls at hl ⊢
  have hl : lv_has ls 8 [(0, .ref q0), (1, .int p_0), (2, .int p_1), (3, .int p_2)] := hl
  refine lv_aload_n hx hb d_Md_hinders_0 rfl (lv_at hl 0 rfl) ?_
  refine tw_getr (D := (dC, dI)) (C := R_Md) (T := F_Md) (N := 64) (ci := 7) (kd := 27) (ct := ct) hx hb htb i_Md hown hK hP hO_0 m0 rfl rfl 8 (by decide) (htb (.fieldLink R_Md 49 "WaterMenModel" "frosts" "[Z") tw_430) (fun _ h9 => h9) rfl d_Md_hinders_1 (fun q_1 e_1 m_1 => ?_)
  refine lv_aload_n hx hb d_Md_hinders_4 rfl (lv_at hl 0 rfl) ?_
  refine vp_callSi (va_Run.run (va_runV (As := []) (rest := [.ref q_1]) ⟨hx, hb, hml, hown, htb⟩ (c_Md_today_t l dC dI ct L f hO_0 q0 m0) (cwV 0 htb (gd_V tw_427 tw_428 tw_429 tw_407 tw_426) rfl rfl rfl (by decide +kernel) ⟨Nat.le_of_ble_eq_true rfl, Nat.le_of_ble_eq_true rfl⟩) ⟨pr_blind, tw_recv hK hP m0 rfl rfl, pr_pre hP hK hN⟩ rfl rfl hl.1 rfl (lv_room (Nat.le_of_ble_eq_true rfl)) d_Md_hinders_5 ⟨Nat.le_of_ble_eq_true rfl, Nat.le_of_ble_eq_true rfl⟩)) (fun r_2 er_2 => ?_)
  obtain ⟨po_3, po_4, po_5, po_6, -⟩ := er_2
  refine tw_aldZ (ct := ct) hx hb hK hP hO_0 m_1 rfl (hb_inl po_3 po_4 (by decide +kernel)) d_Md_hinders_8 (fun x_7 e_7 b_7 => ?_)
  refine lv_if_eq (tgt := 14) hx hb d_Md_hinders_9 (by decide) (fun c_8 => ?_) (fun c_8 => ?_)
  · refine lv_aload_n hx hb d_Md_hinders_14 rfl (lv_at hl 0 rfl) ?_
    refine tw_getr (D := (dC, dI)) (C := R_Md) (T := F_Md) (N := 64) (ci := 7) (kd := 27) (ct := ct) hx hb htb i_Md hown hK hP hO_0 m0 rfl rfl 25 (by decide) (htb (.fieldLink R_Md 103 "WaterMenModel" "boatTrip" "[I") tw_469) (fun _ h9 => h9) rfl d_Md_hinders_15 (fun q_9 e_9 m_9 => ?_)
    refine lv_iload_n hx hb d_Md_hinders_18 rfl (lv_at hl 1 rfl) ?_
    refine tw_aldI (ct := ct) hx hb hK hP hO_0 m_9 rfl (hb_inl as_0 as_1 (by decide +kernel)) d_Md_hinders_19 (fun x_10 e_10 b_10 => ?_)
    refine lv_if_lt (tgt := 25) hx hb d_Md_hinders_20 (by decide) (fun c_11 => ?_) (fun c_11 => ?_)
    · refine lv_aload_n hx hb d_Md_hinders_25 rfl (lv_at hl 0 rfl) ?_
      refine tw_getr (D := (dC, dI)) (C := R_Md) (T := F_Md) (N := 64) (ci := 7) (kd := 27) (ct := ct) hx hb htb i_Md hown hK hP hO_0 m0 rfl rfl 9 (by decide) (htb (.fieldLink R_Md 58 "WaterMenModel" "state" "[I") tw_434) (fun _ h9 => h9) rfl d_Md_hinders_26 (fun q_12 e_12 m_12 => ?_)
      refine lv_iload_n hx hb d_Md_hinders_29 rfl (lv_at hl 2 rfl) ?_
      refine tw_aldI (ct := ct) hx hb hK hP hO_0 m_12 rfl (hb_inl as_2 as_3 (by decide +kernel)) d_Md_hinders_30 (fun x_13 e_13 b_13 => ?_)
      refine lv_iconst (v := 2) hx hb d_Md_hinders_31 (by decide +kernel) ?_
      refine lv_icmp_ne (tgt := 44) hx hb d_Md_hinders_32 (by decide) (fun c_14 => ?_) (fun c_14 => ?_)
      · refine lv_iconst (v := 3) hx hb d_Md_hinders_44 (by decide +kernel) ?_
        exact W.iret (v := 3) hx hb hr (fun t ht hW => ⟨3, rfl, trivial, ht⟩) t_nil d_Md_hinders_45
      · refine lv_aload_n hx hb d_Md_hinders_35 rfl (lv_at hl 0 rfl) ?_
        refine tw_getr (D := (dC, dI)) (C := R_Md) (T := F_Md) (N := 64) (ci := 7) (kd := 27) (ct := ct) hx hb htb i_Md hown hK hP hO_0 m0 rfl rfl 16 (by decide) (htb (.fieldLink R_Md 79 "WaterMenModel" "wayOf" "[I") tw_455) (fun _ h9 => h9) rfl d_Md_hinders_36 (fun q_15 e_15 m_15 => ?_)
        refine lv_iload_n hx hb d_Md_hinders_39 rfl (lv_at hl 2 rfl) ?_
        refine tw_aldI (ct := ct) hx hb hK hP hO_0 m_15 rfl (hb_inl as_2 as_3 (by decide +kernel)) d_Md_hinders_40 (fun x_16 e_16 b_16 => ?_)
        refine lv_if_lt (tgt := 46) hx hb d_Md_hinders_41 (by decide) (fun c_17 => ?_) (fun c_17 => ?_)
        · refine lv_aload_n hx hb d_Md_hinders_46 rfl (lv_at hl 0 rfl) ?_
          refine tw_getr (D := (dC, dI)) (C := R_Md) (T := F_Md) (N := 64) (ci := 7) (kd := 27) (ct := ct) hx hb htb i_Md hown hK hP hO_0 m0 rfl rfl 23 (by decide) (htb (.fieldLink R_Md 97 "WaterMenModel" "boatAt" "[I") tw_467) (fun _ h9 => h9) rfl d_Md_hinders_47 (fun q_18 e_18 m_18 => ?_)
          refine lv_iload_n hx hb d_Md_hinders_50 rfl (lv_at hl 1 rfl) ?_
          refine tw_aldI (ct := ct) hx hb hK hP hO_0 m_18 rfl (hb_inl as_0 as_1 (by decide +kernel)) d_Md_hinders_51 (fun x_19 e_19 b_19 => ?_)
          refine lv_istore (lv' := [(4, .int x_19), (0, .ref q0), (1, .int p_0), (2, .int p_1), (3, .int p_2)]) hx hb d_Md_hinders_52 hl (by decide) rfl (fun ls hl => ?_)
          refine lv_aload_n hx hb d_Md_hinders_54 rfl (lv_at hl 1 rfl) ?_
          refine tw_getr (D := (dC, dI)) (C := R_Md) (T := F_Md) (N := 64) (ci := 7) (kd := 27) (ct := ct) hx hb htb i_Md hown hK hP hO_0 m0 rfl rfl 19 (by decide) (htb (.fieldLink R_Md 88 "WaterMenModel" "turns" "[I") tw_444) (fun _ h9 => h9) rfl d_Md_hinders_55 (fun q_20 e_20 m_20 => ?_)
          refine lv_iload hx hb d_Md_hinders_58 (lv_at hl 0 rfl) ?_
          refine tw_aldI (ct := ct) hx hb hK hP hO_0 m_20 rfl (hb_inl b_19.1 b_19.2 (by decide +kernel)) d_Md_hinders_60 (fun x_21 e_21 b_21 => ?_)
          refine lv_if_le (tgt := 80) hx hb d_Md_hinders_61 (by decide) (fun c_22 => ?_) (fun c_22 => ?_)
          · refine lv_aload_n hx hb d_Md_hinders_80 rfl (lv_at hl 1 rfl) ?_
            refine lv_aload_n hx hb d_Md_hinders_81 rfl (lv_at hl 1 rfl) ?_
            refine vp_callSi (va_Run.run (va_runV (As := []) (rest := [.ref q0]) ⟨hx, hb, hml, hown, htb⟩ (c_Md_today_t l dC dI ct L f hO_0 q0 m0) (cwV 0 htb (gd_V tw_427 tw_428 tw_429 tw_407 tw_426) rfl rfl rfl (by decide +kernel) ⟨Nat.le_of_ble_eq_true rfl, Nat.le_of_ble_eq_true rfl⟩) ⟨pr_blind, tw_recv hK hP m0 rfl rfl, pr_pre hP hK hN⟩ rfl rfl hl.1 rfl (lv_room (Nat.le_of_ble_eq_true rfl)) d_Md_hinders_82 ⟨Nat.le_of_ble_eq_true rfl, Nat.le_of_ble_eq_true rfl⟩)) (fun r_23 er_23 => ?_)
            obtain ⟨po_24, po_25, po_26, po_27, -⟩ := er_23
            refine lv_aload_n hx hb d_Md_hinders_85 rfl (lv_at hl 1 rfl) ?_
            refine vp_callSi (va_Run.run (va_runV (As := []) (rest := [.int r_23, .ref q0]) ⟨hx, hb, hml, hown, htb⟩ (c_Md_today_t l dC dI ct L f hO_0 q0 m0) (cwV 0 htb (gd_V tw_427 tw_428 tw_429 tw_407 tw_426) rfl rfl rfl (by decide +kernel) ⟨Nat.le_of_ble_eq_true rfl, Nat.le_of_ble_eq_true rfl⟩) ⟨pr_blind, tw_recv hK hP m0 rfl rfl, pr_pre hP hK hN⟩ rfl rfl hl.1 rfl (lv_room (Nat.le_of_ble_eq_true rfl)) d_Md_hinders_86 ⟨Nat.le_of_ble_eq_true rfl, Nat.le_of_ble_eq_true rfl⟩)) (fun r_28 er_28 => ?_)
            obtain ⟨po_29, po_30, po_31, po_32, -⟩ := er_28
            refine vp_callSi (va_Run.run (va_runV (As := [.int r_23, .int r_28]) (rest := []) ⟨hx, hb, hml, hown, htb⟩ (c_Md_forceOn_t l dC dI ct L f hO_0 q0 m0 r_23 r_28) (cwV 2 htb (gd_V tw_535 tw_536 tw_537 tw_407 tw_534) rfl rfl rfl (by decide +kernel) ⟨Nat.le_of_ble_eq_true rfl, Nat.le_of_ble_eq_true rfl⟩) ⟨pr_blind, tw_recv hK hP m0 rfl rfl, pr_pre hP hK hN⟩ rfl rfl hl.1 rfl (lv_room (Nat.le_of_ble_eq_true rfl)) d_Md_hinders_89 ⟨Nat.le_of_ble_eq_true rfl, Nat.le_of_ble_eq_true rfl⟩)) (fun r_33 er_33 => ?_)
            rcases er_33 with ⟨rfl, -⟩ | ⟨po_34, po_35, -⟩
            · refine lv_istore (lv' := [(5, .int (-2)), (4, .int x_19), (0, .ref q0), (1, .int p_0), (2, .int p_1), (3, .int p_2)]) hx hb d_Md_hinders_92 hl (by decide) rfl (fun ls hl => ?_)
              refine lv_iload hx hb d_Md_hinders_94 (lv_at hl 0 rfl) ?_
              refine lv_if_lt (tgt := 125) hx hb d_Md_hinders_96 (by decide) (fun _ => ?_) (fun h => absurd (by decide +kernel) h)
              refine lv_iconst (v := 5) hx hb d_Md_hinders_125 (by decide +kernel) ?_
              exact W.iret (v := 5) hx hb hr (fun t ht hW => ⟨5, rfl, trivial, ht⟩) t_nil d_Md_hinders_126
            · refine lv_istore (lv' := [(5, .int r_33), (4, .int x_19), (0, .ref q0), (1, .int p_0), (2, .int p_1), (3, .int p_2)]) hx hb d_Md_hinders_92 hl (by decide) rfl (fun ls hl => ?_)
              refine lv_iload hx hb d_Md_hinders_94 (lv_at hl 0 rfl) ?_
              refine lv_if_lt (tgt := 125) hx hb d_Md_hinders_96 (by decide) (fun h => absurd h po_34) (fun _ => ?_)
              refine lv_aload_n hx hb d_Md_hinders_99 rfl (lv_at hl 2 rfl) ?_
              refine lv_iload hx hb d_Md_hinders_100 (lv_at hl 0 rfl) ?_
              refine lv_iload hx hb d_Md_hinders_102 (lv_at hl 1 rfl) ?_
              refine lv_iload_n hx hb d_Md_hinders_104 rfl (lv_at hl 5 rfl) ?_
              refine lv_aload_n hx hb d_Md_hinders_105 rfl (lv_at hl 2 rfl) ?_
              refine vp_callSi (va_Run.run (va_runV (As := []) (rest := [.int p_2, .int x_19, .int r_33, .ref q0]) ⟨hx, hb, hml, hown, htb⟩ (c_Md_today_t l dC dI ct L f hO_0 q0 m0) (cwV 0 htb (gd_V tw_427 tw_428 tw_429 tw_407 tw_426) rfl rfl rfl (by decide +kernel) ⟨Nat.le_of_ble_eq_true rfl, Nat.le_of_ble_eq_true rfl⟩) ⟨pr_blind, tw_recv hK hP m0 rfl rfl, pr_pre hP hK hN⟩ rfl rfl hl.1 rfl (lv_room (Nat.le_of_ble_eq_true rfl)) d_Md_hinders_106 ⟨Nat.le_of_ble_eq_true rfl, Nat.le_of_ble_eq_true rfl⟩)) (fun r_36 er_36 => ?_)
              obtain ⟨po_37, po_38, po_39, po_40, -⟩ := er_36
              refine lv_aload_n hx hb d_Md_hinders_109 rfl (lv_at hl 2 rfl) ?_
              refine vp_callSi (va_Run.run (va_runV (As := []) (rest := [.int r_36, .int p_2, .int x_19, .int r_33, .ref q0]) ⟨hx, hb, hml, hown, htb⟩ (c_Md_hourNow_t l dC dI ct L f hO_0 q0 m0) (cwV 0 htb (gd_V tw_553 tw_554 tw_555 tw_407 tw_552) rfl rfl rfl (by decide +kernel) ⟨Nat.le_of_ble_eq_true rfl, Nat.le_of_ble_eq_true rfl⟩) ⟨pr_blind, tw_recv hK hP m0 rfl rfl, pr_pre hP hK hN⟩ rfl rfl hl.1 rfl (lv_room (Nat.le_of_ble_eq_true rfl)) d_Md_hinders_110 ⟨Nat.le_of_ble_eq_true rfl, Nat.le_of_ble_eq_true rfl⟩)) (fun r_41 er_41 => ?_)
              obtain ⟨po_42, po_43, -⟩ := er_41
              refine lv_aload_n hx hb d_Md_hinders_113 rfl (lv_at hl 2 rfl) ?_
              refine tw_getr (D := (dC, dI)) (C := R_Md) (T := F_Md) (N := 64) (ci := 7) (kd := 27) (ct := ct) hx hb htb i_Md hown hK hP hO_0 m0 rfl rfl 22 (by decide) (htb (.fieldLink R_Md 94 "WaterMenModel" "boatOars" "[I") tw_466) (fun _ h9 => h9) rfl d_Md_hinders_114 (fun q_44 e_44 m_44 => ?_)
              refine lv_iload_n hx hb d_Md_hinders_117 rfl (lv_at hl 3 rfl) ?_
              refine tw_aldI (ct := ct) hx hb hK hP hO_0 m_44 rfl (hb_inl as_0 as_1 (by decide +kernel)) d_Md_hinders_118 (fun x_45 e_45 b_45 => ?_)
              refine vp_callSi (va_Run.run (va_runV (As := [.int r_33, .int x_19, .int p_2, .int r_36, .int r_41, .int x_45]) (rest := []) ⟨hx, hb, hml, hown, htb⟩ (c_Md_fareOf_t l dC dI ct L f hO_0 q0 m0 r_33 x_19 p_2 r_36 r_41 x_45 po_34 po_35 b_19.1 b_19.2 as_4 as_5 po_37 po_38 po_42 po_43) (cwV 6 htb (gd_V tw_549 tw_550 tw_551 tw_407 tw_548) rfl rfl rfl (by decide +kernel) ⟨Nat.le_of_ble_eq_true rfl, Nat.le_of_ble_eq_true rfl⟩) ⟨pr_blind, tw_recv hK hP m0 rfl rfl, pr_pre hP hK hN⟩ rfl rfl hl.1 rfl (lv_room (Nat.le_of_ble_eq_true rfl)) d_Md_hinders_119 ⟨Nat.le_of_ble_eq_true rfl, Nat.le_of_ble_eq_true rfl⟩)) (fun r_46 er_46 => ?_)
              clear er_46
              refine lv_if_ge (tgt := 127) hx hb d_Md_hinders_122 (by decide) (fun c_47 => ?_) (fun c_47 => ?_)
              · refine lv_aload_n hx hb d_Md_hinders_127 rfl (lv_at hl 2 rfl) ?_
                refine tw_geti (D := (dC, dI)) (C := R_Md) (T := F_Md) (N := 64) (ci := 7) (kd := 27) (ct := ct) hx hb htb i_Md hown hK hP hO_0 m0 rfl rfl 4 (by decide) (htb (.fieldLink R_Md 35 "WaterMenModel" "bridge" "I") tw_418) (fun _ h9 => h9) rfl d_Md_hinders_128 (fun x_48 e_48 b_48 => ?_)
                refine lv_if_lt (tgt := 168) hx hb d_Md_hinders_131 (by decide) (fun c_49 => ?_) (fun c_49 => ?_)
                · refine lv_iconst (v := 0) hx hb d_Md_hinders_168 (by decide +kernel) ?_
                  refine lv_istore (lv' := [(6, .int 0), (5, .int r_33), (4, .int x_19), (0, .ref q0), (1, .int p_0), (2, .int p_1), (3, .int p_2)]) hx hb d_Md_hinders_169 hl (by decide) rfl (fun ls hl => ?_)
                  refine lv_aload_n hx hb d_Md_hinders_171 rfl (lv_at hl 3 rfl) ?_
                  refine lv_aload_n hx hb d_Md_hinders_172 rfl (lv_at hl 3 rfl) ?_
                  refine vp_callSi (va_Run.run (va_runV (As := []) (rest := [.ref q0]) ⟨hx, hb, hml, hown, htb⟩ (c_Md_today_t l dC dI ct L f hO_0 q0 m0) (cwV 0 htb (gd_V tw_427 tw_428 tw_429 tw_407 tw_426) rfl rfl rfl (by decide +kernel) ⟨Nat.le_of_ble_eq_true rfl, Nat.le_of_ble_eq_true rfl⟩) ⟨pr_blind, tw_recv hK hP m0 rfl rfl, pr_pre hP hK hN⟩ rfl rfl hl.1 rfl (lv_room (Nat.le_of_ble_eq_true rfl)) d_Md_hinders_173 ⟨Nat.le_of_ble_eq_true rfl, Nat.le_of_ble_eq_true rfl⟩)) (fun r_50 er_50 => ?_)
                  obtain ⟨po_51, po_52, po_53, po_54, -⟩ := er_50
                  refine lv_aload_n hx hb d_Md_hinders_176 rfl (lv_at hl 3 rfl) ?_
                  refine vp_callSi (va_Run.run (va_runV (As := []) (rest := [.int r_50, .ref q0]) ⟨hx, hb, hml, hown, htb⟩ (c_Md_hourNow_t l dC dI ct L f hO_0 q0 m0) (cwV 0 htb (gd_V tw_553 tw_554 tw_555 tw_407 tw_552) rfl rfl rfl (by decide +kernel) ⟨Nat.le_of_ble_eq_true rfl, Nat.le_of_ble_eq_true rfl⟩) ⟨pr_blind, tw_recv hK hP m0 rfl rfl, pr_pre hP hK hN⟩ rfl rfl hl.1 rfl (lv_room (Nat.le_of_ble_eq_true rfl)) d_Md_hinders_177 ⟨Nat.le_of_ble_eq_true rfl, Nat.le_of_ble_eq_true rfl⟩)) (fun r_55 er_55 => ?_)
                  obtain ⟨po_56, po_57, -⟩ := er_55
                  refine vp_callSi (va_Run.run (va_runV (As := [.int r_50, .int r_55]) (rest := []) ⟨hx, hb, hml, hown, htb⟩ (c_Md_flowOf_t l dC dI ct L f hO_0 q0 m0 r_50 r_55 po_51 po_52 po_56 po_57) (cwV 2 htb (gd_V tw_423 tw_424 tw_425 tw_407 tw_422) rfl rfl rfl (by decide +kernel) ⟨Nat.le_of_ble_eq_true rfl, Nat.le_of_ble_eq_true rfl⟩) ⟨pr_blind, tw_recv hK hP m0 rfl rfl, pr_pre hP hK hN⟩ rfl rfl hl.1 rfl (lv_room (Nat.le_of_ble_eq_true rfl)) d_Md_hinders_180 ⟨Nat.le_of_ble_eq_true rfl, Nat.le_of_ble_eq_true rfl⟩)) (fun r_58 er_58 => ?_)
                  clear er_58
                  refine lv_istore (lv' := [(7, .int r_58), (6, .int 0), (5, .int r_33), (4, .int x_19), (0, .ref q0), (1, .int p_0), (2, .int p_1), (3, .int p_2)]) hx hb d_Md_hinders_183 hl (by decide) rfl (fun ls hl => ?_)
                  refine lv_iload hx hb d_Md_hinders_185 (lv_at hl 1 rfl) ?_
                  refine lv_if_eq (tgt := 229) hx hb d_Md_hinders_187 (by decide) (fun _ => ?_) (fun h => absurd (by decide +kernel) h)
                  refine lv_iload hx hb d_Md_hinders_229 (lv_at hl 1 rfl) ?_
                  refine lv_if_eq (tgt := 272) hx hb d_Md_hinders_231 (by decide) (fun _ => ?_) (fun h => absurd (by decide +kernel) h)
                  refine lv_aload_n hx hb d_Md_hinders_272 rfl (lv_at hl 4 rfl) ?_
                  refine tw_geti (D := (dC, dI)) (C := R_Md) (T := F_Md) (N := 64) (ci := 7) (kd := 27) (ct := ct) hx hb htb i_Md hown hK hP hO_0 m0 rfl rfl 1 (by decide) (htb (.fieldLink R_Md 7 "WaterMenModel" "time" "I") tw_404) (fun _ h9 => h9) rfl d_Md_hinders_273 (fun x_59 e_59 b_59 => ?_)
                  refine lv_aload_n hx hb d_Md_hinders_276 rfl (lv_at hl 4 rfl) ?_
                  refine lv_iload_n hx hb d_Md_hinders_277 rfl (lv_at hl 5 rfl) ?_
                  refine lv_iload_n hx hb d_Md_hinders_278 rfl (lv_at hl 7 rfl) ?_
                  refine vp_callSi (va_Run.run (va_runV (As := [.int p_0, .int p_2]) (rest := [.int x_59]) ⟨hx, hb, hml, hown, htb⟩ (c_Md_minutesOf_t l dC dI ct L f hO_0 q0 m0 p_0 p_2 as_0 as_1 as_4 as_5) (cwV 2 htb (gd_V tw_557 tw_558 tw_559 tw_407 tw_556) rfl rfl rfl (by decide +kernel) ⟨Nat.le_of_ble_eq_true rfl, Nat.le_of_ble_eq_true rfl⟩) ⟨pr_blind, tw_recv hK hP m0 rfl rfl, pr_pre hP hK hN⟩ rfl rfl hl.1 rfl (lv_room (Nat.le_of_ble_eq_true rfl)) d_Md_hinders_279 ⟨Nat.le_of_ble_eq_true rfl, Nat.le_of_ble_eq_true rfl⟩)) (fun r_60 er_60 => ?_)
                  clear er_60
                  refine lv_iadd hx hb d_Md_hinders_282 ?_
                  refine lv_ldcw (v := 359999) hx hb hown (htb (.constant R_Md 305 359999) tw_560) d_Md_hinders_283 ?_
                  refine lv_icmp_le (tgt := 294) hx hb d_Md_hinders_286 (by decide) (fun c_61 => ?_) (fun c_61 => ?_)
                  · refine lv_iconst (v := 0) hx hb d_Md_hinders_294 (by decide +kernel) ?_
                    exact W.iret (v := 0) hx hb hr (fun t ht hW => ⟨0, rfl, trivial, ht⟩) t_nil d_Md_hinders_295
                  · refine lv_bipush (v := 7) hx hb d_Md_hinders_289 (by decide +kernel) ?_
                    refine lv_goto (tgt := 295) hx hb d_Md_hinders_291 (by decide) ?_
                    exact W.iret (v := 7) hx hb hr (fun t ht hW => ⟨7, rfl, trivial, ht⟩) t_nil d_Md_hinders_295
                · refine lv_iload hx hb d_Md_hinders_134 (lv_at hl 1 rfl) ?_
                  refine lv_aload_n hx hb d_Md_hinders_136 rfl (lv_at hl 2 rfl) ?_
                  refine tw_getI (x := x_48) (D := (dC, dI)) (C := R_Md) (T := F_Md) (N := 64) (ci := 7) (kd := 27) (ct := ct) hx hb htb i_Md hown hK hP m0 rfl rfl 4 e_48 (by decide) (htb (.fieldLink R_Md 35 "WaterMenModel" "bridge" "I") tw_418) (fun _ h9 => h9) rfl d_Md_hinders_137 ?_
                  refine lv_icmp_gt (tgt := 147) hx hb d_Md_hinders_140 (by decide) (fun c_62 => ?_) (fun c_62 => ?_)
                  · refine lv_iconst (v := 0) hx hb d_Md_hinders_147 (by decide +kernel) ?_
                    refine lv_iload_n hx hb d_Md_hinders_148 rfl (lv_at hl 5 rfl) ?_
                    refine lv_aload_n hx hb d_Md_hinders_149 rfl (lv_at hl 2 rfl) ?_
                    refine tw_getI (x := x_48) (D := (dC, dI)) (C := R_Md) (T := F_Md) (N := 64) (ci := 7) (kd := 27) (ct := ct) hx hb htb i_Md hown hK hP m0 rfl rfl 4 e_48 (by decide) (htb (.fieldLink R_Md 35 "WaterMenModel" "bridge" "I") tw_418) (fun _ h9 => h9) rfl d_Md_hinders_150 ?_
                    refine lv_icmp_gt (tgt := 160) hx hb d_Md_hinders_153 (by decide) (fun c_63 => ?_) (fun c_63 => ?_)
                    · refine lv_iconst (v := 0) hx hb d_Md_hinders_160 (by decide +kernel) ?_
                      refine lv_icmp_eq (tgt := 168) hx hb d_Md_hinders_161 (by decide) (fun _ => ?_) (fun h => absurd (by decide +kernel) h)
                      refine lv_iconst (v := 0) hx hb d_Md_hinders_168 (by decide +kernel) ?_
                      refine lv_istore (lv' := [(6, .int 0), (5, .int r_33), (4, .int x_19), (0, .ref q0), (1, .int p_0), (2, .int p_1), (3, .int p_2)]) hx hb d_Md_hinders_169 hl (by decide) rfl (fun ls hl => ?_)
                      refine lv_aload_n hx hb d_Md_hinders_171 rfl (lv_at hl 3 rfl) ?_
                      refine lv_aload_n hx hb d_Md_hinders_172 rfl (lv_at hl 3 rfl) ?_
                      refine vp_callSi (va_Run.run (va_runV (As := []) (rest := [.ref q0]) ⟨hx, hb, hml, hown, htb⟩ (c_Md_today_t l dC dI ct L f hO_0 q0 m0) (cwV 0 htb (gd_V tw_427 tw_428 tw_429 tw_407 tw_426) rfl rfl rfl (by decide +kernel) ⟨Nat.le_of_ble_eq_true rfl, Nat.le_of_ble_eq_true rfl⟩) ⟨pr_blind, tw_recv hK hP m0 rfl rfl, pr_pre hP hK hN⟩ rfl rfl hl.1 rfl (lv_room (Nat.le_of_ble_eq_true rfl)) d_Md_hinders_173 ⟨Nat.le_of_ble_eq_true rfl, Nat.le_of_ble_eq_true rfl⟩)) (fun r_64 er_64 => ?_)
                      obtain ⟨po_65, po_66, po_67, po_68, -⟩ := er_64
                      refine lv_aload_n hx hb d_Md_hinders_176 rfl (lv_at hl 3 rfl) ?_
                      refine vp_callSi (va_Run.run (va_runV (As := []) (rest := [.int r_64, .ref q0]) ⟨hx, hb, hml, hown, htb⟩ (c_Md_hourNow_t l dC dI ct L f hO_0 q0 m0) (cwV 0 htb (gd_V tw_553 tw_554 tw_555 tw_407 tw_552) rfl rfl rfl (by decide +kernel) ⟨Nat.le_of_ble_eq_true rfl, Nat.le_of_ble_eq_true rfl⟩) ⟨pr_blind, tw_recv hK hP m0 rfl rfl, pr_pre hP hK hN⟩ rfl rfl hl.1 rfl (lv_room (Nat.le_of_ble_eq_true rfl)) d_Md_hinders_177 ⟨Nat.le_of_ble_eq_true rfl, Nat.le_of_ble_eq_true rfl⟩)) (fun r_69 er_69 => ?_)
                      obtain ⟨po_70, po_71, -⟩ := er_69
                      refine vp_callSi (va_Run.run (va_runV (As := [.int r_64, .int r_69]) (rest := []) ⟨hx, hb, hml, hown, htb⟩ (c_Md_flowOf_t l dC dI ct L f hO_0 q0 m0 r_64 r_69 po_65 po_66 po_70 po_71) (cwV 2 htb (gd_V tw_423 tw_424 tw_425 tw_407 tw_422) rfl rfl rfl (by decide +kernel) ⟨Nat.le_of_ble_eq_true rfl, Nat.le_of_ble_eq_true rfl⟩) ⟨pr_blind, tw_recv hK hP m0 rfl rfl, pr_pre hP hK hN⟩ rfl rfl hl.1 rfl (lv_room (Nat.le_of_ble_eq_true rfl)) d_Md_hinders_180 ⟨Nat.le_of_ble_eq_true rfl, Nat.le_of_ble_eq_true rfl⟩)) (fun r_72 er_72 => ?_)
                      clear er_72
                      refine lv_istore (lv' := [(7, .int r_72), (6, .int 0), (5, .int r_33), (4, .int x_19), (0, .ref q0), (1, .int p_0), (2, .int p_1), (3, .int p_2)]) hx hb d_Md_hinders_183 hl (by decide) rfl (fun ls hl => ?_)
                      refine lv_iload hx hb d_Md_hinders_185 (lv_at hl 1 rfl) ?_
                      refine lv_if_eq (tgt := 229) hx hb d_Md_hinders_187 (by decide) (fun _ => ?_) (fun h => absurd (by decide +kernel) h)
                      refine lv_iload hx hb d_Md_hinders_229 (lv_at hl 1 rfl) ?_
                      refine lv_if_eq (tgt := 272) hx hb d_Md_hinders_231 (by decide) (fun _ => ?_) (fun h => absurd (by decide +kernel) h)
                      refine lv_aload_n hx hb d_Md_hinders_272 rfl (lv_at hl 4 rfl) ?_
                      refine tw_geti (D := (dC, dI)) (C := R_Md) (T := F_Md) (N := 64) (ci := 7) (kd := 27) (ct := ct) hx hb htb i_Md hown hK hP hO_0 m0 rfl rfl 1 (by decide) (htb (.fieldLink R_Md 7 "WaterMenModel" "time" "I") tw_404) (fun _ h9 => h9) rfl d_Md_hinders_273 (fun x_73 e_73 b_73 => ?_)
                      refine lv_aload_n hx hb d_Md_hinders_276 rfl (lv_at hl 4 rfl) ?_
                      refine lv_iload_n hx hb d_Md_hinders_277 rfl (lv_at hl 5 rfl) ?_
                      refine lv_iload_n hx hb d_Md_hinders_278 rfl (lv_at hl 7 rfl) ?_
                      refine vp_callSi (va_Run.run (va_runV (As := [.int p_0, .int p_2]) (rest := [.int x_73]) ⟨hx, hb, hml, hown, htb⟩ (c_Md_minutesOf_t l dC dI ct L f hO_0 q0 m0 p_0 p_2 as_0 as_1 as_4 as_5) (cwV 2 htb (gd_V tw_557 tw_558 tw_559 tw_407 tw_556) rfl rfl rfl (by decide +kernel) ⟨Nat.le_of_ble_eq_true rfl, Nat.le_of_ble_eq_true rfl⟩) ⟨pr_blind, tw_recv hK hP m0 rfl rfl, pr_pre hP hK hN⟩ rfl rfl hl.1 rfl (lv_room (Nat.le_of_ble_eq_true rfl)) d_Md_hinders_279 ⟨Nat.le_of_ble_eq_true rfl, Nat.le_of_ble_eq_true rfl⟩)) (fun r_74 er_74 => ?_)
                      clear er_74
                      refine lv_iadd hx hb d_Md_hinders_282 ?_
                      refine lv_ldcw (v := 359999) hx hb hown (htb (.constant R_Md 305 359999) tw_560) d_Md_hinders_283 ?_
                      refine lv_icmp_le (tgt := 294) hx hb d_Md_hinders_286 (by decide) (fun c_75 => ?_) (fun c_75 => ?_)
                      · refine lv_iconst (v := 0) hx hb d_Md_hinders_294 (by decide +kernel) ?_
                        exact W.iret (v := 0) hx hb hr (fun t ht hW => ⟨0, rfl, trivial, ht⟩) t_nil d_Md_hinders_295
                      · refine lv_bipush (v := 7) hx hb d_Md_hinders_289 (by decide +kernel) ?_
                        refine lv_goto (tgt := 295) hx hb d_Md_hinders_291 (by decide) ?_
                        exact W.iret (v := 7) hx hb hr (fun t ht hW => ⟨7, rfl, trivial, ht⟩) t_nil d_Md_hinders_295
                    · refine lv_iconst (v := 1) hx hb d_Md_hinders_156 (by decide +kernel) ?_
                      refine lv_goto (tgt := 161) hx hb d_Md_hinders_157 (by decide) ?_
                      refine lv_icmp_eq (tgt := 168) hx hb d_Md_hinders_161 (by decide) (fun h => absurd h (by decide +kernel)) (fun _ => ?_)
                      refine lv_iconst (v := 1) hx hb d_Md_hinders_164 (by decide +kernel) ?_
                      refine lv_goto (tgt := 169) hx hb d_Md_hinders_165 (by decide) ?_
                      refine lv_istore (lv' := [(6, .int 1), (5, .int r_33), (4, .int x_19), (0, .ref q0), (1, .int p_0), (2, .int p_1), (3, .int p_2)]) hx hb d_Md_hinders_169 hl (by decide) rfl (fun ls hl => ?_)
                      refine lv_aload_n hx hb d_Md_hinders_171 rfl (lv_at hl 3 rfl) ?_
                      refine lv_aload_n hx hb d_Md_hinders_172 rfl (lv_at hl 3 rfl) ?_
                      refine vp_callSi (va_Run.run (va_runV (As := []) (rest := [.ref q0]) ⟨hx, hb, hml, hown, htb⟩ (c_Md_today_t l dC dI ct L f hO_0 q0 m0) (cwV 0 htb (gd_V tw_427 tw_428 tw_429 tw_407 tw_426) rfl rfl rfl (by decide +kernel) ⟨Nat.le_of_ble_eq_true rfl, Nat.le_of_ble_eq_true rfl⟩) ⟨pr_blind, tw_recv hK hP m0 rfl rfl, pr_pre hP hK hN⟩ rfl rfl hl.1 rfl (lv_room (Nat.le_of_ble_eq_true rfl)) d_Md_hinders_173 ⟨Nat.le_of_ble_eq_true rfl, Nat.le_of_ble_eq_true rfl⟩)) (fun r_76 er_76 => ?_)
                      obtain ⟨po_77, po_78, po_79, po_80, -⟩ := er_76
                      refine lv_aload_n hx hb d_Md_hinders_176 rfl (lv_at hl 3 rfl) ?_
                      refine vp_callSi (va_Run.run (va_runV (As := []) (rest := [.int r_76, .ref q0]) ⟨hx, hb, hml, hown, htb⟩ (c_Md_hourNow_t l dC dI ct L f hO_0 q0 m0) (cwV 0 htb (gd_V tw_553 tw_554 tw_555 tw_407 tw_552) rfl rfl rfl (by decide +kernel) ⟨Nat.le_of_ble_eq_true rfl, Nat.le_of_ble_eq_true rfl⟩) ⟨pr_blind, tw_recv hK hP m0 rfl rfl, pr_pre hP hK hN⟩ rfl rfl hl.1 rfl (lv_room (Nat.le_of_ble_eq_true rfl)) d_Md_hinders_177 ⟨Nat.le_of_ble_eq_true rfl, Nat.le_of_ble_eq_true rfl⟩)) (fun r_81 er_81 => ?_)
                      obtain ⟨po_82, po_83, -⟩ := er_81
                      refine vp_callSi (va_Run.run (va_runV (As := [.int r_76, .int r_81]) (rest := []) ⟨hx, hb, hml, hown, htb⟩ (c_Md_flowOf_t l dC dI ct L f hO_0 q0 m0 r_76 r_81 po_77 po_78 po_82 po_83) (cwV 2 htb (gd_V tw_423 tw_424 tw_425 tw_407 tw_422) rfl rfl rfl (by decide +kernel) ⟨Nat.le_of_ble_eq_true rfl, Nat.le_of_ble_eq_true rfl⟩) ⟨pr_blind, tw_recv hK hP m0 rfl rfl, pr_pre hP hK hN⟩ rfl rfl hl.1 rfl (lv_room (Nat.le_of_ble_eq_true rfl)) d_Md_hinders_180 ⟨Nat.le_of_ble_eq_true rfl, Nat.le_of_ble_eq_true rfl⟩)) (fun r_84 er_84 => ?_)
                      clear er_84
                      refine lv_istore (lv' := [(7, .int r_84), (6, .int 1), (5, .int r_33), (4, .int x_19), (0, .ref q0), (1, .int p_0), (2, .int p_1), (3, .int p_2)]) hx hb d_Md_hinders_183 hl (by decide) rfl (fun ls hl => ?_)
                      refine lv_iload hx hb d_Md_hinders_185 (lv_at hl 1 rfl) ?_
                      refine lv_if_eq (tgt := 229) hx hb d_Md_hinders_187 (by decide) (fun h => absurd h (by decide +kernel)) (fun _ => ?_)
                      refine lv_aload_n hx hb d_Md_hinders_190 rfl (lv_at hl 4 rfl) ?_
                      refine lv_iload hx hb d_Md_hinders_191 (lv_at hl 2 rfl) ?_
                      refine lv_bipush (v := 16) hx hb d_Md_hinders_193 (by decide +kernel) ?_
                      refine vp_callSi (va_Run.run (va_runV (As := [.int r_33, .int 16]) (rest := []) ⟨hx, hb, hml, hown, htb⟩ (c_Md_lineOf_t l dC dI ct L f hO_0 q0 m0 r_33 (16 : Int32) po_34 po_35 (by decide +kernel) (by decide +kernel)) (cwV 2 htb (gd_V tw_539 tw_540 tw_541 tw_407 tw_538) rfl rfl rfl (by decide +kernel) ⟨Nat.le_of_ble_eq_true rfl, Nat.le_of_ble_eq_true rfl⟩) ⟨pr_blind, tw_recv hK hP m0 rfl rfl, pr_pre hP hK hN⟩ rfl rfl hl.1 rfl (lv_room (Nat.le_of_ble_eq_true rfl)) d_Md_hinders_195 ⟨Nat.le_of_ble_eq_true rfl, Nat.le_of_ble_eq_true rfl⟩)) (fun r_85 er_85 => ?_)
                      clear er_85
                      refine lv_if_lt (tgt := 229) hx hb d_Md_hinders_198 (by decide) (fun c_86 => ?_) (fun c_86 => ?_)
                      · refine lv_iload hx hb d_Md_hinders_229 (lv_at hl 1 rfl) ?_
                        refine lv_if_eq (tgt := 272) hx hb d_Md_hinders_231 (by decide) (fun h => absurd h (by decide +kernel)) (fun _ => ?_)
                        refine lv_aload_n hx hb d_Md_hinders_234 rfl (lv_at hl 4 rfl) ?_
                        refine lv_iload hx hb d_Md_hinders_235 (lv_at hl 2 rfl) ?_
                        refine lv_bipush (v := 17) hx hb d_Md_hinders_237 (by decide +kernel) ?_
                        refine vp_callSi (va_Run.run (va_runV (As := [.int r_33, .int 17]) (rest := []) ⟨hx, hb, hml, hown, htb⟩ (c_Md_lineOf_t l dC dI ct L f hO_0 q0 m0 r_33 (17 : Int32) po_34 po_35 (by decide +kernel) (by decide +kernel)) (cwV 2 htb (gd_V tw_539 tw_540 tw_541 tw_407 tw_538) rfl rfl rfl (by decide +kernel) ⟨Nat.le_of_ble_eq_true rfl, Nat.le_of_ble_eq_true rfl⟩) ⟨pr_blind, tw_recv hK hP m0 rfl rfl, pr_pre hP hK hN⟩ rfl rfl hl.1 rfl (lv_room (Nat.le_of_ble_eq_true rfl)) d_Md_hinders_239 ⟨Nat.le_of_ble_eq_true rfl, Nat.le_of_ble_eq_true rfl⟩)) (fun r_87 er_87 => ?_)
                        clear er_87
                        refine lv_if_lt (tgt := 272) hx hb d_Md_hinders_242 (by decide) (fun c_88 => ?_) (fun c_88 => ?_)
                        · refine lv_aload_n hx hb d_Md_hinders_272 rfl (lv_at hl 4 rfl) ?_
                          refine tw_geti (D := (dC, dI)) (C := R_Md) (T := F_Md) (N := 64) (ci := 7) (kd := 27) (ct := ct) hx hb htb i_Md hown hK hP hO_0 m0 rfl rfl 1 (by decide) (htb (.fieldLink R_Md 7 "WaterMenModel" "time" "I") tw_404) (fun _ h9 => h9) rfl d_Md_hinders_273 (fun x_89 e_89 b_89 => ?_)
                          refine lv_aload_n hx hb d_Md_hinders_276 rfl (lv_at hl 4 rfl) ?_
                          refine lv_iload_n hx hb d_Md_hinders_277 rfl (lv_at hl 5 rfl) ?_
                          refine lv_iload_n hx hb d_Md_hinders_278 rfl (lv_at hl 7 rfl) ?_
                          refine vp_callSi (va_Run.run (va_runV (As := [.int p_0, .int p_2]) (rest := [.int x_89]) ⟨hx, hb, hml, hown, htb⟩ (c_Md_minutesOf_t l dC dI ct L f hO_0 q0 m0 p_0 p_2 as_0 as_1 as_4 as_5) (cwV 2 htb (gd_V tw_557 tw_558 tw_559 tw_407 tw_556) rfl rfl rfl (by decide +kernel) ⟨Nat.le_of_ble_eq_true rfl, Nat.le_of_ble_eq_true rfl⟩) ⟨pr_blind, tw_recv hK hP m0 rfl rfl, pr_pre hP hK hN⟩ rfl rfl hl.1 rfl (lv_room (Nat.le_of_ble_eq_true rfl)) d_Md_hinders_279 ⟨Nat.le_of_ble_eq_true rfl, Nat.le_of_ble_eq_true rfl⟩)) (fun r_90 er_90 => ?_)
                          clear er_90
                          refine lv_iadd hx hb d_Md_hinders_282 ?_
                          refine lv_ldcw (v := 359999) hx hb hown (htb (.constant R_Md 305 359999) tw_560) d_Md_hinders_283 ?_
                          refine lv_icmp_le (tgt := 294) hx hb d_Md_hinders_286 (by decide) (fun c_91 => ?_) (fun c_91 => ?_)
                          · refine lv_iconst (v := 0) hx hb d_Md_hinders_294 (by decide +kernel) ?_
                            exact W.iret (v := 0) hx hb hr (fun t ht hW => ⟨0, rfl, trivial, ht⟩) t_nil d_Md_hinders_295
                          · refine lv_bipush (v := 7) hx hb d_Md_hinders_289 (by decide +kernel) ?_
                            refine lv_goto (tgt := 295) hx hb d_Md_hinders_291 (by decide) ?_
                            exact W.iret (v := 7) hx hb hr (fun t ht hW => ⟨7, rfl, trivial, ht⟩) t_nil d_Md_hinders_295
                        · refine lv_iload hx hb d_Md_hinders_245 (lv_at hl 0 rfl) ?_
                          refine lv_if_ge (tgt := 256) hx hb d_Md_hinders_247 (by decide) (fun c_92 => ?_) (fun c_92 => ?_)
                          · refine lv_iload hx hb d_Md_hinders_256 (lv_at hl 0 rfl) ?_
                            refine lv_aload_n hx hb d_Md_hinders_258 rfl (lv_at hl 4 rfl) ?_
                            refine lv_iload hx hb d_Md_hinders_259 (lv_at hl 2 rfl) ?_
                            refine lv_bipush (v := 17) hx hb d_Md_hinders_261 (by decide +kernel) ?_
                            refine vp_callSi (va_Run.run (va_runV (As := [.int r_33, .int 17]) (rest := [.int r_84]) ⟨hx, hb, hml, hown, htb⟩ (c_Md_lineOf_t l dC dI ct L f hO_0 q0 m0 r_33 (17 : Int32) po_34 po_35 (by decide +kernel) (by decide +kernel)) (cwV 2 htb (gd_V tw_539 tw_540 tw_541 tw_407 tw_538) rfl rfl rfl (by decide +kernel) ⟨Nat.le_of_ble_eq_true rfl, Nat.le_of_ble_eq_true rfl⟩) ⟨pr_blind, tw_recv hK hP m0 rfl rfl, pr_pre hP hK hN⟩ rfl rfl hl.1 rfl (lv_room (Nat.le_of_ble_eq_true rfl)) d_Md_hinders_263 ⟨Nat.le_of_ble_eq_true rfl, Nat.le_of_ble_eq_true rfl⟩)) (fun r_93 er_93 => ?_)
                            clear er_93
                            refine lv_icmp_le (tgt := 272) hx hb d_Md_hinders_266 (by decide) (fun c_94 => ?_) (fun c_94 => ?_)
                            · refine lv_aload_n hx hb d_Md_hinders_272 rfl (lv_at hl 4 rfl) ?_
                              refine tw_geti (D := (dC, dI)) (C := R_Md) (T := F_Md) (N := 64) (ci := 7) (kd := 27) (ct := ct) hx hb htb i_Md hown hK hP hO_0 m0 rfl rfl 1 (by decide) (htb (.fieldLink R_Md 7 "WaterMenModel" "time" "I") tw_404) (fun _ h9 => h9) rfl d_Md_hinders_273 (fun x_95 e_95 b_95 => ?_)
                              refine lv_aload_n hx hb d_Md_hinders_276 rfl (lv_at hl 4 rfl) ?_
                              refine lv_iload_n hx hb d_Md_hinders_277 rfl (lv_at hl 5 rfl) ?_
                              refine lv_iload_n hx hb d_Md_hinders_278 rfl (lv_at hl 7 rfl) ?_
                              refine vp_callSi (va_Run.run (va_runV (As := [.int p_0, .int p_2]) (rest := [.int x_95]) ⟨hx, hb, hml, hown, htb⟩ (c_Md_minutesOf_t l dC dI ct L f hO_0 q0 m0 p_0 p_2 as_0 as_1 as_4 as_5) (cwV 2 htb (gd_V tw_557 tw_558 tw_559 tw_407 tw_556) rfl rfl rfl (by decide +kernel) ⟨Nat.le_of_ble_eq_true rfl, Nat.le_of_ble_eq_true rfl⟩) ⟨pr_blind, tw_recv hK hP m0 rfl rfl, pr_pre hP hK hN⟩ rfl rfl hl.1 rfl (lv_room (Nat.le_of_ble_eq_true rfl)) d_Md_hinders_279 ⟨Nat.le_of_ble_eq_true rfl, Nat.le_of_ble_eq_true rfl⟩)) (fun r_96 er_96 => ?_)
                              clear er_96
                              refine lv_iadd hx hb d_Md_hinders_282 ?_
                              refine lv_ldcw (v := 359999) hx hb hown (htb (.constant R_Md 305 359999) tw_560) d_Md_hinders_283 ?_
                              refine lv_icmp_le (tgt := 294) hx hb d_Md_hinders_286 (by decide) (fun c_97 => ?_) (fun c_97 => ?_)
                              · refine lv_iconst (v := 0) hx hb d_Md_hinders_294 (by decide +kernel) ?_
                                exact W.iret (v := 0) hx hb hr (fun t ht hW => ⟨0, rfl, trivial, ht⟩) t_nil d_Md_hinders_295
                              · refine lv_bipush (v := 7) hx hb d_Md_hinders_289 (by decide +kernel) ?_
                                refine lv_goto (tgt := 295) hx hb d_Md_hinders_291 (by decide) ?_
                                exact W.iret (v := 7) hx hb hr (fun t ht hW => ⟨7, rfl, trivial, ht⟩) t_nil d_Md_hinders_295
                            · refine lv_bipush (v := 6) hx hb d_Md_hinders_269 (by decide +kernel) ?_
                              exact W.iret (v := 6) hx hb hr (fun t ht hW => ⟨6, rfl, trivial, ht⟩) t_nil d_Md_hinders_271
                          · refine lv_iload hx hb d_Md_hinders_250 (lv_at hl 0 rfl) ?_
                            refine lv_ineg hx hb d_Md_hinders_252 ?_
                            refine lv_goto (tgt := 258) hx hb d_Md_hinders_253 (by decide) ?_
                            refine lv_aload_n hx hb d_Md_hinders_258 rfl (lv_at hl 4 rfl) ?_
                            refine lv_iload hx hb d_Md_hinders_259 (lv_at hl 2 rfl) ?_
                            refine lv_bipush (v := 17) hx hb d_Md_hinders_261 (by decide +kernel) ?_
                            refine vp_callSi (va_Run.run (va_runV (As := [.int r_33, .int 17]) (rest := [.int (-r_84)]) ⟨hx, hb, hml, hown, htb⟩ (c_Md_lineOf_t l dC dI ct L f hO_0 q0 m0 r_33 (17 : Int32) po_34 po_35 (by decide +kernel) (by decide +kernel)) (cwV 2 htb (gd_V tw_539 tw_540 tw_541 tw_407 tw_538) rfl rfl rfl (by decide +kernel) ⟨Nat.le_of_ble_eq_true rfl, Nat.le_of_ble_eq_true rfl⟩) ⟨pr_blind, tw_recv hK hP m0 rfl rfl, pr_pre hP hK hN⟩ rfl rfl hl.1 rfl (lv_room (Nat.le_of_ble_eq_true rfl)) d_Md_hinders_263 ⟨Nat.le_of_ble_eq_true rfl, Nat.le_of_ble_eq_true rfl⟩)) (fun r_98 er_98 => ?_)
                            clear er_98
                            refine lv_icmp_le (tgt := 272) hx hb d_Md_hinders_266 (by decide) (fun c_99 => ?_) (fun c_99 => ?_)
                            · refine lv_aload_n hx hb d_Md_hinders_272 rfl (lv_at hl 4 rfl) ?_
                              refine tw_geti (D := (dC, dI)) (C := R_Md) (T := F_Md) (N := 64) (ci := 7) (kd := 27) (ct := ct) hx hb htb i_Md hown hK hP hO_0 m0 rfl rfl 1 (by decide) (htb (.fieldLink R_Md 7 "WaterMenModel" "time" "I") tw_404) (fun _ h9 => h9) rfl d_Md_hinders_273 (fun x_100 e_100 b_100 => ?_)
                              refine lv_aload_n hx hb d_Md_hinders_276 rfl (lv_at hl 4 rfl) ?_
                              refine lv_iload_n hx hb d_Md_hinders_277 rfl (lv_at hl 5 rfl) ?_
                              refine lv_iload_n hx hb d_Md_hinders_278 rfl (lv_at hl 7 rfl) ?_
                              refine vp_callSi (va_Run.run (va_runV (As := [.int p_0, .int p_2]) (rest := [.int x_100]) ⟨hx, hb, hml, hown, htb⟩ (c_Md_minutesOf_t l dC dI ct L f hO_0 q0 m0 p_0 p_2 as_0 as_1 as_4 as_5) (cwV 2 htb (gd_V tw_557 tw_558 tw_559 tw_407 tw_556) rfl rfl rfl (by decide +kernel) ⟨Nat.le_of_ble_eq_true rfl, Nat.le_of_ble_eq_true rfl⟩) ⟨pr_blind, tw_recv hK hP m0 rfl rfl, pr_pre hP hK hN⟩ rfl rfl hl.1 rfl (lv_room (Nat.le_of_ble_eq_true rfl)) d_Md_hinders_279 ⟨Nat.le_of_ble_eq_true rfl, Nat.le_of_ble_eq_true rfl⟩)) (fun r_101 er_101 => ?_)
                              clear er_101
                              refine lv_iadd hx hb d_Md_hinders_282 ?_
                              refine lv_ldcw (v := 359999) hx hb hown (htb (.constant R_Md 305 359999) tw_560) d_Md_hinders_283 ?_
                              refine lv_icmp_le (tgt := 294) hx hb d_Md_hinders_286 (by decide) (fun c_102 => ?_) (fun c_102 => ?_)
                              · refine lv_iconst (v := 0) hx hb d_Md_hinders_294 (by decide +kernel) ?_
                                exact W.iret (v := 0) hx hb hr (fun t ht hW => ⟨0, rfl, trivial, ht⟩) t_nil d_Md_hinders_295
                              · refine lv_bipush (v := 7) hx hb d_Md_hinders_289 (by decide +kernel) ?_
                                refine lv_goto (tgt := 295) hx hb d_Md_hinders_291 (by decide) ?_
                                exact W.iret (v := 7) hx hb hr (fun t ht hW => ⟨7, rfl, trivial, ht⟩) t_nil d_Md_hinders_295
                            · refine lv_bipush (v := 6) hx hb d_Md_hinders_269 (by decide +kernel) ?_
                              exact W.iret (v := 6) hx hb hr (fun t ht hW => ⟨6, rfl, trivial, ht⟩) t_nil d_Md_hinders_271
                      · refine lv_aload_n hx hb d_Md_hinders_201 rfl (lv_at hl 4 rfl) ?_
                        refine vp_callSi (va_Run.run (va_runV (As := []) (rest := []) ⟨hx, hb, hml, hown, htb⟩ (c_Md_hourNow_t l dC dI ct L f hO_0 q0 m0) (cwV 0 htb (gd_V tw_553 tw_554 tw_555 tw_407 tw_552) rfl rfl rfl (by decide +kernel) ⟨Nat.le_of_ble_eq_true rfl, Nat.le_of_ble_eq_true rfl⟩) ⟨pr_blind, tw_recv hK hP m0 rfl rfl, pr_pre hP hK hN⟩ rfl rfl hl.1 rfl (lv_room (Nat.le_of_ble_eq_true rfl)) d_Md_hinders_202 ⟨Nat.le_of_ble_eq_true rfl, Nat.le_of_ble_eq_true rfl⟩)) (fun r_103 er_103 => ?_)
                        obtain ⟨po_104, po_105, -⟩ := er_103
                        refine lv_aload_n hx hb d_Md_hinders_205 rfl (lv_at hl 4 rfl) ?_
                        refine lv_iload hx hb d_Md_hinders_206 (lv_at hl 2 rfl) ?_
                        refine lv_bipush (v := 16) hx hb d_Md_hinders_208 (by decide +kernel) ?_
                        refine vp_callSi (va_Run.run (va_runV (As := [.int r_33, .int 16]) (rest := [.int r_103]) ⟨hx, hb, hml, hown, htb⟩ (c_Md_lineOf_t l dC dI ct L f hO_0 q0 m0 r_33 (16 : Int32) po_34 po_35 (by decide +kernel) (by decide +kernel)) (cwV 2 htb (gd_V tw_539 tw_540 tw_541 tw_407 tw_538) rfl rfl rfl (by decide +kernel) ⟨Nat.le_of_ble_eq_true rfl, Nat.le_of_ble_eq_true rfl⟩) ⟨pr_blind, tw_recv hK hP m0 rfl rfl, pr_pre hP hK hN⟩ rfl rfl hl.1 rfl (lv_room (Nat.le_of_ble_eq_true rfl)) d_Md_hinders_210 ⟨Nat.le_of_ble_eq_true rfl, Nat.le_of_ble_eq_true rfl⟩)) (fun r_106 er_106 => ?_)
                        clear er_106
                        refine lv_aload_n hx hb d_Md_hinders_213 rfl (lv_at hl 4 rfl) ?_
                        refine tw_getr (D := (dC, dI)) (C := R_Md) (T := F_Md) (N := 64) (ci := 7) (kd := 27) (ct := ct) hx hb htb i_Md hown hK hP hO_0 m0 rfl rfl 41 (by decide) (htb (.fieldLink R_Md 146 "WaterMenModel" "singleTo" "[I") tw_518) (fun _ h9 => h9) rfl d_Md_hinders_214 (fun q_107 e_107 m_107 => ?_)
                        refine lv_iload hx hb d_Md_hinders_217 (lv_at hl 2 rfl) ?_
                        refine tw_aldI (ct := ct) hx hb hK hP hO_0 m_107 rfl (hb_inl po_34 po_35 (by decide +kernel)) d_Md_hinders_219 (fun x_108 e_108 b_108 => ?_)
                        refine vp_callSi (va_Run.run (va_runS (As := [.int r_103, .int r_106, .int x_108]) (rest := []) ⟨hx, hb, hml, hown, htb⟩ (c_Md_in l r_103 r_106 x_108) (cwS 3 htb (gd_S tw_408 tw_409 tw_407 tw_406) rfl rfl rfl (by decide +kernel) ⟨Nat.le_of_ble_eq_true rfl, Nat.le_of_ble_eq_true rfl⟩) ⟨fun _ _ _ _ h => h, fun U _ _ => ⟨rfl, trivial⟩⟩ rfl rfl hl.1 rfl (lv_room (Nat.le_of_ble_eq_true rfl)) d_Md_hinders_220 ⟨Nat.le_of_ble_eq_true rfl, Nat.le_of_ble_eq_true rfl⟩)) (fun r er => ?_)
                        subst er
                        by_cases c_110 : r_103 < r_106
                        · refine hb_ti 0 (by unfold f_Md_in; rw [if_pos c_110]; first | done | rfl) ?_
                          refine lv_if_ne (tgt := 229) hx hb d_Md_hinders_223 (by decide) (fun h => absurd (by decide +kernel) h) (fun _ => ?_)
                          refine lv_bipush (v := 6) hx hb d_Md_hinders_226 (by decide +kernel) ?_
                          exact W.iret (v := 6) hx hb hr (fun t ht hW => ⟨6, rfl, trivial, ht⟩) t_nil d_Md_hinders_228
                        · by_cases c_111 : x_108 < r_103
                          · refine hb_ti 0 (by unfold f_Md_in; rw [if_neg c_110, if_pos c_111]; first | done | rfl) ?_
                            refine lv_if_ne (tgt := 229) hx hb d_Md_hinders_223 (by decide) (fun h => absurd (by decide +kernel) h) (fun _ => ?_)
                            refine lv_bipush (v := 6) hx hb d_Md_hinders_226 (by decide +kernel) ?_
                            exact W.iret (v := 6) hx hb hr (fun t ht hW => ⟨6, rfl, trivial, ht⟩) t_nil d_Md_hinders_228
                          · refine hb_ti 1 (by unfold f_Md_in; rw [if_neg c_110, if_neg c_111]; first | done | rfl) ?_
                            refine lv_if_ne (tgt := 229) hx hb d_Md_hinders_223 (by decide) (fun _ => ?_) (fun h => absurd h (by decide +kernel))
                            refine lv_iload hx hb d_Md_hinders_229 (lv_at hl 1 rfl) ?_
                            refine lv_if_eq (tgt := 272) hx hb d_Md_hinders_231 (by decide) (fun h => absurd h (by decide +kernel)) (fun _ => ?_)
                            refine lv_aload_n hx hb d_Md_hinders_234 rfl (lv_at hl 4 rfl) ?_
                            refine lv_iload hx hb d_Md_hinders_235 (lv_at hl 2 rfl) ?_
                            refine lv_bipush (v := 17) hx hb d_Md_hinders_237 (by decide +kernel) ?_
                            refine vp_callSi (va_Run.run (va_runV (As := [.int r_33, .int 17]) (rest := []) ⟨hx, hb, hml, hown, htb⟩ (c_Md_lineOf_t l dC dI ct L f hO_0 q0 m0 r_33 (17 : Int32) po_34 po_35 (by decide +kernel) (by decide +kernel)) (cwV 2 htb (gd_V tw_539 tw_540 tw_541 tw_407 tw_538) rfl rfl rfl (by decide +kernel) ⟨Nat.le_of_ble_eq_true rfl, Nat.le_of_ble_eq_true rfl⟩) ⟨pr_blind, tw_recv hK hP m0 rfl rfl, pr_pre hP hK hN⟩ rfl rfl hl.1 rfl (lv_room (Nat.le_of_ble_eq_true rfl)) d_Md_hinders_239 ⟨Nat.le_of_ble_eq_true rfl, Nat.le_of_ble_eq_true rfl⟩)) (fun r_112 er_112 => ?_)
                            clear er_112
                            refine lv_if_lt (tgt := 272) hx hb d_Md_hinders_242 (by decide) (fun c_113 => ?_) (fun c_113 => ?_)
                            · refine lv_aload_n hx hb d_Md_hinders_272 rfl (lv_at hl 4 rfl) ?_
                              refine tw_geti (D := (dC, dI)) (C := R_Md) (T := F_Md) (N := 64) (ci := 7) (kd := 27) (ct := ct) hx hb htb i_Md hown hK hP hO_0 m0 rfl rfl 1 (by decide) (htb (.fieldLink R_Md 7 "WaterMenModel" "time" "I") tw_404) (fun _ h9 => h9) rfl d_Md_hinders_273 (fun x_114 e_114 b_114 => ?_)
                              refine lv_aload_n hx hb d_Md_hinders_276 rfl (lv_at hl 4 rfl) ?_
                              refine lv_iload_n hx hb d_Md_hinders_277 rfl (lv_at hl 5 rfl) ?_
                              refine lv_iload_n hx hb d_Md_hinders_278 rfl (lv_at hl 7 rfl) ?_
                              refine vp_callSi (va_Run.run (va_runV (As := [.int p_0, .int p_2]) (rest := [.int x_114]) ⟨hx, hb, hml, hown, htb⟩ (c_Md_minutesOf_t l dC dI ct L f hO_0 q0 m0 p_0 p_2 as_0 as_1 as_4 as_5) (cwV 2 htb (gd_V tw_557 tw_558 tw_559 tw_407 tw_556) rfl rfl rfl (by decide +kernel) ⟨Nat.le_of_ble_eq_true rfl, Nat.le_of_ble_eq_true rfl⟩) ⟨pr_blind, tw_recv hK hP m0 rfl rfl, pr_pre hP hK hN⟩ rfl rfl hl.1 rfl (lv_room (Nat.le_of_ble_eq_true rfl)) d_Md_hinders_279 ⟨Nat.le_of_ble_eq_true rfl, Nat.le_of_ble_eq_true rfl⟩)) (fun r_115 er_115 => ?_)
                              clear er_115
                              refine lv_iadd hx hb d_Md_hinders_282 ?_
                              refine lv_ldcw (v := 359999) hx hb hown (htb (.constant R_Md 305 359999) tw_560) d_Md_hinders_283 ?_
                              refine lv_icmp_le (tgt := 294) hx hb d_Md_hinders_286 (by decide) (fun c_116 => ?_) (fun c_116 => ?_)
                              · refine lv_iconst (v := 0) hx hb d_Md_hinders_294 (by decide +kernel) ?_
                                exact W.iret (v := 0) hx hb hr (fun t ht hW => ⟨0, rfl, trivial, ht⟩) t_nil d_Md_hinders_295
                              · refine lv_bipush (v := 7) hx hb d_Md_hinders_289 (by decide +kernel) ?_
                                refine lv_goto (tgt := 295) hx hb d_Md_hinders_291 (by decide) ?_
                                exact W.iret (v := 7) hx hb hr (fun t ht hW => ⟨7, rfl, trivial, ht⟩) t_nil d_Md_hinders_295
                            · refine lv_iload hx hb d_Md_hinders_245 (lv_at hl 0 rfl) ?_
                              refine lv_if_ge (tgt := 256) hx hb d_Md_hinders_247 (by decide) (fun c_117 => ?_) (fun c_117 => ?_)
                              · refine lv_iload hx hb d_Md_hinders_256 (lv_at hl 0 rfl) ?_
                                refine lv_aload_n hx hb d_Md_hinders_258 rfl (lv_at hl 4 rfl) ?_
                                refine lv_iload hx hb d_Md_hinders_259 (lv_at hl 2 rfl) ?_
                                refine lv_bipush (v := 17) hx hb d_Md_hinders_261 (by decide +kernel) ?_
                                refine vp_callSi (va_Run.run (va_runV (As := [.int r_33, .int 17]) (rest := [.int r_84]) ⟨hx, hb, hml, hown, htb⟩ (c_Md_lineOf_t l dC dI ct L f hO_0 q0 m0 r_33 (17 : Int32) po_34 po_35 (by decide +kernel) (by decide +kernel)) (cwV 2 htb (gd_V tw_539 tw_540 tw_541 tw_407 tw_538) rfl rfl rfl (by decide +kernel) ⟨Nat.le_of_ble_eq_true rfl, Nat.le_of_ble_eq_true rfl⟩) ⟨pr_blind, tw_recv hK hP m0 rfl rfl, pr_pre hP hK hN⟩ rfl rfl hl.1 rfl (lv_room (Nat.le_of_ble_eq_true rfl)) d_Md_hinders_263 ⟨Nat.le_of_ble_eq_true rfl, Nat.le_of_ble_eq_true rfl⟩)) (fun r_118 er_118 => ?_)
                                clear er_118
                                refine lv_icmp_le (tgt := 272) hx hb d_Md_hinders_266 (by decide) (fun c_119 => ?_) (fun c_119 => ?_)
                                · refine lv_aload_n hx hb d_Md_hinders_272 rfl (lv_at hl 4 rfl) ?_
                                  refine tw_geti (D := (dC, dI)) (C := R_Md) (T := F_Md) (N := 64) (ci := 7) (kd := 27) (ct := ct) hx hb htb i_Md hown hK hP hO_0 m0 rfl rfl 1 (by decide) (htb (.fieldLink R_Md 7 "WaterMenModel" "time" "I") tw_404) (fun _ h9 => h9) rfl d_Md_hinders_273 (fun x_120 e_120 b_120 => ?_)
                                  refine lv_aload_n hx hb d_Md_hinders_276 rfl (lv_at hl 4 rfl) ?_
                                  refine lv_iload_n hx hb d_Md_hinders_277 rfl (lv_at hl 5 rfl) ?_
                                  refine lv_iload_n hx hb d_Md_hinders_278 rfl (lv_at hl 7 rfl) ?_
                                  refine vp_callSi (va_Run.run (va_runV (As := [.int p_0, .int p_2]) (rest := [.int x_120]) ⟨hx, hb, hml, hown, htb⟩ (c_Md_minutesOf_t l dC dI ct L f hO_0 q0 m0 p_0 p_2 as_0 as_1 as_4 as_5) (cwV 2 htb (gd_V tw_557 tw_558 tw_559 tw_407 tw_556) rfl rfl rfl (by decide +kernel) ⟨Nat.le_of_ble_eq_true rfl, Nat.le_of_ble_eq_true rfl⟩) ⟨pr_blind, tw_recv hK hP m0 rfl rfl, pr_pre hP hK hN⟩ rfl rfl hl.1 rfl (lv_room (Nat.le_of_ble_eq_true rfl)) d_Md_hinders_279 ⟨Nat.le_of_ble_eq_true rfl, Nat.le_of_ble_eq_true rfl⟩)) (fun r_121 er_121 => ?_)
                                  clear er_121
                                  refine lv_iadd hx hb d_Md_hinders_282 ?_
                                  refine lv_ldcw (v := 359999) hx hb hown (htb (.constant R_Md 305 359999) tw_560) d_Md_hinders_283 ?_
                                  refine lv_icmp_le (tgt := 294) hx hb d_Md_hinders_286 (by decide) (fun c_122 => ?_) (fun c_122 => ?_)
                                  · refine lv_iconst (v := 0) hx hb d_Md_hinders_294 (by decide +kernel) ?_
                                    exact W.iret (v := 0) hx hb hr (fun t ht hW => ⟨0, rfl, trivial, ht⟩) t_nil d_Md_hinders_295
                                  · refine lv_bipush (v := 7) hx hb d_Md_hinders_289 (by decide +kernel) ?_
                                    refine lv_goto (tgt := 295) hx hb d_Md_hinders_291 (by decide) ?_
                                    exact W.iret (v := 7) hx hb hr (fun t ht hW => ⟨7, rfl, trivial, ht⟩) t_nil d_Md_hinders_295
                                · refine lv_bipush (v := 6) hx hb d_Md_hinders_269 (by decide +kernel) ?_
                                  exact W.iret (v := 6) hx hb hr (fun t ht hW => ⟨6, rfl, trivial, ht⟩) t_nil d_Md_hinders_271
                              · refine lv_iload hx hb d_Md_hinders_250 (lv_at hl 0 rfl) ?_
                                refine lv_ineg hx hb d_Md_hinders_252 ?_
                                refine lv_goto (tgt := 258) hx hb d_Md_hinders_253 (by decide) ?_
                                refine lv_aload_n hx hb d_Md_hinders_258 rfl (lv_at hl 4 rfl) ?_
                                refine lv_iload hx hb d_Md_hinders_259 (lv_at hl 2 rfl) ?_
                                refine lv_bipush (v := 17) hx hb d_Md_hinders_261 (by decide +kernel) ?_
                                refine vp_callSi (va_Run.run (va_runV (As := [.int r_33, .int 17]) (rest := [.int (-r_84)]) ⟨hx, hb, hml, hown, htb⟩ (c_Md_lineOf_t l dC dI ct L f hO_0 q0 m0 r_33 (17 : Int32) po_34 po_35 (by decide +kernel) (by decide +kernel)) (cwV 2 htb (gd_V tw_539 tw_540 tw_541 tw_407 tw_538) rfl rfl rfl (by decide +kernel) ⟨Nat.le_of_ble_eq_true rfl, Nat.le_of_ble_eq_true rfl⟩) ⟨pr_blind, tw_recv hK hP m0 rfl rfl, pr_pre hP hK hN⟩ rfl rfl hl.1 rfl (lv_room (Nat.le_of_ble_eq_true rfl)) d_Md_hinders_263 ⟨Nat.le_of_ble_eq_true rfl, Nat.le_of_ble_eq_true rfl⟩)) (fun r_123 er_123 => ?_)
                                clear er_123
                                refine lv_icmp_le (tgt := 272) hx hb d_Md_hinders_266 (by decide) (fun c_124 => ?_) (fun c_124 => ?_)
                                · refine lv_aload_n hx hb d_Md_hinders_272 rfl (lv_at hl 4 rfl) ?_
                                  refine tw_geti (D := (dC, dI)) (C := R_Md) (T := F_Md) (N := 64) (ci := 7) (kd := 27) (ct := ct) hx hb htb i_Md hown hK hP hO_0 m0 rfl rfl 1 (by decide) (htb (.fieldLink R_Md 7 "WaterMenModel" "time" "I") tw_404) (fun _ h9 => h9) rfl d_Md_hinders_273 (fun x_125 e_125 b_125 => ?_)
                                  refine lv_aload_n hx hb d_Md_hinders_276 rfl (lv_at hl 4 rfl) ?_
                                  refine lv_iload_n hx hb d_Md_hinders_277 rfl (lv_at hl 5 rfl) ?_
                                  refine lv_iload_n hx hb d_Md_hinders_278 rfl (lv_at hl 7 rfl) ?_
                                  refine vp_callSi (va_Run.run (va_runV (As := [.int p_0, .int p_2]) (rest := [.int x_125]) ⟨hx, hb, hml, hown, htb⟩ (c_Md_minutesOf_t l dC dI ct L f hO_0 q0 m0 p_0 p_2 as_0 as_1 as_4 as_5) (cwV 2 htb (gd_V tw_557 tw_558 tw_559 tw_407 tw_556) rfl rfl rfl (by decide +kernel) ⟨Nat.le_of_ble_eq_true rfl, Nat.le_of_ble_eq_true rfl⟩) ⟨pr_blind, tw_recv hK hP m0 rfl rfl, pr_pre hP hK hN⟩ rfl rfl hl.1 rfl (lv_room (Nat.le_of_ble_eq_true rfl)) d_Md_hinders_279 ⟨Nat.le_of_ble_eq_true rfl, Nat.le_of_ble_eq_true rfl⟩)) (fun r_126 er_126 => ?_)
                                  clear er_126
                                  refine lv_iadd hx hb d_Md_hinders_282 ?_
                                  refine lv_ldcw (v := 359999) hx hb hown (htb (.constant R_Md 305 359999) tw_560) d_Md_hinders_283 ?_
                                  refine lv_icmp_le (tgt := 294) hx hb d_Md_hinders_286 (by decide) (fun c_127 => ?_) (fun c_127 => ?_)
                                  · refine lv_iconst (v := 0) hx hb d_Md_hinders_294 (by decide +kernel) ?_
                                    exact W.iret (v := 0) hx hb hr (fun t ht hW => ⟨0, rfl, trivial, ht⟩) t_nil d_Md_hinders_295
                                  · refine lv_bipush (v := 7) hx hb d_Md_hinders_289 (by decide +kernel) ?_
                                    refine lv_goto (tgt := 295) hx hb d_Md_hinders_291 (by decide) ?_
                                    exact W.iret (v := 7) hx hb hr (fun t ht hW => ⟨7, rfl, trivial, ht⟩) t_nil d_Md_hinders_295
                                · refine lv_bipush (v := 6) hx hb d_Md_hinders_269 (by decide +kernel) ?_
                                  exact W.iret (v := 6) hx hb hr (fun t ht hW => ⟨6, rfl, trivial, ht⟩) t_nil d_Md_hinders_271
                  · refine lv_iconst (v := 1) hx hb d_Md_hinders_143 (by decide +kernel) ?_
                    refine lv_goto (tgt := 148) hx hb d_Md_hinders_144 (by decide) ?_
                    refine lv_iload_n hx hb d_Md_hinders_148 rfl (lv_at hl 5 rfl) ?_
                    refine lv_aload_n hx hb d_Md_hinders_149 rfl (lv_at hl 2 rfl) ?_
                    refine tw_getI (x := x_48) (D := (dC, dI)) (C := R_Md) (T := F_Md) (N := 64) (ci := 7) (kd := 27) (ct := ct) hx hb htb i_Md hown hK hP m0 rfl rfl 4 e_48 (by decide) (htb (.fieldLink R_Md 35 "WaterMenModel" "bridge" "I") tw_418) (fun _ h9 => h9) rfl d_Md_hinders_150 ?_
                    refine lv_icmp_gt (tgt := 160) hx hb d_Md_hinders_153 (by decide) (fun c_128 => ?_) (fun c_128 => ?_)
                    · refine lv_iconst (v := 0) hx hb d_Md_hinders_160 (by decide +kernel) ?_
                      refine lv_icmp_eq (tgt := 168) hx hb d_Md_hinders_161 (by decide) (fun h => absurd h (by decide +kernel)) (fun _ => ?_)
                      refine lv_iconst (v := 1) hx hb d_Md_hinders_164 (by decide +kernel) ?_
                      refine lv_goto (tgt := 169) hx hb d_Md_hinders_165 (by decide) ?_
                      refine lv_istore (lv' := [(6, .int 1), (5, .int r_33), (4, .int x_19), (0, .ref q0), (1, .int p_0), (2, .int p_1), (3, .int p_2)]) hx hb d_Md_hinders_169 hl (by decide) rfl (fun ls hl => ?_)
                      refine lv_aload_n hx hb d_Md_hinders_171 rfl (lv_at hl 3 rfl) ?_
                      refine lv_aload_n hx hb d_Md_hinders_172 rfl (lv_at hl 3 rfl) ?_
                      refine vp_callSi (va_Run.run (va_runV (As := []) (rest := [.ref q0]) ⟨hx, hb, hml, hown, htb⟩ (c_Md_today_t l dC dI ct L f hO_0 q0 m0) (cwV 0 htb (gd_V tw_427 tw_428 tw_429 tw_407 tw_426) rfl rfl rfl (by decide +kernel) ⟨Nat.le_of_ble_eq_true rfl, Nat.le_of_ble_eq_true rfl⟩) ⟨pr_blind, tw_recv hK hP m0 rfl rfl, pr_pre hP hK hN⟩ rfl rfl hl.1 rfl (lv_room (Nat.le_of_ble_eq_true rfl)) d_Md_hinders_173 ⟨Nat.le_of_ble_eq_true rfl, Nat.le_of_ble_eq_true rfl⟩)) (fun r_129 er_129 => ?_)
                      obtain ⟨po_130, po_131, po_132, po_133, -⟩ := er_129
                      refine lv_aload_n hx hb d_Md_hinders_176 rfl (lv_at hl 3 rfl) ?_
                      refine vp_callSi (va_Run.run (va_runV (As := []) (rest := [.int r_129, .ref q0]) ⟨hx, hb, hml, hown, htb⟩ (c_Md_hourNow_t l dC dI ct L f hO_0 q0 m0) (cwV 0 htb (gd_V tw_553 tw_554 tw_555 tw_407 tw_552) rfl rfl rfl (by decide +kernel) ⟨Nat.le_of_ble_eq_true rfl, Nat.le_of_ble_eq_true rfl⟩) ⟨pr_blind, tw_recv hK hP m0 rfl rfl, pr_pre hP hK hN⟩ rfl rfl hl.1 rfl (lv_room (Nat.le_of_ble_eq_true rfl)) d_Md_hinders_177 ⟨Nat.le_of_ble_eq_true rfl, Nat.le_of_ble_eq_true rfl⟩)) (fun r_134 er_134 => ?_)
                      obtain ⟨po_135, po_136, -⟩ := er_134
                      refine vp_callSi (va_Run.run (va_runV (As := [.int r_129, .int r_134]) (rest := []) ⟨hx, hb, hml, hown, htb⟩ (c_Md_flowOf_t l dC dI ct L f hO_0 q0 m0 r_129 r_134 po_130 po_131 po_135 po_136) (cwV 2 htb (gd_V tw_423 tw_424 tw_425 tw_407 tw_422) rfl rfl rfl (by decide +kernel) ⟨Nat.le_of_ble_eq_true rfl, Nat.le_of_ble_eq_true rfl⟩) ⟨pr_blind, tw_recv hK hP m0 rfl rfl, pr_pre hP hK hN⟩ rfl rfl hl.1 rfl (lv_room (Nat.le_of_ble_eq_true rfl)) d_Md_hinders_180 ⟨Nat.le_of_ble_eq_true rfl, Nat.le_of_ble_eq_true rfl⟩)) (fun r_137 er_137 => ?_)
                      clear er_137
                      refine lv_istore (lv' := [(7, .int r_137), (6, .int 1), (5, .int r_33), (4, .int x_19), (0, .ref q0), (1, .int p_0), (2, .int p_1), (3, .int p_2)]) hx hb d_Md_hinders_183 hl (by decide) rfl (fun ls hl => ?_)
                      refine lv_iload hx hb d_Md_hinders_185 (lv_at hl 1 rfl) ?_
                      refine lv_if_eq (tgt := 229) hx hb d_Md_hinders_187 (by decide) (fun h => absurd h (by decide +kernel)) (fun _ => ?_)
                      refine lv_aload_n hx hb d_Md_hinders_190 rfl (lv_at hl 4 rfl) ?_
                      refine lv_iload hx hb d_Md_hinders_191 (lv_at hl 2 rfl) ?_
                      refine lv_bipush (v := 16) hx hb d_Md_hinders_193 (by decide +kernel) ?_
                      refine vp_callSi (va_Run.run (va_runV (As := [.int r_33, .int 16]) (rest := []) ⟨hx, hb, hml, hown, htb⟩ (c_Md_lineOf_t l dC dI ct L f hO_0 q0 m0 r_33 (16 : Int32) po_34 po_35 (by decide +kernel) (by decide +kernel)) (cwV 2 htb (gd_V tw_539 tw_540 tw_541 tw_407 tw_538) rfl rfl rfl (by decide +kernel) ⟨Nat.le_of_ble_eq_true rfl, Nat.le_of_ble_eq_true rfl⟩) ⟨pr_blind, tw_recv hK hP m0 rfl rfl, pr_pre hP hK hN⟩ rfl rfl hl.1 rfl (lv_room (Nat.le_of_ble_eq_true rfl)) d_Md_hinders_195 ⟨Nat.le_of_ble_eq_true rfl, Nat.le_of_ble_eq_true rfl⟩)) (fun r_138 er_138 => ?_)
                      clear er_138
                      refine lv_if_lt (tgt := 229) hx hb d_Md_hinders_198 (by decide) (fun c_139 => ?_) (fun c_139 => ?_)
                      · refine lv_iload hx hb d_Md_hinders_229 (lv_at hl 1 rfl) ?_
                        refine lv_if_eq (tgt := 272) hx hb d_Md_hinders_231 (by decide) (fun h => absurd h (by decide +kernel)) (fun _ => ?_)
                        refine lv_aload_n hx hb d_Md_hinders_234 rfl (lv_at hl 4 rfl) ?_
                        refine lv_iload hx hb d_Md_hinders_235 (lv_at hl 2 rfl) ?_
                        refine lv_bipush (v := 17) hx hb d_Md_hinders_237 (by decide +kernel) ?_
                        refine vp_callSi (va_Run.run (va_runV (As := [.int r_33, .int 17]) (rest := []) ⟨hx, hb, hml, hown, htb⟩ (c_Md_lineOf_t l dC dI ct L f hO_0 q0 m0 r_33 (17 : Int32) po_34 po_35 (by decide +kernel) (by decide +kernel)) (cwV 2 htb (gd_V tw_539 tw_540 tw_541 tw_407 tw_538) rfl rfl rfl (by decide +kernel) ⟨Nat.le_of_ble_eq_true rfl, Nat.le_of_ble_eq_true rfl⟩) ⟨pr_blind, tw_recv hK hP m0 rfl rfl, pr_pre hP hK hN⟩ rfl rfl hl.1 rfl (lv_room (Nat.le_of_ble_eq_true rfl)) d_Md_hinders_239 ⟨Nat.le_of_ble_eq_true rfl, Nat.le_of_ble_eq_true rfl⟩)) (fun r_140 er_140 => ?_)
                        clear er_140
                        refine lv_if_lt (tgt := 272) hx hb d_Md_hinders_242 (by decide) (fun c_141 => ?_) (fun c_141 => ?_)
                        · refine lv_aload_n hx hb d_Md_hinders_272 rfl (lv_at hl 4 rfl) ?_
                          refine tw_geti (D := (dC, dI)) (C := R_Md) (T := F_Md) (N := 64) (ci := 7) (kd := 27) (ct := ct) hx hb htb i_Md hown hK hP hO_0 m0 rfl rfl 1 (by decide) (htb (.fieldLink R_Md 7 "WaterMenModel" "time" "I") tw_404) (fun _ h9 => h9) rfl d_Md_hinders_273 (fun x_142 e_142 b_142 => ?_)
                          refine lv_aload_n hx hb d_Md_hinders_276 rfl (lv_at hl 4 rfl) ?_
                          refine lv_iload_n hx hb d_Md_hinders_277 rfl (lv_at hl 5 rfl) ?_
                          refine lv_iload_n hx hb d_Md_hinders_278 rfl (lv_at hl 7 rfl) ?_
                          refine vp_callSi (va_Run.run (va_runV (As := [.int p_0, .int p_2]) (rest := [.int x_142]) ⟨hx, hb, hml, hown, htb⟩ (c_Md_minutesOf_t l dC dI ct L f hO_0 q0 m0 p_0 p_2 as_0 as_1 as_4 as_5) (cwV 2 htb (gd_V tw_557 tw_558 tw_559 tw_407 tw_556) rfl rfl rfl (by decide +kernel) ⟨Nat.le_of_ble_eq_true rfl, Nat.le_of_ble_eq_true rfl⟩) ⟨pr_blind, tw_recv hK hP m0 rfl rfl, pr_pre hP hK hN⟩ rfl rfl hl.1 rfl (lv_room (Nat.le_of_ble_eq_true rfl)) d_Md_hinders_279 ⟨Nat.le_of_ble_eq_true rfl, Nat.le_of_ble_eq_true rfl⟩)) (fun r_143 er_143 => ?_)
                          clear er_143
                          refine lv_iadd hx hb d_Md_hinders_282 ?_
                          refine lv_ldcw (v := 359999) hx hb hown (htb (.constant R_Md 305 359999) tw_560) d_Md_hinders_283 ?_
                          refine lv_icmp_le (tgt := 294) hx hb d_Md_hinders_286 (by decide) (fun c_144 => ?_) (fun c_144 => ?_)
                          · refine lv_iconst (v := 0) hx hb d_Md_hinders_294 (by decide +kernel) ?_
                            exact W.iret (v := 0) hx hb hr (fun t ht hW => ⟨0, rfl, trivial, ht⟩) t_nil d_Md_hinders_295
                          · refine lv_bipush (v := 7) hx hb d_Md_hinders_289 (by decide +kernel) ?_
                            refine lv_goto (tgt := 295) hx hb d_Md_hinders_291 (by decide) ?_
                            exact W.iret (v := 7) hx hb hr (fun t ht hW => ⟨7, rfl, trivial, ht⟩) t_nil d_Md_hinders_295
                        · refine lv_iload hx hb d_Md_hinders_245 (lv_at hl 0 rfl) ?_
                          refine lv_if_ge (tgt := 256) hx hb d_Md_hinders_247 (by decide) (fun c_145 => ?_) (fun c_145 => ?_)
                          · refine lv_iload hx hb d_Md_hinders_256 (lv_at hl 0 rfl) ?_
                            refine lv_aload_n hx hb d_Md_hinders_258 rfl (lv_at hl 4 rfl) ?_
                            refine lv_iload hx hb d_Md_hinders_259 (lv_at hl 2 rfl) ?_
                            refine lv_bipush (v := 17) hx hb d_Md_hinders_261 (by decide +kernel) ?_
                            refine vp_callSi (va_Run.run (va_runV (As := [.int r_33, .int 17]) (rest := [.int r_137]) ⟨hx, hb, hml, hown, htb⟩ (c_Md_lineOf_t l dC dI ct L f hO_0 q0 m0 r_33 (17 : Int32) po_34 po_35 (by decide +kernel) (by decide +kernel)) (cwV 2 htb (gd_V tw_539 tw_540 tw_541 tw_407 tw_538) rfl rfl rfl (by decide +kernel) ⟨Nat.le_of_ble_eq_true rfl, Nat.le_of_ble_eq_true rfl⟩) ⟨pr_blind, tw_recv hK hP m0 rfl rfl, pr_pre hP hK hN⟩ rfl rfl hl.1 rfl (lv_room (Nat.le_of_ble_eq_true rfl)) d_Md_hinders_263 ⟨Nat.le_of_ble_eq_true rfl, Nat.le_of_ble_eq_true rfl⟩)) (fun r_146 er_146 => ?_)
                            clear er_146
                            refine lv_icmp_le (tgt := 272) hx hb d_Md_hinders_266 (by decide) (fun c_147 => ?_) (fun c_147 => ?_)
                            · refine lv_aload_n hx hb d_Md_hinders_272 rfl (lv_at hl 4 rfl) ?_
                              refine tw_geti (D := (dC, dI)) (C := R_Md) (T := F_Md) (N := 64) (ci := 7) (kd := 27) (ct := ct) hx hb htb i_Md hown hK hP hO_0 m0 rfl rfl 1 (by decide) (htb (.fieldLink R_Md 7 "WaterMenModel" "time" "I") tw_404) (fun _ h9 => h9) rfl d_Md_hinders_273 (fun x_148 e_148 b_148 => ?_)
                              refine lv_aload_n hx hb d_Md_hinders_276 rfl (lv_at hl 4 rfl) ?_
                              refine lv_iload_n hx hb d_Md_hinders_277 rfl (lv_at hl 5 rfl) ?_
                              refine lv_iload_n hx hb d_Md_hinders_278 rfl (lv_at hl 7 rfl) ?_
                              refine vp_callSi (va_Run.run (va_runV (As := [.int p_0, .int p_2]) (rest := [.int x_148]) ⟨hx, hb, hml, hown, htb⟩ (c_Md_minutesOf_t l dC dI ct L f hO_0 q0 m0 p_0 p_2 as_0 as_1 as_4 as_5) (cwV 2 htb (gd_V tw_557 tw_558 tw_559 tw_407 tw_556) rfl rfl rfl (by decide +kernel) ⟨Nat.le_of_ble_eq_true rfl, Nat.le_of_ble_eq_true rfl⟩) ⟨pr_blind, tw_recv hK hP m0 rfl rfl, pr_pre hP hK hN⟩ rfl rfl hl.1 rfl (lv_room (Nat.le_of_ble_eq_true rfl)) d_Md_hinders_279 ⟨Nat.le_of_ble_eq_true rfl, Nat.le_of_ble_eq_true rfl⟩)) (fun r_149 er_149 => ?_)
                              clear er_149
                              refine lv_iadd hx hb d_Md_hinders_282 ?_
                              refine lv_ldcw (v := 359999) hx hb hown (htb (.constant R_Md 305 359999) tw_560) d_Md_hinders_283 ?_
                              refine lv_icmp_le (tgt := 294) hx hb d_Md_hinders_286 (by decide) (fun c_150 => ?_) (fun c_150 => ?_)
                              · refine lv_iconst (v := 0) hx hb d_Md_hinders_294 (by decide +kernel) ?_
                                exact W.iret (v := 0) hx hb hr (fun t ht hW => ⟨0, rfl, trivial, ht⟩) t_nil d_Md_hinders_295
                              · refine lv_bipush (v := 7) hx hb d_Md_hinders_289 (by decide +kernel) ?_
                                refine lv_goto (tgt := 295) hx hb d_Md_hinders_291 (by decide) ?_
                                exact W.iret (v := 7) hx hb hr (fun t ht hW => ⟨7, rfl, trivial, ht⟩) t_nil d_Md_hinders_295
                            · refine lv_bipush (v := 6) hx hb d_Md_hinders_269 (by decide +kernel) ?_
                              exact W.iret (v := 6) hx hb hr (fun t ht hW => ⟨6, rfl, trivial, ht⟩) t_nil d_Md_hinders_271
                          · refine lv_iload hx hb d_Md_hinders_250 (lv_at hl 0 rfl) ?_
                            refine lv_ineg hx hb d_Md_hinders_252 ?_
                            refine lv_goto (tgt := 258) hx hb d_Md_hinders_253 (by decide) ?_
                            refine lv_aload_n hx hb d_Md_hinders_258 rfl (lv_at hl 4 rfl) ?_
                            refine lv_iload hx hb d_Md_hinders_259 (lv_at hl 2 rfl) ?_
                            refine lv_bipush (v := 17) hx hb d_Md_hinders_261 (by decide +kernel) ?_
                            refine vp_callSi (va_Run.run (va_runV (As := [.int r_33, .int 17]) (rest := [.int (-r_137)]) ⟨hx, hb, hml, hown, htb⟩ (c_Md_lineOf_t l dC dI ct L f hO_0 q0 m0 r_33 (17 : Int32) po_34 po_35 (by decide +kernel) (by decide +kernel)) (cwV 2 htb (gd_V tw_539 tw_540 tw_541 tw_407 tw_538) rfl rfl rfl (by decide +kernel) ⟨Nat.le_of_ble_eq_true rfl, Nat.le_of_ble_eq_true rfl⟩) ⟨pr_blind, tw_recv hK hP m0 rfl rfl, pr_pre hP hK hN⟩ rfl rfl hl.1 rfl (lv_room (Nat.le_of_ble_eq_true rfl)) d_Md_hinders_263 ⟨Nat.le_of_ble_eq_true rfl, Nat.le_of_ble_eq_true rfl⟩)) (fun r_151 er_151 => ?_)
                            clear er_151
                            refine lv_icmp_le (tgt := 272) hx hb d_Md_hinders_266 (by decide) (fun c_152 => ?_) (fun c_152 => ?_)
                            · refine lv_aload_n hx hb d_Md_hinders_272 rfl (lv_at hl 4 rfl) ?_
                              refine tw_geti (D := (dC, dI)) (C := R_Md) (T := F_Md) (N := 64) (ci := 7) (kd := 27) (ct := ct) hx hb htb i_Md hown hK hP hO_0 m0 rfl rfl 1 (by decide) (htb (.fieldLink R_Md 7 "WaterMenModel" "time" "I") tw_404) (fun _ h9 => h9) rfl d_Md_hinders_273 (fun x_153 e_153 b_153 => ?_)
                              refine lv_aload_n hx hb d_Md_hinders_276 rfl (lv_at hl 4 rfl) ?_
                              refine lv_iload_n hx hb d_Md_hinders_277 rfl (lv_at hl 5 rfl) ?_
                              refine lv_iload_n hx hb d_Md_hinders_278 rfl (lv_at hl 7 rfl) ?_
                              refine vp_callSi (va_Run.run (va_runV (As := [.int p_0, .int p_2]) (rest := [.int x_153]) ⟨hx, hb, hml, hown, htb⟩ (c_Md_minutesOf_t l dC dI ct L f hO_0 q0 m0 p_0 p_2 as_0 as_1 as_4 as_5) (cwV 2 htb (gd_V tw_557 tw_558 tw_559 tw_407 tw_556) rfl rfl rfl (by decide +kernel) ⟨Nat.le_of_ble_eq_true rfl, Nat.le_of_ble_eq_true rfl⟩) ⟨pr_blind, tw_recv hK hP m0 rfl rfl, pr_pre hP hK hN⟩ rfl rfl hl.1 rfl (lv_room (Nat.le_of_ble_eq_true rfl)) d_Md_hinders_279 ⟨Nat.le_of_ble_eq_true rfl, Nat.le_of_ble_eq_true rfl⟩)) (fun r_154 er_154 => ?_)
                              clear er_154
                              refine lv_iadd hx hb d_Md_hinders_282 ?_
                              refine lv_ldcw (v := 359999) hx hb hown (htb (.constant R_Md 305 359999) tw_560) d_Md_hinders_283 ?_
                              refine lv_icmp_le (tgt := 294) hx hb d_Md_hinders_286 (by decide) (fun c_155 => ?_) (fun c_155 => ?_)
                              · refine lv_iconst (v := 0) hx hb d_Md_hinders_294 (by decide +kernel) ?_
                                exact W.iret (v := 0) hx hb hr (fun t ht hW => ⟨0, rfl, trivial, ht⟩) t_nil d_Md_hinders_295
                              · refine lv_bipush (v := 7) hx hb d_Md_hinders_289 (by decide +kernel) ?_
                                refine lv_goto (tgt := 295) hx hb d_Md_hinders_291 (by decide) ?_
                                exact W.iret (v := 7) hx hb hr (fun t ht hW => ⟨7, rfl, trivial, ht⟩) t_nil d_Md_hinders_295
                            · refine lv_bipush (v := 6) hx hb d_Md_hinders_269 (by decide +kernel) ?_
                              exact W.iret (v := 6) hx hb hr (fun t ht hW => ⟨6, rfl, trivial, ht⟩) t_nil d_Md_hinders_271
                      · refine lv_aload_n hx hb d_Md_hinders_201 rfl (lv_at hl 4 rfl) ?_
                        refine vp_callSi (va_Run.run (va_runV (As := []) (rest := []) ⟨hx, hb, hml, hown, htb⟩ (c_Md_hourNow_t l dC dI ct L f hO_0 q0 m0) (cwV 0 htb (gd_V tw_553 tw_554 tw_555 tw_407 tw_552) rfl rfl rfl (by decide +kernel) ⟨Nat.le_of_ble_eq_true rfl, Nat.le_of_ble_eq_true rfl⟩) ⟨pr_blind, tw_recv hK hP m0 rfl rfl, pr_pre hP hK hN⟩ rfl rfl hl.1 rfl (lv_room (Nat.le_of_ble_eq_true rfl)) d_Md_hinders_202 ⟨Nat.le_of_ble_eq_true rfl, Nat.le_of_ble_eq_true rfl⟩)) (fun r_156 er_156 => ?_)
                        obtain ⟨po_157, po_158, -⟩ := er_156
                        refine lv_aload_n hx hb d_Md_hinders_205 rfl (lv_at hl 4 rfl) ?_
                        refine lv_iload hx hb d_Md_hinders_206 (lv_at hl 2 rfl) ?_
                        refine lv_bipush (v := 16) hx hb d_Md_hinders_208 (by decide +kernel) ?_
                        refine vp_callSi (va_Run.run (va_runV (As := [.int r_33, .int 16]) (rest := [.int r_156]) ⟨hx, hb, hml, hown, htb⟩ (c_Md_lineOf_t l dC dI ct L f hO_0 q0 m0 r_33 (16 : Int32) po_34 po_35 (by decide +kernel) (by decide +kernel)) (cwV 2 htb (gd_V tw_539 tw_540 tw_541 tw_407 tw_538) rfl rfl rfl (by decide +kernel) ⟨Nat.le_of_ble_eq_true rfl, Nat.le_of_ble_eq_true rfl⟩) ⟨pr_blind, tw_recv hK hP m0 rfl rfl, pr_pre hP hK hN⟩ rfl rfl hl.1 rfl (lv_room (Nat.le_of_ble_eq_true rfl)) d_Md_hinders_210 ⟨Nat.le_of_ble_eq_true rfl, Nat.le_of_ble_eq_true rfl⟩)) (fun r_159 er_159 => ?_)
                        clear er_159
                        refine lv_aload_n hx hb d_Md_hinders_213 rfl (lv_at hl 4 rfl) ?_
                        refine tw_getr (D := (dC, dI)) (C := R_Md) (T := F_Md) (N := 64) (ci := 7) (kd := 27) (ct := ct) hx hb htb i_Md hown hK hP hO_0 m0 rfl rfl 41 (by decide) (htb (.fieldLink R_Md 146 "WaterMenModel" "singleTo" "[I") tw_518) (fun _ h9 => h9) rfl d_Md_hinders_214 (fun q_160 e_160 m_160 => ?_)
                        refine lv_iload hx hb d_Md_hinders_217 (lv_at hl 2 rfl) ?_
                        refine tw_aldI (ct := ct) hx hb hK hP hO_0 m_160 rfl (hb_inl po_34 po_35 (by decide +kernel)) d_Md_hinders_219 (fun x_161 e_161 b_161 => ?_)
                        refine vp_callSi (va_Run.run (va_runS (As := [.int r_156, .int r_159, .int x_161]) (rest := []) ⟨hx, hb, hml, hown, htb⟩ (c_Md_in l r_156 r_159 x_161) (cwS 3 htb (gd_S tw_408 tw_409 tw_407 tw_406) rfl rfl rfl (by decide +kernel) ⟨Nat.le_of_ble_eq_true rfl, Nat.le_of_ble_eq_true rfl⟩) ⟨fun _ _ _ _ h => h, fun U _ _ => ⟨rfl, trivial⟩⟩ rfl rfl hl.1 rfl (lv_room (Nat.le_of_ble_eq_true rfl)) d_Md_hinders_220 ⟨Nat.le_of_ble_eq_true rfl, Nat.le_of_ble_eq_true rfl⟩)) (fun r er => ?_)
                        subst er
                        by_cases c_163 : r_156 < r_159
                        · refine hb_ti 0 (by unfold f_Md_in; rw [if_pos c_163]; first | done | rfl) ?_
                          refine lv_if_ne (tgt := 229) hx hb d_Md_hinders_223 (by decide) (fun h => absurd (by decide +kernel) h) (fun _ => ?_)
                          refine lv_bipush (v := 6) hx hb d_Md_hinders_226 (by decide +kernel) ?_
                          exact W.iret (v := 6) hx hb hr (fun t ht hW => ⟨6, rfl, trivial, ht⟩) t_nil d_Md_hinders_228
                        · by_cases c_164 : x_161 < r_156
                          · refine hb_ti 0 (by unfold f_Md_in; rw [if_neg c_163, if_pos c_164]; first | done | rfl) ?_
                            refine lv_if_ne (tgt := 229) hx hb d_Md_hinders_223 (by decide) (fun h => absurd (by decide +kernel) h) (fun _ => ?_)
                            refine lv_bipush (v := 6) hx hb d_Md_hinders_226 (by decide +kernel) ?_
                            exact W.iret (v := 6) hx hb hr (fun t ht hW => ⟨6, rfl, trivial, ht⟩) t_nil d_Md_hinders_228
                          · refine hb_ti 1 (by unfold f_Md_in; rw [if_neg c_163, if_neg c_164]; first | done | rfl) ?_
                            refine lv_if_ne (tgt := 229) hx hb d_Md_hinders_223 (by decide) (fun _ => ?_) (fun h => absurd h (by decide +kernel))
                            refine lv_iload hx hb d_Md_hinders_229 (lv_at hl 1 rfl) ?_
                            refine lv_if_eq (tgt := 272) hx hb d_Md_hinders_231 (by decide) (fun h => absurd h (by decide +kernel)) (fun _ => ?_)
                            refine lv_aload_n hx hb d_Md_hinders_234 rfl (lv_at hl 4 rfl) ?_
                            refine lv_iload hx hb d_Md_hinders_235 (lv_at hl 2 rfl) ?_
                            refine lv_bipush (v := 17) hx hb d_Md_hinders_237 (by decide +kernel) ?_
                            refine vp_callSi (va_Run.run (va_runV (As := [.int r_33, .int 17]) (rest := []) ⟨hx, hb, hml, hown, htb⟩ (c_Md_lineOf_t l dC dI ct L f hO_0 q0 m0 r_33 (17 : Int32) po_34 po_35 (by decide +kernel) (by decide +kernel)) (cwV 2 htb (gd_V tw_539 tw_540 tw_541 tw_407 tw_538) rfl rfl rfl (by decide +kernel) ⟨Nat.le_of_ble_eq_true rfl, Nat.le_of_ble_eq_true rfl⟩) ⟨pr_blind, tw_recv hK hP m0 rfl rfl, pr_pre hP hK hN⟩ rfl rfl hl.1 rfl (lv_room (Nat.le_of_ble_eq_true rfl)) d_Md_hinders_239 ⟨Nat.le_of_ble_eq_true rfl, Nat.le_of_ble_eq_true rfl⟩)) (fun r_165 er_165 => ?_)
                            clear er_165
                            refine lv_if_lt (tgt := 272) hx hb d_Md_hinders_242 (by decide) (fun c_166 => ?_) (fun c_166 => ?_)
                            · refine lv_aload_n hx hb d_Md_hinders_272 rfl (lv_at hl 4 rfl) ?_
                              refine tw_geti (D := (dC, dI)) (C := R_Md) (T := F_Md) (N := 64) (ci := 7) (kd := 27) (ct := ct) hx hb htb i_Md hown hK hP hO_0 m0 rfl rfl 1 (by decide) (htb (.fieldLink R_Md 7 "WaterMenModel" "time" "I") tw_404) (fun _ h9 => h9) rfl d_Md_hinders_273 (fun x_167 e_167 b_167 => ?_)
                              refine lv_aload_n hx hb d_Md_hinders_276 rfl (lv_at hl 4 rfl) ?_
                              refine lv_iload_n hx hb d_Md_hinders_277 rfl (lv_at hl 5 rfl) ?_
                              refine lv_iload_n hx hb d_Md_hinders_278 rfl (lv_at hl 7 rfl) ?_
                              refine vp_callSi (va_Run.run (va_runV (As := [.int p_0, .int p_2]) (rest := [.int x_167]) ⟨hx, hb, hml, hown, htb⟩ (c_Md_minutesOf_t l dC dI ct L f hO_0 q0 m0 p_0 p_2 as_0 as_1 as_4 as_5) (cwV 2 htb (gd_V tw_557 tw_558 tw_559 tw_407 tw_556) rfl rfl rfl (by decide +kernel) ⟨Nat.le_of_ble_eq_true rfl, Nat.le_of_ble_eq_true rfl⟩) ⟨pr_blind, tw_recv hK hP m0 rfl rfl, pr_pre hP hK hN⟩ rfl rfl hl.1 rfl (lv_room (Nat.le_of_ble_eq_true rfl)) d_Md_hinders_279 ⟨Nat.le_of_ble_eq_true rfl, Nat.le_of_ble_eq_true rfl⟩)) (fun r_168 er_168 => ?_)
                              clear er_168
                              refine lv_iadd hx hb d_Md_hinders_282 ?_
                              refine lv_ldcw (v := 359999) hx hb hown (htb (.constant R_Md 305 359999) tw_560) d_Md_hinders_283 ?_
                              refine lv_icmp_le (tgt := 294) hx hb d_Md_hinders_286 (by decide) (fun c_169 => ?_) (fun c_169 => ?_)
                              · refine lv_iconst (v := 0) hx hb d_Md_hinders_294 (by decide +kernel) ?_
                                exact W.iret (v := 0) hx hb hr (fun t ht hW => ⟨0, rfl, trivial, ht⟩) t_nil d_Md_hinders_295
                              · refine lv_bipush (v := 7) hx hb d_Md_hinders_289 (by decide +kernel) ?_
                                refine lv_goto (tgt := 295) hx hb d_Md_hinders_291 (by decide) ?_
                                exact W.iret (v := 7) hx hb hr (fun t ht hW => ⟨7, rfl, trivial, ht⟩) t_nil d_Md_hinders_295
                            · refine lv_iload hx hb d_Md_hinders_245 (lv_at hl 0 rfl) ?_
                              refine lv_if_ge (tgt := 256) hx hb d_Md_hinders_247 (by decide) (fun c_170 => ?_) (fun c_170 => ?_)
                              · refine lv_iload hx hb d_Md_hinders_256 (lv_at hl 0 rfl) ?_
                                refine lv_aload_n hx hb d_Md_hinders_258 rfl (lv_at hl 4 rfl) ?_
                                refine lv_iload hx hb d_Md_hinders_259 (lv_at hl 2 rfl) ?_
                                refine lv_bipush (v := 17) hx hb d_Md_hinders_261 (by decide +kernel) ?_
                                refine vp_callSi (va_Run.run (va_runV (As := [.int r_33, .int 17]) (rest := [.int r_137]) ⟨hx, hb, hml, hown, htb⟩ (c_Md_lineOf_t l dC dI ct L f hO_0 q0 m0 r_33 (17 : Int32) po_34 po_35 (by decide +kernel) (by decide +kernel)) (cwV 2 htb (gd_V tw_539 tw_540 tw_541 tw_407 tw_538) rfl rfl rfl (by decide +kernel) ⟨Nat.le_of_ble_eq_true rfl, Nat.le_of_ble_eq_true rfl⟩) ⟨pr_blind, tw_recv hK hP m0 rfl rfl, pr_pre hP hK hN⟩ rfl rfl hl.1 rfl (lv_room (Nat.le_of_ble_eq_true rfl)) d_Md_hinders_263 ⟨Nat.le_of_ble_eq_true rfl, Nat.le_of_ble_eq_true rfl⟩)) (fun r_171 er_171 => ?_)
                                clear er_171
                                refine lv_icmp_le (tgt := 272) hx hb d_Md_hinders_266 (by decide) (fun c_172 => ?_) (fun c_172 => ?_)
                                · refine lv_aload_n hx hb d_Md_hinders_272 rfl (lv_at hl 4 rfl) ?_
                                  refine tw_geti (D := (dC, dI)) (C := R_Md) (T := F_Md) (N := 64) (ci := 7) (kd := 27) (ct := ct) hx hb htb i_Md hown hK hP hO_0 m0 rfl rfl 1 (by decide) (htb (.fieldLink R_Md 7 "WaterMenModel" "time" "I") tw_404) (fun _ h9 => h9) rfl d_Md_hinders_273 (fun x_173 e_173 b_173 => ?_)
                                  refine lv_aload_n hx hb d_Md_hinders_276 rfl (lv_at hl 4 rfl) ?_
                                  refine lv_iload_n hx hb d_Md_hinders_277 rfl (lv_at hl 5 rfl) ?_
                                  refine lv_iload_n hx hb d_Md_hinders_278 rfl (lv_at hl 7 rfl) ?_
                                  refine vp_callSi (va_Run.run (va_runV (As := [.int p_0, .int p_2]) (rest := [.int x_173]) ⟨hx, hb, hml, hown, htb⟩ (c_Md_minutesOf_t l dC dI ct L f hO_0 q0 m0 p_0 p_2 as_0 as_1 as_4 as_5) (cwV 2 htb (gd_V tw_557 tw_558 tw_559 tw_407 tw_556) rfl rfl rfl (by decide +kernel) ⟨Nat.le_of_ble_eq_true rfl, Nat.le_of_ble_eq_true rfl⟩) ⟨pr_blind, tw_recv hK hP m0 rfl rfl, pr_pre hP hK hN⟩ rfl rfl hl.1 rfl (lv_room (Nat.le_of_ble_eq_true rfl)) d_Md_hinders_279 ⟨Nat.le_of_ble_eq_true rfl, Nat.le_of_ble_eq_true rfl⟩)) (fun r_174 er_174 => ?_)
                                  clear er_174
                                  refine lv_iadd hx hb d_Md_hinders_282 ?_
                                  refine lv_ldcw (v := 359999) hx hb hown (htb (.constant R_Md 305 359999) tw_560) d_Md_hinders_283 ?_
                                  refine lv_icmp_le (tgt := 294) hx hb d_Md_hinders_286 (by decide) (fun c_175 => ?_) (fun c_175 => ?_)
                                  · refine lv_iconst (v := 0) hx hb d_Md_hinders_294 (by decide +kernel) ?_
                                    exact W.iret (v := 0) hx hb hr (fun t ht hW => ⟨0, rfl, trivial, ht⟩) t_nil d_Md_hinders_295
                                  · refine lv_bipush (v := 7) hx hb d_Md_hinders_289 (by decide +kernel) ?_
                                    refine lv_goto (tgt := 295) hx hb d_Md_hinders_291 (by decide) ?_
                                    exact W.iret (v := 7) hx hb hr (fun t ht hW => ⟨7, rfl, trivial, ht⟩) t_nil d_Md_hinders_295
                                · refine lv_bipush (v := 6) hx hb d_Md_hinders_269 (by decide +kernel) ?_
                                  exact W.iret (v := 6) hx hb hr (fun t ht hW => ⟨6, rfl, trivial, ht⟩) t_nil d_Md_hinders_271
                              · refine lv_iload hx hb d_Md_hinders_250 (lv_at hl 0 rfl) ?_
                                refine lv_ineg hx hb d_Md_hinders_252 ?_
                                refine lv_goto (tgt := 258) hx hb d_Md_hinders_253 (by decide) ?_
                                refine lv_aload_n hx hb d_Md_hinders_258 rfl (lv_at hl 4 rfl) ?_
                                refine lv_iload hx hb d_Md_hinders_259 (lv_at hl 2 rfl) ?_
                                refine lv_bipush (v := 17) hx hb d_Md_hinders_261 (by decide +kernel) ?_
                                refine vp_callSi (va_Run.run (va_runV (As := [.int r_33, .int 17]) (rest := [.int (-r_137)]) ⟨hx, hb, hml, hown, htb⟩ (c_Md_lineOf_t l dC dI ct L f hO_0 q0 m0 r_33 (17 : Int32) po_34 po_35 (by decide +kernel) (by decide +kernel)) (cwV 2 htb (gd_V tw_539 tw_540 tw_541 tw_407 tw_538) rfl rfl rfl (by decide +kernel) ⟨Nat.le_of_ble_eq_true rfl, Nat.le_of_ble_eq_true rfl⟩) ⟨pr_blind, tw_recv hK hP m0 rfl rfl, pr_pre hP hK hN⟩ rfl rfl hl.1 rfl (lv_room (Nat.le_of_ble_eq_true rfl)) d_Md_hinders_263 ⟨Nat.le_of_ble_eq_true rfl, Nat.le_of_ble_eq_true rfl⟩)) (fun r_176 er_176 => ?_)
                                clear er_176
                                refine lv_icmp_le (tgt := 272) hx hb d_Md_hinders_266 (by decide) (fun c_177 => ?_) (fun c_177 => ?_)
                                · refine lv_aload_n hx hb d_Md_hinders_272 rfl (lv_at hl 4 rfl) ?_
                                  refine tw_geti (D := (dC, dI)) (C := R_Md) (T := F_Md) (N := 64) (ci := 7) (kd := 27) (ct := ct) hx hb htb i_Md hown hK hP hO_0 m0 rfl rfl 1 (by decide) (htb (.fieldLink R_Md 7 "WaterMenModel" "time" "I") tw_404) (fun _ h9 => h9) rfl d_Md_hinders_273 (fun x_178 e_178 b_178 => ?_)
                                  refine lv_aload_n hx hb d_Md_hinders_276 rfl (lv_at hl 4 rfl) ?_
                                  refine lv_iload_n hx hb d_Md_hinders_277 rfl (lv_at hl 5 rfl) ?_
                                  refine lv_iload_n hx hb d_Md_hinders_278 rfl (lv_at hl 7 rfl) ?_
                                  refine vp_callSi (va_Run.run (va_runV (As := [.int p_0, .int p_2]) (rest := [.int x_178]) ⟨hx, hb, hml, hown, htb⟩ (c_Md_minutesOf_t l dC dI ct L f hO_0 q0 m0 p_0 p_2 as_0 as_1 as_4 as_5) (cwV 2 htb (gd_V tw_557 tw_558 tw_559 tw_407 tw_556) rfl rfl rfl (by decide +kernel) ⟨Nat.le_of_ble_eq_true rfl, Nat.le_of_ble_eq_true rfl⟩) ⟨pr_blind, tw_recv hK hP m0 rfl rfl, pr_pre hP hK hN⟩ rfl rfl hl.1 rfl (lv_room (Nat.le_of_ble_eq_true rfl)) d_Md_hinders_279 ⟨Nat.le_of_ble_eq_true rfl, Nat.le_of_ble_eq_true rfl⟩)) (fun r_179 er_179 => ?_)
                                  clear er_179
                                  refine lv_iadd hx hb d_Md_hinders_282 ?_
                                  refine lv_ldcw (v := 359999) hx hb hown (htb (.constant R_Md 305 359999) tw_560) d_Md_hinders_283 ?_
                                  refine lv_icmp_le (tgt := 294) hx hb d_Md_hinders_286 (by decide) (fun c_180 => ?_) (fun c_180 => ?_)
                                  · refine lv_iconst (v := 0) hx hb d_Md_hinders_294 (by decide +kernel) ?_
                                    exact W.iret (v := 0) hx hb hr (fun t ht hW => ⟨0, rfl, trivial, ht⟩) t_nil d_Md_hinders_295
                                  · refine lv_bipush (v := 7) hx hb d_Md_hinders_289 (by decide +kernel) ?_
                                    refine lv_goto (tgt := 295) hx hb d_Md_hinders_291 (by decide) ?_
                                    exact W.iret (v := 7) hx hb hr (fun t ht hW => ⟨7, rfl, trivial, ht⟩) t_nil d_Md_hinders_295
                                · refine lv_bipush (v := 6) hx hb d_Md_hinders_269 (by decide +kernel) ?_
                                  exact W.iret (v := 6) hx hb hr (fun t ht hW => ⟨6, rfl, trivial, ht⟩) t_nil d_Md_hinders_271
                    · refine lv_iconst (v := 1) hx hb d_Md_hinders_156 (by decide +kernel) ?_
                      refine lv_goto (tgt := 161) hx hb d_Md_hinders_157 (by decide) ?_
                      refine lv_icmp_eq (tgt := 168) hx hb d_Md_hinders_161 (by decide) (fun _ => ?_) (fun h => absurd (by decide +kernel) h)
                      refine lv_iconst (v := 0) hx hb d_Md_hinders_168 (by decide +kernel) ?_
                      refine lv_istore (lv' := [(6, .int 0), (5, .int r_33), (4, .int x_19), (0, .ref q0), (1, .int p_0), (2, .int p_1), (3, .int p_2)]) hx hb d_Md_hinders_169 hl (by decide) rfl (fun ls hl => ?_)
                      refine lv_aload_n hx hb d_Md_hinders_171 rfl (lv_at hl 3 rfl) ?_
                      refine lv_aload_n hx hb d_Md_hinders_172 rfl (lv_at hl 3 rfl) ?_
                      refine vp_callSi (va_Run.run (va_runV (As := []) (rest := [.ref q0]) ⟨hx, hb, hml, hown, htb⟩ (c_Md_today_t l dC dI ct L f hO_0 q0 m0) (cwV 0 htb (gd_V tw_427 tw_428 tw_429 tw_407 tw_426) rfl rfl rfl (by decide +kernel) ⟨Nat.le_of_ble_eq_true rfl, Nat.le_of_ble_eq_true rfl⟩) ⟨pr_blind, tw_recv hK hP m0 rfl rfl, pr_pre hP hK hN⟩ rfl rfl hl.1 rfl (lv_room (Nat.le_of_ble_eq_true rfl)) d_Md_hinders_173 ⟨Nat.le_of_ble_eq_true rfl, Nat.le_of_ble_eq_true rfl⟩)) (fun r_181 er_181 => ?_)
                      obtain ⟨po_182, po_183, po_184, po_185, -⟩ := er_181
                      refine lv_aload_n hx hb d_Md_hinders_176 rfl (lv_at hl 3 rfl) ?_
                      refine vp_callSi (va_Run.run (va_runV (As := []) (rest := [.int r_181, .ref q0]) ⟨hx, hb, hml, hown, htb⟩ (c_Md_hourNow_t l dC dI ct L f hO_0 q0 m0) (cwV 0 htb (gd_V tw_553 tw_554 tw_555 tw_407 tw_552) rfl rfl rfl (by decide +kernel) ⟨Nat.le_of_ble_eq_true rfl, Nat.le_of_ble_eq_true rfl⟩) ⟨pr_blind, tw_recv hK hP m0 rfl rfl, pr_pre hP hK hN⟩ rfl rfl hl.1 rfl (lv_room (Nat.le_of_ble_eq_true rfl)) d_Md_hinders_177 ⟨Nat.le_of_ble_eq_true rfl, Nat.le_of_ble_eq_true rfl⟩)) (fun r_186 er_186 => ?_)
                      obtain ⟨po_187, po_188, -⟩ := er_186
                      refine vp_callSi (va_Run.run (va_runV (As := [.int r_181, .int r_186]) (rest := []) ⟨hx, hb, hml, hown, htb⟩ (c_Md_flowOf_t l dC dI ct L f hO_0 q0 m0 r_181 r_186 po_182 po_183 po_187 po_188) (cwV 2 htb (gd_V tw_423 tw_424 tw_425 tw_407 tw_422) rfl rfl rfl (by decide +kernel) ⟨Nat.le_of_ble_eq_true rfl, Nat.le_of_ble_eq_true rfl⟩) ⟨pr_blind, tw_recv hK hP m0 rfl rfl, pr_pre hP hK hN⟩ rfl rfl hl.1 rfl (lv_room (Nat.le_of_ble_eq_true rfl)) d_Md_hinders_180 ⟨Nat.le_of_ble_eq_true rfl, Nat.le_of_ble_eq_true rfl⟩)) (fun r_189 er_189 => ?_)
                      clear er_189
                      refine lv_istore (lv' := [(7, .int r_189), (6, .int 0), (5, .int r_33), (4, .int x_19), (0, .ref q0), (1, .int p_0), (2, .int p_1), (3, .int p_2)]) hx hb d_Md_hinders_183 hl (by decide) rfl (fun ls hl => ?_)
                      refine lv_iload hx hb d_Md_hinders_185 (lv_at hl 1 rfl) ?_
                      refine lv_if_eq (tgt := 229) hx hb d_Md_hinders_187 (by decide) (fun _ => ?_) (fun h => absurd (by decide +kernel) h)
                      refine lv_iload hx hb d_Md_hinders_229 (lv_at hl 1 rfl) ?_
                      refine lv_if_eq (tgt := 272) hx hb d_Md_hinders_231 (by decide) (fun _ => ?_) (fun h => absurd (by decide +kernel) h)
                      refine lv_aload_n hx hb d_Md_hinders_272 rfl (lv_at hl 4 rfl) ?_
                      refine tw_geti (D := (dC, dI)) (C := R_Md) (T := F_Md) (N := 64) (ci := 7) (kd := 27) (ct := ct) hx hb htb i_Md hown hK hP hO_0 m0 rfl rfl 1 (by decide) (htb (.fieldLink R_Md 7 "WaterMenModel" "time" "I") tw_404) (fun _ h9 => h9) rfl d_Md_hinders_273 (fun x_190 e_190 b_190 => ?_)
                      refine lv_aload_n hx hb d_Md_hinders_276 rfl (lv_at hl 4 rfl) ?_
                      refine lv_iload_n hx hb d_Md_hinders_277 rfl (lv_at hl 5 rfl) ?_
                      refine lv_iload_n hx hb d_Md_hinders_278 rfl (lv_at hl 7 rfl) ?_
                      refine vp_callSi (va_Run.run (va_runV (As := [.int p_0, .int p_2]) (rest := [.int x_190]) ⟨hx, hb, hml, hown, htb⟩ (c_Md_minutesOf_t l dC dI ct L f hO_0 q0 m0 p_0 p_2 as_0 as_1 as_4 as_5) (cwV 2 htb (gd_V tw_557 tw_558 tw_559 tw_407 tw_556) rfl rfl rfl (by decide +kernel) ⟨Nat.le_of_ble_eq_true rfl, Nat.le_of_ble_eq_true rfl⟩) ⟨pr_blind, tw_recv hK hP m0 rfl rfl, pr_pre hP hK hN⟩ rfl rfl hl.1 rfl (lv_room (Nat.le_of_ble_eq_true rfl)) d_Md_hinders_279 ⟨Nat.le_of_ble_eq_true rfl, Nat.le_of_ble_eq_true rfl⟩)) (fun r_191 er_191 => ?_)
                      clear er_191
                      refine lv_iadd hx hb d_Md_hinders_282 ?_
                      refine lv_ldcw (v := 359999) hx hb hown (htb (.constant R_Md 305 359999) tw_560) d_Md_hinders_283 ?_
                      refine lv_icmp_le (tgt := 294) hx hb d_Md_hinders_286 (by decide) (fun c_192 => ?_) (fun c_192 => ?_)
                      · refine lv_iconst (v := 0) hx hb d_Md_hinders_294 (by decide +kernel) ?_
                        exact W.iret (v := 0) hx hb hr (fun t ht hW => ⟨0, rfl, trivial, ht⟩) t_nil d_Md_hinders_295
                      · refine lv_bipush (v := 7) hx hb d_Md_hinders_289 (by decide +kernel) ?_
                        refine lv_goto (tgt := 295) hx hb d_Md_hinders_291 (by decide) ?_
                        exact W.iret (v := 7) hx hb hr (fun t ht hW => ⟨7, rfl, trivial, ht⟩) t_nil d_Md_hinders_295
              · refine lv_iconst (v := 5) hx hb d_Md_hinders_125 (by decide +kernel) ?_
                exact W.iret (v := 5) hx hb hr (fun t ht hW => ⟨5, rfl, trivial, ht⟩) t_nil d_Md_hinders_126
          · refine lv_aload_n hx hb d_Md_hinders_64 rfl (lv_at hl 1 rfl) ?_
            refine tw_getr (D := (dC, dI)) (C := R_Md) (T := F_Md) (N := 64) (ci := 7) (kd := 27) (ct := ct) hx hb htb i_Md hown hK hP hO_0 m0 rfl rfl 20 (by decide) (htb (.fieldLink R_Md 91 "WaterMenModel" "turn" "[I") tw_445) (fun _ h9 => h9) rfl d_Md_hinders_65 (fun q_193 e_193 m_193 => ?_)
            refine lv_bipush (v := 40) hx hb d_Md_hinders_68 (by decide +kernel) ?_
            refine lv_iload hx hb d_Md_hinders_70 (lv_at hl 0 rfl) ?_
            refine lv_imul hx hb d_Md_hinders_72 ?_
            refine tw_aldI (ct := ct) hx hb hK hP hO_0 m_193 rfl (by have z0 : (0 : Int32).toInt = 0 := (by decide +kernel); have z1 : (11 : Int32).toInt = 11 := (by decide +kernel); have z2 : (40 : Int32).toInt = 40 := (by decide +kernel); have r0 := fb_rng (x_19); have e0 := b_19.1; rw [Int32.lt_iff_toInt_lt, z0] at e0; have e1 := b_19.2; rw [Int32.lt_iff_toInt_lt, z1] at e1; have s0 := fb_mulI (x := (40 : Int32)) (y := (x_19)) (by (try rw [z2]); omega) (by (try rw [z2]); omega); rw [z2] at s0; rw [vp_in_iff]; omega) d_Md_hinders_73 (fun x_194 e_194 b_194 => ?_)
            refine lv_iload_n hx hb d_Md_hinders_74 rfl (lv_at hl 3 rfl) ?_
            refine lv_icmp_eq (tgt := 80) hx hb d_Md_hinders_75 (by decide) (fun c_195 => ?_) (fun c_195 => ?_)
            · refine lv_aload_n hx hb d_Md_hinders_80 rfl (lv_at hl 1 rfl) ?_
              refine lv_aload_n hx hb d_Md_hinders_81 rfl (lv_at hl 1 rfl) ?_
              refine vp_callSi (va_Run.run (va_runV (As := []) (rest := [.ref q0]) ⟨hx, hb, hml, hown, htb⟩ (c_Md_today_t l dC dI ct L f hO_0 q0 m0) (cwV 0 htb (gd_V tw_427 tw_428 tw_429 tw_407 tw_426) rfl rfl rfl (by decide +kernel) ⟨Nat.le_of_ble_eq_true rfl, Nat.le_of_ble_eq_true rfl⟩) ⟨pr_blind, tw_recv hK hP m0 rfl rfl, pr_pre hP hK hN⟩ rfl rfl hl.1 rfl (lv_room (Nat.le_of_ble_eq_true rfl)) d_Md_hinders_82 ⟨Nat.le_of_ble_eq_true rfl, Nat.le_of_ble_eq_true rfl⟩)) (fun r_196 er_196 => ?_)
              obtain ⟨po_197, po_198, po_199, po_200, -⟩ := er_196
              refine lv_aload_n hx hb d_Md_hinders_85 rfl (lv_at hl 1 rfl) ?_
              refine vp_callSi (va_Run.run (va_runV (As := []) (rest := [.int r_196, .ref q0]) ⟨hx, hb, hml, hown, htb⟩ (c_Md_today_t l dC dI ct L f hO_0 q0 m0) (cwV 0 htb (gd_V tw_427 tw_428 tw_429 tw_407 tw_426) rfl rfl rfl (by decide +kernel) ⟨Nat.le_of_ble_eq_true rfl, Nat.le_of_ble_eq_true rfl⟩) ⟨pr_blind, tw_recv hK hP m0 rfl rfl, pr_pre hP hK hN⟩ rfl rfl hl.1 rfl (lv_room (Nat.le_of_ble_eq_true rfl)) d_Md_hinders_86 ⟨Nat.le_of_ble_eq_true rfl, Nat.le_of_ble_eq_true rfl⟩)) (fun r_201 er_201 => ?_)
              obtain ⟨po_202, po_203, po_204, po_205, -⟩ := er_201
              refine vp_callSi (va_Run.run (va_runV (As := [.int r_196, .int r_201]) (rest := []) ⟨hx, hb, hml, hown, htb⟩ (c_Md_forceOn_t l dC dI ct L f hO_0 q0 m0 r_196 r_201) (cwV 2 htb (gd_V tw_535 tw_536 tw_537 tw_407 tw_534) rfl rfl rfl (by decide +kernel) ⟨Nat.le_of_ble_eq_true rfl, Nat.le_of_ble_eq_true rfl⟩) ⟨pr_blind, tw_recv hK hP m0 rfl rfl, pr_pre hP hK hN⟩ rfl rfl hl.1 rfl (lv_room (Nat.le_of_ble_eq_true rfl)) d_Md_hinders_89 ⟨Nat.le_of_ble_eq_true rfl, Nat.le_of_ble_eq_true rfl⟩)) (fun r_206 er_206 => ?_)
              rcases er_206 with ⟨rfl, -⟩ | ⟨po_207, po_208, -⟩
              · refine lv_istore (lv' := [(5, .int (-2)), (4, .int x_19), (0, .ref q0), (1, .int p_0), (2, .int p_1), (3, .int p_2)]) hx hb d_Md_hinders_92 hl (by decide) rfl (fun ls hl => ?_)
                refine lv_iload hx hb d_Md_hinders_94 (lv_at hl 0 rfl) ?_
                refine lv_if_lt (tgt := 125) hx hb d_Md_hinders_96 (by decide) (fun _ => ?_) (fun h => absurd (by decide +kernel) h)
                refine lv_iconst (v := 5) hx hb d_Md_hinders_125 (by decide +kernel) ?_
                exact W.iret (v := 5) hx hb hr (fun t ht hW => ⟨5, rfl, trivial, ht⟩) t_nil d_Md_hinders_126
              · refine lv_istore (lv' := [(5, .int r_206), (4, .int x_19), (0, .ref q0), (1, .int p_0), (2, .int p_1), (3, .int p_2)]) hx hb d_Md_hinders_92 hl (by decide) rfl (fun ls hl => ?_)
                refine lv_iload hx hb d_Md_hinders_94 (lv_at hl 0 rfl) ?_
                refine lv_if_lt (tgt := 125) hx hb d_Md_hinders_96 (by decide) (fun h => absurd h po_207) (fun _ => ?_)
                refine lv_aload_n hx hb d_Md_hinders_99 rfl (lv_at hl 2 rfl) ?_
                refine lv_iload hx hb d_Md_hinders_100 (lv_at hl 0 rfl) ?_
                refine lv_iload hx hb d_Md_hinders_102 (lv_at hl 1 rfl) ?_
                refine lv_iload_n hx hb d_Md_hinders_104 rfl (lv_at hl 5 rfl) ?_
                refine lv_aload_n hx hb d_Md_hinders_105 rfl (lv_at hl 2 rfl) ?_
                refine vp_callSi (va_Run.run (va_runV (As := []) (rest := [.int p_2, .int x_19, .int r_206, .ref q0]) ⟨hx, hb, hml, hown, htb⟩ (c_Md_today_t l dC dI ct L f hO_0 q0 m0) (cwV 0 htb (gd_V tw_427 tw_428 tw_429 tw_407 tw_426) rfl rfl rfl (by decide +kernel) ⟨Nat.le_of_ble_eq_true rfl, Nat.le_of_ble_eq_true rfl⟩) ⟨pr_blind, tw_recv hK hP m0 rfl rfl, pr_pre hP hK hN⟩ rfl rfl hl.1 rfl (lv_room (Nat.le_of_ble_eq_true rfl)) d_Md_hinders_106 ⟨Nat.le_of_ble_eq_true rfl, Nat.le_of_ble_eq_true rfl⟩)) (fun r_209 er_209 => ?_)
                obtain ⟨po_210, po_211, po_212, po_213, -⟩ := er_209
                refine lv_aload_n hx hb d_Md_hinders_109 rfl (lv_at hl 2 rfl) ?_
                refine vp_callSi (va_Run.run (va_runV (As := []) (rest := [.int r_209, .int p_2, .int x_19, .int r_206, .ref q0]) ⟨hx, hb, hml, hown, htb⟩ (c_Md_hourNow_t l dC dI ct L f hO_0 q0 m0) (cwV 0 htb (gd_V tw_553 tw_554 tw_555 tw_407 tw_552) rfl rfl rfl (by decide +kernel) ⟨Nat.le_of_ble_eq_true rfl, Nat.le_of_ble_eq_true rfl⟩) ⟨pr_blind, tw_recv hK hP m0 rfl rfl, pr_pre hP hK hN⟩ rfl rfl hl.1 rfl (lv_room (Nat.le_of_ble_eq_true rfl)) d_Md_hinders_110 ⟨Nat.le_of_ble_eq_true rfl, Nat.le_of_ble_eq_true rfl⟩)) (fun r_214 er_214 => ?_)
                obtain ⟨po_215, po_216, -⟩ := er_214
                refine lv_aload_n hx hb d_Md_hinders_113 rfl (lv_at hl 2 rfl) ?_
                refine tw_getr (D := (dC, dI)) (C := R_Md) (T := F_Md) (N := 64) (ci := 7) (kd := 27) (ct := ct) hx hb htb i_Md hown hK hP hO_0 m0 rfl rfl 22 (by decide) (htb (.fieldLink R_Md 94 "WaterMenModel" "boatOars" "[I") tw_466) (fun _ h9 => h9) rfl d_Md_hinders_114 (fun q_217 e_217 m_217 => ?_)
                refine lv_iload_n hx hb d_Md_hinders_117 rfl (lv_at hl 3 rfl) ?_
                refine tw_aldI (ct := ct) hx hb hK hP hO_0 m_217 rfl (hb_inl as_0 as_1 (by decide +kernel)) d_Md_hinders_118 (fun x_218 e_218 b_218 => ?_)
                refine vp_callSi (va_Run.run (va_runV (As := [.int r_206, .int x_19, .int p_2, .int r_209, .int r_214, .int x_218]) (rest := []) ⟨hx, hb, hml, hown, htb⟩ (c_Md_fareOf_t l dC dI ct L f hO_0 q0 m0 r_206 x_19 p_2 r_209 r_214 x_218 po_207 po_208 b_19.1 b_19.2 as_4 as_5 po_210 po_211 po_215 po_216) (cwV 6 htb (gd_V tw_549 tw_550 tw_551 tw_407 tw_548) rfl rfl rfl (by decide +kernel) ⟨Nat.le_of_ble_eq_true rfl, Nat.le_of_ble_eq_true rfl⟩) ⟨pr_blind, tw_recv hK hP m0 rfl rfl, pr_pre hP hK hN⟩ rfl rfl hl.1 rfl (lv_room (Nat.le_of_ble_eq_true rfl)) d_Md_hinders_119 ⟨Nat.le_of_ble_eq_true rfl, Nat.le_of_ble_eq_true rfl⟩)) (fun r_219 er_219 => ?_)
                clear er_219
                refine lv_if_ge (tgt := 127) hx hb d_Md_hinders_122 (by decide) (fun c_220 => ?_) (fun c_220 => ?_)
                · refine lv_aload_n hx hb d_Md_hinders_127 rfl (lv_at hl 2 rfl) ?_
                  refine tw_geti (D := (dC, dI)) (C := R_Md) (T := F_Md) (N := 64) (ci := 7) (kd := 27) (ct := ct) hx hb htb i_Md hown hK hP hO_0 m0 rfl rfl 4 (by decide) (htb (.fieldLink R_Md 35 "WaterMenModel" "bridge" "I") tw_418) (fun _ h9 => h9) rfl d_Md_hinders_128 (fun x_221 e_221 b_221 => ?_)
                  refine lv_if_lt (tgt := 168) hx hb d_Md_hinders_131 (by decide) (fun c_222 => ?_) (fun c_222 => ?_)
                  · refine lv_iconst (v := 0) hx hb d_Md_hinders_168 (by decide +kernel) ?_
                    refine lv_istore (lv' := [(6, .int 0), (5, .int r_206), (4, .int x_19), (0, .ref q0), (1, .int p_0), (2, .int p_1), (3, .int p_2)]) hx hb d_Md_hinders_169 hl (by decide) rfl (fun ls hl => ?_)
                    refine lv_aload_n hx hb d_Md_hinders_171 rfl (lv_at hl 3 rfl) ?_
                    refine lv_aload_n hx hb d_Md_hinders_172 rfl (lv_at hl 3 rfl) ?_
                    refine vp_callSi (va_Run.run (va_runV (As := []) (rest := [.ref q0]) ⟨hx, hb, hml, hown, htb⟩ (c_Md_today_t l dC dI ct L f hO_0 q0 m0) (cwV 0 htb (gd_V tw_427 tw_428 tw_429 tw_407 tw_426) rfl rfl rfl (by decide +kernel) ⟨Nat.le_of_ble_eq_true rfl, Nat.le_of_ble_eq_true rfl⟩) ⟨pr_blind, tw_recv hK hP m0 rfl rfl, pr_pre hP hK hN⟩ rfl rfl hl.1 rfl (lv_room (Nat.le_of_ble_eq_true rfl)) d_Md_hinders_173 ⟨Nat.le_of_ble_eq_true rfl, Nat.le_of_ble_eq_true rfl⟩)) (fun r_223 er_223 => ?_)
                    obtain ⟨po_224, po_225, po_226, po_227, -⟩ := er_223
                    refine lv_aload_n hx hb d_Md_hinders_176 rfl (lv_at hl 3 rfl) ?_
                    refine vp_callSi (va_Run.run (va_runV (As := []) (rest := [.int r_223, .ref q0]) ⟨hx, hb, hml, hown, htb⟩ (c_Md_hourNow_t l dC dI ct L f hO_0 q0 m0) (cwV 0 htb (gd_V tw_553 tw_554 tw_555 tw_407 tw_552) rfl rfl rfl (by decide +kernel) ⟨Nat.le_of_ble_eq_true rfl, Nat.le_of_ble_eq_true rfl⟩) ⟨pr_blind, tw_recv hK hP m0 rfl rfl, pr_pre hP hK hN⟩ rfl rfl hl.1 rfl (lv_room (Nat.le_of_ble_eq_true rfl)) d_Md_hinders_177 ⟨Nat.le_of_ble_eq_true rfl, Nat.le_of_ble_eq_true rfl⟩)) (fun r_228 er_228 => ?_)
                    obtain ⟨po_229, po_230, -⟩ := er_228
                    refine vp_callSi (va_Run.run (va_runV (As := [.int r_223, .int r_228]) (rest := []) ⟨hx, hb, hml, hown, htb⟩ (c_Md_flowOf_t l dC dI ct L f hO_0 q0 m0 r_223 r_228 po_224 po_225 po_229 po_230) (cwV 2 htb (gd_V tw_423 tw_424 tw_425 tw_407 tw_422) rfl rfl rfl (by decide +kernel) ⟨Nat.le_of_ble_eq_true rfl, Nat.le_of_ble_eq_true rfl⟩) ⟨pr_blind, tw_recv hK hP m0 rfl rfl, pr_pre hP hK hN⟩ rfl rfl hl.1 rfl (lv_room (Nat.le_of_ble_eq_true rfl)) d_Md_hinders_180 ⟨Nat.le_of_ble_eq_true rfl, Nat.le_of_ble_eq_true rfl⟩)) (fun r_231 er_231 => ?_)
                    clear er_231
                    refine lv_istore (lv' := [(7, .int r_231), (6, .int 0), (5, .int r_206), (4, .int x_19), (0, .ref q0), (1, .int p_0), (2, .int p_1), (3, .int p_2)]) hx hb d_Md_hinders_183 hl (by decide) rfl (fun ls hl => ?_)
                    refine lv_iload hx hb d_Md_hinders_185 (lv_at hl 1 rfl) ?_
                    refine lv_if_eq (tgt := 229) hx hb d_Md_hinders_187 (by decide) (fun _ => ?_) (fun h => absurd (by decide +kernel) h)
                    refine lv_iload hx hb d_Md_hinders_229 (lv_at hl 1 rfl) ?_
                    refine lv_if_eq (tgt := 272) hx hb d_Md_hinders_231 (by decide) (fun _ => ?_) (fun h => absurd (by decide +kernel) h)
                    refine lv_aload_n hx hb d_Md_hinders_272 rfl (lv_at hl 4 rfl) ?_
                    refine tw_geti (D := (dC, dI)) (C := R_Md) (T := F_Md) (N := 64) (ci := 7) (kd := 27) (ct := ct) hx hb htb i_Md hown hK hP hO_0 m0 rfl rfl 1 (by decide) (htb (.fieldLink R_Md 7 "WaterMenModel" "time" "I") tw_404) (fun _ h9 => h9) rfl d_Md_hinders_273 (fun x_232 e_232 b_232 => ?_)
                    refine lv_aload_n hx hb d_Md_hinders_276 rfl (lv_at hl 4 rfl) ?_
                    refine lv_iload_n hx hb d_Md_hinders_277 rfl (lv_at hl 5 rfl) ?_
                    refine lv_iload_n hx hb d_Md_hinders_278 rfl (lv_at hl 7 rfl) ?_
                    refine vp_callSi (va_Run.run (va_runV (As := [.int p_0, .int p_2]) (rest := [.int x_232]) ⟨hx, hb, hml, hown, htb⟩ (c_Md_minutesOf_t l dC dI ct L f hO_0 q0 m0 p_0 p_2 as_0 as_1 as_4 as_5) (cwV 2 htb (gd_V tw_557 tw_558 tw_559 tw_407 tw_556) rfl rfl rfl (by decide +kernel) ⟨Nat.le_of_ble_eq_true rfl, Nat.le_of_ble_eq_true rfl⟩) ⟨pr_blind, tw_recv hK hP m0 rfl rfl, pr_pre hP hK hN⟩ rfl rfl hl.1 rfl (lv_room (Nat.le_of_ble_eq_true rfl)) d_Md_hinders_279 ⟨Nat.le_of_ble_eq_true rfl, Nat.le_of_ble_eq_true rfl⟩)) (fun r_233 er_233 => ?_)
                    clear er_233
                    refine lv_iadd hx hb d_Md_hinders_282 ?_
                    refine lv_ldcw (v := 359999) hx hb hown (htb (.constant R_Md 305 359999) tw_560) d_Md_hinders_283 ?_
                    refine lv_icmp_le (tgt := 294) hx hb d_Md_hinders_286 (by decide) (fun c_234 => ?_) (fun c_234 => ?_)
                    · refine lv_iconst (v := 0) hx hb d_Md_hinders_294 (by decide +kernel) ?_
                      exact W.iret (v := 0) hx hb hr (fun t ht hW => ⟨0, rfl, trivial, ht⟩) t_nil d_Md_hinders_295
                    · refine lv_bipush (v := 7) hx hb d_Md_hinders_289 (by decide +kernel) ?_
                      refine lv_goto (tgt := 295) hx hb d_Md_hinders_291 (by decide) ?_
                      exact W.iret (v := 7) hx hb hr (fun t ht hW => ⟨7, rfl, trivial, ht⟩) t_nil d_Md_hinders_295
                  · refine lv_iload hx hb d_Md_hinders_134 (lv_at hl 1 rfl) ?_
                    refine lv_aload_n hx hb d_Md_hinders_136 rfl (lv_at hl 2 rfl) ?_
                    refine tw_getI (x := x_221) (D := (dC, dI)) (C := R_Md) (T := F_Md) (N := 64) (ci := 7) (kd := 27) (ct := ct) hx hb htb i_Md hown hK hP m0 rfl rfl 4 e_221 (by decide) (htb (.fieldLink R_Md 35 "WaterMenModel" "bridge" "I") tw_418) (fun _ h9 => h9) rfl d_Md_hinders_137 ?_
                    refine lv_icmp_gt (tgt := 147) hx hb d_Md_hinders_140 (by decide) (fun c_235 => ?_) (fun c_235 => ?_)
                    · refine lv_iconst (v := 0) hx hb d_Md_hinders_147 (by decide +kernel) ?_
                      refine lv_iload_n hx hb d_Md_hinders_148 rfl (lv_at hl 5 rfl) ?_
                      refine lv_aload_n hx hb d_Md_hinders_149 rfl (lv_at hl 2 rfl) ?_
                      refine tw_getI (x := x_221) (D := (dC, dI)) (C := R_Md) (T := F_Md) (N := 64) (ci := 7) (kd := 27) (ct := ct) hx hb htb i_Md hown hK hP m0 rfl rfl 4 e_221 (by decide) (htb (.fieldLink R_Md 35 "WaterMenModel" "bridge" "I") tw_418) (fun _ h9 => h9) rfl d_Md_hinders_150 ?_
                      refine lv_icmp_gt (tgt := 160) hx hb d_Md_hinders_153 (by decide) (fun c_236 => ?_) (fun c_236 => ?_)
                      · refine lv_iconst (v := 0) hx hb d_Md_hinders_160 (by decide +kernel) ?_
                        refine lv_icmp_eq (tgt := 168) hx hb d_Md_hinders_161 (by decide) (fun _ => ?_) (fun h => absurd (by decide +kernel) h)
                        refine lv_iconst (v := 0) hx hb d_Md_hinders_168 (by decide +kernel) ?_
                        refine lv_istore (lv' := [(6, .int 0), (5, .int r_206), (4, .int x_19), (0, .ref q0), (1, .int p_0), (2, .int p_1), (3, .int p_2)]) hx hb d_Md_hinders_169 hl (by decide) rfl (fun ls hl => ?_)
                        refine lv_aload_n hx hb d_Md_hinders_171 rfl (lv_at hl 3 rfl) ?_
                        refine lv_aload_n hx hb d_Md_hinders_172 rfl (lv_at hl 3 rfl) ?_
                        refine vp_callSi (va_Run.run (va_runV (As := []) (rest := [.ref q0]) ⟨hx, hb, hml, hown, htb⟩ (c_Md_today_t l dC dI ct L f hO_0 q0 m0) (cwV 0 htb (gd_V tw_427 tw_428 tw_429 tw_407 tw_426) rfl rfl rfl (by decide +kernel) ⟨Nat.le_of_ble_eq_true rfl, Nat.le_of_ble_eq_true rfl⟩) ⟨pr_blind, tw_recv hK hP m0 rfl rfl, pr_pre hP hK hN⟩ rfl rfl hl.1 rfl (lv_room (Nat.le_of_ble_eq_true rfl)) d_Md_hinders_173 ⟨Nat.le_of_ble_eq_true rfl, Nat.le_of_ble_eq_true rfl⟩)) (fun r_237 er_237 => ?_)
                        obtain ⟨po_238, po_239, po_240, po_241, -⟩ := er_237
                        refine lv_aload_n hx hb d_Md_hinders_176 rfl (lv_at hl 3 rfl) ?_
                        refine vp_callSi (va_Run.run (va_runV (As := []) (rest := [.int r_237, .ref q0]) ⟨hx, hb, hml, hown, htb⟩ (c_Md_hourNow_t l dC dI ct L f hO_0 q0 m0) (cwV 0 htb (gd_V tw_553 tw_554 tw_555 tw_407 tw_552) rfl rfl rfl (by decide +kernel) ⟨Nat.le_of_ble_eq_true rfl, Nat.le_of_ble_eq_true rfl⟩) ⟨pr_blind, tw_recv hK hP m0 rfl rfl, pr_pre hP hK hN⟩ rfl rfl hl.1 rfl (lv_room (Nat.le_of_ble_eq_true rfl)) d_Md_hinders_177 ⟨Nat.le_of_ble_eq_true rfl, Nat.le_of_ble_eq_true rfl⟩)) (fun r_242 er_242 => ?_)
                        obtain ⟨po_243, po_244, -⟩ := er_242
                        refine vp_callSi (va_Run.run (va_runV (As := [.int r_237, .int r_242]) (rest := []) ⟨hx, hb, hml, hown, htb⟩ (c_Md_flowOf_t l dC dI ct L f hO_0 q0 m0 r_237 r_242 po_238 po_239 po_243 po_244) (cwV 2 htb (gd_V tw_423 tw_424 tw_425 tw_407 tw_422) rfl rfl rfl (by decide +kernel) ⟨Nat.le_of_ble_eq_true rfl, Nat.le_of_ble_eq_true rfl⟩) ⟨pr_blind, tw_recv hK hP m0 rfl rfl, pr_pre hP hK hN⟩ rfl rfl hl.1 rfl (lv_room (Nat.le_of_ble_eq_true rfl)) d_Md_hinders_180 ⟨Nat.le_of_ble_eq_true rfl, Nat.le_of_ble_eq_true rfl⟩)) (fun r_245 er_245 => ?_)
                        clear er_245
                        refine lv_istore (lv' := [(7, .int r_245), (6, .int 0), (5, .int r_206), (4, .int x_19), (0, .ref q0), (1, .int p_0), (2, .int p_1), (3, .int p_2)]) hx hb d_Md_hinders_183 hl (by decide) rfl (fun ls hl => ?_)
                        refine lv_iload hx hb d_Md_hinders_185 (lv_at hl 1 rfl) ?_
                        refine lv_if_eq (tgt := 229) hx hb d_Md_hinders_187 (by decide) (fun _ => ?_) (fun h => absurd (by decide +kernel) h)
                        refine lv_iload hx hb d_Md_hinders_229 (lv_at hl 1 rfl) ?_
                        refine lv_if_eq (tgt := 272) hx hb d_Md_hinders_231 (by decide) (fun _ => ?_) (fun h => absurd (by decide +kernel) h)
                        refine lv_aload_n hx hb d_Md_hinders_272 rfl (lv_at hl 4 rfl) ?_
                        refine tw_geti (D := (dC, dI)) (C := R_Md) (T := F_Md) (N := 64) (ci := 7) (kd := 27) (ct := ct) hx hb htb i_Md hown hK hP hO_0 m0 rfl rfl 1 (by decide) (htb (.fieldLink R_Md 7 "WaterMenModel" "time" "I") tw_404) (fun _ h9 => h9) rfl d_Md_hinders_273 (fun x_246 e_246 b_246 => ?_)
                        refine lv_aload_n hx hb d_Md_hinders_276 rfl (lv_at hl 4 rfl) ?_
                        refine lv_iload_n hx hb d_Md_hinders_277 rfl (lv_at hl 5 rfl) ?_
                        refine lv_iload_n hx hb d_Md_hinders_278 rfl (lv_at hl 7 rfl) ?_
                        refine vp_callSi (va_Run.run (va_runV (As := [.int p_0, .int p_2]) (rest := [.int x_246]) ⟨hx, hb, hml, hown, htb⟩ (c_Md_minutesOf_t l dC dI ct L f hO_0 q0 m0 p_0 p_2 as_0 as_1 as_4 as_5) (cwV 2 htb (gd_V tw_557 tw_558 tw_559 tw_407 tw_556) rfl rfl rfl (by decide +kernel) ⟨Nat.le_of_ble_eq_true rfl, Nat.le_of_ble_eq_true rfl⟩) ⟨pr_blind, tw_recv hK hP m0 rfl rfl, pr_pre hP hK hN⟩ rfl rfl hl.1 rfl (lv_room (Nat.le_of_ble_eq_true rfl)) d_Md_hinders_279 ⟨Nat.le_of_ble_eq_true rfl, Nat.le_of_ble_eq_true rfl⟩)) (fun r_247 er_247 => ?_)
                        clear er_247
                        refine lv_iadd hx hb d_Md_hinders_282 ?_
                        refine lv_ldcw (v := 359999) hx hb hown (htb (.constant R_Md 305 359999) tw_560) d_Md_hinders_283 ?_
                        refine lv_icmp_le (tgt := 294) hx hb d_Md_hinders_286 (by decide) (fun c_248 => ?_) (fun c_248 => ?_)
                        · refine lv_iconst (v := 0) hx hb d_Md_hinders_294 (by decide +kernel) ?_
                          exact W.iret (v := 0) hx hb hr (fun t ht hW => ⟨0, rfl, trivial, ht⟩) t_nil d_Md_hinders_295
                        · refine lv_bipush (v := 7) hx hb d_Md_hinders_289 (by decide +kernel) ?_
                          refine lv_goto (tgt := 295) hx hb d_Md_hinders_291 (by decide) ?_
                          exact W.iret (v := 7) hx hb hr (fun t ht hW => ⟨7, rfl, trivial, ht⟩) t_nil d_Md_hinders_295
                      · refine lv_iconst (v := 1) hx hb d_Md_hinders_156 (by decide +kernel) ?_
                        refine lv_goto (tgt := 161) hx hb d_Md_hinders_157 (by decide) ?_
                        refine lv_icmp_eq (tgt := 168) hx hb d_Md_hinders_161 (by decide) (fun h => absurd h (by decide +kernel)) (fun _ => ?_)
                        refine lv_iconst (v := 1) hx hb d_Md_hinders_164 (by decide +kernel) ?_
                        refine lv_goto (tgt := 169) hx hb d_Md_hinders_165 (by decide) ?_
                        refine lv_istore (lv' := [(6, .int 1), (5, .int r_206), (4, .int x_19), (0, .ref q0), (1, .int p_0), (2, .int p_1), (3, .int p_2)]) hx hb d_Md_hinders_169 hl (by decide) rfl (fun ls hl => ?_)
                        refine lv_aload_n hx hb d_Md_hinders_171 rfl (lv_at hl 3 rfl) ?_
                        refine lv_aload_n hx hb d_Md_hinders_172 rfl (lv_at hl 3 rfl) ?_
                        refine vp_callSi (va_Run.run (va_runV (As := []) (rest := [.ref q0]) ⟨hx, hb, hml, hown, htb⟩ (c_Md_today_t l dC dI ct L f hO_0 q0 m0) (cwV 0 htb (gd_V tw_427 tw_428 tw_429 tw_407 tw_426) rfl rfl rfl (by decide +kernel) ⟨Nat.le_of_ble_eq_true rfl, Nat.le_of_ble_eq_true rfl⟩) ⟨pr_blind, tw_recv hK hP m0 rfl rfl, pr_pre hP hK hN⟩ rfl rfl hl.1 rfl (lv_room (Nat.le_of_ble_eq_true rfl)) d_Md_hinders_173 ⟨Nat.le_of_ble_eq_true rfl, Nat.le_of_ble_eq_true rfl⟩)) (fun r_249 er_249 => ?_)
                        obtain ⟨po_250, po_251, po_252, po_253, -⟩ := er_249
                        refine lv_aload_n hx hb d_Md_hinders_176 rfl (lv_at hl 3 rfl) ?_
                        refine vp_callSi (va_Run.run (va_runV (As := []) (rest := [.int r_249, .ref q0]) ⟨hx, hb, hml, hown, htb⟩ (c_Md_hourNow_t l dC dI ct L f hO_0 q0 m0) (cwV 0 htb (gd_V tw_553 tw_554 tw_555 tw_407 tw_552) rfl rfl rfl (by decide +kernel) ⟨Nat.le_of_ble_eq_true rfl, Nat.le_of_ble_eq_true rfl⟩) ⟨pr_blind, tw_recv hK hP m0 rfl rfl, pr_pre hP hK hN⟩ rfl rfl hl.1 rfl (lv_room (Nat.le_of_ble_eq_true rfl)) d_Md_hinders_177 ⟨Nat.le_of_ble_eq_true rfl, Nat.le_of_ble_eq_true rfl⟩)) (fun r_254 er_254 => ?_)
                        obtain ⟨po_255, po_256, -⟩ := er_254
                        refine vp_callSi (va_Run.run (va_runV (As := [.int r_249, .int r_254]) (rest := []) ⟨hx, hb, hml, hown, htb⟩ (c_Md_flowOf_t l dC dI ct L f hO_0 q0 m0 r_249 r_254 po_250 po_251 po_255 po_256) (cwV 2 htb (gd_V tw_423 tw_424 tw_425 tw_407 tw_422) rfl rfl rfl (by decide +kernel) ⟨Nat.le_of_ble_eq_true rfl, Nat.le_of_ble_eq_true rfl⟩) ⟨pr_blind, tw_recv hK hP m0 rfl rfl, pr_pre hP hK hN⟩ rfl rfl hl.1 rfl (lv_room (Nat.le_of_ble_eq_true rfl)) d_Md_hinders_180 ⟨Nat.le_of_ble_eq_true rfl, Nat.le_of_ble_eq_true rfl⟩)) (fun r_257 er_257 => ?_)
                        clear er_257
                        refine lv_istore (lv' := [(7, .int r_257), (6, .int 1), (5, .int r_206), (4, .int x_19), (0, .ref q0), (1, .int p_0), (2, .int p_1), (3, .int p_2)]) hx hb d_Md_hinders_183 hl (by decide) rfl (fun ls hl => ?_)
                        refine lv_iload hx hb d_Md_hinders_185 (lv_at hl 1 rfl) ?_
                        refine lv_if_eq (tgt := 229) hx hb d_Md_hinders_187 (by decide) (fun h => absurd h (by decide +kernel)) (fun _ => ?_)
                        refine lv_aload_n hx hb d_Md_hinders_190 rfl (lv_at hl 4 rfl) ?_
                        refine lv_iload hx hb d_Md_hinders_191 (lv_at hl 2 rfl) ?_
                        refine lv_bipush (v := 16) hx hb d_Md_hinders_193 (by decide +kernel) ?_
                        refine vp_callSi (va_Run.run (va_runV (As := [.int r_206, .int 16]) (rest := []) ⟨hx, hb, hml, hown, htb⟩ (c_Md_lineOf_t l dC dI ct L f hO_0 q0 m0 r_206 (16 : Int32) po_207 po_208 (by decide +kernel) (by decide +kernel)) (cwV 2 htb (gd_V tw_539 tw_540 tw_541 tw_407 tw_538) rfl rfl rfl (by decide +kernel) ⟨Nat.le_of_ble_eq_true rfl, Nat.le_of_ble_eq_true rfl⟩) ⟨pr_blind, tw_recv hK hP m0 rfl rfl, pr_pre hP hK hN⟩ rfl rfl hl.1 rfl (lv_room (Nat.le_of_ble_eq_true rfl)) d_Md_hinders_195 ⟨Nat.le_of_ble_eq_true rfl, Nat.le_of_ble_eq_true rfl⟩)) (fun r_258 er_258 => ?_)
                        clear er_258
                        refine lv_if_lt (tgt := 229) hx hb d_Md_hinders_198 (by decide) (fun c_259 => ?_) (fun c_259 => ?_)
                        · refine lv_iload hx hb d_Md_hinders_229 (lv_at hl 1 rfl) ?_
                          refine lv_if_eq (tgt := 272) hx hb d_Md_hinders_231 (by decide) (fun h => absurd h (by decide +kernel)) (fun _ => ?_)
                          refine lv_aload_n hx hb d_Md_hinders_234 rfl (lv_at hl 4 rfl) ?_
                          refine lv_iload hx hb d_Md_hinders_235 (lv_at hl 2 rfl) ?_
                          refine lv_bipush (v := 17) hx hb d_Md_hinders_237 (by decide +kernel) ?_
                          refine vp_callSi (va_Run.run (va_runV (As := [.int r_206, .int 17]) (rest := []) ⟨hx, hb, hml, hown, htb⟩ (c_Md_lineOf_t l dC dI ct L f hO_0 q0 m0 r_206 (17 : Int32) po_207 po_208 (by decide +kernel) (by decide +kernel)) (cwV 2 htb (gd_V tw_539 tw_540 tw_541 tw_407 tw_538) rfl rfl rfl (by decide +kernel) ⟨Nat.le_of_ble_eq_true rfl, Nat.le_of_ble_eq_true rfl⟩) ⟨pr_blind, tw_recv hK hP m0 rfl rfl, pr_pre hP hK hN⟩ rfl rfl hl.1 rfl (lv_room (Nat.le_of_ble_eq_true rfl)) d_Md_hinders_239 ⟨Nat.le_of_ble_eq_true rfl, Nat.le_of_ble_eq_true rfl⟩)) (fun r_260 er_260 => ?_)
                          clear er_260
                          refine lv_if_lt (tgt := 272) hx hb d_Md_hinders_242 (by decide) (fun c_261 => ?_) (fun c_261 => ?_)
                          · refine lv_aload_n hx hb d_Md_hinders_272 rfl (lv_at hl 4 rfl) ?_
                            refine tw_geti (D := (dC, dI)) (C := R_Md) (T := F_Md) (N := 64) (ci := 7) (kd := 27) (ct := ct) hx hb htb i_Md hown hK hP hO_0 m0 rfl rfl 1 (by decide) (htb (.fieldLink R_Md 7 "WaterMenModel" "time" "I") tw_404) (fun _ h9 => h9) rfl d_Md_hinders_273 (fun x_262 e_262 b_262 => ?_)
                            refine lv_aload_n hx hb d_Md_hinders_276 rfl (lv_at hl 4 rfl) ?_
                            refine lv_iload_n hx hb d_Md_hinders_277 rfl (lv_at hl 5 rfl) ?_
                            refine lv_iload_n hx hb d_Md_hinders_278 rfl (lv_at hl 7 rfl) ?_
                            refine vp_callSi (va_Run.run (va_runV (As := [.int p_0, .int p_2]) (rest := [.int x_262]) ⟨hx, hb, hml, hown, htb⟩ (c_Md_minutesOf_t l dC dI ct L f hO_0 q0 m0 p_0 p_2 as_0 as_1 as_4 as_5) (cwV 2 htb (gd_V tw_557 tw_558 tw_559 tw_407 tw_556) rfl rfl rfl (by decide +kernel) ⟨Nat.le_of_ble_eq_true rfl, Nat.le_of_ble_eq_true rfl⟩) ⟨pr_blind, tw_recv hK hP m0 rfl rfl, pr_pre hP hK hN⟩ rfl rfl hl.1 rfl (lv_room (Nat.le_of_ble_eq_true rfl)) d_Md_hinders_279 ⟨Nat.le_of_ble_eq_true rfl, Nat.le_of_ble_eq_true rfl⟩)) (fun r_263 er_263 => ?_)
                            clear er_263
                            refine lv_iadd hx hb d_Md_hinders_282 ?_
                            refine lv_ldcw (v := 359999) hx hb hown (htb (.constant R_Md 305 359999) tw_560) d_Md_hinders_283 ?_
                            refine lv_icmp_le (tgt := 294) hx hb d_Md_hinders_286 (by decide) (fun c_264 => ?_) (fun c_264 => ?_)
                            · refine lv_iconst (v := 0) hx hb d_Md_hinders_294 (by decide +kernel) ?_
                              exact W.iret (v := 0) hx hb hr (fun t ht hW => ⟨0, rfl, trivial, ht⟩) t_nil d_Md_hinders_295
                            · refine lv_bipush (v := 7) hx hb d_Md_hinders_289 (by decide +kernel) ?_
                              refine lv_goto (tgt := 295) hx hb d_Md_hinders_291 (by decide) ?_
                              exact W.iret (v := 7) hx hb hr (fun t ht hW => ⟨7, rfl, trivial, ht⟩) t_nil d_Md_hinders_295
                          · refine lv_iload hx hb d_Md_hinders_245 (lv_at hl 0 rfl) ?_
                            refine lv_if_ge (tgt := 256) hx hb d_Md_hinders_247 (by decide) (fun c_265 => ?_) (fun c_265 => ?_)
                            · refine lv_iload hx hb d_Md_hinders_256 (lv_at hl 0 rfl) ?_
                              refine lv_aload_n hx hb d_Md_hinders_258 rfl (lv_at hl 4 rfl) ?_
                              refine lv_iload hx hb d_Md_hinders_259 (lv_at hl 2 rfl) ?_
                              refine lv_bipush (v := 17) hx hb d_Md_hinders_261 (by decide +kernel) ?_
                              refine vp_callSi (va_Run.run (va_runV (As := [.int r_206, .int 17]) (rest := [.int r_257]) ⟨hx, hb, hml, hown, htb⟩ (c_Md_lineOf_t l dC dI ct L f hO_0 q0 m0 r_206 (17 : Int32) po_207 po_208 (by decide +kernel) (by decide +kernel)) (cwV 2 htb (gd_V tw_539 tw_540 tw_541 tw_407 tw_538) rfl rfl rfl (by decide +kernel) ⟨Nat.le_of_ble_eq_true rfl, Nat.le_of_ble_eq_true rfl⟩) ⟨pr_blind, tw_recv hK hP m0 rfl rfl, pr_pre hP hK hN⟩ rfl rfl hl.1 rfl (lv_room (Nat.le_of_ble_eq_true rfl)) d_Md_hinders_263 ⟨Nat.le_of_ble_eq_true rfl, Nat.le_of_ble_eq_true rfl⟩)) (fun r_266 er_266 => ?_)
                              clear er_266
                              refine lv_icmp_le (tgt := 272) hx hb d_Md_hinders_266 (by decide) (fun c_267 => ?_) (fun c_267 => ?_)
                              · refine lv_aload_n hx hb d_Md_hinders_272 rfl (lv_at hl 4 rfl) ?_
                                refine tw_geti (D := (dC, dI)) (C := R_Md) (T := F_Md) (N := 64) (ci := 7) (kd := 27) (ct := ct) hx hb htb i_Md hown hK hP hO_0 m0 rfl rfl 1 (by decide) (htb (.fieldLink R_Md 7 "WaterMenModel" "time" "I") tw_404) (fun _ h9 => h9) rfl d_Md_hinders_273 (fun x_268 e_268 b_268 => ?_)
                                refine lv_aload_n hx hb d_Md_hinders_276 rfl (lv_at hl 4 rfl) ?_
                                refine lv_iload_n hx hb d_Md_hinders_277 rfl (lv_at hl 5 rfl) ?_
                                refine lv_iload_n hx hb d_Md_hinders_278 rfl (lv_at hl 7 rfl) ?_
                                refine vp_callSi (va_Run.run (va_runV (As := [.int p_0, .int p_2]) (rest := [.int x_268]) ⟨hx, hb, hml, hown, htb⟩ (c_Md_minutesOf_t l dC dI ct L f hO_0 q0 m0 p_0 p_2 as_0 as_1 as_4 as_5) (cwV 2 htb (gd_V tw_557 tw_558 tw_559 tw_407 tw_556) rfl rfl rfl (by decide +kernel) ⟨Nat.le_of_ble_eq_true rfl, Nat.le_of_ble_eq_true rfl⟩) ⟨pr_blind, tw_recv hK hP m0 rfl rfl, pr_pre hP hK hN⟩ rfl rfl hl.1 rfl (lv_room (Nat.le_of_ble_eq_true rfl)) d_Md_hinders_279 ⟨Nat.le_of_ble_eq_true rfl, Nat.le_of_ble_eq_true rfl⟩)) (fun r_269 er_269 => ?_)
                                clear er_269
                                refine lv_iadd hx hb d_Md_hinders_282 ?_
                                refine lv_ldcw (v := 359999) hx hb hown (htb (.constant R_Md 305 359999) tw_560) d_Md_hinders_283 ?_
                                refine lv_icmp_le (tgt := 294) hx hb d_Md_hinders_286 (by decide) (fun c_270 => ?_) (fun c_270 => ?_)
                                · refine lv_iconst (v := 0) hx hb d_Md_hinders_294 (by decide +kernel) ?_
                                  exact W.iret (v := 0) hx hb hr (fun t ht hW => ⟨0, rfl, trivial, ht⟩) t_nil d_Md_hinders_295
                                · refine lv_bipush (v := 7) hx hb d_Md_hinders_289 (by decide +kernel) ?_
                                  refine lv_goto (tgt := 295) hx hb d_Md_hinders_291 (by decide) ?_
                                  exact W.iret (v := 7) hx hb hr (fun t ht hW => ⟨7, rfl, trivial, ht⟩) t_nil d_Md_hinders_295
                              · refine lv_bipush (v := 6) hx hb d_Md_hinders_269 (by decide +kernel) ?_
                                exact W.iret (v := 6) hx hb hr (fun t ht hW => ⟨6, rfl, trivial, ht⟩) t_nil d_Md_hinders_271
                            · refine lv_iload hx hb d_Md_hinders_250 (lv_at hl 0 rfl) ?_
                              refine lv_ineg hx hb d_Md_hinders_252 ?_
                              refine lv_goto (tgt := 258) hx hb d_Md_hinders_253 (by decide) ?_
                              refine lv_aload_n hx hb d_Md_hinders_258 rfl (lv_at hl 4 rfl) ?_
                              refine lv_iload hx hb d_Md_hinders_259 (lv_at hl 2 rfl) ?_
                              refine lv_bipush (v := 17) hx hb d_Md_hinders_261 (by decide +kernel) ?_
                              refine vp_callSi (va_Run.run (va_runV (As := [.int r_206, .int 17]) (rest := [.int (-r_257)]) ⟨hx, hb, hml, hown, htb⟩ (c_Md_lineOf_t l dC dI ct L f hO_0 q0 m0 r_206 (17 : Int32) po_207 po_208 (by decide +kernel) (by decide +kernel)) (cwV 2 htb (gd_V tw_539 tw_540 tw_541 tw_407 tw_538) rfl rfl rfl (by decide +kernel) ⟨Nat.le_of_ble_eq_true rfl, Nat.le_of_ble_eq_true rfl⟩) ⟨pr_blind, tw_recv hK hP m0 rfl rfl, pr_pre hP hK hN⟩ rfl rfl hl.1 rfl (lv_room (Nat.le_of_ble_eq_true rfl)) d_Md_hinders_263 ⟨Nat.le_of_ble_eq_true rfl, Nat.le_of_ble_eq_true rfl⟩)) (fun r_271 er_271 => ?_)
                              clear er_271
                              refine lv_icmp_le (tgt := 272) hx hb d_Md_hinders_266 (by decide) (fun c_272 => ?_) (fun c_272 => ?_)
                              · refine lv_aload_n hx hb d_Md_hinders_272 rfl (lv_at hl 4 rfl) ?_
                                refine tw_geti (D := (dC, dI)) (C := R_Md) (T := F_Md) (N := 64) (ci := 7) (kd := 27) (ct := ct) hx hb htb i_Md hown hK hP hO_0 m0 rfl rfl 1 (by decide) (htb (.fieldLink R_Md 7 "WaterMenModel" "time" "I") tw_404) (fun _ h9 => h9) rfl d_Md_hinders_273 (fun x_273 e_273 b_273 => ?_)
                                refine lv_aload_n hx hb d_Md_hinders_276 rfl (lv_at hl 4 rfl) ?_
                                refine lv_iload_n hx hb d_Md_hinders_277 rfl (lv_at hl 5 rfl) ?_
                                refine lv_iload_n hx hb d_Md_hinders_278 rfl (lv_at hl 7 rfl) ?_
                                refine vp_callSi (va_Run.run (va_runV (As := [.int p_0, .int p_2]) (rest := [.int x_273]) ⟨hx, hb, hml, hown, htb⟩ (c_Md_minutesOf_t l dC dI ct L f hO_0 q0 m0 p_0 p_2 as_0 as_1 as_4 as_5) (cwV 2 htb (gd_V tw_557 tw_558 tw_559 tw_407 tw_556) rfl rfl rfl (by decide +kernel) ⟨Nat.le_of_ble_eq_true rfl, Nat.le_of_ble_eq_true rfl⟩) ⟨pr_blind, tw_recv hK hP m0 rfl rfl, pr_pre hP hK hN⟩ rfl rfl hl.1 rfl (lv_room (Nat.le_of_ble_eq_true rfl)) d_Md_hinders_279 ⟨Nat.le_of_ble_eq_true rfl, Nat.le_of_ble_eq_true rfl⟩)) (fun r_274 er_274 => ?_)
                                clear er_274
                                refine lv_iadd hx hb d_Md_hinders_282 ?_
                                refine lv_ldcw (v := 359999) hx hb hown (htb (.constant R_Md 305 359999) tw_560) d_Md_hinders_283 ?_
                                refine lv_icmp_le (tgt := 294) hx hb d_Md_hinders_286 (by decide) (fun c_275 => ?_) (fun c_275 => ?_)
                                · refine lv_iconst (v := 0) hx hb d_Md_hinders_294 (by decide +kernel) ?_
                                  exact W.iret (v := 0) hx hb hr (fun t ht hW => ⟨0, rfl, trivial, ht⟩) t_nil d_Md_hinders_295
                                · refine lv_bipush (v := 7) hx hb d_Md_hinders_289 (by decide +kernel) ?_
                                  refine lv_goto (tgt := 295) hx hb d_Md_hinders_291 (by decide) ?_
                                  exact W.iret (v := 7) hx hb hr (fun t ht hW => ⟨7, rfl, trivial, ht⟩) t_nil d_Md_hinders_295
                              · refine lv_bipush (v := 6) hx hb d_Md_hinders_269 (by decide +kernel) ?_
                                exact W.iret (v := 6) hx hb hr (fun t ht hW => ⟨6, rfl, trivial, ht⟩) t_nil d_Md_hinders_271
                        · refine lv_aload_n hx hb d_Md_hinders_201 rfl (lv_at hl 4 rfl) ?_
                          refine vp_callSi (va_Run.run (va_runV (As := []) (rest := []) ⟨hx, hb, hml, hown, htb⟩ (c_Md_hourNow_t l dC dI ct L f hO_0 q0 m0) (cwV 0 htb (gd_V tw_553 tw_554 tw_555 tw_407 tw_552) rfl rfl rfl (by decide +kernel) ⟨Nat.le_of_ble_eq_true rfl, Nat.le_of_ble_eq_true rfl⟩) ⟨pr_blind, tw_recv hK hP m0 rfl rfl, pr_pre hP hK hN⟩ rfl rfl hl.1 rfl (lv_room (Nat.le_of_ble_eq_true rfl)) d_Md_hinders_202 ⟨Nat.le_of_ble_eq_true rfl, Nat.le_of_ble_eq_true rfl⟩)) (fun r_276 er_276 => ?_)
                          obtain ⟨po_277, po_278, -⟩ := er_276
                          refine lv_aload_n hx hb d_Md_hinders_205 rfl (lv_at hl 4 rfl) ?_
                          refine lv_iload hx hb d_Md_hinders_206 (lv_at hl 2 rfl) ?_
                          refine lv_bipush (v := 16) hx hb d_Md_hinders_208 (by decide +kernel) ?_
                          refine vp_callSi (va_Run.run (va_runV (As := [.int r_206, .int 16]) (rest := [.int r_276]) ⟨hx, hb, hml, hown, htb⟩ (c_Md_lineOf_t l dC dI ct L f hO_0 q0 m0 r_206 (16 : Int32) po_207 po_208 (by decide +kernel) (by decide +kernel)) (cwV 2 htb (gd_V tw_539 tw_540 tw_541 tw_407 tw_538) rfl rfl rfl (by decide +kernel) ⟨Nat.le_of_ble_eq_true rfl, Nat.le_of_ble_eq_true rfl⟩) ⟨pr_blind, tw_recv hK hP m0 rfl rfl, pr_pre hP hK hN⟩ rfl rfl hl.1 rfl (lv_room (Nat.le_of_ble_eq_true rfl)) d_Md_hinders_210 ⟨Nat.le_of_ble_eq_true rfl, Nat.le_of_ble_eq_true rfl⟩)) (fun r_279 er_279 => ?_)
                          clear er_279
                          refine lv_aload_n hx hb d_Md_hinders_213 rfl (lv_at hl 4 rfl) ?_
                          refine tw_getr (D := (dC, dI)) (C := R_Md) (T := F_Md) (N := 64) (ci := 7) (kd := 27) (ct := ct) hx hb htb i_Md hown hK hP hO_0 m0 rfl rfl 41 (by decide) (htb (.fieldLink R_Md 146 "WaterMenModel" "singleTo" "[I") tw_518) (fun _ h9 => h9) rfl d_Md_hinders_214 (fun q_280 e_280 m_280 => ?_)
                          refine lv_iload hx hb d_Md_hinders_217 (lv_at hl 2 rfl) ?_
                          refine tw_aldI (ct := ct) hx hb hK hP hO_0 m_280 rfl (hb_inl po_207 po_208 (by decide +kernel)) d_Md_hinders_219 (fun x_281 e_281 b_281 => ?_)
                          refine vp_callSi (va_Run.run (va_runS (As := [.int r_276, .int r_279, .int x_281]) (rest := []) ⟨hx, hb, hml, hown, htb⟩ (c_Md_in l r_276 r_279 x_281) (cwS 3 htb (gd_S tw_408 tw_409 tw_407 tw_406) rfl rfl rfl (by decide +kernel) ⟨Nat.le_of_ble_eq_true rfl, Nat.le_of_ble_eq_true rfl⟩) ⟨fun _ _ _ _ h => h, fun U _ _ => ⟨rfl, trivial⟩⟩ rfl rfl hl.1 rfl (lv_room (Nat.le_of_ble_eq_true rfl)) d_Md_hinders_220 ⟨Nat.le_of_ble_eq_true rfl, Nat.le_of_ble_eq_true rfl⟩)) (fun r er => ?_)
                          subst er
                          by_cases c_283 : r_276 < r_279
                          · refine hb_ti 0 (by unfold f_Md_in; rw [if_pos c_283]; first | done | rfl) ?_
                            refine lv_if_ne (tgt := 229) hx hb d_Md_hinders_223 (by decide) (fun h => absurd (by decide +kernel) h) (fun _ => ?_)
                            refine lv_bipush (v := 6) hx hb d_Md_hinders_226 (by decide +kernel) ?_
                            exact W.iret (v := 6) hx hb hr (fun t ht hW => ⟨6, rfl, trivial, ht⟩) t_nil d_Md_hinders_228
                          · by_cases c_284 : x_281 < r_276
                            · refine hb_ti 0 (by unfold f_Md_in; rw [if_neg c_283, if_pos c_284]; first | done | rfl) ?_
                              refine lv_if_ne (tgt := 229) hx hb d_Md_hinders_223 (by decide) (fun h => absurd (by decide +kernel) h) (fun _ => ?_)
                              refine lv_bipush (v := 6) hx hb d_Md_hinders_226 (by decide +kernel) ?_
                              exact W.iret (v := 6) hx hb hr (fun t ht hW => ⟨6, rfl, trivial, ht⟩) t_nil d_Md_hinders_228
                            · refine hb_ti 1 (by unfold f_Md_in; rw [if_neg c_283, if_neg c_284]; first | done | rfl) ?_
                              refine lv_if_ne (tgt := 229) hx hb d_Md_hinders_223 (by decide) (fun _ => ?_) (fun h => absurd h (by decide +kernel))
                              refine lv_iload hx hb d_Md_hinders_229 (lv_at hl 1 rfl) ?_
                              refine lv_if_eq (tgt := 272) hx hb d_Md_hinders_231 (by decide) (fun h => absurd h (by decide +kernel)) (fun _ => ?_)
                              refine lv_aload_n hx hb d_Md_hinders_234 rfl (lv_at hl 4 rfl) ?_
                              refine lv_iload hx hb d_Md_hinders_235 (lv_at hl 2 rfl) ?_
                              refine lv_bipush (v := 17) hx hb d_Md_hinders_237 (by decide +kernel) ?_
                              refine vp_callSi (va_Run.run (va_runV (As := [.int r_206, .int 17]) (rest := []) ⟨hx, hb, hml, hown, htb⟩ (c_Md_lineOf_t l dC dI ct L f hO_0 q0 m0 r_206 (17 : Int32) po_207 po_208 (by decide +kernel) (by decide +kernel)) (cwV 2 htb (gd_V tw_539 tw_540 tw_541 tw_407 tw_538) rfl rfl rfl (by decide +kernel) ⟨Nat.le_of_ble_eq_true rfl, Nat.le_of_ble_eq_true rfl⟩) ⟨pr_blind, tw_recv hK hP m0 rfl rfl, pr_pre hP hK hN⟩ rfl rfl hl.1 rfl (lv_room (Nat.le_of_ble_eq_true rfl)) d_Md_hinders_239 ⟨Nat.le_of_ble_eq_true rfl, Nat.le_of_ble_eq_true rfl⟩)) (fun r_285 er_285 => ?_)
                              clear er_285
                              refine lv_if_lt (tgt := 272) hx hb d_Md_hinders_242 (by decide) (fun c_286 => ?_) (fun c_286 => ?_)
                              · refine lv_aload_n hx hb d_Md_hinders_272 rfl (lv_at hl 4 rfl) ?_
                                refine tw_geti (D := (dC, dI)) (C := R_Md) (T := F_Md) (N := 64) (ci := 7) (kd := 27) (ct := ct) hx hb htb i_Md hown hK hP hO_0 m0 rfl rfl 1 (by decide) (htb (.fieldLink R_Md 7 "WaterMenModel" "time" "I") tw_404) (fun _ h9 => h9) rfl d_Md_hinders_273 (fun x_287 e_287 b_287 => ?_)
                                refine lv_aload_n hx hb d_Md_hinders_276 rfl (lv_at hl 4 rfl) ?_
                                refine lv_iload_n hx hb d_Md_hinders_277 rfl (lv_at hl 5 rfl) ?_
                                refine lv_iload_n hx hb d_Md_hinders_278 rfl (lv_at hl 7 rfl) ?_
                                refine vp_callSi (va_Run.run (va_runV (As := [.int p_0, .int p_2]) (rest := [.int x_287]) ⟨hx, hb, hml, hown, htb⟩ (c_Md_minutesOf_t l dC dI ct L f hO_0 q0 m0 p_0 p_2 as_0 as_1 as_4 as_5) (cwV 2 htb (gd_V tw_557 tw_558 tw_559 tw_407 tw_556) rfl rfl rfl (by decide +kernel) ⟨Nat.le_of_ble_eq_true rfl, Nat.le_of_ble_eq_true rfl⟩) ⟨pr_blind, tw_recv hK hP m0 rfl rfl, pr_pre hP hK hN⟩ rfl rfl hl.1 rfl (lv_room (Nat.le_of_ble_eq_true rfl)) d_Md_hinders_279 ⟨Nat.le_of_ble_eq_true rfl, Nat.le_of_ble_eq_true rfl⟩)) (fun r_288 er_288 => ?_)
                                clear er_288
                                refine lv_iadd hx hb d_Md_hinders_282 ?_
                                refine lv_ldcw (v := 359999) hx hb hown (htb (.constant R_Md 305 359999) tw_560) d_Md_hinders_283 ?_
                                refine lv_icmp_le (tgt := 294) hx hb d_Md_hinders_286 (by decide) (fun c_289 => ?_) (fun c_289 => ?_)
                                · refine lv_iconst (v := 0) hx hb d_Md_hinders_294 (by decide +kernel) ?_
                                  exact W.iret (v := 0) hx hb hr (fun t ht hW => ⟨0, rfl, trivial, ht⟩) t_nil d_Md_hinders_295
                                · refine lv_bipush (v := 7) hx hb d_Md_hinders_289 (by decide +kernel) ?_
                                  refine lv_goto (tgt := 295) hx hb d_Md_hinders_291 (by decide) ?_
                                  exact W.iret (v := 7) hx hb hr (fun t ht hW => ⟨7, rfl, trivial, ht⟩) t_nil d_Md_hinders_295
                              · refine lv_iload hx hb d_Md_hinders_245 (lv_at hl 0 rfl) ?_
                                refine lv_if_ge (tgt := 256) hx hb d_Md_hinders_247 (by decide) (fun c_290 => ?_) (fun c_290 => ?_)
                                · refine lv_iload hx hb d_Md_hinders_256 (lv_at hl 0 rfl) ?_
                                  refine lv_aload_n hx hb d_Md_hinders_258 rfl (lv_at hl 4 rfl) ?_
                                  refine lv_iload hx hb d_Md_hinders_259 (lv_at hl 2 rfl) ?_
                                  refine lv_bipush (v := 17) hx hb d_Md_hinders_261 (by decide +kernel) ?_
                                  refine vp_callSi (va_Run.run (va_runV (As := [.int r_206, .int 17]) (rest := [.int r_257]) ⟨hx, hb, hml, hown, htb⟩ (c_Md_lineOf_t l dC dI ct L f hO_0 q0 m0 r_206 (17 : Int32) po_207 po_208 (by decide +kernel) (by decide +kernel)) (cwV 2 htb (gd_V tw_539 tw_540 tw_541 tw_407 tw_538) rfl rfl rfl (by decide +kernel) ⟨Nat.le_of_ble_eq_true rfl, Nat.le_of_ble_eq_true rfl⟩) ⟨pr_blind, tw_recv hK hP m0 rfl rfl, pr_pre hP hK hN⟩ rfl rfl hl.1 rfl (lv_room (Nat.le_of_ble_eq_true rfl)) d_Md_hinders_263 ⟨Nat.le_of_ble_eq_true rfl, Nat.le_of_ble_eq_true rfl⟩)) (fun r_291 er_291 => ?_)
                                  clear er_291
                                  refine lv_icmp_le (tgt := 272) hx hb d_Md_hinders_266 (by decide) (fun c_292 => ?_) (fun c_292 => ?_)
                                  · refine lv_aload_n hx hb d_Md_hinders_272 rfl (lv_at hl 4 rfl) ?_
                                    refine tw_geti (D := (dC, dI)) (C := R_Md) (T := F_Md) (N := 64) (ci := 7) (kd := 27) (ct := ct) hx hb htb i_Md hown hK hP hO_0 m0 rfl rfl 1 (by decide) (htb (.fieldLink R_Md 7 "WaterMenModel" "time" "I") tw_404) (fun _ h9 => h9) rfl d_Md_hinders_273 (fun x_293 e_293 b_293 => ?_)
                                    refine lv_aload_n hx hb d_Md_hinders_276 rfl (lv_at hl 4 rfl) ?_
                                    refine lv_iload_n hx hb d_Md_hinders_277 rfl (lv_at hl 5 rfl) ?_
                                    refine lv_iload_n hx hb d_Md_hinders_278 rfl (lv_at hl 7 rfl) ?_
                                    refine vp_callSi (va_Run.run (va_runV (As := [.int p_0, .int p_2]) (rest := [.int x_293]) ⟨hx, hb, hml, hown, htb⟩ (c_Md_minutesOf_t l dC dI ct L f hO_0 q0 m0 p_0 p_2 as_0 as_1 as_4 as_5) (cwV 2 htb (gd_V tw_557 tw_558 tw_559 tw_407 tw_556) rfl rfl rfl (by decide +kernel) ⟨Nat.le_of_ble_eq_true rfl, Nat.le_of_ble_eq_true rfl⟩) ⟨pr_blind, tw_recv hK hP m0 rfl rfl, pr_pre hP hK hN⟩ rfl rfl hl.1 rfl (lv_room (Nat.le_of_ble_eq_true rfl)) d_Md_hinders_279 ⟨Nat.le_of_ble_eq_true rfl, Nat.le_of_ble_eq_true rfl⟩)) (fun r_294 er_294 => ?_)
                                    clear er_294
                                    refine lv_iadd hx hb d_Md_hinders_282 ?_
                                    refine lv_ldcw (v := 359999) hx hb hown (htb (.constant R_Md 305 359999) tw_560) d_Md_hinders_283 ?_
                                    refine lv_icmp_le (tgt := 294) hx hb d_Md_hinders_286 (by decide) (fun c_295 => ?_) (fun c_295 => ?_)
                                    · refine lv_iconst (v := 0) hx hb d_Md_hinders_294 (by decide +kernel) ?_
                                      exact W.iret (v := 0) hx hb hr (fun t ht hW => ⟨0, rfl, trivial, ht⟩) t_nil d_Md_hinders_295
                                    · refine lv_bipush (v := 7) hx hb d_Md_hinders_289 (by decide +kernel) ?_
                                      refine lv_goto (tgt := 295) hx hb d_Md_hinders_291 (by decide) ?_
                                      exact W.iret (v := 7) hx hb hr (fun t ht hW => ⟨7, rfl, trivial, ht⟩) t_nil d_Md_hinders_295
                                  · refine lv_bipush (v := 6) hx hb d_Md_hinders_269 (by decide +kernel) ?_
                                    exact W.iret (v := 6) hx hb hr (fun t ht hW => ⟨6, rfl, trivial, ht⟩) t_nil d_Md_hinders_271
                                · refine lv_iload hx hb d_Md_hinders_250 (lv_at hl 0 rfl) ?_
                                  refine lv_ineg hx hb d_Md_hinders_252 ?_
                                  refine lv_goto (tgt := 258) hx hb d_Md_hinders_253 (by decide) ?_
                                  refine lv_aload_n hx hb d_Md_hinders_258 rfl (lv_at hl 4 rfl) ?_
                                  refine lv_iload hx hb d_Md_hinders_259 (lv_at hl 2 rfl) ?_
                                  refine lv_bipush (v := 17) hx hb d_Md_hinders_261 (by decide +kernel) ?_
                                  refine vp_callSi (va_Run.run (va_runV (As := [.int r_206, .int 17]) (rest := [.int (-r_257)]) ⟨hx, hb, hml, hown, htb⟩ (c_Md_lineOf_t l dC dI ct L f hO_0 q0 m0 r_206 (17 : Int32) po_207 po_208 (by decide +kernel) (by decide +kernel)) (cwV 2 htb (gd_V tw_539 tw_540 tw_541 tw_407 tw_538) rfl rfl rfl (by decide +kernel) ⟨Nat.le_of_ble_eq_true rfl, Nat.le_of_ble_eq_true rfl⟩) ⟨pr_blind, tw_recv hK hP m0 rfl rfl, pr_pre hP hK hN⟩ rfl rfl hl.1 rfl (lv_room (Nat.le_of_ble_eq_true rfl)) d_Md_hinders_263 ⟨Nat.le_of_ble_eq_true rfl, Nat.le_of_ble_eq_true rfl⟩)) (fun r_296 er_296 => ?_)
                                  clear er_296
                                  refine lv_icmp_le (tgt := 272) hx hb d_Md_hinders_266 (by decide) (fun c_297 => ?_) (fun c_297 => ?_)
                                  · refine lv_aload_n hx hb d_Md_hinders_272 rfl (lv_at hl 4 rfl) ?_
                                    refine tw_geti (D := (dC, dI)) (C := R_Md) (T := F_Md) (N := 64) (ci := 7) (kd := 27) (ct := ct) hx hb htb i_Md hown hK hP hO_0 m0 rfl rfl 1 (by decide) (htb (.fieldLink R_Md 7 "WaterMenModel" "time" "I") tw_404) (fun _ h9 => h9) rfl d_Md_hinders_273 (fun x_298 e_298 b_298 => ?_)
                                    refine lv_aload_n hx hb d_Md_hinders_276 rfl (lv_at hl 4 rfl) ?_
                                    refine lv_iload_n hx hb d_Md_hinders_277 rfl (lv_at hl 5 rfl) ?_
                                    refine lv_iload_n hx hb d_Md_hinders_278 rfl (lv_at hl 7 rfl) ?_
                                    refine vp_callSi (va_Run.run (va_runV (As := [.int p_0, .int p_2]) (rest := [.int x_298]) ⟨hx, hb, hml, hown, htb⟩ (c_Md_minutesOf_t l dC dI ct L f hO_0 q0 m0 p_0 p_2 as_0 as_1 as_4 as_5) (cwV 2 htb (gd_V tw_557 tw_558 tw_559 tw_407 tw_556) rfl rfl rfl (by decide +kernel) ⟨Nat.le_of_ble_eq_true rfl, Nat.le_of_ble_eq_true rfl⟩) ⟨pr_blind, tw_recv hK hP m0 rfl rfl, pr_pre hP hK hN⟩ rfl rfl hl.1 rfl (lv_room (Nat.le_of_ble_eq_true rfl)) d_Md_hinders_279 ⟨Nat.le_of_ble_eq_true rfl, Nat.le_of_ble_eq_true rfl⟩)) (fun r_299 er_299 => ?_)
                                    clear er_299
                                    refine lv_iadd hx hb d_Md_hinders_282 ?_
                                    refine lv_ldcw (v := 359999) hx hb hown (htb (.constant R_Md 305 359999) tw_560) d_Md_hinders_283 ?_
                                    refine lv_icmp_le (tgt := 294) hx hb d_Md_hinders_286 (by decide) (fun c_300 => ?_) (fun c_300 => ?_)
                                    · refine lv_iconst (v := 0) hx hb d_Md_hinders_294 (by decide +kernel) ?_
                                      exact W.iret (v := 0) hx hb hr (fun t ht hW => ⟨0, rfl, trivial, ht⟩) t_nil d_Md_hinders_295
                                    · refine lv_bipush (v := 7) hx hb d_Md_hinders_289 (by decide +kernel) ?_
                                      refine lv_goto (tgt := 295) hx hb d_Md_hinders_291 (by decide) ?_
                                      exact W.iret (v := 7) hx hb hr (fun t ht hW => ⟨7, rfl, trivial, ht⟩) t_nil d_Md_hinders_295
                                  · refine lv_bipush (v := 6) hx hb d_Md_hinders_269 (by decide +kernel) ?_
                                    exact W.iret (v := 6) hx hb hr (fun t ht hW => ⟨6, rfl, trivial, ht⟩) t_nil d_Md_hinders_271
                    · refine lv_iconst (v := 1) hx hb d_Md_hinders_143 (by decide +kernel) ?_
                      refine lv_goto (tgt := 148) hx hb d_Md_hinders_144 (by decide) ?_
                      refine lv_iload_n hx hb d_Md_hinders_148 rfl (lv_at hl 5 rfl) ?_
                      refine lv_aload_n hx hb d_Md_hinders_149 rfl (lv_at hl 2 rfl) ?_
                      refine tw_getI (x := x_221) (D := (dC, dI)) (C := R_Md) (T := F_Md) (N := 64) (ci := 7) (kd := 27) (ct := ct) hx hb htb i_Md hown hK hP m0 rfl rfl 4 e_221 (by decide) (htb (.fieldLink R_Md 35 "WaterMenModel" "bridge" "I") tw_418) (fun _ h9 => h9) rfl d_Md_hinders_150 ?_
                      refine lv_icmp_gt (tgt := 160) hx hb d_Md_hinders_153 (by decide) (fun c_301 => ?_) (fun c_301 => ?_)
                      · refine lv_iconst (v := 0) hx hb d_Md_hinders_160 (by decide +kernel) ?_
                        refine lv_icmp_eq (tgt := 168) hx hb d_Md_hinders_161 (by decide) (fun h => absurd h (by decide +kernel)) (fun _ => ?_)
                        refine lv_iconst (v := 1) hx hb d_Md_hinders_164 (by decide +kernel) ?_
                        refine lv_goto (tgt := 169) hx hb d_Md_hinders_165 (by decide) ?_
                        refine lv_istore (lv' := [(6, .int 1), (5, .int r_206), (4, .int x_19), (0, .ref q0), (1, .int p_0), (2, .int p_1), (3, .int p_2)]) hx hb d_Md_hinders_169 hl (by decide) rfl (fun ls hl => ?_)
                        refine lv_aload_n hx hb d_Md_hinders_171 rfl (lv_at hl 3 rfl) ?_
                        refine lv_aload_n hx hb d_Md_hinders_172 rfl (lv_at hl 3 rfl) ?_
                        refine vp_callSi (va_Run.run (va_runV (As := []) (rest := [.ref q0]) ⟨hx, hb, hml, hown, htb⟩ (c_Md_today_t l dC dI ct L f hO_0 q0 m0) (cwV 0 htb (gd_V tw_427 tw_428 tw_429 tw_407 tw_426) rfl rfl rfl (by decide +kernel) ⟨Nat.le_of_ble_eq_true rfl, Nat.le_of_ble_eq_true rfl⟩) ⟨pr_blind, tw_recv hK hP m0 rfl rfl, pr_pre hP hK hN⟩ rfl rfl hl.1 rfl (lv_room (Nat.le_of_ble_eq_true rfl)) d_Md_hinders_173 ⟨Nat.le_of_ble_eq_true rfl, Nat.le_of_ble_eq_true rfl⟩)) (fun r_302 er_302 => ?_)
                        obtain ⟨po_303, po_304, po_305, po_306, -⟩ := er_302
                        refine lv_aload_n hx hb d_Md_hinders_176 rfl (lv_at hl 3 rfl) ?_
                        refine vp_callSi (va_Run.run (va_runV (As := []) (rest := [.int r_302, .ref q0]) ⟨hx, hb, hml, hown, htb⟩ (c_Md_hourNow_t l dC dI ct L f hO_0 q0 m0) (cwV 0 htb (gd_V tw_553 tw_554 tw_555 tw_407 tw_552) rfl rfl rfl (by decide +kernel) ⟨Nat.le_of_ble_eq_true rfl, Nat.le_of_ble_eq_true rfl⟩) ⟨pr_blind, tw_recv hK hP m0 rfl rfl, pr_pre hP hK hN⟩ rfl rfl hl.1 rfl (lv_room (Nat.le_of_ble_eq_true rfl)) d_Md_hinders_177 ⟨Nat.le_of_ble_eq_true rfl, Nat.le_of_ble_eq_true rfl⟩)) (fun r_307 er_307 => ?_)
                        obtain ⟨po_308, po_309, -⟩ := er_307
                        refine vp_callSi (va_Run.run (va_runV (As := [.int r_302, .int r_307]) (rest := []) ⟨hx, hb, hml, hown, htb⟩ (c_Md_flowOf_t l dC dI ct L f hO_0 q0 m0 r_302 r_307 po_303 po_304 po_308 po_309) (cwV 2 htb (gd_V tw_423 tw_424 tw_425 tw_407 tw_422) rfl rfl rfl (by decide +kernel) ⟨Nat.le_of_ble_eq_true rfl, Nat.le_of_ble_eq_true rfl⟩) ⟨pr_blind, tw_recv hK hP m0 rfl rfl, pr_pre hP hK hN⟩ rfl rfl hl.1 rfl (lv_room (Nat.le_of_ble_eq_true rfl)) d_Md_hinders_180 ⟨Nat.le_of_ble_eq_true rfl, Nat.le_of_ble_eq_true rfl⟩)) (fun r_310 er_310 => ?_)
                        clear er_310
                        refine lv_istore (lv' := [(7, .int r_310), (6, .int 1), (5, .int r_206), (4, .int x_19), (0, .ref q0), (1, .int p_0), (2, .int p_1), (3, .int p_2)]) hx hb d_Md_hinders_183 hl (by decide) rfl (fun ls hl => ?_)
                        refine lv_iload hx hb d_Md_hinders_185 (lv_at hl 1 rfl) ?_
                        refine lv_if_eq (tgt := 229) hx hb d_Md_hinders_187 (by decide) (fun h => absurd h (by decide +kernel)) (fun _ => ?_)
                        refine lv_aload_n hx hb d_Md_hinders_190 rfl (lv_at hl 4 rfl) ?_
                        refine lv_iload hx hb d_Md_hinders_191 (lv_at hl 2 rfl) ?_
                        refine lv_bipush (v := 16) hx hb d_Md_hinders_193 (by decide +kernel) ?_
                        refine vp_callSi (va_Run.run (va_runV (As := [.int r_206, .int 16]) (rest := []) ⟨hx, hb, hml, hown, htb⟩ (c_Md_lineOf_t l dC dI ct L f hO_0 q0 m0 r_206 (16 : Int32) po_207 po_208 (by decide +kernel) (by decide +kernel)) (cwV 2 htb (gd_V tw_539 tw_540 tw_541 tw_407 tw_538) rfl rfl rfl (by decide +kernel) ⟨Nat.le_of_ble_eq_true rfl, Nat.le_of_ble_eq_true rfl⟩) ⟨pr_blind, tw_recv hK hP m0 rfl rfl, pr_pre hP hK hN⟩ rfl rfl hl.1 rfl (lv_room (Nat.le_of_ble_eq_true rfl)) d_Md_hinders_195 ⟨Nat.le_of_ble_eq_true rfl, Nat.le_of_ble_eq_true rfl⟩)) (fun r_311 er_311 => ?_)
                        clear er_311
                        refine lv_if_lt (tgt := 229) hx hb d_Md_hinders_198 (by decide) (fun c_312 => ?_) (fun c_312 => ?_)
                        · refine lv_iload hx hb d_Md_hinders_229 (lv_at hl 1 rfl) ?_
                          refine lv_if_eq (tgt := 272) hx hb d_Md_hinders_231 (by decide) (fun h => absurd h (by decide +kernel)) (fun _ => ?_)
                          refine lv_aload_n hx hb d_Md_hinders_234 rfl (lv_at hl 4 rfl) ?_
                          refine lv_iload hx hb d_Md_hinders_235 (lv_at hl 2 rfl) ?_
                          refine lv_bipush (v := 17) hx hb d_Md_hinders_237 (by decide +kernel) ?_
                          refine vp_callSi (va_Run.run (va_runV (As := [.int r_206, .int 17]) (rest := []) ⟨hx, hb, hml, hown, htb⟩ (c_Md_lineOf_t l dC dI ct L f hO_0 q0 m0 r_206 (17 : Int32) po_207 po_208 (by decide +kernel) (by decide +kernel)) (cwV 2 htb (gd_V tw_539 tw_540 tw_541 tw_407 tw_538) rfl rfl rfl (by decide +kernel) ⟨Nat.le_of_ble_eq_true rfl, Nat.le_of_ble_eq_true rfl⟩) ⟨pr_blind, tw_recv hK hP m0 rfl rfl, pr_pre hP hK hN⟩ rfl rfl hl.1 rfl (lv_room (Nat.le_of_ble_eq_true rfl)) d_Md_hinders_239 ⟨Nat.le_of_ble_eq_true rfl, Nat.le_of_ble_eq_true rfl⟩)) (fun r_313 er_313 => ?_)
                          clear er_313
                          refine lv_if_lt (tgt := 272) hx hb d_Md_hinders_242 (by decide) (fun c_314 => ?_) (fun c_314 => ?_)
                          · refine lv_aload_n hx hb d_Md_hinders_272 rfl (lv_at hl 4 rfl) ?_
                            refine tw_geti (D := (dC, dI)) (C := R_Md) (T := F_Md) (N := 64) (ci := 7) (kd := 27) (ct := ct) hx hb htb i_Md hown hK hP hO_0 m0 rfl rfl 1 (by decide) (htb (.fieldLink R_Md 7 "WaterMenModel" "time" "I") tw_404) (fun _ h9 => h9) rfl d_Md_hinders_273 (fun x_315 e_315 b_315 => ?_)
                            refine lv_aload_n hx hb d_Md_hinders_276 rfl (lv_at hl 4 rfl) ?_
                            refine lv_iload_n hx hb d_Md_hinders_277 rfl (lv_at hl 5 rfl) ?_
                            refine lv_iload_n hx hb d_Md_hinders_278 rfl (lv_at hl 7 rfl) ?_
                            refine vp_callSi (va_Run.run (va_runV (As := [.int p_0, .int p_2]) (rest := [.int x_315]) ⟨hx, hb, hml, hown, htb⟩ (c_Md_minutesOf_t l dC dI ct L f hO_0 q0 m0 p_0 p_2 as_0 as_1 as_4 as_5) (cwV 2 htb (gd_V tw_557 tw_558 tw_559 tw_407 tw_556) rfl rfl rfl (by decide +kernel) ⟨Nat.le_of_ble_eq_true rfl, Nat.le_of_ble_eq_true rfl⟩) ⟨pr_blind, tw_recv hK hP m0 rfl rfl, pr_pre hP hK hN⟩ rfl rfl hl.1 rfl (lv_room (Nat.le_of_ble_eq_true rfl)) d_Md_hinders_279 ⟨Nat.le_of_ble_eq_true rfl, Nat.le_of_ble_eq_true rfl⟩)) (fun r_316 er_316 => ?_)
                            clear er_316
                            refine lv_iadd hx hb d_Md_hinders_282 ?_
                            refine lv_ldcw (v := 359999) hx hb hown (htb (.constant R_Md 305 359999) tw_560) d_Md_hinders_283 ?_
                            refine lv_icmp_le (tgt := 294) hx hb d_Md_hinders_286 (by decide) (fun c_317 => ?_) (fun c_317 => ?_)
                            · refine lv_iconst (v := 0) hx hb d_Md_hinders_294 (by decide +kernel) ?_
                              exact W.iret (v := 0) hx hb hr (fun t ht hW => ⟨0, rfl, trivial, ht⟩) t_nil d_Md_hinders_295
                            · refine lv_bipush (v := 7) hx hb d_Md_hinders_289 (by decide +kernel) ?_
                              refine lv_goto (tgt := 295) hx hb d_Md_hinders_291 (by decide) ?_
                              exact W.iret (v := 7) hx hb hr (fun t ht hW => ⟨7, rfl, trivial, ht⟩) t_nil d_Md_hinders_295
                          · refine lv_iload hx hb d_Md_hinders_245 (lv_at hl 0 rfl) ?_
                            refine lv_if_ge (tgt := 256) hx hb d_Md_hinders_247 (by decide) (fun c_318 => ?_) (fun c_318 => ?_)
                            · refine lv_iload hx hb d_Md_hinders_256 (lv_at hl 0 rfl) ?_
                              refine lv_aload_n hx hb d_Md_hinders_258 rfl (lv_at hl 4 rfl) ?_
                              refine lv_iload hx hb d_Md_hinders_259 (lv_at hl 2 rfl) ?_
                              refine lv_bipush (v := 17) hx hb d_Md_hinders_261 (by decide +kernel) ?_
                              refine vp_callSi (va_Run.run (va_runV (As := [.int r_206, .int 17]) (rest := [.int r_310]) ⟨hx, hb, hml, hown, htb⟩ (c_Md_lineOf_t l dC dI ct L f hO_0 q0 m0 r_206 (17 : Int32) po_207 po_208 (by decide +kernel) (by decide +kernel)) (cwV 2 htb (gd_V tw_539 tw_540 tw_541 tw_407 tw_538) rfl rfl rfl (by decide +kernel) ⟨Nat.le_of_ble_eq_true rfl, Nat.le_of_ble_eq_true rfl⟩) ⟨pr_blind, tw_recv hK hP m0 rfl rfl, pr_pre hP hK hN⟩ rfl rfl hl.1 rfl (lv_room (Nat.le_of_ble_eq_true rfl)) d_Md_hinders_263 ⟨Nat.le_of_ble_eq_true rfl, Nat.le_of_ble_eq_true rfl⟩)) (fun r_319 er_319 => ?_)
                              clear er_319
                              refine lv_icmp_le (tgt := 272) hx hb d_Md_hinders_266 (by decide) (fun c_320 => ?_) (fun c_320 => ?_)
                              · refine lv_aload_n hx hb d_Md_hinders_272 rfl (lv_at hl 4 rfl) ?_
                                refine tw_geti (D := (dC, dI)) (C := R_Md) (T := F_Md) (N := 64) (ci := 7) (kd := 27) (ct := ct) hx hb htb i_Md hown hK hP hO_0 m0 rfl rfl 1 (by decide) (htb (.fieldLink R_Md 7 "WaterMenModel" "time" "I") tw_404) (fun _ h9 => h9) rfl d_Md_hinders_273 (fun x_321 e_321 b_321 => ?_)
                                refine lv_aload_n hx hb d_Md_hinders_276 rfl (lv_at hl 4 rfl) ?_
                                refine lv_iload_n hx hb d_Md_hinders_277 rfl (lv_at hl 5 rfl) ?_
                                refine lv_iload_n hx hb d_Md_hinders_278 rfl (lv_at hl 7 rfl) ?_
                                refine vp_callSi (va_Run.run (va_runV (As := [.int p_0, .int p_2]) (rest := [.int x_321]) ⟨hx, hb, hml, hown, htb⟩ (c_Md_minutesOf_t l dC dI ct L f hO_0 q0 m0 p_0 p_2 as_0 as_1 as_4 as_5) (cwV 2 htb (gd_V tw_557 tw_558 tw_559 tw_407 tw_556) rfl rfl rfl (by decide +kernel) ⟨Nat.le_of_ble_eq_true rfl, Nat.le_of_ble_eq_true rfl⟩) ⟨pr_blind, tw_recv hK hP m0 rfl rfl, pr_pre hP hK hN⟩ rfl rfl hl.1 rfl (lv_room (Nat.le_of_ble_eq_true rfl)) d_Md_hinders_279 ⟨Nat.le_of_ble_eq_true rfl, Nat.le_of_ble_eq_true rfl⟩)) (fun r_322 er_322 => ?_)
                                clear er_322
                                refine lv_iadd hx hb d_Md_hinders_282 ?_
                                refine lv_ldcw (v := 359999) hx hb hown (htb (.constant R_Md 305 359999) tw_560) d_Md_hinders_283 ?_
                                refine lv_icmp_le (tgt := 294) hx hb d_Md_hinders_286 (by decide) (fun c_323 => ?_) (fun c_323 => ?_)
                                · refine lv_iconst (v := 0) hx hb d_Md_hinders_294 (by decide +kernel) ?_
                                  exact W.iret (v := 0) hx hb hr (fun t ht hW => ⟨0, rfl, trivial, ht⟩) t_nil d_Md_hinders_295
                                · refine lv_bipush (v := 7) hx hb d_Md_hinders_289 (by decide +kernel) ?_
                                  refine lv_goto (tgt := 295) hx hb d_Md_hinders_291 (by decide) ?_
                                  exact W.iret (v := 7) hx hb hr (fun t ht hW => ⟨7, rfl, trivial, ht⟩) t_nil d_Md_hinders_295
                              · refine lv_bipush (v := 6) hx hb d_Md_hinders_269 (by decide +kernel) ?_
                                exact W.iret (v := 6) hx hb hr (fun t ht hW => ⟨6, rfl, trivial, ht⟩) t_nil d_Md_hinders_271
                            · refine lv_iload hx hb d_Md_hinders_250 (lv_at hl 0 rfl) ?_
                              refine lv_ineg hx hb d_Md_hinders_252 ?_
                              refine lv_goto (tgt := 258) hx hb d_Md_hinders_253 (by decide) ?_
                              refine lv_aload_n hx hb d_Md_hinders_258 rfl (lv_at hl 4 rfl) ?_
                              refine lv_iload hx hb d_Md_hinders_259 (lv_at hl 2 rfl) ?_
                              refine lv_bipush (v := 17) hx hb d_Md_hinders_261 (by decide +kernel) ?_
                              refine vp_callSi (va_Run.run (va_runV (As := [.int r_206, .int 17]) (rest := [.int (-r_310)]) ⟨hx, hb, hml, hown, htb⟩ (c_Md_lineOf_t l dC dI ct L f hO_0 q0 m0 r_206 (17 : Int32) po_207 po_208 (by decide +kernel) (by decide +kernel)) (cwV 2 htb (gd_V tw_539 tw_540 tw_541 tw_407 tw_538) rfl rfl rfl (by decide +kernel) ⟨Nat.le_of_ble_eq_true rfl, Nat.le_of_ble_eq_true rfl⟩) ⟨pr_blind, tw_recv hK hP m0 rfl rfl, pr_pre hP hK hN⟩ rfl rfl hl.1 rfl (lv_room (Nat.le_of_ble_eq_true rfl)) d_Md_hinders_263 ⟨Nat.le_of_ble_eq_true rfl, Nat.le_of_ble_eq_true rfl⟩)) (fun r_324 er_324 => ?_)
                              clear er_324
                              refine lv_icmp_le (tgt := 272) hx hb d_Md_hinders_266 (by decide) (fun c_325 => ?_) (fun c_325 => ?_)
                              · refine lv_aload_n hx hb d_Md_hinders_272 rfl (lv_at hl 4 rfl) ?_
                                refine tw_geti (D := (dC, dI)) (C := R_Md) (T := F_Md) (N := 64) (ci := 7) (kd := 27) (ct := ct) hx hb htb i_Md hown hK hP hO_0 m0 rfl rfl 1 (by decide) (htb (.fieldLink R_Md 7 "WaterMenModel" "time" "I") tw_404) (fun _ h9 => h9) rfl d_Md_hinders_273 (fun x_326 e_326 b_326 => ?_)
                                refine lv_aload_n hx hb d_Md_hinders_276 rfl (lv_at hl 4 rfl) ?_
                                refine lv_iload_n hx hb d_Md_hinders_277 rfl (lv_at hl 5 rfl) ?_
                                refine lv_iload_n hx hb d_Md_hinders_278 rfl (lv_at hl 7 rfl) ?_
                                refine vp_callSi (va_Run.run (va_runV (As := [.int p_0, .int p_2]) (rest := [.int x_326]) ⟨hx, hb, hml, hown, htb⟩ (c_Md_minutesOf_t l dC dI ct L f hO_0 q0 m0 p_0 p_2 as_0 as_1 as_4 as_5) (cwV 2 htb (gd_V tw_557 tw_558 tw_559 tw_407 tw_556) rfl rfl rfl (by decide +kernel) ⟨Nat.le_of_ble_eq_true rfl, Nat.le_of_ble_eq_true rfl⟩) ⟨pr_blind, tw_recv hK hP m0 rfl rfl, pr_pre hP hK hN⟩ rfl rfl hl.1 rfl (lv_room (Nat.le_of_ble_eq_true rfl)) d_Md_hinders_279 ⟨Nat.le_of_ble_eq_true rfl, Nat.le_of_ble_eq_true rfl⟩)) (fun r_327 er_327 => ?_)
                                clear er_327
                                refine lv_iadd hx hb d_Md_hinders_282 ?_
                                refine lv_ldcw (v := 359999) hx hb hown (htb (.constant R_Md 305 359999) tw_560) d_Md_hinders_283 ?_
                                refine lv_icmp_le (tgt := 294) hx hb d_Md_hinders_286 (by decide) (fun c_328 => ?_) (fun c_328 => ?_)
                                · refine lv_iconst (v := 0) hx hb d_Md_hinders_294 (by decide +kernel) ?_
                                  exact W.iret (v := 0) hx hb hr (fun t ht hW => ⟨0, rfl, trivial, ht⟩) t_nil d_Md_hinders_295
                                · refine lv_bipush (v := 7) hx hb d_Md_hinders_289 (by decide +kernel) ?_
                                  refine lv_goto (tgt := 295) hx hb d_Md_hinders_291 (by decide) ?_
                                  exact W.iret (v := 7) hx hb hr (fun t ht hW => ⟨7, rfl, trivial, ht⟩) t_nil d_Md_hinders_295
                              · refine lv_bipush (v := 6) hx hb d_Md_hinders_269 (by decide +kernel) ?_
                                exact W.iret (v := 6) hx hb hr (fun t ht hW => ⟨6, rfl, trivial, ht⟩) t_nil d_Md_hinders_271
                        · refine lv_aload_n hx hb d_Md_hinders_201 rfl (lv_at hl 4 rfl) ?_
                          refine vp_callSi (va_Run.run (va_runV (As := []) (rest := []) ⟨hx, hb, hml, hown, htb⟩ (c_Md_hourNow_t l dC dI ct L f hO_0 q0 m0) (cwV 0 htb (gd_V tw_553 tw_554 tw_555 tw_407 tw_552) rfl rfl rfl (by decide +kernel) ⟨Nat.le_of_ble_eq_true rfl, Nat.le_of_ble_eq_true rfl⟩) ⟨pr_blind, tw_recv hK hP m0 rfl rfl, pr_pre hP hK hN⟩ rfl rfl hl.1 rfl (lv_room (Nat.le_of_ble_eq_true rfl)) d_Md_hinders_202 ⟨Nat.le_of_ble_eq_true rfl, Nat.le_of_ble_eq_true rfl⟩)) (fun r_329 er_329 => ?_)
                          obtain ⟨po_330, po_331, -⟩ := er_329
                          refine lv_aload_n hx hb d_Md_hinders_205 rfl (lv_at hl 4 rfl) ?_
                          refine lv_iload hx hb d_Md_hinders_206 (lv_at hl 2 rfl) ?_
                          refine lv_bipush (v := 16) hx hb d_Md_hinders_208 (by decide +kernel) ?_
                          refine vp_callSi (va_Run.run (va_runV (As := [.int r_206, .int 16]) (rest := [.int r_329]) ⟨hx, hb, hml, hown, htb⟩ (c_Md_lineOf_t l dC dI ct L f hO_0 q0 m0 r_206 (16 : Int32) po_207 po_208 (by decide +kernel) (by decide +kernel)) (cwV 2 htb (gd_V tw_539 tw_540 tw_541 tw_407 tw_538) rfl rfl rfl (by decide +kernel) ⟨Nat.le_of_ble_eq_true rfl, Nat.le_of_ble_eq_true rfl⟩) ⟨pr_blind, tw_recv hK hP m0 rfl rfl, pr_pre hP hK hN⟩ rfl rfl hl.1 rfl (lv_room (Nat.le_of_ble_eq_true rfl)) d_Md_hinders_210 ⟨Nat.le_of_ble_eq_true rfl, Nat.le_of_ble_eq_true rfl⟩)) (fun r_332 er_332 => ?_)
                          clear er_332
                          refine lv_aload_n hx hb d_Md_hinders_213 rfl (lv_at hl 4 rfl) ?_
                          refine tw_getr (D := (dC, dI)) (C := R_Md) (T := F_Md) (N := 64) (ci := 7) (kd := 27) (ct := ct) hx hb htb i_Md hown hK hP hO_0 m0 rfl rfl 41 (by decide) (htb (.fieldLink R_Md 146 "WaterMenModel" "singleTo" "[I") tw_518) (fun _ h9 => h9) rfl d_Md_hinders_214 (fun q_333 e_333 m_333 => ?_)
                          refine lv_iload hx hb d_Md_hinders_217 (lv_at hl 2 rfl) ?_
                          refine tw_aldI (ct := ct) hx hb hK hP hO_0 m_333 rfl (hb_inl po_207 po_208 (by decide +kernel)) d_Md_hinders_219 (fun x_334 e_334 b_334 => ?_)
                          refine vp_callSi (va_Run.run (va_runS (As := [.int r_329, .int r_332, .int x_334]) (rest := []) ⟨hx, hb, hml, hown, htb⟩ (c_Md_in l r_329 r_332 x_334) (cwS 3 htb (gd_S tw_408 tw_409 tw_407 tw_406) rfl rfl rfl (by decide +kernel) ⟨Nat.le_of_ble_eq_true rfl, Nat.le_of_ble_eq_true rfl⟩) ⟨fun _ _ _ _ h => h, fun U _ _ => ⟨rfl, trivial⟩⟩ rfl rfl hl.1 rfl (lv_room (Nat.le_of_ble_eq_true rfl)) d_Md_hinders_220 ⟨Nat.le_of_ble_eq_true rfl, Nat.le_of_ble_eq_true rfl⟩)) (fun r er => ?_)
                          subst er
                          by_cases c_336 : r_329 < r_332
                          · refine hb_ti 0 (by unfold f_Md_in; rw [if_pos c_336]; first | done | rfl) ?_
                            refine lv_if_ne (tgt := 229) hx hb d_Md_hinders_223 (by decide) (fun h => absurd (by decide +kernel) h) (fun _ => ?_)
                            refine lv_bipush (v := 6) hx hb d_Md_hinders_226 (by decide +kernel) ?_
                            exact W.iret (v := 6) hx hb hr (fun t ht hW => ⟨6, rfl, trivial, ht⟩) t_nil d_Md_hinders_228
                          · by_cases c_337 : x_334 < r_329
                            · refine hb_ti 0 (by unfold f_Md_in; rw [if_neg c_336, if_pos c_337]; first | done | rfl) ?_
                              refine lv_if_ne (tgt := 229) hx hb d_Md_hinders_223 (by decide) (fun h => absurd (by decide +kernel) h) (fun _ => ?_)
                              refine lv_bipush (v := 6) hx hb d_Md_hinders_226 (by decide +kernel) ?_
                              exact W.iret (v := 6) hx hb hr (fun t ht hW => ⟨6, rfl, trivial, ht⟩) t_nil d_Md_hinders_228
                            · refine hb_ti 1 (by unfold f_Md_in; rw [if_neg c_336, if_neg c_337]; first | done | rfl) ?_
                              refine lv_if_ne (tgt := 229) hx hb d_Md_hinders_223 (by decide) (fun _ => ?_) (fun h => absurd h (by decide +kernel))
                              refine lv_iload hx hb d_Md_hinders_229 (lv_at hl 1 rfl) ?_
                              refine lv_if_eq (tgt := 272) hx hb d_Md_hinders_231 (by decide) (fun h => absurd h (by decide +kernel)) (fun _ => ?_)
                              refine lv_aload_n hx hb d_Md_hinders_234 rfl (lv_at hl 4 rfl) ?_
                              refine lv_iload hx hb d_Md_hinders_235 (lv_at hl 2 rfl) ?_
                              refine lv_bipush (v := 17) hx hb d_Md_hinders_237 (by decide +kernel) ?_
                              refine vp_callSi (va_Run.run (va_runV (As := [.int r_206, .int 17]) (rest := []) ⟨hx, hb, hml, hown, htb⟩ (c_Md_lineOf_t l dC dI ct L f hO_0 q0 m0 r_206 (17 : Int32) po_207 po_208 (by decide +kernel) (by decide +kernel)) (cwV 2 htb (gd_V tw_539 tw_540 tw_541 tw_407 tw_538) rfl rfl rfl (by decide +kernel) ⟨Nat.le_of_ble_eq_true rfl, Nat.le_of_ble_eq_true rfl⟩) ⟨pr_blind, tw_recv hK hP m0 rfl rfl, pr_pre hP hK hN⟩ rfl rfl hl.1 rfl (lv_room (Nat.le_of_ble_eq_true rfl)) d_Md_hinders_239 ⟨Nat.le_of_ble_eq_true rfl, Nat.le_of_ble_eq_true rfl⟩)) (fun r_338 er_338 => ?_)
                              clear er_338
                              refine lv_if_lt (tgt := 272) hx hb d_Md_hinders_242 (by decide) (fun c_339 => ?_) (fun c_339 => ?_)
                              · refine lv_aload_n hx hb d_Md_hinders_272 rfl (lv_at hl 4 rfl) ?_
                                refine tw_geti (D := (dC, dI)) (C := R_Md) (T := F_Md) (N := 64) (ci := 7) (kd := 27) (ct := ct) hx hb htb i_Md hown hK hP hO_0 m0 rfl rfl 1 (by decide) (htb (.fieldLink R_Md 7 "WaterMenModel" "time" "I") tw_404) (fun _ h9 => h9) rfl d_Md_hinders_273 (fun x_340 e_340 b_340 => ?_)
                                refine lv_aload_n hx hb d_Md_hinders_276 rfl (lv_at hl 4 rfl) ?_
                                refine lv_iload_n hx hb d_Md_hinders_277 rfl (lv_at hl 5 rfl) ?_
                                refine lv_iload_n hx hb d_Md_hinders_278 rfl (lv_at hl 7 rfl) ?_
                                refine vp_callSi (va_Run.run (va_runV (As := [.int p_0, .int p_2]) (rest := [.int x_340]) ⟨hx, hb, hml, hown, htb⟩ (c_Md_minutesOf_t l dC dI ct L f hO_0 q0 m0 p_0 p_2 as_0 as_1 as_4 as_5) (cwV 2 htb (gd_V tw_557 tw_558 tw_559 tw_407 tw_556) rfl rfl rfl (by decide +kernel) ⟨Nat.le_of_ble_eq_true rfl, Nat.le_of_ble_eq_true rfl⟩) ⟨pr_blind, tw_recv hK hP m0 rfl rfl, pr_pre hP hK hN⟩ rfl rfl hl.1 rfl (lv_room (Nat.le_of_ble_eq_true rfl)) d_Md_hinders_279 ⟨Nat.le_of_ble_eq_true rfl, Nat.le_of_ble_eq_true rfl⟩)) (fun r_341 er_341 => ?_)
                                clear er_341
                                refine lv_iadd hx hb d_Md_hinders_282 ?_
                                refine lv_ldcw (v := 359999) hx hb hown (htb (.constant R_Md 305 359999) tw_560) d_Md_hinders_283 ?_
                                refine lv_icmp_le (tgt := 294) hx hb d_Md_hinders_286 (by decide) (fun c_342 => ?_) (fun c_342 => ?_)
                                · refine lv_iconst (v := 0) hx hb d_Md_hinders_294 (by decide +kernel) ?_
                                  exact W.iret (v := 0) hx hb hr (fun t ht hW => ⟨0, rfl, trivial, ht⟩) t_nil d_Md_hinders_295
                                · refine lv_bipush (v := 7) hx hb d_Md_hinders_289 (by decide +kernel) ?_
                                  refine lv_goto (tgt := 295) hx hb d_Md_hinders_291 (by decide) ?_
                                  exact W.iret (v := 7) hx hb hr (fun t ht hW => ⟨7, rfl, trivial, ht⟩) t_nil d_Md_hinders_295
                              · refine lv_iload hx hb d_Md_hinders_245 (lv_at hl 0 rfl) ?_
                                refine lv_if_ge (tgt := 256) hx hb d_Md_hinders_247 (by decide) (fun c_343 => ?_) (fun c_343 => ?_)
                                · refine lv_iload hx hb d_Md_hinders_256 (lv_at hl 0 rfl) ?_
                                  refine lv_aload_n hx hb d_Md_hinders_258 rfl (lv_at hl 4 rfl) ?_
                                  refine lv_iload hx hb d_Md_hinders_259 (lv_at hl 2 rfl) ?_
                                  refine lv_bipush (v := 17) hx hb d_Md_hinders_261 (by decide +kernel) ?_
                                  refine vp_callSi (va_Run.run (va_runV (As := [.int r_206, .int 17]) (rest := [.int r_310]) ⟨hx, hb, hml, hown, htb⟩ (c_Md_lineOf_t l dC dI ct L f hO_0 q0 m0 r_206 (17 : Int32) po_207 po_208 (by decide +kernel) (by decide +kernel)) (cwV 2 htb (gd_V tw_539 tw_540 tw_541 tw_407 tw_538) rfl rfl rfl (by decide +kernel) ⟨Nat.le_of_ble_eq_true rfl, Nat.le_of_ble_eq_true rfl⟩) ⟨pr_blind, tw_recv hK hP m0 rfl rfl, pr_pre hP hK hN⟩ rfl rfl hl.1 rfl (lv_room (Nat.le_of_ble_eq_true rfl)) d_Md_hinders_263 ⟨Nat.le_of_ble_eq_true rfl, Nat.le_of_ble_eq_true rfl⟩)) (fun r_344 er_344 => ?_)
                                  clear er_344
                                  refine lv_icmp_le (tgt := 272) hx hb d_Md_hinders_266 (by decide) (fun c_345 => ?_) (fun c_345 => ?_)
                                  · refine lv_aload_n hx hb d_Md_hinders_272 rfl (lv_at hl 4 rfl) ?_
                                    refine tw_geti (D := (dC, dI)) (C := R_Md) (T := F_Md) (N := 64) (ci := 7) (kd := 27) (ct := ct) hx hb htb i_Md hown hK hP hO_0 m0 rfl rfl 1 (by decide) (htb (.fieldLink R_Md 7 "WaterMenModel" "time" "I") tw_404) (fun _ h9 => h9) rfl d_Md_hinders_273 (fun x_346 e_346 b_346 => ?_)
                                    refine lv_aload_n hx hb d_Md_hinders_276 rfl (lv_at hl 4 rfl) ?_
                                    refine lv_iload_n hx hb d_Md_hinders_277 rfl (lv_at hl 5 rfl) ?_
                                    refine lv_iload_n hx hb d_Md_hinders_278 rfl (lv_at hl 7 rfl) ?_
                                    refine vp_callSi (va_Run.run (va_runV (As := [.int p_0, .int p_2]) (rest := [.int x_346]) ⟨hx, hb, hml, hown, htb⟩ (c_Md_minutesOf_t l dC dI ct L f hO_0 q0 m0 p_0 p_2 as_0 as_1 as_4 as_5) (cwV 2 htb (gd_V tw_557 tw_558 tw_559 tw_407 tw_556) rfl rfl rfl (by decide +kernel) ⟨Nat.le_of_ble_eq_true rfl, Nat.le_of_ble_eq_true rfl⟩) ⟨pr_blind, tw_recv hK hP m0 rfl rfl, pr_pre hP hK hN⟩ rfl rfl hl.1 rfl (lv_room (Nat.le_of_ble_eq_true rfl)) d_Md_hinders_279 ⟨Nat.le_of_ble_eq_true rfl, Nat.le_of_ble_eq_true rfl⟩)) (fun r_347 er_347 => ?_)
                                    clear er_347
                                    refine lv_iadd hx hb d_Md_hinders_282 ?_
                                    refine lv_ldcw (v := 359999) hx hb hown (htb (.constant R_Md 305 359999) tw_560) d_Md_hinders_283 ?_
                                    refine lv_icmp_le (tgt := 294) hx hb d_Md_hinders_286 (by decide) (fun c_348 => ?_) (fun c_348 => ?_)
                                    · refine lv_iconst (v := 0) hx hb d_Md_hinders_294 (by decide +kernel) ?_
                                      exact W.iret (v := 0) hx hb hr (fun t ht hW => ⟨0, rfl, trivial, ht⟩) t_nil d_Md_hinders_295
                                    · refine lv_bipush (v := 7) hx hb d_Md_hinders_289 (by decide +kernel) ?_
                                      refine lv_goto (tgt := 295) hx hb d_Md_hinders_291 (by decide) ?_
                                      exact W.iret (v := 7) hx hb hr (fun t ht hW => ⟨7, rfl, trivial, ht⟩) t_nil d_Md_hinders_295
                                  · refine lv_bipush (v := 6) hx hb d_Md_hinders_269 (by decide +kernel) ?_
                                    exact W.iret (v := 6) hx hb hr (fun t ht hW => ⟨6, rfl, trivial, ht⟩) t_nil d_Md_hinders_271
                                · refine lv_iload hx hb d_Md_hinders_250 (lv_at hl 0 rfl) ?_
                                  refine lv_ineg hx hb d_Md_hinders_252 ?_
                                  refine lv_goto (tgt := 258) hx hb d_Md_hinders_253 (by decide) ?_
                                  refine lv_aload_n hx hb d_Md_hinders_258 rfl (lv_at hl 4 rfl) ?_
                                  refine lv_iload hx hb d_Md_hinders_259 (lv_at hl 2 rfl) ?_
                                  refine lv_bipush (v := 17) hx hb d_Md_hinders_261 (by decide +kernel) ?_
                                  refine vp_callSi (va_Run.run (va_runV (As := [.int r_206, .int 17]) (rest := [.int (-r_310)]) ⟨hx, hb, hml, hown, htb⟩ (c_Md_lineOf_t l dC dI ct L f hO_0 q0 m0 r_206 (17 : Int32) po_207 po_208 (by decide +kernel) (by decide +kernel)) (cwV 2 htb (gd_V tw_539 tw_540 tw_541 tw_407 tw_538) rfl rfl rfl (by decide +kernel) ⟨Nat.le_of_ble_eq_true rfl, Nat.le_of_ble_eq_true rfl⟩) ⟨pr_blind, tw_recv hK hP m0 rfl rfl, pr_pre hP hK hN⟩ rfl rfl hl.1 rfl (lv_room (Nat.le_of_ble_eq_true rfl)) d_Md_hinders_263 ⟨Nat.le_of_ble_eq_true rfl, Nat.le_of_ble_eq_true rfl⟩)) (fun r_349 er_349 => ?_)
                                  clear er_349
                                  refine lv_icmp_le (tgt := 272) hx hb d_Md_hinders_266 (by decide) (fun c_350 => ?_) (fun c_350 => ?_)
                                  · refine lv_aload_n hx hb d_Md_hinders_272 rfl (lv_at hl 4 rfl) ?_
                                    refine tw_geti (D := (dC, dI)) (C := R_Md) (T := F_Md) (N := 64) (ci := 7) (kd := 27) (ct := ct) hx hb htb i_Md hown hK hP hO_0 m0 rfl rfl 1 (by decide) (htb (.fieldLink R_Md 7 "WaterMenModel" "time" "I") tw_404) (fun _ h9 => h9) rfl d_Md_hinders_273 (fun x_351 e_351 b_351 => ?_)
                                    refine lv_aload_n hx hb d_Md_hinders_276 rfl (lv_at hl 4 rfl) ?_
                                    refine lv_iload_n hx hb d_Md_hinders_277 rfl (lv_at hl 5 rfl) ?_
                                    refine lv_iload_n hx hb d_Md_hinders_278 rfl (lv_at hl 7 rfl) ?_
                                    refine vp_callSi (va_Run.run (va_runV (As := [.int p_0, .int p_2]) (rest := [.int x_351]) ⟨hx, hb, hml, hown, htb⟩ (c_Md_minutesOf_t l dC dI ct L f hO_0 q0 m0 p_0 p_2 as_0 as_1 as_4 as_5) (cwV 2 htb (gd_V tw_557 tw_558 tw_559 tw_407 tw_556) rfl rfl rfl (by decide +kernel) ⟨Nat.le_of_ble_eq_true rfl, Nat.le_of_ble_eq_true rfl⟩) ⟨pr_blind, tw_recv hK hP m0 rfl rfl, pr_pre hP hK hN⟩ rfl rfl hl.1 rfl (lv_room (Nat.le_of_ble_eq_true rfl)) d_Md_hinders_279 ⟨Nat.le_of_ble_eq_true rfl, Nat.le_of_ble_eq_true rfl⟩)) (fun r_352 er_352 => ?_)
                                    clear er_352
                                    refine lv_iadd hx hb d_Md_hinders_282 ?_
                                    refine lv_ldcw (v := 359999) hx hb hown (htb (.constant R_Md 305 359999) tw_560) d_Md_hinders_283 ?_
                                    refine lv_icmp_le (tgt := 294) hx hb d_Md_hinders_286 (by decide) (fun c_353 => ?_) (fun c_353 => ?_)
                                    · refine lv_iconst (v := 0) hx hb d_Md_hinders_294 (by decide +kernel) ?_
                                      exact W.iret (v := 0) hx hb hr (fun t ht hW => ⟨0, rfl, trivial, ht⟩) t_nil d_Md_hinders_295
                                    · refine lv_bipush (v := 7) hx hb d_Md_hinders_289 (by decide +kernel) ?_
                                      refine lv_goto (tgt := 295) hx hb d_Md_hinders_291 (by decide) ?_
                                      exact W.iret (v := 7) hx hb hr (fun t ht hW => ⟨7, rfl, trivial, ht⟩) t_nil d_Md_hinders_295
                                  · refine lv_bipush (v := 6) hx hb d_Md_hinders_269 (by decide +kernel) ?_
                                    exact W.iret (v := 6) hx hb hr (fun t ht hW => ⟨6, rfl, trivial, ht⟩) t_nil d_Md_hinders_271
                      · refine lv_iconst (v := 1) hx hb d_Md_hinders_156 (by decide +kernel) ?_
                        refine lv_goto (tgt := 161) hx hb d_Md_hinders_157 (by decide) ?_
                        refine lv_icmp_eq (tgt := 168) hx hb d_Md_hinders_161 (by decide) (fun _ => ?_) (fun h => absurd (by decide +kernel) h)
                        refine lv_iconst (v := 0) hx hb d_Md_hinders_168 (by decide +kernel) ?_
                        refine lv_istore (lv' := [(6, .int 0), (5, .int r_206), (4, .int x_19), (0, .ref q0), (1, .int p_0), (2, .int p_1), (3, .int p_2)]) hx hb d_Md_hinders_169 hl (by decide) rfl (fun ls hl => ?_)
                        refine lv_aload_n hx hb d_Md_hinders_171 rfl (lv_at hl 3 rfl) ?_
                        refine lv_aload_n hx hb d_Md_hinders_172 rfl (lv_at hl 3 rfl) ?_
                        refine vp_callSi (va_Run.run (va_runV (As := []) (rest := [.ref q0]) ⟨hx, hb, hml, hown, htb⟩ (c_Md_today_t l dC dI ct L f hO_0 q0 m0) (cwV 0 htb (gd_V tw_427 tw_428 tw_429 tw_407 tw_426) rfl rfl rfl (by decide +kernel) ⟨Nat.le_of_ble_eq_true rfl, Nat.le_of_ble_eq_true rfl⟩) ⟨pr_blind, tw_recv hK hP m0 rfl rfl, pr_pre hP hK hN⟩ rfl rfl hl.1 rfl (lv_room (Nat.le_of_ble_eq_true rfl)) d_Md_hinders_173 ⟨Nat.le_of_ble_eq_true rfl, Nat.le_of_ble_eq_true rfl⟩)) (fun r_354 er_354 => ?_)
                        obtain ⟨po_355, po_356, po_357, po_358, -⟩ := er_354
                        refine lv_aload_n hx hb d_Md_hinders_176 rfl (lv_at hl 3 rfl) ?_
                        refine vp_callSi (va_Run.run (va_runV (As := []) (rest := [.int r_354, .ref q0]) ⟨hx, hb, hml, hown, htb⟩ (c_Md_hourNow_t l dC dI ct L f hO_0 q0 m0) (cwV 0 htb (gd_V tw_553 tw_554 tw_555 tw_407 tw_552) rfl rfl rfl (by decide +kernel) ⟨Nat.le_of_ble_eq_true rfl, Nat.le_of_ble_eq_true rfl⟩) ⟨pr_blind, tw_recv hK hP m0 rfl rfl, pr_pre hP hK hN⟩ rfl rfl hl.1 rfl (lv_room (Nat.le_of_ble_eq_true rfl)) d_Md_hinders_177 ⟨Nat.le_of_ble_eq_true rfl, Nat.le_of_ble_eq_true rfl⟩)) (fun r_359 er_359 => ?_)
                        obtain ⟨po_360, po_361, -⟩ := er_359
                        refine vp_callSi (va_Run.run (va_runV (As := [.int r_354, .int r_359]) (rest := []) ⟨hx, hb, hml, hown, htb⟩ (c_Md_flowOf_t l dC dI ct L f hO_0 q0 m0 r_354 r_359 po_355 po_356 po_360 po_361) (cwV 2 htb (gd_V tw_423 tw_424 tw_425 tw_407 tw_422) rfl rfl rfl (by decide +kernel) ⟨Nat.le_of_ble_eq_true rfl, Nat.le_of_ble_eq_true rfl⟩) ⟨pr_blind, tw_recv hK hP m0 rfl rfl, pr_pre hP hK hN⟩ rfl rfl hl.1 rfl (lv_room (Nat.le_of_ble_eq_true rfl)) d_Md_hinders_180 ⟨Nat.le_of_ble_eq_true rfl, Nat.le_of_ble_eq_true rfl⟩)) (fun r_362 er_362 => ?_)
                        clear er_362
                        refine lv_istore (lv' := [(7, .int r_362), (6, .int 0), (5, .int r_206), (4, .int x_19), (0, .ref q0), (1, .int p_0), (2, .int p_1), (3, .int p_2)]) hx hb d_Md_hinders_183 hl (by decide) rfl (fun ls hl => ?_)
                        refine lv_iload hx hb d_Md_hinders_185 (lv_at hl 1 rfl) ?_
                        refine lv_if_eq (tgt := 229) hx hb d_Md_hinders_187 (by decide) (fun _ => ?_) (fun h => absurd (by decide +kernel) h)
                        refine lv_iload hx hb d_Md_hinders_229 (lv_at hl 1 rfl) ?_
                        refine lv_if_eq (tgt := 272) hx hb d_Md_hinders_231 (by decide) (fun _ => ?_) (fun h => absurd (by decide +kernel) h)
                        refine lv_aload_n hx hb d_Md_hinders_272 rfl (lv_at hl 4 rfl) ?_
                        refine tw_geti (D := (dC, dI)) (C := R_Md) (T := F_Md) (N := 64) (ci := 7) (kd := 27) (ct := ct) hx hb htb i_Md hown hK hP hO_0 m0 rfl rfl 1 (by decide) (htb (.fieldLink R_Md 7 "WaterMenModel" "time" "I") tw_404) (fun _ h9 => h9) rfl d_Md_hinders_273 (fun x_363 e_363 b_363 => ?_)
                        refine lv_aload_n hx hb d_Md_hinders_276 rfl (lv_at hl 4 rfl) ?_
                        refine lv_iload_n hx hb d_Md_hinders_277 rfl (lv_at hl 5 rfl) ?_
                        refine lv_iload_n hx hb d_Md_hinders_278 rfl (lv_at hl 7 rfl) ?_
                        refine vp_callSi (va_Run.run (va_runV (As := [.int p_0, .int p_2]) (rest := [.int x_363]) ⟨hx, hb, hml, hown, htb⟩ (c_Md_minutesOf_t l dC dI ct L f hO_0 q0 m0 p_0 p_2 as_0 as_1 as_4 as_5) (cwV 2 htb (gd_V tw_557 tw_558 tw_559 tw_407 tw_556) rfl rfl rfl (by decide +kernel) ⟨Nat.le_of_ble_eq_true rfl, Nat.le_of_ble_eq_true rfl⟩) ⟨pr_blind, tw_recv hK hP m0 rfl rfl, pr_pre hP hK hN⟩ rfl rfl hl.1 rfl (lv_room (Nat.le_of_ble_eq_true rfl)) d_Md_hinders_279 ⟨Nat.le_of_ble_eq_true rfl, Nat.le_of_ble_eq_true rfl⟩)) (fun r_364 er_364 => ?_)
                        clear er_364
                        refine lv_iadd hx hb d_Md_hinders_282 ?_
                        refine lv_ldcw (v := 359999) hx hb hown (htb (.constant R_Md 305 359999) tw_560) d_Md_hinders_283 ?_
                        refine lv_icmp_le (tgt := 294) hx hb d_Md_hinders_286 (by decide) (fun c_365 => ?_) (fun c_365 => ?_)
                        · refine lv_iconst (v := 0) hx hb d_Md_hinders_294 (by decide +kernel) ?_
                          exact W.iret (v := 0) hx hb hr (fun t ht hW => ⟨0, rfl, trivial, ht⟩) t_nil d_Md_hinders_295
                        · refine lv_bipush (v := 7) hx hb d_Md_hinders_289 (by decide +kernel) ?_
                          refine lv_goto (tgt := 295) hx hb d_Md_hinders_291 (by decide) ?_
                          exact W.iret (v := 7) hx hb hr (fun t ht hW => ⟨7, rfl, trivial, ht⟩) t_nil d_Md_hinders_295
                · refine lv_iconst (v := 5) hx hb d_Md_hinders_125 (by decide +kernel) ?_
                  exact W.iret (v := 5) hx hb hr (fun t ht hW => ⟨5, rfl, trivial, ht⟩) t_nil d_Md_hinders_126
            · refine lv_iconst (v := 4) hx hb d_Md_hinders_78 (by decide +kernel) ?_
              exact W.iret (v := 4) hx hb hr (fun t ht hW => ⟨4, rfl, trivial, ht⟩) t_nil d_Md_hinders_79
        · refine lv_iconst (v := 3) hx hb d_Md_hinders_44 (by decide +kernel) ?_
          exact W.iret (v := 3) hx hb hr (fun t ht hW => ⟨3, rfl, trivial, ht⟩) t_nil d_Md_hinders_45
    · refine lv_iconst (v := 2) hx hb d_Md_hinders_23 (by decide +kernel) ?_
      exact W.iret (v := 2) hx hb hr (fun t ht hW => ⟨2, rfl, trivial, ht⟩) t_nil d_Md_hinders_24
  · refine lv_iconst (v := 1) hx hb d_Md_hinders_12 (by decide +kernel) ?_
    exact W.iret (v := 1) hx hb hr (fun t ht hW => ⟨1, rfl, trivial, ht⟩) t_nil d_Md_hinders_13
