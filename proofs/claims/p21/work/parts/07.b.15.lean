set_option maxHeartbeats 4000000 in
set_option maxRecDepth 100000 in
theorem c_Md_menAs_t (l : Launch) (dC : Nat → ClassId) (dI : Nat → Nat → Nat) (ct : Nat → ClassId) (L : List Nat) (f : TF) (hO_0 : Ok L f) (q0 : Nat) (m0 : q0 ∈ L ∧ tk f q0 = 27) (p_0 : Int32)   : Met l y_Md_menAs (.code y_Md_menAs b_Md_menAs 4 (some .int) :: TB) ({ frames := 0, cells := 0, slots := 0, locals := 0 }) (va_Pc [.ref q0, .int p_0] (PR dC dI (TW ct L f) (TT ct))) (vp_Si (fun r => True)) 0 0 (fun _ => False) := by
  refine Met.ofW (cc := b_Md_menAs) (maxL := 4) (ret := (some .int)) (by decide) rfl ?_
  intro p e s m args below meth c s₁ B hml hv
  obtain ⟨rfl, hP, hK, hN⟩ := hv
  have hx := B.exec
  have hb := B.bytes
  have hr := B.returns
  have hts := atoms_spec (ws := (.code y_Md_menAs b_Md_menAs 4 (some .int) :: TB)) B.pre
  have htb := fun w (h : w ∈ TB) => hts w (List.mem_cons_of_mem _ h)
  have hown : s.vm.findClass R_Md = some m.cls := findClass_of_methodNamed B.named
  have hlocks := B.notSynchronized
  have hl := lv_entry ([.ref q0, .int p_0]) (n := 4) (Nat.le_of_ble_eq_true rfl)
  rw [lg_entry_eq]
  generalize (lg_sl ([.ref q0, .int p_0]) ++ List.replicate (4 - (lg_sl ([.ref q0, .int p_0])).length) Slot.unset).toArray = ls at hl ⊢
  have hl : lv_has ls 4 [(0, .ref q0), (1, .int p_0)] := hl
  refine lv_iconst (v := 0) hx hb d_Md_menAs_0 (by decide +kernel) ?_
  refine lv_istore_n (lv' := [(2, .int 0), (0, .ref q0), (1, .int p_0)]) hx hb d_Md_menAs_1 rfl hl (by decide) rfl (fun ls hl => ?_)
  refine lv_iconst (v := 0) hx hb d_Md_menAs_2 (by decide +kernel) ?_
  refine lv_istore_n (lv' := [(3, .int 0), (2, .int 0), (0, .ref q0), (1, .int p_0)]) hx hb d_Md_menAs_3 rfl hl (by decide) rfl (fun ls hl => ?_)
  have cut_1 : ∀ (n_1 : Nat) (v2_1 v3_1 : Int32) (ls : Array Slot), ¬ (v3_1 < 0) → ¬ (40 < v3_1) → (40 : Int32).toInt - (v3_1 : Int32).toInt ≤ (n_1 : Int) → lv_has ls 4 [(0, .ref q0), (1, .int p_0), (2, .int v2_1), (3, .int v3_1)] → W p l e (headSpec (.code y_Md_menAs b_Md_menAs 4 (some .int) :: TB) ({ frames := 0, cells := 0, slots := 0, locals := 0 })).room s m [.ref q0, .int p_0].toArray below meth c s.heap [] 0 0 (MQ below (vp_Si (fun r => True)) [.ref q0, .int p_0].toArray s 0 0 (fun _ => False)) (F0 m 4 ls []) := by
    intro n_1
    induction n_1 using Nat.strongRecOn with
    | _ n_1 ih_1 =>
      intro v2_1 v3_1 ls iv0_1 iv1_1 hm_1 hl
      refine lv_iload_n hx hb d_Md_menAs_4 rfl (lv_at hl 3 rfl) ?_
      refine lv_bipush (v := 40) hx hb d_Md_menAs_5 (by decide +kernel) ?_
      refine lv_icmp_ge (tgt := 34) hx hb d_Md_menAs_7 (by decide) (fun c_2 => ?_) (fun c_2 => ?_)
      · refine lv_iload_n hx hb d_Md_menAs_34 rfl (lv_at hl 2 rfl) ?_
        exact W.iret (v := v2_1) hx hb hr (fun t ht hW => ⟨v2_1, rfl, trivial, ht⟩) t_nil d_Md_menAs_35
      · refine lv_iload_n hx hb d_Md_menAs_10 rfl (lv_at hl 2 rfl) ?_
        refine lv_aload_n hx hb d_Md_menAs_11 rfl (lv_at hl 0 rfl) ?_
        refine tw_getr (D := (dC, dI)) (C := R_Md) (T := F_Md) (N := 64) (ci := 7) (kd := 27) (ct := ct) hx hb htb i_Md hown hK hP hO_0 m0 rfl rfl 9 (by decide) (htb (.fieldLink R_Md 58 "WaterMenModel" "state" "[I") tw_506) (fun _ h9 => h9) rfl d_Md_menAs_12 (fun q_3 e_3 m_3 => ?_)
        refine lv_iload_n hx hb d_Md_menAs_15 rfl (lv_at hl 3 rfl) ?_
        refine tw_aldI (ct := ct) hx hb hK hP hO_0 m_3 rfl (hb_in iv0_1 c_2 (by decide +kernel)) d_Md_menAs_16 (fun x_4 e_4 b_4 => ?_)
        refine lv_iload_n hx hb d_Md_menAs_17 rfl (lv_at hl 1 rfl) ?_
        refine lv_icmp_ne (tgt := 25) hx hb d_Md_menAs_18 (by decide) (fun c_5 => ?_) (fun c_5 => ?_)
        · refine lv_iconst (v := 0) hx hb d_Md_menAs_25 (by decide +kernel) ?_
          refine lv_iadd hx hb d_Md_menAs_26 ?_
          refine lv_istore_n (lv' := [(2, .int (v2_1 + 0)), (0, .ref q0), (1, .int p_0), (3, .int v3_1)]) hx hb d_Md_menAs_27 rfl hl (by decide) rfl (fun ls hl => ?_)
          refine lv_iinc (v := (v3_1 + 1)) (lv' := [(3, .int (v3_1 + 1)), (2, .int (v2_1 + 0)), (0, .ref q0), (1, .int p_0)]) hx hb d_Md_menAs_28 hl (k := 3) rfl rfl (by decide) rfl (fun ls hl => ?_)
          refine lv_goto (tgt := 4) hx hb d_Md_menAs_31 (by decide) ?_
          exact ih_1 (n_1 - 1) (ms_1 ((fun (a_0 : Int32) (k_0 : ¬ (40 ≤ a_0)) => (show 1 ≤ (40 : Int32).toInt - (a_0).toInt ∧ (40 : Int32).toInt - ((a_0) + (1 : Int32)).toInt + 1 ≤ (40 : Int32).toInt - (a_0).toInt from by have z0 : (1 : Int32).toInt = 1 := (by decide +kernel); have z1 : (40 : Int32).toInt = 40 := (by decide +kernel); have r0 := fb_rng (a_0); have e0 := k_0; rw [Int32.le_iff_toInt_le, z1] at e0; obtain ⟨n_0, hn_0, s0⟩ := nd_add (x := (a_0)) (y := (1 : Int32)) (by (try rw [z0]); omega) (by (try rw [z0]); omega); rw [z0] at s0; rw [hn_0]; (try rw [z1]); omega)) v3_1 c_2) hm_1) (v2_1 + 0) (v3_1 + 1) _ (show ¬ ((v3_1 + 1) < 0) from by have e0 := iv0_1; rw [Int32.lt_iff_toInt_lt] at e0; have e1 := c_2; rw [Int32.le_iff_toInt_le] at e1; have z0 : (0 : Int32).toInt = 0 := (by decide +kernel); have z1 : (1 : Int32).toInt = 1 := (by decide +kernel); have z2 : (40 : Int32).toInt = 40 := (by decide +kernel); have ss := fb_addI (x := v3_1) (y := 1) (by omega) (by omega); rw [Int32.lt_iff_toInt_lt]; omega) (show ¬ (40 < (v3_1 + 1)) from by have e0 := iv0_1; rw [Int32.lt_iff_toInt_lt] at e0; have e1 := c_2; rw [Int32.le_iff_toInt_le] at e1; have z0 : (0 : Int32).toInt = 0 := (by decide +kernel); have z1 : (1 : Int32).toInt = 1 := (by decide +kernel); have z2 : (40 : Int32).toInt = 40 := (by decide +kernel); have ss := fb_addI (x := v3_1) (y := 1) (by omega) (by omega); rw [Int32.lt_iff_toInt_lt]; omega) (by exact ms_2 ((fun (a_0 : Int32) (k_0 : ¬ (40 ≤ a_0)) => (show 1 ≤ (40 : Int32).toInt - (a_0).toInt ∧ (40 : Int32).toInt - ((a_0) + (1 : Int32)).toInt + 1 ≤ (40 : Int32).toInt - (a_0).toInt from by have z0 : (1 : Int32).toInt = 1 := (by decide +kernel); have z1 : (40 : Int32).toInt = 40 := (by decide +kernel); have r0 := fb_rng (a_0); have e0 := k_0; rw [Int32.le_iff_toInt_le, z1] at e0; obtain ⟨n_0, hn_0, s0⟩ := nd_add (x := (a_0)) (y := (1 : Int32)) (by (try rw [z0]); omega) (by (try rw [z0]); omega); rw [z0] at s0; rw [hn_0]; (try rw [z1]); omega)) v3_1 c_2) hm_1) (lv_sub hl [2, 3, 1, 0] rfl)
        · refine lv_iconst (v := 1) hx hb d_Md_menAs_21 (by decide +kernel) ?_
          refine lv_goto (tgt := 26) hx hb d_Md_menAs_22 (by decide) ?_
          refine lv_iadd hx hb d_Md_menAs_26 ?_
          refine lv_istore_n (lv' := [(2, .int (v2_1 + 1)), (0, .ref q0), (1, .int p_0), (3, .int v3_1)]) hx hb d_Md_menAs_27 rfl hl (by decide) rfl (fun ls hl => ?_)
          refine lv_iinc (v := (v3_1 + 1)) (lv' := [(3, .int (v3_1 + 1)), (2, .int (v2_1 + 1)), (0, .ref q0), (1, .int p_0)]) hx hb d_Md_menAs_28 hl (k := 3) rfl rfl (by decide) rfl (fun ls hl => ?_)
          refine lv_goto (tgt := 4) hx hb d_Md_menAs_31 (by decide) ?_
          exact ih_1 (n_1 - 1) (ms_1 ((fun (a_0 : Int32) (k_0 : ¬ (40 ≤ a_0)) => (show 1 ≤ (40 : Int32).toInt - (a_0).toInt ∧ (40 : Int32).toInt - ((a_0) + (1 : Int32)).toInt + 1 ≤ (40 : Int32).toInt - (a_0).toInt from by have z0 : (1 : Int32).toInt = 1 := (by decide +kernel); have z1 : (40 : Int32).toInt = 40 := (by decide +kernel); have r0 := fb_rng (a_0); have e0 := k_0; rw [Int32.le_iff_toInt_le, z1] at e0; obtain ⟨n_0, hn_0, s0⟩ := nd_add (x := (a_0)) (y := (1 : Int32)) (by (try rw [z0]); omega) (by (try rw [z0]); omega); rw [z0] at s0; rw [hn_0]; (try rw [z1]); omega)) v3_1 c_2) hm_1) (v2_1 + 1) (v3_1 + 1) _ (show ¬ ((v3_1 + 1) < 0) from by have e0 := iv0_1; rw [Int32.lt_iff_toInt_lt] at e0; have e1 := c_2; rw [Int32.le_iff_toInt_le] at e1; have z0 : (0 : Int32).toInt = 0 := (by decide +kernel); have z1 : (1 : Int32).toInt = 1 := (by decide +kernel); have z2 : (40 : Int32).toInt = 40 := (by decide +kernel); have ss := fb_addI (x := v3_1) (y := 1) (by omega) (by omega); rw [Int32.lt_iff_toInt_lt]; omega) (show ¬ (40 < (v3_1 + 1)) from by have e0 := iv0_1; rw [Int32.lt_iff_toInt_lt] at e0; have e1 := c_2; rw [Int32.le_iff_toInt_le] at e1; have z0 : (0 : Int32).toInt = 0 := (by decide +kernel); have z1 : (1 : Int32).toInt = 1 := (by decide +kernel); have z2 : (40 : Int32).toInt = 40 := (by decide +kernel); have ss := fb_addI (x := v3_1) (y := 1) (by omega) (by omega); rw [Int32.lt_iff_toInt_lt]; omega) (by exact ms_2 ((fun (a_0 : Int32) (k_0 : ¬ (40 ≤ a_0)) => (show 1 ≤ (40 : Int32).toInt - (a_0).toInt ∧ (40 : Int32).toInt - ((a_0) + (1 : Int32)).toInt + 1 ≤ (40 : Int32).toInt - (a_0).toInt from by have z0 : (1 : Int32).toInt = 1 := (by decide +kernel); have z1 : (40 : Int32).toInt = 40 := (by decide +kernel); have r0 := fb_rng (a_0); have e0 := k_0; rw [Int32.le_iff_toInt_le, z1] at e0; obtain ⟨n_0, hn_0, s0⟩ := nd_add (x := (a_0)) (y := (1 : Int32)) (by (try rw [z0]); omega) (by (try rw [z0]); omega); rw [z0] at s0; rw [hn_0]; (try rw [z1]); omega)) v3_1 c_2) hm_1) (lv_sub hl [2, 3, 1, 0] rfl)
  exact cut_1 4294967296 (0 : Int32) (0 : Int32) _ (by decide +kernel) (by decide +kernel) (by exact ms_0 _ _) (lv_sub hl [2, 3, 1, 0] rfl)
set_option maxHeartbeats 4000000 in
set_option maxRecDepth 100000 in
theorem c_Md_count_t (l : Launch) (dC : Nat → ClassId) (dI : Nat → Nat → Nat) (ct : Nat → ClassId) (L : List Nat) (f : TF) (hO_0 : Ok L f) (q0 : Nat) (m0 : q0 ∈ L ∧ tk f q0 = 27) (p_0 : Int32)   : Met l y_Md_count (.code y_Md_count b_Md_count 2 (some .int) :: TB) ({ frames := 1, cells := 0, slots := 0, locals := 23 }) (va_Pc [.ref q0, .int p_0] (PR dC dI (TW ct L f) (TT ct))) (vp_Si (fun r => True)) 0 0 (fun _ => False) := by
  refine Met.ofW (cc := b_Md_count) (maxL := 2) (ret := (some .int)) (by decide) rfl ?_
  intro p e s m args below meth c s₁ B hml hv
  obtain ⟨rfl, hP, hK, hN⟩ := hv
  have hx := B.exec
  have hb := B.bytes
  have hr := B.returns
  have hts := atoms_spec (ws := (.code y_Md_count b_Md_count 2 (some .int) :: TB)) B.pre
  have htb := fun w (h : w ∈ TB) => hts w (List.mem_cons_of_mem _ h)
  have hown : s.vm.findClass R_Md = some m.cls := findClass_of_methodNamed B.named
  have hlocks := B.notSynchronized
  have hl := lv_entry ([.ref q0, .int p_0]) (n := 2) (Nat.le_of_ble_eq_true rfl)
  rw [lg_entry_eq]
  generalize (lg_sl ([.ref q0, .int p_0]) ++ List.replicate (2 - (lg_sl ([.ref q0, .int p_0])).length) Slot.unset).toArray = ls at hl ⊢
  have hl : lv_has ls 2 [(0, .ref q0), (1, .int p_0)] := hl
  refine lv_iload_n hx hb d_Md_count_0 rfl (lv_at hl 1 rfl) ?_
  by_cases c_1 : p_0 = 0
  · refine lv_tableIn (off := 55) (tgt := 56) hx hb d_Md_count_1 (by rw [c_1]; decide +kernel) (by rw [c_1]; decide +kernel) (by rw [c_1]; decide +kernel) (by decide) ?_
    refine lv_aload_n hx hb d_Md_count_56 rfl (lv_at hl 0 rfl) ?_
    refine tw_geti (D := (dC, dI)) (C := R_Md) (T := F_Md) (N := 64) (ci := 7) (kd := 27) (ct := ct) hx hb htb i_Md hown hK hP hO_0 m0 rfl rfl 2 (by decide) (htb (.fieldLink R_Md 14 "WaterMenModel" "stairs" "I") tw_477) (fun _ h9 => h9) rfl d_Md_count_57 (fun x_2 e_2 b_2 => ?_)
    exact W.iret (v := x_2) hx hb hr (fun t ht hW => ⟨x_2, rfl, trivial, ht⟩) t_nil d_Md_count_60
  · by_cases c_3 : p_0 = 1
    · refine lv_tableIn (off := 60) (tgt := 61) hx hb d_Md_count_1 (by rw [c_3]; decide +kernel) (by rw [c_3]; decide +kernel) (by rw [c_3]; decide +kernel) (by decide) ?_
      refine lv_aload_n hx hb d_Md_count_61 rfl (lv_at hl 0 rfl) ?_
      refine tw_geti (D := (dC, dI)) (C := R_Md) (T := F_Md) (N := 64) (ci := 7) (kd := 27) (ct := ct) hx hb htb i_Md hown hK hP hO_0 m0 rfl rfl 21 (by decide) (htb (.fieldLink R_Md 206 "WaterMenModel" "boats" "I") tw_537) (fun _ h9 => h9) rfl d_Md_count_62 (fun x_4 e_4 b_4 => ?_)
      exact W.iret (v := x_4) hx hb hr (fun t ht hW => ⟨x_4, rfl, trivial, ht⟩) t_nil d_Md_count_65
    · by_cases c_5 : p_0 = 2
      · refine lv_tableIn (off := 65) (tgt := 66) hx hb d_Md_count_1 (by rw [c_5]; decide +kernel) (by rw [c_5]; decide +kernel) (by rw [c_5]; decide +kernel) (by decide) ?_
        refine lv_aload_n hx hb d_Md_count_66 rfl (lv_at hl 0 rfl) ?_
        refine tw_geti (D := (dC, dI)) (C := R_Md) (T := F_Md) (N := 64) (ci := 7) (kd := 27) (ct := ct) hx hb htb i_Md hown hK hP hO_0 m0 rfl rfl 47 (by decide) (htb (.fieldLink R_Md 313 "WaterMenModel" "trips" "I") tw_641) (fun _ h9 => h9) rfl d_Md_count_67 (fun x_6 e_6 b_6 => ?_)
        exact W.iret (v := x_6) hx hb hr (fun t ht hW => ⟨x_6, rfl, trivial, ht⟩) t_nil d_Md_count_70
      · by_cases c_7 : p_0 = 3
        · refine lv_tableIn (off := 70) (tgt := 71) hx hb d_Md_count_1 (by rw [c_7]; decide +kernel) (by rw [c_7]; decide +kernel) (by rw [c_7]; decide +kernel) (by decide) ?_
          refine lv_aload_n hx hb d_Md_count_71 rfl (lv_at hl 0 rfl) ?_
          refine tw_geti (D := (dC, dI)) (C := R_Md) (T := F_Md) (N := 64) (ci := 7) (kd := 27) (ct := ct) hx hb htb i_Md hown hK hP hO_0 m0 rfl rfl 29 (by decide) (htb (.fieldLink R_Md 275 "WaterMenModel" "orders" "I") tw_599) (fun _ h9 => h9) rfl d_Md_count_72 (fun x_8 e_8 b_8 => ?_)
          exact W.iret (v := x_8) hx hb hr (fun t ht hW => ⟨x_8, rfl, trivial, ht⟩) t_nil d_Md_count_75
        · by_cases c_9 : p_0 = 4
          · refine lv_tableIn (off := 75) (tgt := 76) hx hb d_Md_count_1 (by rw [c_9]; decide +kernel) (by rw [c_9]; decide +kernel) (by rw [c_9]; decide +kernel) (by decide) ?_
            refine lv_aload_n hx hb d_Md_count_76 rfl (lv_at hl 0 rfl) ?_
            refine tw_geti (D := (dC, dI)) (C := R_Md) (T := F_Md) (N := 64) (ci := 7) (kd := 27) (ct := ct) hx hb htb i_Md hown hK hP hO_0 m0 rfl rfl 1 (by decide) (htb (.fieldLink R_Md 7 "WaterMenModel" "time" "I") tw_476) (fun _ h9 => h9) rfl d_Md_count_77 (fun x_10 e_10 b_10 => ?_)
            exact W.iret (v := x_10) hx hb hr (fun t ht hW => ⟨x_10, rfl, trivial, ht⟩) t_nil d_Md_count_80
          · by_cases c_11 : p_0 = 5
            · refine lv_tableIn (off := 80) (tgt := 81) hx hb d_Md_count_1 (by rw [c_11]; decide +kernel) (by rw [c_11]; decide +kernel) (by rw [c_11]; decide +kernel) (by decide) ?_
              refine lv_aload_n hx hb d_Md_count_81 rfl (lv_at hl 0 rfl) ?_
              refine lv_iconst (v := 2) hx hb d_Md_count_82 (by decide +kernel) ?_
              refine vp_callSi (va_Run.run (va_runV (As := [.int 2]) (rest := []) ⟨hx, hb, hml, hown, htb⟩ (c_Md_menAs_t l dC dI ct L f hO_0 q0 m0 (2 : Int32)) (cwV 1 htb (gd_V tw_682 tw_683 tw_684 tw_479 tw_681) rfl rfl rfl (by decide +kernel) ⟨Nat.le_of_ble_eq_true rfl, Nat.le_of_ble_eq_true rfl⟩) ⟨pr_blind, tw_recv hK hP m0 rfl rfl, pr_pre hP hK hN⟩ rfl rfl hl.1 rfl (lv_room (Nat.le_of_ble_eq_true rfl)) d_Md_count_83 ⟨Nat.le_of_ble_eq_true rfl, Nat.le_of_ble_eq_true rfl⟩)) (fun r_12 er_12 => ?_)
              clear er_12
              exact W.iret (v := r_12) hx hb hr (fun t ht hW => ⟨r_12, rfl, trivial, ht⟩) t_nil d_Md_count_86
            · by_cases c_13 : p_0 = 6
              · refine lv_tableIn (off := 86) (tgt := 87) hx hb d_Md_count_1 (by rw [c_13]; decide +kernel) (by rw [c_13]; decide +kernel) (by rw [c_13]; decide +kernel) (by decide) ?_
                refine lv_aload_n hx hb d_Md_count_87 rfl (lv_at hl 0 rfl) ?_
                refine lv_iconst (v := 1) hx hb d_Md_count_88 (by decide +kernel) ?_
                refine vp_callSi (va_Run.run (va_runV (As := [.int 1]) (rest := []) ⟨hx, hb, hml, hown, htb⟩ (c_Md_menAs_t l dC dI ct L f hO_0 q0 m0 (1 : Int32)) (cwV 1 htb (gd_V tw_682 tw_683 tw_684 tw_479 tw_681) rfl rfl rfl (by decide +kernel) ⟨Nat.le_of_ble_eq_true rfl, Nat.le_of_ble_eq_true rfl⟩) ⟨pr_blind, tw_recv hK hP m0 rfl rfl, pr_pre hP hK hN⟩ rfl rfl hl.1 rfl (lv_room (Nat.le_of_ble_eq_true rfl)) d_Md_count_89 ⟨Nat.le_of_ble_eq_true rfl, Nat.le_of_ble_eq_true rfl⟩)) (fun r_14 er_14 => ?_)
                clear er_14
                exact W.iret (v := r_14) hx hb hr (fun t ht hW => ⟨r_14, rfl, trivial, ht⟩) t_nil d_Md_count_92
              · by_cases c_15 : p_0 = 7
                · refine lv_tableIn (off := 92) (tgt := 93) hx hb d_Md_count_1 (by rw [c_15]; decide +kernel) (by rw [c_15]; decide +kernel) (by rw [c_15]; decide +kernel) (by decide) ?_
                  refine lv_aload_n hx hb d_Md_count_93 rfl (lv_at hl 0 rfl) ?_
                  refine lv_iconst (v := 3) hx hb d_Md_count_94 (by decide +kernel) ?_
                  refine vp_callSi (va_Run.run (va_runV (As := [.int 3]) (rest := []) ⟨hx, hb, hml, hown, htb⟩ (c_Md_menAs_t l dC dI ct L f hO_0 q0 m0 (3 : Int32)) (cwV 1 htb (gd_V tw_682 tw_683 tw_684 tw_479 tw_681) rfl rfl rfl (by decide +kernel) ⟨Nat.le_of_ble_eq_true rfl, Nat.le_of_ble_eq_true rfl⟩) ⟨pr_blind, tw_recv hK hP m0 rfl rfl, pr_pre hP hK hN⟩ rfl rfl hl.1 rfl (lv_room (Nat.le_of_ble_eq_true rfl)) d_Md_count_95 ⟨Nat.le_of_ble_eq_true rfl, Nat.le_of_ble_eq_true rfl⟩)) (fun r_16 er_16 => ?_)
                  clear er_16
                  exact W.iret (v := r_16) hx hb hr (fun t ht hW => ⟨r_16, rfl, trivial, ht⟩) t_nil d_Md_count_98
                · by_cases c_17 : p_0 = 8
                  · refine lv_tableIn (off := 98) (tgt := 99) hx hb d_Md_count_1 (by rw [c_17]; decide +kernel) (by rw [c_17]; decide +kernel) (by rw [c_17]; decide +kernel) (by decide) ?_
                    refine lv_aload_n hx hb d_Md_count_99 rfl (lv_at hl 0 rfl) ?_
                    refine tw_geti (D := (dC, dI)) (C := R_Md) (T := F_Md) (N := 64) (ci := 7) (kd := 27) (ct := ct) hx hb htb i_Md hown hK hP hO_0 m0 rfl rfl 60 (by decide) (htb (.fieldLink R_Md 323 "WaterMenModel" "pensioners" "I") tw_653) (fun _ h9 => h9) rfl d_Md_count_100 (fun x_18 e_18 b_18 => ?_)
                    exact W.iret (v := x_18) hx hb hr (fun t ht hW => ⟨x_18, rfl, trivial, ht⟩) t_nil d_Md_count_103
                  · by_cases c_19 : p_0 = 9
                    · refine lv_tableIn (off := 103) (tgt := 104) hx hb d_Md_count_1 (by rw [c_19]; decide +kernel) (by rw [c_19]; decide +kernel) (by rw [c_19]; decide +kernel) (by decide) ?_
                      refine lv_aload_n hx hb d_Md_count_104 rfl (lv_at hl 0 rfl) ?_
                      refine tw_geti (D := (dC, dI)) (C := R_Md) (T := F_Md) (N := 64) (ci := 7) (kd := 27) (ct := ct) hx hb htb i_Md hown hK hP hO_0 m0 rfl rfl 28 (by decide) (htb (.fieldLink R_Md 212 "WaterMenModel" "taped" "I") tw_548) (fun _ h9 => h9) rfl d_Md_count_105 (fun x_20 e_20 b_20 => ?_)
                      exact W.iret (v := x_20) hx hb hr (fun t ht hW => ⟨x_20, rfl, trivial, ht⟩) t_nil d_Md_count_108
                    · refine lv_tableOut (tgt := 109) hx hb d_Md_count_1 (by have h0 := lv_neT c_1 (show (0 : Int32).toInt = 0 by decide +kernel); have h1 := lv_neT c_3 (show (1 : Int32).toInt = 1 by decide +kernel); have h2 := lv_neT c_5 (show (2 : Int32).toInt = 2 by decide +kernel); have h3 := lv_neT c_7 (show (3 : Int32).toInt = 3 by decide +kernel); have h4 := lv_neT c_9 (show (4 : Int32).toInt = 4 by decide +kernel); have h5 := lv_neT c_11 (show (5 : Int32).toInt = 5 by decide +kernel); have h6 := lv_neT c_13 (show (6 : Int32).toInt = 6 by decide +kernel); have h7 := lv_neT c_15 (show (7 : Int32).toInt = 7 by decide +kernel); have h8 := lv_neT c_17 (show (8 : Int32).toInt = 8 by decide +kernel); have h9 := lv_neT c_19 (show (9 : Int32).toInt = 9 by decide +kernel); omega) (by decide) ?_
                      refine lv_iconst (v := (-1)) hx hb d_Md_count_109 (by decide +kernel) ?_
                      exact W.iret (v := (-1)) hx hb hr (fun t ht hW => ⟨(-1), rfl, trivial, ht⟩) t_nil d_Md_count_110
set_option maxHeartbeats 4000000 in
set_option maxRecDepth 100000 in
theorem c_Md_coins_t (l : Launch) (dC : Nat → ClassId) (dI : Nat → Nat → Nat) (ct : Nat → ClassId) (L : List Nat) (f : TF) (hO_0 : Ok L f) (q0 : Nat) (m0 : q0 ∈ L ∧ tk f q0 = 27) (p_0 : Int32)   : Met l y_Md_coins (.code y_Md_coins b_Md_coins 5 (some .int) :: TB) ({ frames := 0, cells := 0, slots := 0, locals := 0 }) (va_Pc [.ref q0, .int p_0] (PR dC dI (TW ct L f) (TT ct))) (vp_Si (fun r => True)) 0 0 (fun _ => False) := by
  refine Met.ofW (cc := b_Md_coins) (maxL := 5) (ret := (some .int)) (by decide) rfl ?_
  intro p e s m args below meth c s₁ B hml hv
  obtain ⟨rfl, hP, hK, hN⟩ := hv
  have hx := B.exec
  have hb := B.bytes
  have hr := B.returns
  have hts := atoms_spec (ws := (.code y_Md_coins b_Md_coins 5 (some .int) :: TB)) B.pre
  have htb := fun w (h : w ∈ TB) => hts w (List.mem_cons_of_mem _ h)
  have hown : s.vm.findClass R_Md = some m.cls := findClass_of_methodNamed B.named
  have hlocks := B.notSynchronized
  have hl := lv_entry ([.ref q0, .int p_0]) (n := 5) (Nat.le_of_ble_eq_true rfl)
  rw [lg_entry_eq]
  generalize (lg_sl ([.ref q0, .int p_0]) ++ List.replicate (5 - (lg_sl ([.ref q0, .int p_0])).length) Slot.unset).toArray = ls at hl ⊢
  have hl : lv_has ls 5 [(0, .ref q0), (1, .int p_0)] := hl
  refine lv_lconst (v := 0) hx hb d_Md_coins_0 (by decide +kernel) ?_
  refine lv_lstore_n (lv' := [(2, .long 0), (0, .ref q0), (1, .int p_0)]) hx hb d_Md_coins_1 rfl hl (by decide) rfl (fun ls hl => ?_)
  refine lv_iload_n hx hb d_Md_coins_2 rfl (lv_at hl 2 rfl) ?_
  by_cases c_1 : p_0 = 0
  · refine lv_tableIn (off := 33) (tgt := 36) hx hb d_Md_coins_3 (by rw [c_1]; decide +kernel) (by rw [c_1]; decide +kernel) (by rw [c_1]; decide +kernel) (by decide) ?_
    refine lv_aload_n hx hb d_Md_coins_36 rfl (lv_at hl 1 rfl) ?_
    refine tw_getl (D := (dC, dI)) (C := R_Md) (T := F_Md) (N := 64) (ci := 7) (kd := 27) (ct := ct) hx hb htb i_Md hown hK hP m0 rfl rfl 56 (by decide) (htb (.fieldLink R_Md 316 "WaterMenModel" "box" "J") tw_649) (fun _ h9 => h9) rfl d_Md_coins_37 (fun x_2 e_2 => ?_)
    refine lv_l2i hx hb d_Md_coins_40 rfl ?_
    refine hb_anyi (fun y_3 => ?_)
    exact W.iret (v := y_3) hx hb hr (fun t ht hW => ⟨y_3, rfl, trivial, ht⟩) t_nil d_Md_coins_41
  · by_cases c_4 : p_0 = 1
    · refine lv_tableIn (off := 39) (tgt := 42) hx hb d_Md_coins_3 (by rw [c_4]; decide +kernel) (by rw [c_4]; decide +kernel) (by rw [c_4]; decide +kernel) (by decide) ?_
      refine lv_aload_n hx hb d_Md_coins_42 rfl (lv_at hl 1 rfl) ?_
      refine tw_getl (D := (dC, dI)) (C := R_Md) (T := F_Md) (N := 64) (ci := 7) (kd := 27) (ct := ct) hx hb htb i_Md hown hK hP m0 rfl rfl 57 (by decide) (htb (.fieldLink R_Md 320 "WaterMenModel" "pot" "J") tw_651) (fun _ h9 => h9) rfl d_Md_coins_43 (fun x_5 e_5 => ?_)
      refine lv_l2i hx hb d_Md_coins_46 rfl ?_
      refine hb_anyi (fun y_6 => ?_)
      exact W.iret (v := y_6) hx hb hr (fun t ht hW => ⟨y_6, rfl, trivial, ht⟩) t_nil d_Md_coins_47
    · by_cases c_7 : p_0 = 2
      · refine lv_tableIn (off := 45) (tgt := 48) hx hb d_Md_coins_3 (by rw [c_7]; decide +kernel) (by rw [c_7]; decide +kernel) (by rw [c_7]; decide +kernel) (by decide) ?_
        refine lv_iconst (v := 0) hx hb d_Md_coins_48 (by decide +kernel) ?_
        refine lv_istore (lv' := [(4, .int 0), (2, .long 0), (0, .ref q0), (1, .int p_0)]) hx hb d_Md_coins_49 hl (by decide) rfl (fun ls hl => ?_)
        have cut_8 : ∀ (n_8 : Nat) (v4_8 : Int32) (v2_8 : Int64) (ls : Array Slot), ¬ (v4_8 < 0) → ¬ (40 < v4_8) → (40 : Int32).toInt - (v4_8 : Int32).toInt ≤ (n_8 : Int) → lv_has ls 5 [(0, .ref q0), (2, .long v2_8), (4, .int v4_8)] → W p l e (headSpec (.code y_Md_coins b_Md_coins 5 (some .int) :: TB) ({ frames := 0, cells := 0, slots := 0, locals := 0 })).room s m [.ref q0, .int p_0].toArray below meth c s.heap [] 0 0 (MQ below (vp_Si (fun r => True)) [.ref q0, .int p_0].toArray s 0 0 (fun _ => False)) (F0 m 51 ls []) := by
          intro n_8
          induction n_8 using Nat.strongRecOn with
          | _ n_8 ih_8 =>
            intro v4_8 v2_8 ls iv0_8 iv1_8 hm_8 hl
            refine lv_iload hx hb d_Md_coins_51 (lv_at hl 2 rfl) ?_
            refine lv_bipush (v := 40) hx hb d_Md_coins_53 (by decide +kernel) ?_
            refine lv_icmp_ge (tgt := 75) hx hb d_Md_coins_55 (by decide) (fun c_9 => ?_) (fun c_9 => ?_)
            · refine lv_lload_n hx hb d_Md_coins_75 rfl (lv_at hl 1 rfl) ?_
              refine lv_l2i hx hb d_Md_coins_76 rfl ?_
              refine hb_anyi (fun y_10 => ?_)
              exact W.iret (v := y_10) hx hb hr (fun t ht hW => ⟨y_10, rfl, trivial, ht⟩) t_nil d_Md_coins_77
            · refine lv_lload_n hx hb d_Md_coins_58 rfl (lv_at hl 1 rfl) ?_
              refine lv_aload_n hx hb d_Md_coins_59 rfl (lv_at hl 0 rfl) ?_
              refine tw_getr (D := (dC, dI)) (C := R_Md) (T := F_Md) (N := 64) (ci := 7) (kd := 27) (ct := ct) hx hb htb i_Md hown hK hP hO_0 m0 rfl rfl 15 (by decide) (htb (.fieldLink R_Md 76 "WaterMenModel" "coins" "[I") tw_526) (fun _ h9 => h9) rfl d_Md_coins_60 (fun q_11 e_11 m_11 => ?_)
              refine lv_iload hx hb d_Md_coins_63 (lv_at hl 2 rfl) ?_
              refine tw_aldI (ct := ct) hx hb hK hP hO_0 m_11 rfl (hb_in iv0_8 c_9 (by decide +kernel)) d_Md_coins_65 (fun x_12 e_12 b_12 => ?_)
              refine lv_i2l hx hb d_Md_coins_66 rfl ?_
              refine lv_ladd hx hb d_Md_coins_67 ?_
              refine hb_anyl (fun y_13 => ?_)
              refine lv_lstore_n (lv' := [(2, .long y_13), (0, .ref q0), (4, .int v4_8)]) hx hb d_Md_coins_68 rfl hl (by decide) rfl (fun ls hl => ?_)
              refine lv_iinc (v := (v4_8 + 1)) (lv' := [(4, .int (v4_8 + 1)), (2, .long y_13), (0, .ref q0)]) hx hb d_Md_coins_69 hl (k := 2) rfl rfl (by decide) rfl (fun ls hl => ?_)
              refine lv_goto (tgt := 51) hx hb d_Md_coins_72 (by decide) ?_
              exact ih_8 (n_8 - 1) (ms_1 ((fun (a_0 : Int32) (k_0 : ¬ (40 ≤ a_0)) => (show 1 ≤ (40 : Int32).toInt - (a_0).toInt ∧ (40 : Int32).toInt - ((a_0) + (1 : Int32)).toInt + 1 ≤ (40 : Int32).toInt - (a_0).toInt from by have z0 : (1 : Int32).toInt = 1 := (by decide +kernel); have z1 : (40 : Int32).toInt = 40 := (by decide +kernel); have r0 := fb_rng (a_0); have e0 := k_0; rw [Int32.le_iff_toInt_le, z1] at e0; obtain ⟨n_0, hn_0, s0⟩ := nd_add (x := (a_0)) (y := (1 : Int32)) (by (try rw [z0]); omega) (by (try rw [z0]); omega); rw [z0] at s0; rw [hn_0]; (try rw [z1]); omega)) v4_8 c_9) hm_8) (v4_8 + 1) y_13 _ (show ¬ ((v4_8 + 1) < 0) from by have e0 := iv0_8; rw [Int32.lt_iff_toInt_lt] at e0; have e1 := c_9; rw [Int32.le_iff_toInt_le] at e1; have z0 : (0 : Int32).toInt = 0 := (by decide +kernel); have z1 : (1 : Int32).toInt = 1 := (by decide +kernel); have z2 : (40 : Int32).toInt = 40 := (by decide +kernel); have ss := fb_addI (x := v4_8) (y := 1) (by omega) (by omega); rw [Int32.lt_iff_toInt_lt]; omega) (show ¬ (40 < (v4_8 + 1)) from by have e0 := iv0_8; rw [Int32.lt_iff_toInt_lt] at e0; have e1 := c_9; rw [Int32.le_iff_toInt_le] at e1; have z0 : (0 : Int32).toInt = 0 := (by decide +kernel); have z1 : (1 : Int32).toInt = 1 := (by decide +kernel); have z2 : (40 : Int32).toInt = 40 := (by decide +kernel); have ss := fb_addI (x := v4_8) (y := 1) (by omega) (by omega); rw [Int32.lt_iff_toInt_lt]; omega) (by exact ms_2 ((fun (a_0 : Int32) (k_0 : ¬ (40 ≤ a_0)) => (show 1 ≤ (40 : Int32).toInt - (a_0).toInt ∧ (40 : Int32).toInt - ((a_0) + (1 : Int32)).toInt + 1 ≤ (40 : Int32).toInt - (a_0).toInt from by have z0 : (1 : Int32).toInt = 1 := (by decide +kernel); have z1 : (40 : Int32).toInt = 40 := (by decide +kernel); have r0 := fb_rng (a_0); have e0 := k_0; rw [Int32.le_iff_toInt_le, z1] at e0; obtain ⟨n_0, hn_0, s0⟩ := nd_add (x := (a_0)) (y := (1 : Int32)) (by (try rw [z0]); omega) (by (try rw [z0]); omega); rw [z0] at s0; rw [hn_0]; (try rw [z1]); omega)) v4_8 c_9) hm_8) (lv_sub hl [2, 1, 0] rfl)
        exact cut_8 4294967296 (0 : Int32) 0 _ (by decide +kernel) (by decide +kernel) (by exact ms_0 _ _) (lv_sub hl [2, 1, 0] rfl)
      · by_cases c_14 : p_0 = 3
        · refine lv_tableIn (off := 75) (tgt := 78) hx hb d_Md_coins_3 (by rw [c_14]; decide +kernel) (by rw [c_14]; decide +kernel) (by rw [c_14]; decide +kernel) (by decide) ?_
          refine lv_iconst (v := 0) hx hb d_Md_coins_78 (by decide +kernel) ?_
          refine lv_istore (lv' := [(4, .int 0), (2, .long 0), (0, .ref q0), (1, .int p_0)]) hx hb d_Md_coins_79 hl (by decide) rfl (fun ls hl => ?_)
          have cut_15 : ∀ (n_15 : Nat) (v4_15 : Int32) (v2_15 : Int64) (ls : Array Slot), ¬ (v4_15 < 0) → ¬ (600 < v4_15) → (600 : Int32).toInt - (v4_15 : Int32).toInt ≤ (n_15 : Int) → lv_has ls 5 [(0, .ref q0), (2, .long v2_15), (4, .int v4_15)] → W p l e (headSpec (.code y_Md_coins b_Md_coins 5 (some .int) :: TB) ({ frames := 0, cells := 0, slots := 0, locals := 0 })).room s m [.ref q0, .int p_0].toArray below meth c s.heap [] 0 0 (MQ below (vp_Si (fun r => True)) [.ref q0, .int p_0].toArray s 0 0 (fun _ => False)) (F0 m 81 ls []) := by
            intro n_15
            induction n_15 using Nat.strongRecOn with
            | _ n_15 ih_15 =>
              intro v4_15 v2_15 ls iv0_15 iv1_15 hm_15 hl
              refine lv_iload hx hb d_Md_coins_81 (lv_at hl 2 rfl) ?_
              refine lv_aload_n hx hb d_Md_coins_83 rfl (lv_at hl 0 rfl) ?_
              refine tw_geti (D := (dC, dI)) (C := R_Md) (T := F_Md) (N := 64) (ci := 7) (kd := 27) (ct := ct) hx hb htb i_Md hown hK hP hO_0 m0 rfl rfl 47 (by decide) (htb (.fieldLink R_Md 313 "WaterMenModel" "trips" "I") tw_641) (fun _ h9 => h9) rfl d_Md_coins_84 (fun x_16 e_16 b_16 => ?_)
              refine lv_icmp_ge (tgt := 107) hx hb d_Md_coins_87 (by decide) (fun c_17 => ?_) (fun c_17 => ?_)
              · refine lv_lload_n hx hb d_Md_coins_107 rfl (lv_at hl 1 rfl) ?_
                refine lv_l2i hx hb d_Md_coins_108 rfl ?_
                refine hb_anyi (fun y_18 => ?_)
                exact W.iret (v := y_18) hx hb hr (fun t ht hW => ⟨y_18, rfl, trivial, ht⟩) t_nil d_Md_coins_109
              · refine lv_lload_n hx hb d_Md_coins_90 rfl (lv_at hl 1 rfl) ?_
                refine lv_aload_n hx hb d_Md_coins_91 rfl (lv_at hl 0 rfl) ?_
                refine tw_getr (D := (dC, dI)) (C := R_Md) (T := F_Md) (N := 64) (ci := 7) (kd := 27) (ct := ct) hx hb htb i_Md hown hK hP hO_0 m0 rfl rfl 54 (by decide) (htb (.fieldLink R_Md 167 "WaterMenModel" "tripPaid" "[I") tw_647) (fun _ h9 => h9) rfl d_Md_coins_92 (fun q_19 e_19 m_19 => ?_)
                refine lv_iload hx hb d_Md_coins_95 (lv_at hl 2 rfl) ?_
                refine tw_aldI (ct := ct) hx hb hK hP hO_0 m_19 rfl ((fun (a_0 : Int32) (a_1 : Int32) (k_0 : ¬ (a_0 < 0)) (k_1 : ¬ (a_1 ≤ a_0)) (k_2 : ¬ (600 < a_1)) => (show vp_in (a_0) 600 from by have z0 : (0 : Int32).toInt = 0 := (by decide +kernel); have z1 : (600 : Int32).toInt = 600 := (by decide +kernel); have r0 := fb_rng (a_0); have r1 := fb_rng (a_1); have e0 := k_0; rw [Int32.lt_iff_toInt_lt, z0] at e0; have e1 := k_1; rw [Int32.le_iff_toInt_le] at e1; have e2 := k_2; rw [Int32.lt_iff_toInt_lt, z1] at e2; rw [vp_in_iff]; omega)) v4_15 x_16 iv0_15 c_17 b_16.2) d_Md_coins_97 (fun x_20 e_20 b_20 => ?_)
                refine lv_i2l hx hb d_Md_coins_98 rfl ?_
                refine lv_ladd hx hb d_Md_coins_99 ?_
                refine hb_anyl (fun y_21 => ?_)
                refine lv_lstore_n (lv' := [(2, .long y_21), (0, .ref q0), (4, .int v4_15)]) hx hb d_Md_coins_100 rfl hl (by decide) rfl (fun ls hl => ?_)
                refine lv_iinc (v := (v4_15 + 1)) (lv' := [(4, .int (v4_15 + 1)), (2, .long y_21), (0, .ref q0)]) hx hb d_Md_coins_101 hl (k := 2) rfl rfl (by decide) rfl (fun ls hl => ?_)
                refine lv_goto (tgt := 81) hx hb d_Md_coins_104 (by decide) ?_
                exact ih_15 (n_15 - 1) (ms_1 ((fun (a_0 : Int32) (a_1 : Int32) (k_0 : ¬ (a_1 ≤ a_0)) (k_1 : ¬ (600 < a_1)) => (show 1 ≤ (600 : Int32).toInt - (a_0).toInt ∧ (600 : Int32).toInt - ((a_0) + (1 : Int32)).toInt + 1 ≤ (600 : Int32).toInt - (a_0).toInt from by have z0 : (1 : Int32).toInt = 1 := (by decide +kernel); have z1 : (600 : Int32).toInt = 600 := (by decide +kernel); have r0 := fb_rng (a_0); have r1 := fb_rng (a_1); have e0 := k_0; rw [Int32.le_iff_toInt_le] at e0; have e1 := k_1; rw [Int32.lt_iff_toInt_lt, z1] at e1; obtain ⟨n_0, hn_0, s0⟩ := nd_add (x := (a_0)) (y := (1 : Int32)) (by (try rw [z0]); omega) (by (try rw [z0]); omega); rw [z0] at s0; rw [hn_0]; (try rw [z1]); omega)) v4_15 x_16 c_17 b_16.2) hm_15) (v4_15 + 1) y_21 _ (show ¬ ((v4_15 + 1) < 0) from by have e0 := iv0_15; rw [Int32.lt_iff_toInt_lt] at e0; have e1 := iv1_15; rw [Int32.lt_iff_toInt_lt] at e1; have z0 : (0 : Int32).toInt = 0 := (by decide +kernel); have z1 : (1 : Int32).toInt = 1 := (by decide +kernel); have z2 : (600 : Int32).toInt = 600 := (by decide +kernel); have ss := fb_addI (x := v4_15) (y := 1) (by omega) (by omega); rw [Int32.lt_iff_toInt_lt]; omega) (show ¬ (600 < (v4_15 + 1)) from ((fun (a_0 : Int32) (a_1 : Int32) (k_0 : ¬ (a_1 ≤ a_0)) (k_1 : ¬ (600 < a_1)) => (show ¬ (600 < (a_0 + 1)) from by have z0 : (1 : Int32).toInt = 1 := (by decide +kernel); have z1 : (600 : Int32).toInt = 600 := (by decide +kernel); have r0 := fb_rng (a_0); have r1 := fb_rng (a_1); have e0 := k_0; rw [Int32.le_iff_toInt_le] at e0; have e1 := k_1; rw [Int32.lt_iff_toInt_lt, z1] at e1; obtain ⟨n_0, hn_0, s0⟩ := nd_add (x := (a_0)) (y := (1 : Int32)) (by (try rw [z0]); omega) (by (try rw [z0]); omega); rw [z0] at s0; rw [hn_0, Int32.lt_iff_toInt_lt, z1]; omega)) v4_15 x_16 c_17 b_16.2)) (by exact ms_2 ((fun (a_0 : Int32) (a_1 : Int32) (k_0 : ¬ (a_1 ≤ a_0)) (k_1 : ¬ (600 < a_1)) => (show 1 ≤ (600 : Int32).toInt - (a_0).toInt ∧ (600 : Int32).toInt - ((a_0) + (1 : Int32)).toInt + 1 ≤ (600 : Int32).toInt - (a_0).toInt from by have z0 : (1 : Int32).toInt = 1 := (by decide +kernel); have z1 : (600 : Int32).toInt = 600 := (by decide +kernel); have r0 := fb_rng (a_0); have r1 := fb_rng (a_1); have e0 := k_0; rw [Int32.le_iff_toInt_le] at e0; have e1 := k_1; rw [Int32.lt_iff_toInt_lt, z1] at e1; obtain ⟨n_0, hn_0, s0⟩ := nd_add (x := (a_0)) (y := (1 : Int32)) (by (try rw [z0]); omega) (by (try rw [z0]); omega); rw [z0] at s0; rw [hn_0]; (try rw [z1]); omega)) v4_15 x_16 c_17 b_16.2) hm_15) (lv_sub hl [2, 1, 0] rfl)
          exact cut_15 4294967296 (0 : Int32) 0 _ (by decide +kernel) (by decide +kernel) (by exact ms_0 _ _) (lv_sub hl [2, 1, 0] rfl)
        · by_cases c_22 : p_0 = 4
          · refine lv_tableIn (off := 107) (tgt := 110) hx hb d_Md_coins_3 (by rw [c_22]; decide +kernel) (by rw [c_22]; decide +kernel) (by rw [c_22]; decide +kernel) (by decide) ?_
            refine lv_aload_n hx hb d_Md_coins_110 rfl (lv_at hl 1 rfl) ?_
            refine tw_getl (D := (dC, dI)) (C := R_Md) (T := F_Md) (N := 64) (ci := 7) (kd := 27) (ct := ct) hx hb htb i_Md hown hK hP m0 rfl rfl 58 (by decide) (htb (.fieldLink R_Md 326 "WaterMenModel" "paidOut" "J") tw_657) (fun _ h9 => h9) rfl d_Md_coins_111 (fun x_23 e_23 => ?_)
            refine lv_l2i hx hb d_Md_coins_114 rfl ?_
            refine hb_anyi (fun y_24 => ?_)
            exact W.iret (v := y_24) hx hb hr (fun t ht hW => ⟨y_24, rfl, trivial, ht⟩) t_nil d_Md_coins_115
          · refine lv_tableOut (tgt := 116) hx hb d_Md_coins_3 (by have h0 := lv_neT c_1 (show (0 : Int32).toInt = 0 by decide +kernel); have h1 := lv_neT c_4 (show (1 : Int32).toInt = 1 by decide +kernel); have h2 := lv_neT c_7 (show (2 : Int32).toInt = 2 by decide +kernel); have h3 := lv_neT c_14 (show (3 : Int32).toInt = 3 by decide +kernel); have h4 := lv_neT c_22 (show (4 : Int32).toInt = 4 by decide +kernel); omega) (by decide) ?_
            refine lv_iconst (v := (-1)) hx hb d_Md_coins_116 (by decide +kernel) ?_
            exact W.iret (v := (-1)) hx hb hr (fun t ht hW => ⟨(-1), rfl, trivial, ht⟩) t_nil d_Md_coins_117
