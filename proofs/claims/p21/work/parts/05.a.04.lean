set_option maxHeartbeats 4000000 in
set_option maxRecDepth 100000 in
theorem c_Bx_firstShortDay_t (l : Launch) (dC : Nat → ClassId) (dI : Nat → Nat → Nat) (ct : Nat → ClassId) (L : List Nat) (f : TF) (hO_0 : Ok L f) (q0 : Nat) (m0 : q0 ∈ L ∧ tk f q0 = 12) (p_0 : Int32)  (as_0 : ¬ (p_0 < 0)) (as_1 : ¬ (499 < p_0)) : Met l y_Bx_firstShortDay (.code y_Bx_firstShortDay b_Bx_firstShortDay 8 (some .int) :: TB) ({ frames := 2, cells := 0, slots := 0, locals := 45 }) (va_Pc [.ref q0, .int p_0] (PR dC dI (TW ct L f) (TT ct))) (vp_Si (fun r => True)) 0 0 (fun _ => False) := by
  refine Met.ofW (cc := b_Bx_firstShortDay) (maxL := 8) (ret := (some .int)) (by decide) rfl ?_
  intro p e s m args below meth c s₁ B hml hv
  obtain ⟨rfl, hP, hK, hN⟩ := hv
  have hx := B.exec
  have hb := B.bytes
  have hr := B.returns
  have hts := atoms_spec (ws := (.code y_Bx_firstShortDay b_Bx_firstShortDay 8 (some .int) :: TB)) B.pre
  have htb := fun w (h : w ∈ TB) => hts w (List.mem_cons_of_mem _ h)
  have hown : s.vm.findClass R_Bx = some m.cls := findClass_of_methodNamed B.named
  have hlocks := B.notSynchronized
  have hl := lv_entry ([.ref q0, .int p_0]) (n := 8) (Nat.le_of_ble_eq_true rfl)
  rw [lg_entry_eq]
  generalize (lg_sl ([.ref q0, .int p_0]) ++ List.replicate (8 - (lg_sl ([.ref q0, .int p_0])).length) Slot.unset).toArray = ls at hl ⊢
  have hl : lv_has ls 8 [(0, .ref q0), (1, .int p_0)] := hl
  refine lv_lconst (v := 0) hx hb d_Bx_firstShortDay_0 (by decide +kernel) ?_
  refine lv_lstore_n (lv' := [(2, .long 0), (0, .ref q0), (1, .int p_0)]) hx hb d_Bx_firstShortDay_1 rfl hl (by decide) rfl (fun ls hl => ?_)
  refine lv_iconst (v := 0) hx hb d_Bx_firstShortDay_2 (by decide +kernel) ?_
  refine lv_iload_n hx hb d_Bx_firstShortDay_3 rfl (lv_at hl 2 rfl) ?_
  refine lv_bipush (v := 100) hx hb d_Bx_firstShortDay_4 (by decide +kernel) ?_
  refine lv_isub hx hb d_Bx_firstShortDay_6 ?_
  refine va_mmax hx hb (hml.trans hl.1.symm) hown (htb (.methodLink R_Bx 51 Lib.Math.max.name) tw_112) (htb (.static Lib.Math.max.name) tw_39) (htb (.initialized "java/lang/Math") tw_32) (htb (.code Lib.Math.max.name Lib.Math.max.code 2 (some .int)) tw_40) (Nat.le_of_ble_eq_true rfl) (Nat.le_of_ble_eq_true rfl) (Nat.le_of_ble_eq_true rfl) (Nat.le_of_ble_eq_true rfl) d_Bx_firstShortDay_7 ?_
  by_cases c_1 : 0 < (p_0 - 100)
  · refine hb_ti (p_0 - 100) (if_pos c_1) ?_
    refine lv_istore (lv' := [(4, .int (p_0 - 100)), (2, .long 0), (0, .ref q0), (1, .int p_0)]) hx hb d_Bx_firstShortDay_10 hl (by decide) rfl (fun ls hl => ?_)
    have cut_2 : ∀ (n_2 : Nat) (v4_2 : Int32) (v2_2 : Int64) (ls : Array Slot), ¬ (v4_2 < 0) → ¬ (500 < v4_2) → (500 : Int32).toInt - (v4_2 : Int32).toInt ≤ (n_2 : Int) → lv_has ls 8 [(0, .ref q0), (1, .int p_0), (2, .long v2_2), (4, .int v4_2)] → W p l e (headSpec (.code y_Bx_firstShortDay b_Bx_firstShortDay 8 (some .int) :: TB) ({ frames := 2, cells := 0, slots := 0, locals := 45 })).room s m [.ref q0, .int p_0].toArray below meth c s.heap [] 0 0 (MQ below (vp_Si (fun r => True)) [.ref q0, .int p_0].toArray s 0 0 (fun _ => False)) (F0 m 12 ls []) := by
      intro n_2
      induction n_2 using Nat.strongRecOn with
      | _ n_2 ih_2 =>
        intro v4_2 v2_2 ls iv0_2 iv1_2 hm_2 hl
        refine lv_iload hx hb d_Bx_firstShortDay_12 (lv_at hl 3 rfl) ?_
        refine lv_iload_n hx hb d_Bx_firstShortDay_14 rfl (lv_at hl 1 rfl) ?_
        refine lv_icmp_gt (tgt := 35) hx hb d_Bx_firstShortDay_15 (by decide) (fun c_3 => ?_) (fun c_3 => ?_)
        · refine lv_aload_n hx hb d_Bx_firstShortDay_35 rfl (lv_at hl 0 rfl) ?_
          refine tw_geti (D := (dC, dI)) (C := R_Bx) (T := F_Bx) (N := 7) (ci := 5) (kd := 12) (ct := ct) hx hb htb i_Bx hown hK hP hO_0 m0 rfl rfl 0 (by decide) (htb (.fieldLink R_Bx 21 "WaterMen$Box" "coins" "I") tw_88) (fun _ h9 => h9) rfl d_Bx_firstShortDay_36 (fun x_4 e_4 b_4 => ?_)
          refine lv_i2l hx hb d_Bx_firstShortDay_39 rfl ?_
          refine lv_lstore (lv' := [(4, .long ((x_4 : Int32).toInt64)), (0, .ref q0), (1, .int p_0), (2, .long v2_2)]) hx hb d_Bx_firstShortDay_40 hl (by decide) rfl (fun ls hl => ?_)
          refine lv_iload_n hx hb d_Bx_firstShortDay_42 rfl (lv_at hl 2 rfl) ?_
          refine lv_iload_n hx hb d_Bx_firstShortDay_43 rfl (lv_at hl 2 rfl) ?_
          refine lv_bipush (v := 100) hx hb d_Bx_firstShortDay_44 (by decide +kernel) ?_
          refine lv_irem hx hb d_Bx_firstShortDay_46 (by decide) ?_
          refine hb_remn (c := 100) (C1 := 99) (K := 2147483547) (by decide +kernel) (by decide +kernel) (by decide +kernel) as_0 (show ¬ (2147483547 < p_0) from by have e0 := as_0; rw [Int32.lt_iff_toInt_lt] at e0; have e1 := as_1; rw [Int32.lt_iff_toInt_lt] at e1; have z0 : (0 : Int32).toInt = 0 := (by decide +kernel); have z1 : (499 : Int32).toInt = 499 := (by decide +kernel); have z2 : (2147483547 : Int32).toInt = 2147483547 := (by decide +kernel); rw [Int32.lt_iff_toInt_lt]; omega) (fun y_5 qu_5 g1_5 g2_5 g3_5 g4_5 g5_5 g9_5 => ?_)
          refine lv_isub hx hb d_Bx_firstShortDay_47 ?_
          refine lv_istore (lv' := [(6, .int (p_0 - y_5)), (4, .long ((x_4 : Int32).toInt64)), (0, .ref q0), (1, .int p_0), (2, .long v2_2)]) hx hb d_Bx_firstShortDay_48 hl (by decide) rfl (fun ls hl => ?_)
          refine lv_iconst (v := 0) hx hb d_Bx_firstShortDay_50 (by decide +kernel) ?_
          refine lv_istore (lv' := [(7, .int 0), (6, .int (p_0 - y_5)), (4, .long ((x_4 : Int32).toInt64)), (0, .ref q0), (1, .int p_0), (2, .long v2_2)]) hx hb d_Bx_firstShortDay_51 hl (by decide) rfl (fun ls hl => ?_)
          have cut_6 : ∀ (n_6 : Nat) (v6_6 v7_6 : Int32) (v4_6 : Int64) (ls : Array Slot), ¬ (v7_6 < 0) → ¬ (40 < v7_6) → (40 : Int32).toInt - (v7_6 : Int32).toInt ≤ (n_6 : Int) → lv_has ls 8 [(0, .ref q0), (2, .long v2_2), (4, .long v4_6), (6, .int v6_6), (7, .int v7_6)] → W p l e (headSpec (.code y_Bx_firstShortDay b_Bx_firstShortDay 8 (some .int) :: TB) ({ frames := 2, cells := 0, slots := 0, locals := 45 })).room s m [.ref q0, .int p_0].toArray below meth c s.heap [] 0 0 (MQ below (vp_Si (fun r => True)) [.ref q0, .int p_0].toArray s 0 0 (fun _ => False)) (F0 m 53 ls []) := by
            intro n_6
            induction n_6 using Nat.strongRecOn with
            | _ n_6 ih_6 =>
              intro v6_6 v7_6 v4_6 ls iv0_6 iv1_6 hm_6 hl
              refine lv_iload hx hb d_Bx_firstShortDay_53 (lv_at hl 4 rfl) ?_
              refine lv_bipush (v := 40) hx hb d_Bx_firstShortDay_55 (by decide +kernel) ?_
              refine lv_icmp_ge (tgt := 93) hx hb d_Bx_firstShortDay_57 (by decide) (fun c_7 => ?_) (fun c_7 => ?_)
              · refine lv_iconst (v := (-1)) hx hb d_Bx_firstShortDay_93 (by decide +kernel) ?_
                exact W.iret (v := (-1)) hx hb hr (fun t ht hW => ⟨(-1), rfl, trivial, ht⟩) t_nil d_Bx_firstShortDay_94
              · refine lv_iinc (v := (v6_6 + 100)) (lv' := [(6, .int (v6_6 + 100)), (0, .ref q0), (2, .long v2_2), (4, .long v4_6), (7, .int v7_6)]) hx hb d_Bx_firstShortDay_60 hl (k := 3) rfl rfl (by decide) rfl (fun ls hl => ?_)
                refine lv_lload hx hb d_Bx_firstShortDay_63 (lv_at hl 3 rfl) ?_
                refine lv_lload_n hx hb d_Bx_firstShortDay_65 rfl (lv_at hl 2 rfl) ?_
                refine lv_aload_n hx hb d_Bx_firstShortDay_66 rfl (lv_at hl 1 rfl) ?_
                refine lv_iload hx hb d_Bx_firstShortDay_67 (lv_at hl 0 rfl) ?_
                refine vp_callSi (va_Run.run (va_runV (As := [.int (v6_6 + 100)]) (rest := [.long v2_2, .long v4_6]) ⟨hx, hb, hml, hown, htb⟩ (c_Bx_owedOn_t l dC dI ct L f hO_0 q0 m0 (v6_6 + 100)) (cwV 1 htb (gd_V tw_114 tw_115 tw_116 tw_104 tw_113) rfl rfl rfl (by decide +kernel) ⟨Nat.le_of_ble_eq_true rfl, Nat.le_of_ble_eq_true rfl⟩) ⟨pr_blind, tw_recv hK hP m0 rfl rfl, pr_pre hP hK hN⟩ rfl rfl hl.1 rfl (lv_room (Nat.le_of_ble_eq_true rfl)) d_Bx_firstShortDay_69 ⟨Nat.le_of_ble_eq_true rfl, Nat.le_of_ble_eq_true rfl⟩)) (fun r_8 er_8 => ?_)
                clear er_8
                refine lv_i2l hx hb d_Bx_firstShortDay_72 rfl ?_
                refine lv_lsub hx hb d_Bx_firstShortDay_73 ?_
                refine hb_anyl (fun y_9 => ?_)
                refine lv_ladd hx hb d_Bx_firstShortDay_74 ?_
                refine hb_anyl (fun y_10 => ?_)
                refine lv_lstore (lv' := [(4, .long y_10), (6, .int (v6_6 + 100)), (0, .ref q0), (2, .long v2_2), (7, .int v7_6)]) hx hb d_Bx_firstShortDay_75 hl (by decide) rfl (fun ls hl => ?_)
                refine lv_lload hx hb d_Bx_firstShortDay_77 (lv_at hl 0 rfl) ?_
                refine lv_lconst (v := 0) hx hb d_Bx_firstShortDay_79 (by decide +kernel) ?_
                refine W.lcmp hx hb d_Bx_firstShortDay_80 ?_
                refine hb_anyi (fun y_11 => ?_)
                refine lv_if_ge (tgt := 87) hx hb d_Bx_firstShortDay_81 (by decide) (fun c_12 => ?_) (fun c_12 => ?_)
                · refine lv_iinc (v := (v7_6 + 1)) (lv' := [(7, .int (v7_6 + 1)), (4, .long y_10), (6, .int (v6_6 + 100)), (0, .ref q0), (2, .long v2_2)]) hx hb d_Bx_firstShortDay_87 hl (k := 4) rfl rfl (by decide) rfl (fun ls hl => ?_)
                  refine lv_goto (tgt := 53) hx hb d_Bx_firstShortDay_90 (by decide) ?_
                  exact ih_6 (n_6 - 1) (ms_1 ((fun (a_0 : Int32) (k_0 : ¬ (40 ≤ a_0)) => (show 1 ≤ (40 : Int32).toInt - (a_0).toInt ∧ (40 : Int32).toInt - ((a_0) + (1 : Int32)).toInt + 1 ≤ (40 : Int32).toInt - (a_0).toInt from by have z0 : (1 : Int32).toInt = 1 := (by decide +kernel); have z1 : (40 : Int32).toInt = 40 := (by decide +kernel); have r0 := fb_rng (a_0); have e0 := k_0; rw [Int32.le_iff_toInt_le, z1] at e0; obtain ⟨n_0, hn_0, s0⟩ := nd_add (x := (a_0)) (y := (1 : Int32)) (by (try rw [z0]); omega) (by (try rw [z0]); omega); rw [z0] at s0; rw [hn_0]; (try rw [z1]); omega)) v7_6 c_7) hm_6) (v6_6 + 100) (v7_6 + 1) y_10 _ (show ¬ ((v7_6 + 1) < 0) from by have e0 := iv0_6; rw [Int32.lt_iff_toInt_lt] at e0; have e1 := c_7; rw [Int32.le_iff_toInt_le] at e1; have z0 : (0 : Int32).toInt = 0 := (by decide +kernel); have z1 : (1 : Int32).toInt = 1 := (by decide +kernel); have z2 : (40 : Int32).toInt = 40 := (by decide +kernel); have ss := fb_addI (x := v7_6) (y := 1) (by omega) (by omega); rw [Int32.lt_iff_toInt_lt]; omega) (show ¬ (40 < (v7_6 + 1)) from by have e0 := iv0_6; rw [Int32.lt_iff_toInt_lt] at e0; have e1 := c_7; rw [Int32.le_iff_toInt_le] at e1; have z0 : (0 : Int32).toInt = 0 := (by decide +kernel); have z1 : (1 : Int32).toInt = 1 := (by decide +kernel); have z2 : (40 : Int32).toInt = 40 := (by decide +kernel); have ss := fb_addI (x := v7_6) (y := 1) (by omega) (by omega); rw [Int32.lt_iff_toInt_lt]; omega) (by exact ms_2 ((fun (a_0 : Int32) (k_0 : ¬ (40 ≤ a_0)) => (show 1 ≤ (40 : Int32).toInt - (a_0).toInt ∧ (40 : Int32).toInt - ((a_0) + (1 : Int32)).toInt + 1 ≤ (40 : Int32).toInt - (a_0).toInt from by have z0 : (1 : Int32).toInt = 1 := (by decide +kernel); have z1 : (40 : Int32).toInt = 40 := (by decide +kernel); have r0 := fb_rng (a_0); have e0 := k_0; rw [Int32.le_iff_toInt_le, z1] at e0; obtain ⟨n_0, hn_0, s0⟩ := nd_add (x := (a_0)) (y := (1 : Int32)) (by (try rw [z0]); omega) (by (try rw [z0]); omega); rw [z0] at s0; rw [hn_0]; (try rw [z1]); omega)) v7_6 c_7) hm_6) (lv_sub hl [3, 4, 1, 2, 0] rfl)
                · refine lv_iload hx hb d_Bx_firstShortDay_84 (lv_at hl 1 rfl) ?_
                  exact W.iret (v := (v6_6 + 100)) hx hb hr (fun t ht hW => ⟨(v6_6 + 100), rfl, trivial, ht⟩) t_nil d_Bx_firstShortDay_86
          exact cut_6 4294967296 (p_0 - y_5) (0 : Int32) ((x_4 : Int32).toInt64) _ (by decide +kernel) (by decide +kernel) (by exact ms_0 _ _) (lv_sub hl [3, 5, 2, 1, 0] rfl)
        · refine lv_lload_n hx hb d_Bx_firstShortDay_18 rfl (lv_at hl 2 rfl) ?_
          refine lv_aload_n hx hb d_Bx_firstShortDay_19 rfl (lv_at hl 0 rfl) ?_
          refine tw_getr (D := (dC, dI)) (C := R_Bx) (T := F_Bx) (N := 7) (ci := 5) (kd := 12) (ct := ct) hx hb htb i_Bx hown hK hP hO_0 m0 rfl rfl 4 (by decide) (htb (.fieldLink R_Bx 9 "WaterMen$Box" "income" "[I") tw_89) (fun _ h9 => h9) rfl d_Bx_firstShortDay_20 (fun q_13 e_13 m_13 => ?_)
          refine lv_iload hx hb d_Bx_firstShortDay_23 (lv_at hl 3 rfl) ?_
          refine tw_aldI (ct := ct) hx hb hK hP hO_0 m_13 rfl ((fun (a_0 : Int32) (a_1 : Int32) (k_0 : ¬ (a_1 < 0)) (k_1 : ¬ (a_0 < a_1)) (k_2 : ¬ (499 < a_0)) => (show vp_in (a_1) 500 from by have z0 : (0 : Int32).toInt = 0 := (by decide +kernel); have z1 : (499 : Int32).toInt = 499 := (by decide +kernel); have r0 := fb_rng (a_0); have r1 := fb_rng (a_1); have e0 := k_0; rw [Int32.lt_iff_toInt_lt, z0] at e0; have e1 := k_1; rw [Int32.lt_iff_toInt_lt] at e1; have e2 := k_2; rw [Int32.lt_iff_toInt_lt, z1] at e2; rw [vp_in_iff]; omega)) p_0 v4_2 iv0_2 c_3 as_1) d_Bx_firstShortDay_25 (fun x_14 e_14 b_14 => ?_)
          refine lv_i2l hx hb d_Bx_firstShortDay_26 rfl ?_
          refine lv_ladd hx hb d_Bx_firstShortDay_27 ?_
          refine hb_anyl (fun y_15 => ?_)
          refine lv_lstore_n (lv' := [(2, .long y_15), (0, .ref q0), (1, .int p_0), (4, .int v4_2)]) hx hb d_Bx_firstShortDay_28 rfl hl (by decide) rfl (fun ls hl => ?_)
          refine lv_iinc (v := (v4_2 + 1)) (lv' := [(4, .int (v4_2 + 1)), (2, .long y_15), (0, .ref q0), (1, .int p_0)]) hx hb d_Bx_firstShortDay_29 hl (k := 3) rfl rfl (by decide) rfl (fun ls hl => ?_)
          refine lv_goto (tgt := 12) hx hb d_Bx_firstShortDay_32 (by decide) ?_
          exact ih_2 (n_2 - 1) (ms_1 ((fun (a_0 : Int32) (a_1 : Int32) (k_0 : ¬ (a_0 < a_1)) (k_1 : ¬ (499 < a_0)) => (show 1 ≤ (500 : Int32).toInt - (a_1).toInt ∧ (500 : Int32).toInt - ((a_1) + (1 : Int32)).toInt + 1 ≤ (500 : Int32).toInt - (a_1).toInt from by have z0 : (1 : Int32).toInt = 1 := (by decide +kernel); have z1 : (499 : Int32).toInt = 499 := (by decide +kernel); have z2 : (500 : Int32).toInt = 500 := (by decide +kernel); have r0 := fb_rng (a_0); have r1 := fb_rng (a_1); have e0 := k_0; rw [Int32.lt_iff_toInt_lt] at e0; have e1 := k_1; rw [Int32.lt_iff_toInt_lt, z1] at e1; obtain ⟨n_0, hn_0, s0⟩ := nd_add (x := (a_1)) (y := (1 : Int32)) (by (try rw [z0]); omega) (by (try rw [z0]); omega); rw [z0] at s0; rw [hn_0]; (try rw [z2]); omega)) p_0 v4_2 c_3 as_1) hm_2) (v4_2 + 1) y_15 _ (show ¬ ((v4_2 + 1) < 0) from by have e0 := iv0_2; rw [Int32.lt_iff_toInt_lt] at e0; have e1 := iv1_2; rw [Int32.lt_iff_toInt_lt] at e1; have z0 : (0 : Int32).toInt = 0 := (by decide +kernel); have z1 : (1 : Int32).toInt = 1 := (by decide +kernel); have z2 : (500 : Int32).toInt = 500 := (by decide +kernel); have ss := fb_addI (x := v4_2) (y := 1) (by omega) (by omega); rw [Int32.lt_iff_toInt_lt]; omega) (show ¬ (500 < (v4_2 + 1)) from ((fun (a_0 : Int32) (a_1 : Int32) (k_0 : ¬ (a_0 < a_1)) (k_1 : ¬ (499 < a_0)) => (show ¬ (500 < (a_1 + 1)) from by have z0 : (1 : Int32).toInt = 1 := (by decide +kernel); have z1 : (499 : Int32).toInt = 499 := (by decide +kernel); have z2 : (500 : Int32).toInt = 500 := (by decide +kernel); have r0 := fb_rng (a_0); have r1 := fb_rng (a_1); have e0 := k_0; rw [Int32.lt_iff_toInt_lt] at e0; have e1 := k_1; rw [Int32.lt_iff_toInt_lt, z1] at e1; obtain ⟨n_0, hn_0, s0⟩ := nd_add (x := (a_1)) (y := (1 : Int32)) (by (try rw [z0]); omega) (by (try rw [z0]); omega); rw [z0] at s0; rw [hn_0, Int32.lt_iff_toInt_lt, z2]; omega)) p_0 v4_2 c_3 as_1)) (by exact ms_2 ((fun (a_0 : Int32) (a_1 : Int32) (k_0 : ¬ (a_0 < a_1)) (k_1 : ¬ (499 < a_0)) => (show 1 ≤ (500 : Int32).toInt - (a_1).toInt ∧ (500 : Int32).toInt - ((a_1) + (1 : Int32)).toInt + 1 ≤ (500 : Int32).toInt - (a_1).toInt from by have z0 : (1 : Int32).toInt = 1 := (by decide +kernel); have z1 : (499 : Int32).toInt = 499 := (by decide +kernel); have z2 : (500 : Int32).toInt = 500 := (by decide +kernel); have r0 := fb_rng (a_0); have r1 := fb_rng (a_1); have e0 := k_0; rw [Int32.lt_iff_toInt_lt] at e0; have e1 := k_1; rw [Int32.lt_iff_toInt_lt, z1] at e1; obtain ⟨n_0, hn_0, s0⟩ := nd_add (x := (a_1)) (y := (1 : Int32)) (by (try rw [z0]); omega) (by (try rw [z0]); omega); rw [z0] at s0; rw [hn_0]; (try rw [z2]); omega)) p_0 v4_2 c_3 as_1) hm_2) (lv_sub hl [2, 3, 1, 0] rfl)
    exact cut_2 4294967296 (p_0 - 100) 0 _ (show ¬ ((p_0 - 100) < 0) from by have e0 := c_1; rw [Int32.lt_iff_toInt_lt] at e0; have z0 : (0 : Int32).toInt = 0 := (by decide +kernel); have z1 : (100 : Int32).toInt = 100 := (by decide +kernel); rw [Int32.lt_iff_toInt_lt]; omega) (show ¬ (500 < (p_0 - 100)) from by have e0 := as_0; rw [Int32.lt_iff_toInt_lt] at e0; have e1 := as_1; rw [Int32.lt_iff_toInt_lt] at e1; have z0 : (0 : Int32).toInt = 0 := (by decide +kernel); have z1 : (100 : Int32).toInt = 100 := (by decide +kernel); have z2 : (499 : Int32).toInt = 499 := (by decide +kernel); have z3 : (500 : Int32).toInt = 500 := (by decide +kernel); have ss := fb_subI (x := p_0) (y := 100) (by omega) (by omega); rw [Int32.lt_iff_toInt_lt]; omega) (by exact ms_0 _ _) (lv_sub hl [2, 3, 1, 0] rfl)
  · refine hb_ti 0 (if_neg c_1) ?_
    refine lv_istore (lv' := [(4, .int 0), (2, .long 0), (0, .ref q0), (1, .int p_0)]) hx hb d_Bx_firstShortDay_10 hl (by decide) rfl (fun ls hl => ?_)
    have cut_16 : ∀ (n_16 : Nat) (v4_16 : Int32) (v2_16 : Int64) (ls : Array Slot), ¬ (v4_16 < 0) → ¬ (500 < v4_16) → (500 : Int32).toInt - (v4_16 : Int32).toInt ≤ (n_16 : Int) → lv_has ls 8 [(0, .ref q0), (1, .int p_0), (2, .long v2_16), (4, .int v4_16)] → W p l e (headSpec (.code y_Bx_firstShortDay b_Bx_firstShortDay 8 (some .int) :: TB) ({ frames := 2, cells := 0, slots := 0, locals := 45 })).room s m [.ref q0, .int p_0].toArray below meth c s.heap [] 0 0 (MQ below (vp_Si (fun r => True)) [.ref q0, .int p_0].toArray s 0 0 (fun _ => False)) (F0 m 12 ls []) := by
      intro n_16
      induction n_16 using Nat.strongRecOn with
      | _ n_16 ih_16 =>
        intro v4_16 v2_16 ls iv0_16 iv1_16 hm_16 hl
        refine lv_iload hx hb d_Bx_firstShortDay_12 (lv_at hl 3 rfl) ?_
        refine lv_iload_n hx hb d_Bx_firstShortDay_14 rfl (lv_at hl 1 rfl) ?_
        refine lv_icmp_gt (tgt := 35) hx hb d_Bx_firstShortDay_15 (by decide) (fun c_17 => ?_) (fun c_17 => ?_)
        · refine lv_aload_n hx hb d_Bx_firstShortDay_35 rfl (lv_at hl 0 rfl) ?_
          refine tw_geti (D := (dC, dI)) (C := R_Bx) (T := F_Bx) (N := 7) (ci := 5) (kd := 12) (ct := ct) hx hb htb i_Bx hown hK hP hO_0 m0 rfl rfl 0 (by decide) (htb (.fieldLink R_Bx 21 "WaterMen$Box" "coins" "I") tw_88) (fun _ h9 => h9) rfl d_Bx_firstShortDay_36 (fun x_18 e_18 b_18 => ?_)
          refine lv_i2l hx hb d_Bx_firstShortDay_39 rfl ?_
          refine lv_lstore (lv' := [(4, .long ((x_18 : Int32).toInt64)), (0, .ref q0), (1, .int p_0), (2, .long v2_16)]) hx hb d_Bx_firstShortDay_40 hl (by decide) rfl (fun ls hl => ?_)
          refine lv_iload_n hx hb d_Bx_firstShortDay_42 rfl (lv_at hl 2 rfl) ?_
          refine lv_iload_n hx hb d_Bx_firstShortDay_43 rfl (lv_at hl 2 rfl) ?_
          refine lv_bipush (v := 100) hx hb d_Bx_firstShortDay_44 (by decide +kernel) ?_
          refine lv_irem hx hb d_Bx_firstShortDay_46 (by decide) ?_
          refine hb_remn (c := 100) (C1 := 99) (K := 2147483547) (by decide +kernel) (by decide +kernel) (by decide +kernel) as_0 (show ¬ (2147483547 < p_0) from by have e0 := as_0; rw [Int32.lt_iff_toInt_lt] at e0; have e1 := as_1; rw [Int32.lt_iff_toInt_lt] at e1; have z0 : (0 : Int32).toInt = 0 := (by decide +kernel); have z1 : (499 : Int32).toInt = 499 := (by decide +kernel); have z2 : (2147483547 : Int32).toInt = 2147483547 := (by decide +kernel); rw [Int32.lt_iff_toInt_lt]; omega) (fun y_19 qu_19 g1_19 g2_19 g3_19 g4_19 g5_19 g9_19 => ?_)
          refine lv_isub hx hb d_Bx_firstShortDay_47 ?_
          refine lv_istore (lv' := [(6, .int (p_0 - y_19)), (4, .long ((x_18 : Int32).toInt64)), (0, .ref q0), (1, .int p_0), (2, .long v2_16)]) hx hb d_Bx_firstShortDay_48 hl (by decide) rfl (fun ls hl => ?_)
          refine lv_iconst (v := 0) hx hb d_Bx_firstShortDay_50 (by decide +kernel) ?_
          refine lv_istore (lv' := [(7, .int 0), (6, .int (p_0 - y_19)), (4, .long ((x_18 : Int32).toInt64)), (0, .ref q0), (1, .int p_0), (2, .long v2_16)]) hx hb d_Bx_firstShortDay_51 hl (by decide) rfl (fun ls hl => ?_)
          have cut_20 : ∀ (n_20 : Nat) (v6_20 v7_20 : Int32) (v4_20 : Int64) (ls : Array Slot), ¬ (v7_20 < 0) → ¬ (40 < v7_20) → (40 : Int32).toInt - (v7_20 : Int32).toInt ≤ (n_20 : Int) → lv_has ls 8 [(0, .ref q0), (2, .long v2_16), (4, .long v4_20), (6, .int v6_20), (7, .int v7_20)] → W p l e (headSpec (.code y_Bx_firstShortDay b_Bx_firstShortDay 8 (some .int) :: TB) ({ frames := 2, cells := 0, slots := 0, locals := 45 })).room s m [.ref q0, .int p_0].toArray below meth c s.heap [] 0 0 (MQ below (vp_Si (fun r => True)) [.ref q0, .int p_0].toArray s 0 0 (fun _ => False)) (F0 m 53 ls []) := by
            intro n_20
            induction n_20 using Nat.strongRecOn with
            | _ n_20 ih_20 =>
              intro v6_20 v7_20 v4_20 ls iv0_20 iv1_20 hm_20 hl
              refine lv_iload hx hb d_Bx_firstShortDay_53 (lv_at hl 4 rfl) ?_
              refine lv_bipush (v := 40) hx hb d_Bx_firstShortDay_55 (by decide +kernel) ?_
              refine lv_icmp_ge (tgt := 93) hx hb d_Bx_firstShortDay_57 (by decide) (fun c_21 => ?_) (fun c_21 => ?_)
              · refine lv_iconst (v := (-1)) hx hb d_Bx_firstShortDay_93 (by decide +kernel) ?_
                exact W.iret (v := (-1)) hx hb hr (fun t ht hW => ⟨(-1), rfl, trivial, ht⟩) t_nil d_Bx_firstShortDay_94
              · refine lv_iinc (v := (v6_20 + 100)) (lv' := [(6, .int (v6_20 + 100)), (0, .ref q0), (2, .long v2_16), (4, .long v4_20), (7, .int v7_20)]) hx hb d_Bx_firstShortDay_60 hl (k := 3) rfl rfl (by decide) rfl (fun ls hl => ?_)
                refine lv_lload hx hb d_Bx_firstShortDay_63 (lv_at hl 3 rfl) ?_
                refine lv_lload_n hx hb d_Bx_firstShortDay_65 rfl (lv_at hl 2 rfl) ?_
                refine lv_aload_n hx hb d_Bx_firstShortDay_66 rfl (lv_at hl 1 rfl) ?_
                refine lv_iload hx hb d_Bx_firstShortDay_67 (lv_at hl 0 rfl) ?_
                refine vp_callSi (va_Run.run (va_runV (As := [.int (v6_20 + 100)]) (rest := [.long v2_16, .long v4_20]) ⟨hx, hb, hml, hown, htb⟩ (c_Bx_owedOn_t l dC dI ct L f hO_0 q0 m0 (v6_20 + 100)) (cwV 1 htb (gd_V tw_114 tw_115 tw_116 tw_104 tw_113) rfl rfl rfl (by decide +kernel) ⟨Nat.le_of_ble_eq_true rfl, Nat.le_of_ble_eq_true rfl⟩) ⟨pr_blind, tw_recv hK hP m0 rfl rfl, pr_pre hP hK hN⟩ rfl rfl hl.1 rfl (lv_room (Nat.le_of_ble_eq_true rfl)) d_Bx_firstShortDay_69 ⟨Nat.le_of_ble_eq_true rfl, Nat.le_of_ble_eq_true rfl⟩)) (fun r_22 er_22 => ?_)
                clear er_22
                refine lv_i2l hx hb d_Bx_firstShortDay_72 rfl ?_
                refine lv_lsub hx hb d_Bx_firstShortDay_73 ?_
                refine hb_anyl (fun y_23 => ?_)
                refine lv_ladd hx hb d_Bx_firstShortDay_74 ?_
                refine hb_anyl (fun y_24 => ?_)
                refine lv_lstore (lv' := [(4, .long y_24), (6, .int (v6_20 + 100)), (0, .ref q0), (2, .long v2_16), (7, .int v7_20)]) hx hb d_Bx_firstShortDay_75 hl (by decide) rfl (fun ls hl => ?_)
                refine lv_lload hx hb d_Bx_firstShortDay_77 (lv_at hl 0 rfl) ?_
                refine lv_lconst (v := 0) hx hb d_Bx_firstShortDay_79 (by decide +kernel) ?_
                refine W.lcmp hx hb d_Bx_firstShortDay_80 ?_
                refine hb_anyi (fun y_25 => ?_)
                refine lv_if_ge (tgt := 87) hx hb d_Bx_firstShortDay_81 (by decide) (fun c_26 => ?_) (fun c_26 => ?_)
                · refine lv_iinc (v := (v7_20 + 1)) (lv' := [(7, .int (v7_20 + 1)), (4, .long y_24), (6, .int (v6_20 + 100)), (0, .ref q0), (2, .long v2_16)]) hx hb d_Bx_firstShortDay_87 hl (k := 4) rfl rfl (by decide) rfl (fun ls hl => ?_)
                  refine lv_goto (tgt := 53) hx hb d_Bx_firstShortDay_90 (by decide) ?_
                  exact ih_20 (n_20 - 1) (ms_1 ((fun (a_0 : Int32) (k_0 : ¬ (40 ≤ a_0)) => (show 1 ≤ (40 : Int32).toInt - (a_0).toInt ∧ (40 : Int32).toInt - ((a_0) + (1 : Int32)).toInt + 1 ≤ (40 : Int32).toInt - (a_0).toInt from by have z0 : (1 : Int32).toInt = 1 := (by decide +kernel); have z1 : (40 : Int32).toInt = 40 := (by decide +kernel); have r0 := fb_rng (a_0); have e0 := k_0; rw [Int32.le_iff_toInt_le, z1] at e0; obtain ⟨n_0, hn_0, s0⟩ := nd_add (x := (a_0)) (y := (1 : Int32)) (by (try rw [z0]); omega) (by (try rw [z0]); omega); rw [z0] at s0; rw [hn_0]; (try rw [z1]); omega)) v7_20 c_21) hm_20) (v6_20 + 100) (v7_20 + 1) y_24 _ (show ¬ ((v7_20 + 1) < 0) from by have e0 := iv0_20; rw [Int32.lt_iff_toInt_lt] at e0; have e1 := c_21; rw [Int32.le_iff_toInt_le] at e1; have z0 : (0 : Int32).toInt = 0 := (by decide +kernel); have z1 : (1 : Int32).toInt = 1 := (by decide +kernel); have z2 : (40 : Int32).toInt = 40 := (by decide +kernel); have ss := fb_addI (x := v7_20) (y := 1) (by omega) (by omega); rw [Int32.lt_iff_toInt_lt]; omega) (show ¬ (40 < (v7_20 + 1)) from by have e0 := iv0_20; rw [Int32.lt_iff_toInt_lt] at e0; have e1 := c_21; rw [Int32.le_iff_toInt_le] at e1; have z0 : (0 : Int32).toInt = 0 := (by decide +kernel); have z1 : (1 : Int32).toInt = 1 := (by decide +kernel); have z2 : (40 : Int32).toInt = 40 := (by decide +kernel); have ss := fb_addI (x := v7_20) (y := 1) (by omega) (by omega); rw [Int32.lt_iff_toInt_lt]; omega) (by exact ms_2 ((fun (a_0 : Int32) (k_0 : ¬ (40 ≤ a_0)) => (show 1 ≤ (40 : Int32).toInt - (a_0).toInt ∧ (40 : Int32).toInt - ((a_0) + (1 : Int32)).toInt + 1 ≤ (40 : Int32).toInt - (a_0).toInt from by have z0 : (1 : Int32).toInt = 1 := (by decide +kernel); have z1 : (40 : Int32).toInt = 40 := (by decide +kernel); have r0 := fb_rng (a_0); have e0 := k_0; rw [Int32.le_iff_toInt_le, z1] at e0; obtain ⟨n_0, hn_0, s0⟩ := nd_add (x := (a_0)) (y := (1 : Int32)) (by (try rw [z0]); omega) (by (try rw [z0]); omega); rw [z0] at s0; rw [hn_0]; (try rw [z1]); omega)) v7_20 c_21) hm_20) (lv_sub hl [3, 4, 1, 2, 0] rfl)
                · refine lv_iload hx hb d_Bx_firstShortDay_84 (lv_at hl 1 rfl) ?_
                  exact W.iret (v := (v6_20 + 100)) hx hb hr (fun t ht hW => ⟨(v6_20 + 100), rfl, trivial, ht⟩) t_nil d_Bx_firstShortDay_86
          exact cut_20 4294967296 (p_0 - y_19) (0 : Int32) ((x_18 : Int32).toInt64) _ (by decide +kernel) (by decide +kernel) (by exact ms_0 _ _) (lv_sub hl [3, 5, 2, 1, 0] rfl)
        · refine lv_lload_n hx hb d_Bx_firstShortDay_18 rfl (lv_at hl 2 rfl) ?_
          refine lv_aload_n hx hb d_Bx_firstShortDay_19 rfl (lv_at hl 0 rfl) ?_
          refine tw_getr (D := (dC, dI)) (C := R_Bx) (T := F_Bx) (N := 7) (ci := 5) (kd := 12) (ct := ct) hx hb htb i_Bx hown hK hP hO_0 m0 rfl rfl 4 (by decide) (htb (.fieldLink R_Bx 9 "WaterMen$Box" "income" "[I") tw_89) (fun _ h9 => h9) rfl d_Bx_firstShortDay_20 (fun q_27 e_27 m_27 => ?_)
          refine lv_iload hx hb d_Bx_firstShortDay_23 (lv_at hl 3 rfl) ?_
          refine tw_aldI (ct := ct) hx hb hK hP hO_0 m_27 rfl ((fun (a_0 : Int32) (a_1 : Int32) (k_0 : ¬ (a_1 < 0)) (k_1 : ¬ (a_0 < a_1)) (k_2 : ¬ (0 < (a_0 - 100))) => (show vp_in (a_1) 500 from by have z0 : (0 : Int32).toInt = 0 := (by decide +kernel); have z1 : (100 : Int32).toInt = 100 := (by decide +kernel); have r0 := fb_rng (a_0); have r1 := fb_rng (a_1); have e0 := k_0; rw [Int32.lt_iff_toInt_lt, z0] at e0; have e1 := k_1; rw [Int32.lt_iff_toInt_lt] at e1; obtain ⟨n_0, hn_0, s0⟩ := nd_sub (x := (a_0)) (y := (100 : Int32)) (by (try rw [z1]); omega) (by (try rw [z1]); omega); rw [z1] at s0; have e2 := k_2; rw [hn_0, Int32.lt_iff_toInt_lt, z0] at e2; rw [vp_in_iff]; omega)) p_0 v4_16 iv0_16 c_17 c_1) d_Bx_firstShortDay_25 (fun x_28 e_28 b_28 => ?_)
          refine lv_i2l hx hb d_Bx_firstShortDay_26 rfl ?_
          refine lv_ladd hx hb d_Bx_firstShortDay_27 ?_
          refine hb_anyl (fun y_29 => ?_)
          refine lv_lstore_n (lv' := [(2, .long y_29), (0, .ref q0), (1, .int p_0), (4, .int v4_16)]) hx hb d_Bx_firstShortDay_28 rfl hl (by decide) rfl (fun ls hl => ?_)
          refine lv_iinc (v := (v4_16 + 1)) (lv' := [(4, .int (v4_16 + 1)), (2, .long y_29), (0, .ref q0), (1, .int p_0)]) hx hb d_Bx_firstShortDay_29 hl (k := 3) rfl rfl (by decide) rfl (fun ls hl => ?_)
          refine lv_goto (tgt := 12) hx hb d_Bx_firstShortDay_32 (by decide) ?_
          exact ih_16 (n_16 - 1) (ms_1 ((fun (a_0 : Int32) (a_1 : Int32) (k_0 : ¬ (a_0 < a_1)) (k_1 : ¬ (499 < a_0)) => (show 1 ≤ (500 : Int32).toInt - (a_1).toInt ∧ (500 : Int32).toInt - ((a_1) + (1 : Int32)).toInt + 1 ≤ (500 : Int32).toInt - (a_1).toInt from by have z0 : (1 : Int32).toInt = 1 := (by decide +kernel); have z1 : (499 : Int32).toInt = 499 := (by decide +kernel); have z2 : (500 : Int32).toInt = 500 := (by decide +kernel); have r0 := fb_rng (a_0); have r1 := fb_rng (a_1); have e0 := k_0; rw [Int32.lt_iff_toInt_lt] at e0; have e1 := k_1; rw [Int32.lt_iff_toInt_lt, z1] at e1; obtain ⟨n_0, hn_0, s0⟩ := nd_add (x := (a_1)) (y := (1 : Int32)) (by (try rw [z0]); omega) (by (try rw [z0]); omega); rw [z0] at s0; rw [hn_0]; (try rw [z2]); omega)) p_0 v4_16 c_17 as_1) hm_16) (v4_16 + 1) y_29 _ (show ¬ ((v4_16 + 1) < 0) from by have e0 := iv0_16; rw [Int32.lt_iff_toInt_lt] at e0; have e1 := iv1_16; rw [Int32.lt_iff_toInt_lt] at e1; have z0 : (0 : Int32).toInt = 0 := (by decide +kernel); have z1 : (1 : Int32).toInt = 1 := (by decide +kernel); have z2 : (500 : Int32).toInt = 500 := (by decide +kernel); have ss := fb_addI (x := v4_16) (y := 1) (by omega) (by omega); rw [Int32.lt_iff_toInt_lt]; omega) (show ¬ (500 < (v4_16 + 1)) from ((fun (a_0 : Int32) (a_1 : Int32) (k_0 : ¬ (a_0 < a_1)) (k_1 : ¬ (499 < a_0)) => (show ¬ (500 < (a_1 + 1)) from by have z0 : (1 : Int32).toInt = 1 := (by decide +kernel); have z1 : (499 : Int32).toInt = 499 := (by decide +kernel); have z2 : (500 : Int32).toInt = 500 := (by decide +kernel); have r0 := fb_rng (a_0); have r1 := fb_rng (a_1); have e0 := k_0; rw [Int32.lt_iff_toInt_lt] at e0; have e1 := k_1; rw [Int32.lt_iff_toInt_lt, z1] at e1; obtain ⟨n_0, hn_0, s0⟩ := nd_add (x := (a_1)) (y := (1 : Int32)) (by (try rw [z0]); omega) (by (try rw [z0]); omega); rw [z0] at s0; rw [hn_0, Int32.lt_iff_toInt_lt, z2]; omega)) p_0 v4_16 c_17 as_1)) (by exact ms_2 ((fun (a_0 : Int32) (a_1 : Int32) (k_0 : ¬ (a_0 < a_1)) (k_1 : ¬ (499 < a_0)) => (show 1 ≤ (500 : Int32).toInt - (a_1).toInt ∧ (500 : Int32).toInt - ((a_1) + (1 : Int32)).toInt + 1 ≤ (500 : Int32).toInt - (a_1).toInt from by have z0 : (1 : Int32).toInt = 1 := (by decide +kernel); have z1 : (499 : Int32).toInt = 499 := (by decide +kernel); have z2 : (500 : Int32).toInt = 500 := (by decide +kernel); have r0 := fb_rng (a_0); have r1 := fb_rng (a_1); have e0 := k_0; rw [Int32.lt_iff_toInt_lt] at e0; have e1 := k_1; rw [Int32.lt_iff_toInt_lt, z1] at e1; obtain ⟨n_0, hn_0, s0⟩ := nd_add (x := (a_1)) (y := (1 : Int32)) (by (try rw [z0]); omega) (by (try rw [z0]); omega); rw [z0] at s0; rw [hn_0]; (try rw [z2]); omega)) p_0 v4_16 c_17 as_1) hm_16) (lv_sub hl [2, 3, 1, 0] rfl)
    exact cut_16 4294967296 (0 : Int32) 0 _ (by decide +kernel) (by decide +kernel) (by exact ms_0 _ _) (lv_sub hl [2, 3, 1, 0] rfl)
set_option maxHeartbeats 4000000 in
set_option maxRecDepth 100000 in
theorem c_Tp_hasRoomForFive_t (l : Launch) (dC : Nat → ClassId) (dI : Nat → Nat → Nat) (ct : Nat → ClassId) (L : List Nat) (f : TF) (hO_0 : Ok L f) (q0 : Nat) (m0 : q0 ∈ L ∧ tk f q0 = 10)    : Met l y_Tp_hasRoomForFive (.code y_Tp_hasRoomForFive b_Tp_hasRoomForFive 1 (some .boolean) :: TB) ({ frames := 0, cells := 0, slots := 0, locals := 0 }) (va_Pc [.ref q0] (PR dC dI (TW ct L f) (TT ct))) (vp_Si (fun r => (r = 0 ∧ True) ∨ (r = 1 ∧ True))) 0 0 (fun _ => False) := by
  refine Met.ofW (cc := b_Tp_hasRoomForFive) (maxL := 1) (ret := (some .boolean)) (by decide) rfl ?_
  intro p e s m args below meth c s₁ B hml hv
  obtain ⟨rfl, hP, hK, hN⟩ := hv
  have hx := B.exec
  have hb := B.bytes
  have hr := B.returns
  have hts := atoms_spec (ws := (.code y_Tp_hasRoomForFive b_Tp_hasRoomForFive 1 (some .boolean) :: TB)) B.pre
  have htb := fun w (h : w ∈ TB) => hts w (List.mem_cons_of_mem _ h)
  have hown : s.vm.findClass R_Tp = some m.cls := findClass_of_methodNamed B.named
  have hlocks := B.notSynchronized
  have hl := lv_entry ([.ref q0]) (n := 1) (Nat.le_of_ble_eq_true rfl)
  rw [lg_entry_eq]
  generalize (lg_sl ([.ref q0]) ++ List.replicate (1 - (lg_sl ([.ref q0])).length) Slot.unset).toArray = ls at hl ⊢
  have hl : lv_has ls 1 [(0, .ref q0)] := hl
  refine lv_aload_n hx hb d_Tp_hasRoomForFive_0 rfl (lv_at hl 0 rfl) ?_
  refine tw_geti (D := (dC, dI)) (C := R_Tp) (T := F_Tp) (N := 6) (ci := 4) (kd := 10) (ct := ct) hx hb htb i_Tp hown hK hP hO_0 m0 rfl rfl 1 (by decide) (htb (.fieldLink R_Tp 15 "WaterMen$Tape" "length" "I") tw_117) (fun _ h9 => h9) rfl d_Tp_hasRoomForFive_1 (fun x_1 e_1 b_1 => ?_)
  refine lv_sipush (v := 380) hx hb d_Tp_hasRoomForFive_4 (by decide +kernel) ?_
  refine lv_icmp_gt (tgt := 14) hx hb d_Tp_hasRoomForFive_7 (by decide) (fun c_2 => ?_) (fun c_2 => ?_)
  · refine lv_iconst (v := 0) hx hb d_Tp_hasRoomForFive_14 (by decide +kernel) ?_
    exact W.zret (v := 0) hx hb hr (by decide +kernel) (fun t ht hW => ⟨0, rfl, (Or.inl ⟨rfl, trivial⟩), ht⟩) t_nil d_Tp_hasRoomForFive_15
  · refine lv_iconst (v := 1) hx hb d_Tp_hasRoomForFive_10 (by decide +kernel) ?_
    refine lv_goto (tgt := 15) hx hb d_Tp_hasRoomForFive_11 (by decide) ?_
    exact W.zret (v := 1) hx hb hr (by decide +kernel) (fun t ht hW => ⟨1, rfl, (Or.inr ⟨rfl, trivial⟩), ht⟩) t_nil d_Tp_hasRoomForFive_15
def W_Tp_append_t : List (Nat × Nat) := [(10, 1), (11, 1000)]
set_option maxHeartbeats 4000000 in
set_option maxRecDepth 100000 in
theorem c_Tp_append_t (l : Launch) (dC : Nat → ClassId) (dI : Nat → Nat → Nat) (ct : Nat → ClassId) (L : List Nat) (f : TF) (hO_0 : Ok L f) (q0 : Nat) (m0 : q0 ∈ L ∧ tk f q0 = 10) (sz : Nat) (p_0 : Int32)   : Met l y_Tp_append (.code y_Tp_append b_Tp_append 2 none :: TB) ({ frames := 0, cells := 0, slots := 0, locals := 0 }) (va_Pc [.ref q0, .int p_0] (PC dC dI (TW ct L f) (TT ct) sz)) (va_Qv (fun (u : TSt) => Ok u.1 u.2 ∧ Ext W_Tp_append_t L f u.1 u.2 ∧ (True)) (fun (u : TSt) t => va_P (dC, dI) vwCl (TW ct u.1 u.2) t.heap ∧ va_K (dC, dI) vwCl (TT ct) t ∧ va_D (va_A (TW ct L f) sz) (TW ct u.1 u.2)) (va_A (TW ct L f) sz)) 0 0 (va_A (TW ct L f) sz) := by
  refine Met.ofW (cc := b_Tp_append) (maxL := 2) (ret := none) (by decide) rfl ?_
  intro p e s m args below meth c s₁ B hml hv
  obtain ⟨rfl, hsz, hP, hK, hD0, hN⟩ := hv
  have hx := B.exec
  have hb := B.bytes
  have hr := B.returns
  have hts := atoms_spec (ws := (.code y_Tp_append b_Tp_append 2 none :: TB)) B.pre
  have htb := fun w (h : w ∈ TB) => hts w (List.mem_cons_of_mem _ h)
  have hown : s.vm.findClass R_Tp = some m.cls := findClass_of_methodNamed B.named
  have hlocks := B.notSynchronized
  have hl := lv_entry ([.ref q0, .int p_0]) (n := 2) (Nat.le_of_ble_eq_true rfl)
  rw [lg_entry_eq]
  generalize (lg_sl ([.ref q0, .int p_0]) ++ List.replicate (2 - (lg_sl ([.ref q0, .int p_0])).length) Slot.unset).toArray = ls at hl ⊢
  have hl : lv_has ls 2 [(0, .ref q0), (1, .int p_0)] := hl
  subst hsz
  have hD := hD0.self (sz := s.heap.size)
  obtain ⟨A, hAe⟩ : ∃ A, va_A (TW ct L f) s.heap.size = A := ⟨_, rfl⟩
  rw [hAe] at hD
  have hA : ∀ q : Nat, s.heap.size ≤ q → A q := fun q h => by rw [← hAe]; exact Or.inr h
  have hS : va_S A s.heap s.heap [] := va_S.rf
  have hA_0 : Ext [] L f L f := Ext.rf
  suffices hGo : ∀ (H : Heap) (locs : List Loc), va_P (dC, dI) vwCl (TW ct L f) H → va_S A s.heap H locs → W p l e (headSpec (.code y_Tp_append b_Tp_append 2 none :: TB) ({ frames := 0, cells := 0, slots := 0, locals := 0 })).room s m [.ref q0, .int p_0].toArray below meth c H locs 0 0 (MQ below (va_Qv (fun (u : TSt) => Ok u.1 u.2 ∧ Ext W_Tp_append_t L f u.1 u.2 ∧ (True)) (fun (u : TSt) t => va_P (dC, dI) vwCl (TW ct u.1 u.2) t.heap ∧ va_K (dC, dI) vwCl (TT ct) t ∧ va_D (va_A (TW ct L f) s.heap.size) (TW ct u.1 u.2)) (va_A (TW ct L f) s.heap.size)) [.ref q0, .int p_0].toArray s 0 0 (va_A (TW ct L f) s.heap.size)) (F0 m 0 ls []) from hGo _ _ hP hS
  clear hP hS
  intro H locs hP hS
  refine lv_aload_n hx hb d_Tp_append_0 rfl (lv_at hl 0 rfl) ?_
  refine tw_geti (D := (dC, dI)) (C := R_Tp) (T := F_Tp) (N := 6) (ci := 4) (kd := 10) (ct := ct) hx hb htb i_Tp hown hK hP hO_0 m0 rfl rfl 1 (by decide) (htb (.fieldLink R_Tp 15 "WaterMen$Tape" "length" "I") tw_117) (fun _ h9 => h9) rfl d_Tp_append_1 (fun x_1 e_1 b_1 => ?_)
  refine lv_sipush (v := 396) hx hb d_Tp_append_4 (by decide +kernel) ?_
  refine lv_icmp_le (tgt := 11) hx hb d_Tp_append_7 (by decide) (fun c_2 => ?_) (fun c_2 => ?_)
  · refine lv_aload_n hx hb d_Tp_append_11 rfl (lv_at hl 0 rfl) ?_
    refine tw_getr (D := (dC, dI)) (C := R_Tp) (T := F_Tp) (N := 6) (ci := 4) (kd := 10) (ct := ct) hx hb htb i_Tp hown hK hP hO_0 m0 rfl rfl 0 (by decide) (htb (.fieldLink R_Tp 9 "WaterMen$Tape" "bytes" "[B") tw_118) (fun _ h9 => h9) rfl d_Tp_append_12 (fun q_3 e_3 m_3 => ?_)
    refine lv_aload_n hx hb d_Tp_append_15 rfl (lv_at hl 0 rfl) ?_
    refine tw_getI (x := x_1) (D := (dC, dI)) (C := R_Tp) (T := F_Tp) (N := 6) (ci := 4) (kd := 10) (ct := ct) hx hb htb i_Tp hown hK hP m0 rfl rfl 1 e_1 (by decide) (htb (.fieldLink R_Tp 15 "WaterMen$Tape" "length" "I") tw_117) (fun _ h9 => h9) rfl d_Tp_append_16 ?_
    refine lv_iload_n hx hb d_Tp_append_19 rfl (lv_at hl 1 rfl) ?_
    refine lv_bipush (v := 24) hx hb d_Tp_append_20 (by decide +kernel) ?_
    refine lv_iushr hx hb d_Tp_append_22 rfl ?_
    refine lv_i2b hx hb d_Tp_append_23 rfl ?_
    refine tw_astB (ct := ct) (x := (((p_0).toUInt32 >>> ((24 : Int32).toUInt32 &&& Int32.toUInt32 31)).toInt32).toInt8.toInt32) hx hb hK hP hD hS hO_0 m_3 rfl ((fun (a_0 : Int32) (k_0 : ¬ (a_0 < 0)) (k_1 : a_0 ≤ 396) => (show vp_in (a_0) 400 from by have z0 : (0 : Int32).toInt = 0 := (by decide +kernel); have z1 : (396 : Int32).toInt = 396 := (by decide +kernel); have r0 := fb_rng (a_0); have e0 := k_0; rw [Int32.lt_iff_toInt_lt, z0] at e0; have e1 := k_1; rw [Int32.le_iff_toInt_le, z1] at e1; rw [vp_in_iff]; omega)) x_1 b_1.1 c_2) (i32_full _) d_Tp_append_24 (fun f_1 H locs hP hD hS hO_1 hE_1 w_4 ow_4 hF_1 => ?_)
    have hA_1 := hA_0.trans hE_1
    refine lv_aload_n hx hb d_Tp_append_25 rfl (lv_at hl 0 rfl) ?_
    refine tw_getR (D := (dC, dI)) (C := R_Tp) (T := F_Tp) (N := 6) (ci := 4) (kd := 10) (ct := ct) hx hb htb i_Tp hown hK hP (hA_1.m m0) rfl rfl 0 ((hA_1.er m0 rfl).trans e_3) (by decide) (htb (.fieldLink R_Tp 9 "WaterMen$Tape" "bytes" "[B") tw_118) (fun _ h9 => h9) rfl d_Tp_append_26 ?_
    refine hb_tv (.ref q_3) rfl ?_
    refine lv_aload_n hx hb d_Tp_append_29 rfl (lv_at hl 0 rfl) ?_
    refine tw_getI (x := x_1) (D := (dC, dI)) (C := R_Tp) (T := F_Tp) (N := 6) (ci := 4) (kd := 10) (ct := ct) hx hb htb i_Tp hown hK hP (hA_1.m m0) rfl rfl 1 ((hA_1.ei m0 rfl).trans e_1) (by decide) (htb (.fieldLink R_Tp 15 "WaterMen$Tape" "length" "I") tw_117) (fun _ h9 => h9) rfl d_Tp_append_30 ?_
    refine lv_iconst (v := 1) hx hb d_Tp_append_33 (by decide +kernel) ?_
    refine lv_iadd hx hb d_Tp_append_34 ?_
    refine lv_iload_n hx hb d_Tp_append_35 rfl (lv_at hl 1 rfl) ?_
    refine lv_bipush (v := 16) hx hb d_Tp_append_36 (by decide +kernel) ?_
    refine lv_iushr hx hb d_Tp_append_38 rfl ?_
    refine lv_i2b hx hb d_Tp_append_39 rfl ?_
    refine tw_astB (ct := ct) (x := (((p_0).toUInt32 >>> ((16 : Int32).toUInt32 &&& Int32.toUInt32 31)).toInt32).toInt8.toInt32) hx hb hK hP hD hS hO_1 (hA_1.m m_3) rfl ((fun (a_0 : Int32) (k_0 : ¬ (a_0 < 0)) (k_1 : a_0 ≤ 396) => (show vp_in ((a_0 + 1)) 400 from by have z0 : (0 : Int32).toInt = 0 := (by decide +kernel); have z1 : (1 : Int32).toInt = 1 := (by decide +kernel); have z2 : (396 : Int32).toInt = 396 := (by decide +kernel); have r0 := fb_rng (a_0); have e0 := k_0; rw [Int32.lt_iff_toInt_lt, z0] at e0; have e1 := k_1; rw [Int32.le_iff_toInt_le, z2] at e1; obtain ⟨n_0, hn_0, s0⟩ := nd_add (x := (a_0)) (y := (1 : Int32)) (by (try rw [z1]); omega) (by (try rw [z1]); omega); rw [z1] at s0; rw [hn_0, vp_in_iff]; omega)) x_1 b_1.1 c_2) (i32_full _) d_Tp_append_40 (fun f_2 H locs hP hD hS hO_2 hE_2 w_5 ow_5 hF_2 => ?_)
    have hA_2 := hA_1.trans hE_2
    refine lv_aload_n hx hb d_Tp_append_41 rfl (lv_at hl 0 rfl) ?_
    refine tw_getR (D := (dC, dI)) (C := R_Tp) (T := F_Tp) (N := 6) (ci := 4) (kd := 10) (ct := ct) hx hb htb i_Tp hown hK hP (hA_2.m m0) rfl rfl 0 ((hA_2.er m0 rfl).trans e_3) (by decide) (htb (.fieldLink R_Tp 9 "WaterMen$Tape" "bytes" "[B") tw_118) (fun _ h9 => h9) rfl d_Tp_append_42 ?_
    refine hb_tv (.ref q_3) rfl ?_
    refine lv_aload_n hx hb d_Tp_append_45 rfl (lv_at hl 0 rfl) ?_
    refine tw_getI (x := x_1) (D := (dC, dI)) (C := R_Tp) (T := F_Tp) (N := 6) (ci := 4) (kd := 10) (ct := ct) hx hb htb i_Tp hown hK hP (hA_2.m m0) rfl rfl 1 ((hA_2.ei m0 rfl).trans e_1) (by decide) (htb (.fieldLink R_Tp 15 "WaterMen$Tape" "length" "I") tw_117) (fun _ h9 => h9) rfl d_Tp_append_46 ?_
    refine lv_iconst (v := 2) hx hb d_Tp_append_49 (by decide +kernel) ?_
    refine lv_iadd hx hb d_Tp_append_50 ?_
    refine lv_iload_n hx hb d_Tp_append_51 rfl (lv_at hl 1 rfl) ?_
    refine lv_bipush (v := 8) hx hb d_Tp_append_52 (by decide +kernel) ?_
    refine lv_iushr hx hb d_Tp_append_54 rfl ?_
    refine lv_i2b hx hb d_Tp_append_55 rfl ?_
    refine tw_astB (ct := ct) (x := (((p_0).toUInt32 >>> ((8 : Int32).toUInt32 &&& Int32.toUInt32 31)).toInt32).toInt8.toInt32) hx hb hK hP hD hS hO_2 (hA_2.m m_3) rfl ((fun (a_0 : Int32) (k_0 : ¬ (a_0 < 0)) (k_1 : a_0 ≤ 396) => (show vp_in ((a_0 + 2)) 400 from by have z0 : (0 : Int32).toInt = 0 := (by decide +kernel); have z1 : (2 : Int32).toInt = 2 := (by decide +kernel); have z2 : (396 : Int32).toInt = 396 := (by decide +kernel); have r0 := fb_rng (a_0); have e0 := k_0; rw [Int32.lt_iff_toInt_lt, z0] at e0; have e1 := k_1; rw [Int32.le_iff_toInt_le, z2] at e1; obtain ⟨n_0, hn_0, s0⟩ := nd_add (x := (a_0)) (y := (2 : Int32)) (by (try rw [z1]); omega) (by (try rw [z1]); omega); rw [z1] at s0; rw [hn_0, vp_in_iff]; omega)) x_1 b_1.1 c_2) (i32_full _) d_Tp_append_56 (fun f_3 H locs hP hD hS hO_3 hE_3 w_6 ow_6 hF_3 => ?_)
    have hA_3 := hA_2.trans hE_3
    refine lv_aload_n hx hb d_Tp_append_57 rfl (lv_at hl 0 rfl) ?_
    refine tw_getR (D := (dC, dI)) (C := R_Tp) (T := F_Tp) (N := 6) (ci := 4) (kd := 10) (ct := ct) hx hb htb i_Tp hown hK hP (hA_3.m m0) rfl rfl 0 ((hA_3.er m0 rfl).trans e_3) (by decide) (htb (.fieldLink R_Tp 9 "WaterMen$Tape" "bytes" "[B") tw_118) (fun _ h9 => h9) rfl d_Tp_append_58 ?_
    refine hb_tv (.ref q_3) rfl ?_
    refine lv_aload_n hx hb d_Tp_append_61 rfl (lv_at hl 0 rfl) ?_
    refine tw_getI (x := x_1) (D := (dC, dI)) (C := R_Tp) (T := F_Tp) (N := 6) (ci := 4) (kd := 10) (ct := ct) hx hb htb i_Tp hown hK hP (hA_3.m m0) rfl rfl 1 ((hA_3.ei m0 rfl).trans e_1) (by decide) (htb (.fieldLink R_Tp 15 "WaterMen$Tape" "length" "I") tw_117) (fun _ h9 => h9) rfl d_Tp_append_62 ?_
    refine lv_iconst (v := 3) hx hb d_Tp_append_65 (by decide +kernel) ?_
    refine lv_iadd hx hb d_Tp_append_66 ?_
    refine lv_iload_n hx hb d_Tp_append_67 rfl (lv_at hl 1 rfl) ?_
    refine lv_i2b hx hb d_Tp_append_68 rfl ?_
    refine tw_astB (ct := ct) (x := (p_0).toInt8.toInt32) hx hb hK hP hD hS hO_3 (hA_3.m m_3) rfl ((fun (a_0 : Int32) (k_0 : ¬ (a_0 < 0)) (k_1 : a_0 ≤ 396) => (show vp_in ((a_0 + 3)) 400 from by have z0 : (0 : Int32).toInt = 0 := (by decide +kernel); have z1 : (3 : Int32).toInt = 3 := (by decide +kernel); have z2 : (396 : Int32).toInt = 396 := (by decide +kernel); have r0 := fb_rng (a_0); have e0 := k_0; rw [Int32.lt_iff_toInt_lt, z0] at e0; have e1 := k_1; rw [Int32.le_iff_toInt_le, z2] at e1; obtain ⟨n_0, hn_0, s0⟩ := nd_add (x := (a_0)) (y := (3 : Int32)) (by (try rw [z1]); omega) (by (try rw [z1]); omega); rw [z1] at s0; rw [hn_0, vp_in_iff]; omega)) x_1 b_1.1 c_2) (i32_full _) d_Tp_append_69 (fun f_4 H locs hP hD hS hO_4 hE_4 w_7 ow_7 hF_4 => ?_)
    have hA_4 := hA_3.trans hE_4
    refine lv_aload_n hx hb d_Tp_append_70 rfl (lv_at hl 0 rfl) ?_
    refine lv_dup hx hb d_Tp_append_71 rfl ?_
    refine tw_getI (x := x_1) (D := (dC, dI)) (C := R_Tp) (T := F_Tp) (N := 6) (ci := 4) (kd := 10) (ct := ct) hx hb htb i_Tp hown hK hP (hA_4.m m0) rfl rfl 1 ((hA_4.ei m0 rfl).trans e_1) (by decide) (htb (.fieldLink R_Tp 15 "WaterMen$Tape" "length" "I") tw_117) (fun _ h9 => h9) rfl d_Tp_append_72 ?_
    refine lv_iconst (v := 4) hx hb d_Tp_append_75 (by decide +kernel) ?_
    refine lv_iadd hx hb d_Tp_append_76 ?_
    refine tw_puti (v := (x_1 + 4)) (D := (dC, dI)) (C := R_Tp) (T := F_Tp) (N := 6) (ci := 4) (kd := 10) (ct := ct) (ty := .int) hx hb htb i_Tp t_Tp t_Tp_ok n_Tp hown hK hP hD hS hO_4 (hA_4.m m0) rfl rfl 1 (by decide) (htb (.fieldLink R_Tp 15 "WaterMen$Tape" "length" "I") tw_117) (fun _ h9 => h9) rfl (by decide +kernel) rfl rfl rfl ⟨(show ¬ ((x_1 + 4) < 0) from by have e0 := b_1.1; rw [Int32.lt_iff_toInt_lt] at e0; have e1 := c_2; rw [Int32.le_iff_toInt_le] at e1; have z0 : (0 : Int32).toInt = 0 := (by decide +kernel); have z1 : (4 : Int32).toInt = 4 := (by decide +kernel); have z2 : (396 : Int32).toInt = 396 := (by decide +kernel); have ss := fb_addI (x := x_1) (y := 4) (by omega) (by omega); rw [Int32.lt_iff_toInt_lt]; omega), (show ¬ (400 < (x_1 + 4)) from by have e0 := b_1.1; rw [Int32.lt_iff_toInt_lt] at e0; have e1 := c_2; rw [Int32.le_iff_toInt_le] at e1; have z0 : (0 : Int32).toInt = 0 := (by decide +kernel); have z1 : (4 : Int32).toInt = 4 := (by decide +kernel); have z2 : (396 : Int32).toInt = 396 := (by decide +kernel); have z3 : (400 : Int32).toInt = 400 := (by decide +kernel); have ss := fb_addI (x := x_1) (y := 4) (by omega) (by omega); rw [Int32.lt_iff_toInt_lt]; omega)⟩ d_Tp_append_77 (fun f_5 H locs hP hD hS hO_5 hE_5 w_8 hF_5 => ?_)
    have hA_5 := hA_4.trans hE_5
    refine W.widen (k := 0) (n := 0) (Nat.le_of_ble_eq_true rfl) (Nat.le_of_ble_eq_true rfl) ?_
    exact W.vret hx hb hr (fun t ht hW => ⟨⟨(L, f_5), rfl, ⟨hO_5, hA_5.mono (by decide +kernel), trivial⟩, by rw [ht]; exact hP, va_K.moved hW.alike hK, by rw [hAe]; exact hD⟩, by rw [hAe]; exact hS.F ht⟩) (by rw [hAe]; exact hS.2.2) d_Tp_append_80
  · refine W.widen (k := 0) (n := 0) (Nat.le_of_ble_eq_true rfl) (Nat.le_of_ble_eq_true rfl) ?_
    exact W.vret hx hb hr (fun t ht hW => ⟨⟨(L, f), rfl, ⟨hO_0, hA_0.mono (by decide +kernel), trivial⟩, by rw [ht]; exact hP, va_K.moved hW.alike hK, by rw [hAe]; exact hD⟩, by rw [hAe]; exact hS.F ht⟩) (by rw [hAe]; exact hS.2.2) d_Tp_append_10
def f_Tp_isLetter  (p_0 : Int32) : Int32 := if p_0 < 97 then (0) else (if 122 < p_0 then (0) else (1))
set_option maxHeartbeats 4000000 in
set_option maxRecDepth 100000 in
theorem c_Tp_isLetter (l : Launch)  (p_0 : Int32)  : Met l y_Tp_isLetter (.code y_Tp_isLetter b_Tp_isLetter 1 (some .boolean) :: TB) ({ frames := 0, cells := 0, slots := 0, locals := 0 }) (va_Pc [.int p_0] (fun _ => True)) (vp_Si (fun r => r = f_Tp_isLetter p_0)) 0 0 (fun _ => False) := by
  refine Met.ofW (cc := b_Tp_isLetter) (maxL := 1) (ret := (some .boolean)) (by decide) rfl ?_
  intro p e s m args below meth c s₁ B hml hv
  obtain ⟨rfl, -⟩ := hv
  have hx := B.exec
  have hb := B.bytes
  have hr := B.returns
  have hts := atoms_spec (ws := (.code y_Tp_isLetter b_Tp_isLetter 1 (some .boolean) :: TB)) B.pre
  have htb := fun w (h : w ∈ TB) => hts w (List.mem_cons_of_mem _ h)
  have hown : s.vm.findClass R_Tp = some m.cls := findClass_of_methodNamed B.named
  have hlocks := B.notSynchronized
  have hl := lv_entry ([.int p_0]) (n := 1) (Nat.le_of_ble_eq_true rfl)
  rw [lg_entry_eq]
  generalize (lg_sl ([.int p_0]) ++ List.replicate (1 - (lg_sl ([.int p_0])).length) Slot.unset).toArray = ls at hl ⊢
  have hl : lv_has ls 1 [(0, .int p_0)] := hl
  refine lv_iload_n hx hb d_Tp_isLetter_0 rfl (lv_at hl 0 rfl) ?_
  refine lv_bipush (v := 97) hx hb d_Tp_isLetter_1 (by decide +kernel) ?_
  refine lv_icmp_lt (tgt := 16) hx hb d_Tp_isLetter_3 (by decide) (fun c_1 => ?_) (fun c_1 => ?_)
  · refine lv_iconst (v := 0) hx hb d_Tp_isLetter_16 (by decide +kernel) ?_
    exact W.zret (v := 0) hx hb hr (by decide +kernel) (fun t ht hW => ⟨0, rfl, (by unfold f_Tp_isLetter; rw [if_pos c_1]), ht⟩) t_nil d_Tp_isLetter_17
  · refine lv_iload_n hx hb d_Tp_isLetter_6 rfl (lv_at hl 0 rfl) ?_
    refine lv_bipush (v := 122) hx hb d_Tp_isLetter_7 (by decide +kernel) ?_
    refine lv_icmp_gt (tgt := 16) hx hb d_Tp_isLetter_9 (by decide) (fun c_2 => ?_) (fun c_2 => ?_)
    · refine lv_iconst (v := 0) hx hb d_Tp_isLetter_16 (by decide +kernel) ?_
      exact W.zret (v := 0) hx hb hr (by decide +kernel) (fun t ht hW => ⟨0, rfl, (by unfold f_Tp_isLetter; rw [if_neg c_1, if_pos c_2]), ht⟩) t_nil d_Tp_isLetter_17
    · refine lv_iconst (v := 1) hx hb d_Tp_isLetter_12 (by decide +kernel) ?_
      refine lv_goto (tgt := 17) hx hb d_Tp_isLetter_13 (by decide) ?_
      exact W.zret (v := 1) hx hb hr (by decide +kernel) (fun t ht hW => ⟨1, rfl, (by unfold f_Tp_isLetter; rw [if_neg c_1, if_neg c_2]), ht⟩) t_nil d_Tp_isLetter_17
def f_Tp_isDigit  (p_0 : Int32) : Int32 := if p_0 < 48 then (0) else (if 57 < p_0 then (0) else (1))
set_option maxHeartbeats 4000000 in
set_option maxRecDepth 100000 in
theorem c_Tp_isDigit (l : Launch)  (p_0 : Int32)  : Met l y_Tp_isDigit (.code y_Tp_isDigit b_Tp_isDigit 1 (some .boolean) :: TB) ({ frames := 0, cells := 0, slots := 0, locals := 0 }) (va_Pc [.int p_0] (fun _ => True)) (vp_Si (fun r => r = f_Tp_isDigit p_0)) 0 0 (fun _ => False) := by
  refine Met.ofW (cc := b_Tp_isDigit) (maxL := 1) (ret := (some .boolean)) (by decide) rfl ?_
  intro p e s m args below meth c s₁ B hml hv
  obtain ⟨rfl, -⟩ := hv
  have hx := B.exec
  have hb := B.bytes
  have hr := B.returns
  have hts := atoms_spec (ws := (.code y_Tp_isDigit b_Tp_isDigit 1 (some .boolean) :: TB)) B.pre
  have htb := fun w (h : w ∈ TB) => hts w (List.mem_cons_of_mem _ h)
  have hown : s.vm.findClass R_Tp = some m.cls := findClass_of_methodNamed B.named
  have hlocks := B.notSynchronized
  have hl := lv_entry ([.int p_0]) (n := 1) (Nat.le_of_ble_eq_true rfl)
  rw [lg_entry_eq]
  generalize (lg_sl ([.int p_0]) ++ List.replicate (1 - (lg_sl ([.int p_0])).length) Slot.unset).toArray = ls at hl ⊢
  have hl : lv_has ls 1 [(0, .int p_0)] := hl
  refine lv_iload_n hx hb d_Tp_isDigit_0 rfl (lv_at hl 0 rfl) ?_
  refine lv_bipush (v := 48) hx hb d_Tp_isDigit_1 (by decide +kernel) ?_
  refine lv_icmp_lt (tgt := 16) hx hb d_Tp_isDigit_3 (by decide) (fun c_1 => ?_) (fun c_1 => ?_)
  · refine lv_iconst (v := 0) hx hb d_Tp_isDigit_16 (by decide +kernel) ?_
    exact W.zret (v := 0) hx hb hr (by decide +kernel) (fun t ht hW => ⟨0, rfl, (by unfold f_Tp_isDigit; rw [if_pos c_1]), ht⟩) t_nil d_Tp_isDigit_17
  · refine lv_iload_n hx hb d_Tp_isDigit_6 rfl (lv_at hl 0 rfl) ?_
    refine lv_bipush (v := 57) hx hb d_Tp_isDigit_7 (by decide +kernel) ?_
    refine lv_icmp_gt (tgt := 16) hx hb d_Tp_isDigit_9 (by decide) (fun c_2 => ?_) (fun c_2 => ?_)
    · refine lv_iconst (v := 0) hx hb d_Tp_isDigit_16 (by decide +kernel) ?_
      exact W.zret (v := 0) hx hb hr (by decide +kernel) (fun t ht hW => ⟨0, rfl, (by unfold f_Tp_isDigit; rw [if_neg c_1, if_pos c_2]), ht⟩) t_nil d_Tp_isDigit_17
    · refine lv_iconst (v := 1) hx hb d_Tp_isDigit_12 (by decide +kernel) ?_
      refine lv_goto (tgt := 17) hx hb d_Tp_isDigit_13 (by decide) ?_
      exact W.zret (v := 1) hx hb hr (by decide +kernel) (fun t ht hW => ⟨1, rfl, (by unfold f_Tp_isDigit; rw [if_neg c_1, if_neg c_2]), ht⟩) t_nil d_Tp_isDigit_17
def WL_Tp_passDigits_t_0_1 : List (Nat × Nat) := [(10, 4), (10, 5)]
def W_Tp_passDigits_t : List (Nat × Nat) := [(10, 4), (10, 5)]
set_option maxHeartbeats 4000000 in
set_option maxRecDepth 100000 in
theorem c_Tp_passDigits_t (l : Launch) (dC : Nat → ClassId) (dI : Nat → Nat → Nat) (ct : Nat → ClassId) (L : List Nat) (f : TF) (hO_0 : Ok L f) (q0 : Nat) (m0 : q0 ∈ L ∧ tk f q0 = 10) (sz : Nat)    : Met l y_Tp_passDigits (.code y_Tp_passDigits b_Tp_passDigits 1 none :: TB) ({ frames := 1, cells := 0, slots := 0, locals := 20 }) (va_Pc [.ref q0] (PC dC dI (TW ct L f) (TT ct) sz)) (va_Qv (fun (u : TSt) => Ok u.1 u.2 ∧ Ext W_Tp_passDigits_t L f u.1 u.2 ∧ (True)) (fun (u : TSt) t => va_P (dC, dI) vwCl (TW ct u.1 u.2) t.heap ∧ va_K (dC, dI) vwCl (TT ct) t ∧ va_D (va_A (TW ct L f) sz) (TW ct u.1 u.2)) (va_A (TW ct L f) sz)) 0 0 (va_A (TW ct L f) sz) := by
  refine Met.ofW (cc := b_Tp_passDigits) (maxL := 1) (ret := none) (by decide) rfl ?_
  intro p e s m args below meth c s₁ B hml hv
  obtain ⟨rfl, hsz, hP, hK, hD0, hN⟩ := hv
  have hx := B.exec
  have hb := B.bytes
  have hr := B.returns
  have hts := atoms_spec (ws := (.code y_Tp_passDigits b_Tp_passDigits 1 none :: TB)) B.pre
  have htb := fun w (h : w ∈ TB) => hts w (List.mem_cons_of_mem _ h)
  have hown : s.vm.findClass R_Tp = some m.cls := findClass_of_methodNamed B.named
  have hlocks := B.notSynchronized
  have hl := lv_entry ([.ref q0]) (n := 1) (Nat.le_of_ble_eq_true rfl)
  rw [lg_entry_eq]
  generalize (lg_sl ([.ref q0]) ++ List.replicate (1 - (lg_sl ([.ref q0])).length) Slot.unset).toArray = ls at hl ⊢
  have hl : lv_has ls 1 [(0, .ref q0)] := hl
  subst hsz
  have hD := hD0.self (sz := s.heap.size)
  obtain ⟨A, hAe⟩ : ∃ A, va_A (TW ct L f) s.heap.size = A := ⟨_, rfl⟩
  rw [hAe] at hD
  have hA : ∀ q : Nat, s.heap.size ≤ q → A q := fun q h => by rw [← hAe]; exact Or.inr h
  have hS : va_S A s.heap s.heap [] := va_S.rf
  have hA_0 : Ext [] L f L f := Ext.rf
  suffices hGo : ∀ (H : Heap) (locs : List Loc), va_P (dC, dI) vwCl (TW ct L f) H → va_S A s.heap H locs → W p l e (headSpec (.code y_Tp_passDigits b_Tp_passDigits 1 none :: TB) ({ frames := 1, cells := 0, slots := 0, locals := 20 })).room s m [.ref q0].toArray below meth c H locs 0 0 (MQ below (va_Qv (fun (u : TSt) => Ok u.1 u.2 ∧ Ext W_Tp_passDigits_t L f u.1 u.2 ∧ (True)) (fun (u : TSt) t => va_P (dC, dI) vwCl (TW ct u.1 u.2) t.heap ∧ va_K (dC, dI) vwCl (TT ct) t ∧ va_D (va_A (TW ct L f) s.heap.size) (TW ct u.1 u.2)) (va_A (TW ct L f) s.heap.size)) [.ref q0].toArray s 0 0 (va_A (TW ct L f) s.heap.size)) (F0 m 0 ls []) from hGo _ _ hP hS
  clear hP hS
  intro H locs hP hS
  have cut_1 : ∀ (n_1 : Nat) (L_1 : List Nat) (f_1 : TF) (H : Heap) (locs : List Loc) (ls : Array Slot), va_P (dC, dI) vwCl (TW ct L_1 f_1) H → va_D A (TW ct L_1 f_1) → va_S A s.heap H locs → Ok L_1 f_1 → Ext WL_Tp_passDigits_t_0_1 L f L_1 f_1 → (400 : Int32).toInt - ((ti f_1 q0 4) : Int32).toInt ≤ (n_1 : Int) → lv_has ls 1 [(0, .ref q0)] → W p l e (headSpec (.code y_Tp_passDigits b_Tp_passDigits 1 none :: TB) ({ frames := 1, cells := 0, slots := 0, locals := 20 })).room s m [.ref q0].toArray below meth c H locs 0 0 (MQ below (va_Qv (fun (u : TSt) => Ok u.1 u.2 ∧ Ext W_Tp_passDigits_t L f u.1 u.2 ∧ (True)) (fun (u : TSt) t => va_P (dC, dI) vwCl (TW ct u.1 u.2) t.heap ∧ va_K (dC, dI) vwCl (TT ct) t ∧ va_D (va_A (TW ct L f) s.heap.size) (TW ct u.1 u.2)) (va_A (TW ct L f) s.heap.size)) [.ref q0].toArray s 0 0 (va_A (TW ct L f) s.heap.size)) (F0 m 0 ls []) := by
    intro n_1
    induction n_1 using Nat.strongRecOn with
    | _ n_1 ih_1 =>
      intro L_1 f_1 H locs ls hP hD hS hO_1 hE_1 hm_1 hl
      have hA_1 := hA_0.trans hE_1
      have bf_2 := hO_1.i (hA_1.m m0) (show slotD 10 4 = some (.inl (0, 400)) from rfl)
      refine lv_aload_n hx hb d_Tp_passDigits_0 rfl (lv_at hl 0 rfl) ?_
      refine tw_getI (x := (ti f_1 q0 4)) (D := (dC, dI)) (C := R_Tp) (T := F_Tp) (N := 6) (ci := 4) (kd := 10) (ct := ct) hx hb htb i_Tp hown hK hP (hA_1.m m0) rfl rfl 4 rfl (by decide) (htb (.fieldLink R_Tp 24 "WaterMen$Tape" "behind" "I") tw_120) (fun _ h9 => h9) rfl d_Tp_passDigits_1 ?_
      refine lv_aload_n hx hb d_Tp_passDigits_4 rfl (lv_at hl 0 rfl) ?_
      refine tw_geti (D := (dC, dI)) (C := R_Tp) (T := F_Tp) (N := 6) (ci := 4) (kd := 10) (ct := ct) hx hb htb i_Tp hown hK hP hO_1 (hA_1.m m0) rfl rfl 1 (by decide) (htb (.fieldLink R_Tp 15 "WaterMen$Tape" "length" "I") tw_117) (fun _ h9 => h9) rfl d_Tp_passDigits_5 (fun x_3 e_3 b_3 => ?_)
      refine lv_icmp_ge (tgt := 63) hx hb d_Tp_passDigits_8 (by decide) (fun c_4 => ?_) (fun c_4 => ?_)
      · refine W.widen (k := 0) (n := 0) (Nat.le_of_ble_eq_true rfl) (Nat.le_of_ble_eq_true rfl) ?_
        exact W.vret hx hb hr (fun t ht hW => ⟨⟨(L_1, f_1), rfl, ⟨hO_1, hA_1.mono (by decide +kernel), trivial⟩, by rw [ht]; exact hP, va_K.moved hW.alike hK, by rw [hAe]; exact hD⟩, by rw [hAe]; exact hS.F ht⟩) (by rw [hAe]; exact hS.2.2) d_Tp_passDigits_63
      · refine lv_aload_n hx hb d_Tp_passDigits_11 rfl (lv_at hl 0 rfl) ?_
        refine tw_getr (D := (dC, dI)) (C := R_Tp) (T := F_Tp) (N := 6) (ci := 4) (kd := 10) (ct := ct) hx hb htb i_Tp hown hK hP hO_1 (hA_1.m m0) rfl rfl 0 (by decide) (htb (.fieldLink R_Tp 9 "WaterMen$Tape" "bytes" "[B") tw_118) (fun _ h9 => h9) rfl d_Tp_passDigits_12 (fun q_5 e_5 m_5 => ?_)
        refine lv_aload_n hx hb d_Tp_passDigits_15 rfl (lv_at hl 0 rfl) ?_
        refine tw_getI (x := (ti f_1 q0 4)) (D := (dC, dI)) (C := R_Tp) (T := F_Tp) (N := 6) (ci := 4) (kd := 10) (ct := ct) hx hb htb i_Tp hown hK hP (hA_1.m m0) rfl rfl 4 rfl (by decide) (htb (.fieldLink R_Tp 24 "WaterMen$Tape" "behind" "I") tw_120) (fun _ h9 => h9) rfl d_Tp_passDigits_16 ?_
        refine tw_aldB (ct := ct) hx hb hK hP hO_1 m_5 rfl ((fun (a_0 : Int32) (a_1 : Int32) (k_0 : ¬ (a_0 < 0)) (k_1 : ¬ (a_1 ≤ a_0)) (k_2 : ¬ (400 < a_1)) => (show vp_in (a_0) 400 from by have z0 : (0 : Int32).toInt = 0 := (by decide +kernel); have z1 : (400 : Int32).toInt = 400 := (by decide +kernel); have r0 := fb_rng (a_0); have r1 := fb_rng (a_1); have e0 := k_0; rw [Int32.lt_iff_toInt_lt, z0] at e0; have e1 := k_1; rw [Int32.le_iff_toInt_le] at e1; have e2 := k_2; rw [Int32.lt_iff_toInt_lt, z1] at e2; rw [vp_in_iff]; omega)) (ti f_1 q0 4) x_3 bf_2.1 c_4 b_3.2) d_Tp_passDigits_19 (fun x_6 e_6 b_6 => ?_)
        refine vp_callSi (va_Run.run (va_runS (As := [.int x_6]) (rest := []) ⟨hx, hb, hml, hown, htb⟩ (c_Tp_isDigit l x_6) (cwS 1 htb (gd_S tw_128 tw_129 tw_124 tw_127) rfl rfl rfl (by decide +kernel) ⟨Nat.le_of_ble_eq_true rfl, Nat.le_of_ble_eq_true rfl⟩) ⟨fun _ _ _ _ h => h, fun U _ _ => ⟨rfl, trivial⟩⟩ rfl rfl hl.1 rfl (lv_room (Nat.le_of_ble_eq_true rfl)) d_Tp_passDigits_20 ⟨Nat.le_of_ble_eq_true rfl, Nat.le_of_ble_eq_true rfl⟩)) (fun r er => ?_)
        subst er
        by_cases c_8 : x_6 < 48
        · refine hb_ti 0 (by unfold f_Tp_isDigit; rw [if_pos c_8]; first | done | rfl) ?_
          refine lv_if_eq (tgt := 63) hx hb d_Tp_passDigits_23 (by decide) (fun _ => ?_) (fun h => absurd (by decide +kernel) h)
          refine W.widen (k := 0) (n := 0) (Nat.le_of_ble_eq_true rfl) (Nat.le_of_ble_eq_true rfl) ?_
          exact W.vret hx hb hr (fun t ht hW => ⟨⟨(L_1, f_1), rfl, ⟨hO_1, hA_1.mono (by decide +kernel), trivial⟩, by rw [ht]; exact hP, va_K.moved hW.alike hK, by rw [hAe]; exact hD⟩, by rw [hAe]; exact hS.F ht⟩) (by rw [hAe]; exact hS.2.2) d_Tp_passDigits_63
        · by_cases c_9 : 57 < x_6
          · refine hb_ti 0 (by unfold f_Tp_isDigit; rw [if_neg c_8, if_pos c_9]; first | done | rfl) ?_
            refine lv_if_eq (tgt := 63) hx hb d_Tp_passDigits_23 (by decide) (fun _ => ?_) (fun h => absurd (by decide +kernel) h)
            refine W.widen (k := 0) (n := 0) (Nat.le_of_ble_eq_true rfl) (Nat.le_of_ble_eq_true rfl) ?_
            exact W.vret hx hb hr (fun t ht hW => ⟨⟨(L_1, f_1), rfl, ⟨hO_1, hA_1.mono (by decide +kernel), trivial⟩, by rw [ht]; exact hP, va_K.moved hW.alike hK, by rw [hAe]; exact hD⟩, by rw [hAe]; exact hS.F ht⟩) (by rw [hAe]; exact hS.2.2) d_Tp_passDigits_63
          · refine hb_ti 1 (by unfold f_Tp_isDigit; rw [if_neg c_8, if_neg c_9]; first | done | rfl) ?_
            refine lv_if_eq (tgt := 63) hx hb d_Tp_passDigits_23 (by decide) (fun h => absurd h (by decide +kernel)) (fun _ => ?_)
            refine lv_aload_n hx hb d_Tp_passDigits_26 rfl (lv_at hl 0 rfl) ?_
            refine lv_aload_n hx hb d_Tp_passDigits_27 rfl (lv_at hl 0 rfl) ?_
            refine tw_geti (D := (dC, dI)) (C := R_Tp) (T := F_Tp) (N := 6) (ci := 4) (kd := 10) (ct := ct) hx hb htb i_Tp hown hK hP hO_1 (hA_1.m m0) rfl rfl 5 (by decide) (htb (.fieldLink R_Tp 48 "WaterMen$Tape" "value" "I") tw_122) (fun _ h9 => h9) rfl d_Tp_passDigits_28 (fun x_10 e_10 b_10 => ?_)
            refine lv_bipush (v := 10) hx hb d_Tp_passDigits_31 (by decide +kernel) ?_
            refine lv_imul hx hb d_Tp_passDigits_33 ?_
            refine lv_aload_n hx hb d_Tp_passDigits_34 rfl (lv_at hl 0 rfl) ?_
            refine tw_getR (D := (dC, dI)) (C := R_Tp) (T := F_Tp) (N := 6) (ci := 4) (kd := 10) (ct := ct) hx hb htb i_Tp hown hK hP (hA_1.m m0) rfl rfl 0 e_5 (by decide) (htb (.fieldLink R_Tp 9 "WaterMen$Tape" "bytes" "[B") tw_118) (fun _ h9 => h9) rfl d_Tp_passDigits_35 ?_
            refine hb_tv (.ref q_5) rfl ?_
            refine lv_aload_n hx hb d_Tp_passDigits_38 rfl (lv_at hl 0 rfl) ?_
            refine tw_getI (x := (ti f_1 q0 4)) (D := (dC, dI)) (C := R_Tp) (T := F_Tp) (N := 6) (ci := 4) (kd := 10) (ct := ct) hx hb htb i_Tp hown hK hP (hA_1.m m0) rfl rfl 4 rfl (by decide) (htb (.fieldLink R_Tp 24 "WaterMen$Tape" "behind" "I") tw_120) (fun _ h9 => h9) rfl d_Tp_passDigits_39 ?_
            refine tw_aldxB (ct := ct) (x := x_6) hx hb hK hP m_5 rfl ((fun (a_0 : Int32) (a_1 : Int32) (k_0 : ¬ (a_0 < 0)) (k_1 : ¬ (a_1 ≤ a_0)) (k_2 : ¬ (400 < a_1)) => (show vp_in (a_0) 400 from by have z0 : (0 : Int32).toInt = 0 := (by decide +kernel); have z1 : (400 : Int32).toInt = 400 := (by decide +kernel); have r0 := fb_rng (a_0); have r1 := fb_rng (a_1); have e0 := k_0; rw [Int32.lt_iff_toInt_lt, z0] at e0; have e1 := k_1; rw [Int32.le_iff_toInt_le] at e1; have e2 := k_2; rw [Int32.lt_iff_toInt_lt, z1] at e2; rw [vp_in_iff]; omega)) (ti f_1 q0 4) x_3 bf_2.1 c_4 b_3.2) e_6 d_Tp_passDigits_42 ?_
            refine lv_bipush (v := 48) hx hb d_Tp_passDigits_43 (by decide +kernel) ?_
            refine lv_isub hx hb d_Tp_passDigits_45 ?_
            refine lv_iadd hx hb d_Tp_passDigits_46 ?_
            refine tw_puti (v := ((x_10 * 10) + (x_6 - 48))) (D := (dC, dI)) (C := R_Tp) (T := F_Tp) (N := 6) (ci := 4) (kd := 10) (ct := ct) (ty := .int) hx hb htb i_Tp t_Tp t_Tp_ok n_Tp hown hK hP hD hS hO_1 (hA_1.m m0) rfl rfl 5 (by decide) (htb (.fieldLink R_Tp 48 "WaterMen$Tape" "value" "I") tw_122) (fun _ h9 => h9) rfl (by decide +kernel) rfl rfl rfl (i32_full _) d_Tp_passDigits_47 (fun f_2 H locs hP hD hS hO_2 hE_2 w_12 hF_2 => ?_)
            have hA_2 := hA_1.trans hE_2
            refine lv_aload_n hx hb d_Tp_passDigits_50 rfl (lv_at hl 0 rfl) ?_
            refine lv_dup hx hb d_Tp_passDigits_51 rfl ?_
            refine tw_getI (x := (ti f_1 q0 4)) (D := (dC, dI)) (C := R_Tp) (T := F_Tp) (N := 6) (ci := 4) (kd := 10) (ct := ct) hx hb htb i_Tp hown hK hP (hA_2.m m0) rfl rfl 4 ((hE_2.ei (hA_1.m m0) rfl).trans rfl) (by decide) (htb (.fieldLink R_Tp 24 "WaterMen$Tape" "behind" "I") tw_120) (fun _ h9 => h9) rfl d_Tp_passDigits_52 ?_
            refine lv_iconst (v := 1) hx hb d_Tp_passDigits_55 (by decide +kernel) ?_
            refine lv_iadd hx hb d_Tp_passDigits_56 ?_
            refine tw_puti (v := ((ti f_1 q0 4) + 1)) (D := (dC, dI)) (C := R_Tp) (T := F_Tp) (N := 6) (ci := 4) (kd := 10) (ct := ct) (ty := .int) hx hb htb i_Tp t_Tp t_Tp_ok n_Tp hown hK hP hD hS hO_2 (hA_2.m m0) rfl rfl 4 (by decide) (htb (.fieldLink R_Tp 24 "WaterMen$Tape" "behind" "I") tw_120) (fun _ h9 => h9) rfl (by decide +kernel) rfl rfl rfl ⟨(show ¬ (((ti f_1 q0 4) + 1) < 0) from ((fun (a_0 : Int32) (a_1 : Int32) (k_0 : ¬ (a_0 < 0)) (k_1 : ¬ (a_1 ≤ a_0)) => (show ¬ ((a_0 + 1) < 0) from by have z0 : (0 : Int32).toInt = 0 := (by decide +kernel); have z1 : (1 : Int32).toInt = 1 := (by decide +kernel); have r0 := fb_rng (a_0); have r1 := fb_rng (a_1); have e0 := k_0; rw [Int32.lt_iff_toInt_lt, z0] at e0; have e1 := k_1; rw [Int32.le_iff_toInt_le] at e1; obtain ⟨n_0, hn_0, s0⟩ := nd_add (x := a_0) (y := (1 : Int32)) (by (try rw [z1]); omega) (by (try rw [z1]); omega); rw [z1] at s0; rw [hn_0, Int32.lt_iff_toInt_lt, z0]; omega)) (ti f_1 q0 4) x_3 bf_2.1 c_4)), (show ¬ (400 < ((ti f_1 q0 4) + 1)) from ((fun (a_0 : Int32) (a_1 : Int32) (k_0 : ¬ (a_1 ≤ a_0)) (k_1 : ¬ (400 < a_1)) => (show ¬ (400 < (a_0 + 1)) from by have z0 : (1 : Int32).toInt = 1 := (by decide +kernel); have z1 : (400 : Int32).toInt = 400 := (by decide +kernel); have r0 := fb_rng (a_0); have r1 := fb_rng (a_1); have e0 := k_0; rw [Int32.le_iff_toInt_le] at e0; have e1 := k_1; rw [Int32.lt_iff_toInt_lt, z1] at e1; obtain ⟨n_0, hn_0, s0⟩ := nd_add (x := a_0) (y := (1 : Int32)) (by (try rw [z0]); omega) (by (try rw [z0]); omega); rw [z0] at s0; rw [hn_0, Int32.lt_iff_toInt_lt, z1]; omega)) (ti f_1 q0 4) x_3 c_4 b_3.2))⟩ d_Tp_passDigits_57 (fun f_3 H locs hP hD hS hO_3 hE_3 w_13 hF_3 => ?_)
            have hA_3 := hA_2.trans hE_3
            refine lv_goto (tgt := 0) hx hb d_Tp_passDigits_60 (by decide) ?_
            exact ih_1 (n_1 - 1) (ms_1 ((fun (a_0 : Int32) (a_1 : Int32) (k_0 : ¬ (a_1 ≤ a_0)) (k_1 : ¬ (400 < a_1)) => (show 1 ≤ (400 : Int32).toInt - a_0.toInt ∧ (400 : Int32).toInt - (a_0 + (1 : Int32)).toInt + 1 ≤ (400 : Int32).toInt - a_0.toInt from by have z0 : (1 : Int32).toInt = 1 := (by decide +kernel); have z1 : (400 : Int32).toInt = 400 := (by decide +kernel); have r0 := fb_rng (a_0); have r1 := fb_rng (a_1); have e0 := k_0; rw [Int32.le_iff_toInt_le] at e0; have e1 := k_1; rw [Int32.lt_iff_toInt_lt, z1] at e1; obtain ⟨n_0, hn_0, s0⟩ := nd_add (x := a_0) (y := (1 : Int32)) (by (try rw [z0]); omega) (by (try rw [z0]); omega); rw [z0] at s0; rw [hn_0]; (try rw [z1]); omega)) (ti f_1 q0 4) x_3 c_4 b_3.2) hm_1) _ _ _ _ _ hP hD hS hO_3 (((hE_1.trans hE_2).trans hE_3).mono (by decide +kernel)) (by rw [show ti f_3 q0 4 = ((ti f_1 q0 4) + 1) from w_13]; exact ms_2 ((fun (a_0 : Int32) (a_1 : Int32) (k_0 : ¬ (a_1 ≤ a_0)) (k_1 : ¬ (400 < a_1)) => (show 1 ≤ (400 : Int32).toInt - a_0.toInt ∧ (400 : Int32).toInt - (a_0 + (1 : Int32)).toInt + 1 ≤ (400 : Int32).toInt - a_0.toInt from by have z0 : (1 : Int32).toInt = 1 := (by decide +kernel); have z1 : (400 : Int32).toInt = 400 := (by decide +kernel); have r0 := fb_rng (a_0); have r1 := fb_rng (a_1); have e0 := k_0; rw [Int32.le_iff_toInt_le] at e0; have e1 := k_1; rw [Int32.lt_iff_toInt_lt, z1] at e1; obtain ⟨n_0, hn_0, s0⟩ := nd_add (x := a_0) (y := (1 : Int32)) (by (try rw [z0]); omega) (by (try rw [z0]); omega); rw [z0] at s0; rw [hn_0]; (try rw [z1]); omega)) (ti f_1 q0 4) x_3 c_4 b_3.2) hm_1) (lv_sub hl [0] rfl)
  exact cut_1 4294967296 _ _ _ _ _ hP hD hS hO_0 Ext.rf (by exact ms_0 _ _) (lv_sub hl [0] rfl)
def WL_Tp_passLetters_t_0_1 : List (Nat × Nat) := [(10, 4)]
def W_Tp_passLetters_t : List (Nat × Nat) := [(10, 4)]
set_option maxHeartbeats 4000000 in
set_option maxRecDepth 100000 in
theorem c_Tp_passLetters_t (l : Launch) (dC : Nat → ClassId) (dI : Nat → Nat → Nat) (ct : Nat → ClassId) (L : List Nat) (f : TF) (hO_0 : Ok L f) (q0 : Nat) (m0 : q0 ∈ L ∧ tk f q0 = 10) (sz : Nat)    : Met l y_Tp_passLetters (.code y_Tp_passLetters b_Tp_passLetters 1 none :: TB) ({ frames := 1, cells := 0, slots := 0, locals := 20 }) (va_Pc [.ref q0] (PC dC dI (TW ct L f) (TT ct) sz)) (va_Qv (fun (u : TSt) => Ok u.1 u.2 ∧ Ext W_Tp_passLetters_t L f u.1 u.2 ∧ (True)) (fun (u : TSt) t => va_P (dC, dI) vwCl (TW ct u.1 u.2) t.heap ∧ va_K (dC, dI) vwCl (TT ct) t ∧ va_D (va_A (TW ct L f) sz) (TW ct u.1 u.2)) (va_A (TW ct L f) sz)) 0 0 (va_A (TW ct L f) sz) := by
  refine Met.ofW (cc := b_Tp_passLetters) (maxL := 1) (ret := none) (by decide) rfl ?_
  intro p e s m args below meth c s₁ B hml hv
  obtain ⟨rfl, hsz, hP, hK, hD0, hN⟩ := hv
  have hx := B.exec
  have hb := B.bytes
  have hr := B.returns
  have hts := atoms_spec (ws := (.code y_Tp_passLetters b_Tp_passLetters 1 none :: TB)) B.pre
  have htb := fun w (h : w ∈ TB) => hts w (List.mem_cons_of_mem _ h)
  have hown : s.vm.findClass R_Tp = some m.cls := findClass_of_methodNamed B.named
  have hlocks := B.notSynchronized
  have hl := lv_entry ([.ref q0]) (n := 1) (Nat.le_of_ble_eq_true rfl)
  rw [lg_entry_eq]
  generalize (lg_sl ([.ref q0]) ++ List.replicate (1 - (lg_sl ([.ref q0])).length) Slot.unset).toArray = ls at hl ⊢
  have hl : lv_has ls 1 [(0, .ref q0)] := hl
  subst hsz
  have hD := hD0.self (sz := s.heap.size)
  obtain ⟨A, hAe⟩ : ∃ A, va_A (TW ct L f) s.heap.size = A := ⟨_, rfl⟩
  rw [hAe] at hD
  have hA : ∀ q : Nat, s.heap.size ≤ q → A q := fun q h => by rw [← hAe]; exact Or.inr h
  have hS : va_S A s.heap s.heap [] := va_S.rf
  have hA_0 : Ext [] L f L f := Ext.rf
  suffices hGo : ∀ (H : Heap) (locs : List Loc), va_P (dC, dI) vwCl (TW ct L f) H → va_S A s.heap H locs → W p l e (headSpec (.code y_Tp_passLetters b_Tp_passLetters 1 none :: TB) ({ frames := 1, cells := 0, slots := 0, locals := 20 })).room s m [.ref q0].toArray below meth c H locs 0 0 (MQ below (va_Qv (fun (u : TSt) => Ok u.1 u.2 ∧ Ext W_Tp_passLetters_t L f u.1 u.2 ∧ (True)) (fun (u : TSt) t => va_P (dC, dI) vwCl (TW ct u.1 u.2) t.heap ∧ va_K (dC, dI) vwCl (TT ct) t ∧ va_D (va_A (TW ct L f) s.heap.size) (TW ct u.1 u.2)) (va_A (TW ct L f) s.heap.size)) [.ref q0].toArray s 0 0 (va_A (TW ct L f) s.heap.size)) (F0 m 0 ls []) from hGo _ _ hP hS
  clear hP hS
  intro H locs hP hS
  have cut_1 : ∀ (n_1 : Nat) (L_1 : List Nat) (f_1 : TF) (H : Heap) (locs : List Loc) (ls : Array Slot), va_P (dC, dI) vwCl (TW ct L_1 f_1) H → va_D A (TW ct L_1 f_1) → va_S A s.heap H locs → Ok L_1 f_1 → Ext WL_Tp_passLetters_t_0_1 L f L_1 f_1 → (400 : Int32).toInt - ((ti f_1 q0 4) : Int32).toInt ≤ (n_1 : Int) → lv_has ls 1 [(0, .ref q0)] → W p l e (headSpec (.code y_Tp_passLetters b_Tp_passLetters 1 none :: TB) ({ frames := 1, cells := 0, slots := 0, locals := 20 })).room s m [.ref q0].toArray below meth c H locs 0 0 (MQ below (va_Qv (fun (u : TSt) => Ok u.1 u.2 ∧ Ext W_Tp_passLetters_t L f u.1 u.2 ∧ (True)) (fun (u : TSt) t => va_P (dC, dI) vwCl (TW ct u.1 u.2) t.heap ∧ va_K (dC, dI) vwCl (TT ct) t ∧ va_D (va_A (TW ct L f) s.heap.size) (TW ct u.1 u.2)) (va_A (TW ct L f) s.heap.size)) [.ref q0].toArray s 0 0 (va_A (TW ct L f) s.heap.size)) (F0 m 0 ls []) := by
    intro n_1
    induction n_1 using Nat.strongRecOn with
    | _ n_1 ih_1 =>
      intro L_1 f_1 H locs ls hP hD hS hO_1 hE_1 hm_1 hl
      have hA_1 := hA_0.trans hE_1
      have bf_2 := hO_1.i (hA_1.m m0) (show slotD 10 4 = some (.inl (0, 400)) from rfl)
      refine lv_aload_n hx hb d_Tp_passLetters_0 rfl (lv_at hl 0 rfl) ?_
      refine tw_getI (x := (ti f_1 q0 4)) (D := (dC, dI)) (C := R_Tp) (T := F_Tp) (N := 6) (ci := 4) (kd := 10) (ct := ct) hx hb htb i_Tp hown hK hP (hA_1.m m0) rfl rfl 4 rfl (by decide) (htb (.fieldLink R_Tp 24 "WaterMen$Tape" "behind" "I") tw_120) (fun _ h9 => h9) rfl d_Tp_passLetters_1 ?_
      refine lv_aload_n hx hb d_Tp_passLetters_4 rfl (lv_at hl 0 rfl) ?_
      refine tw_geti (D := (dC, dI)) (C := R_Tp) (T := F_Tp) (N := 6) (ci := 4) (kd := 10) (ct := ct) hx hb htb i_Tp hown hK hP hO_1 (hA_1.m m0) rfl rfl 1 (by decide) (htb (.fieldLink R_Tp 15 "WaterMen$Tape" "length" "I") tw_117) (fun _ h9 => h9) rfl d_Tp_passLetters_5 (fun x_3 e_3 b_3 => ?_)
      refine lv_icmp_ge (tgt := 39) hx hb d_Tp_passLetters_8 (by decide) (fun c_4 => ?_) (fun c_4 => ?_)
      · refine W.widen (k := 0) (n := 0) (Nat.le_of_ble_eq_true rfl) (Nat.le_of_ble_eq_true rfl) ?_
        exact W.vret hx hb hr (fun t ht hW => ⟨⟨(L_1, f_1), rfl, ⟨hO_1, hA_1.mono (by decide +kernel), trivial⟩, by rw [ht]; exact hP, va_K.moved hW.alike hK, by rw [hAe]; exact hD⟩, by rw [hAe]; exact hS.F ht⟩) (by rw [hAe]; exact hS.2.2) d_Tp_passLetters_39
      · refine lv_aload_n hx hb d_Tp_passLetters_11 rfl (lv_at hl 0 rfl) ?_
        refine tw_getr (D := (dC, dI)) (C := R_Tp) (T := F_Tp) (N := 6) (ci := 4) (kd := 10) (ct := ct) hx hb htb i_Tp hown hK hP hO_1 (hA_1.m m0) rfl rfl 0 (by decide) (htb (.fieldLink R_Tp 9 "WaterMen$Tape" "bytes" "[B") tw_118) (fun _ h9 => h9) rfl d_Tp_passLetters_12 (fun q_5 e_5 m_5 => ?_)
        refine lv_aload_n hx hb d_Tp_passLetters_15 rfl (lv_at hl 0 rfl) ?_
        refine tw_getI (x := (ti f_1 q0 4)) (D := (dC, dI)) (C := R_Tp) (T := F_Tp) (N := 6) (ci := 4) (kd := 10) (ct := ct) hx hb htb i_Tp hown hK hP (hA_1.m m0) rfl rfl 4 rfl (by decide) (htb (.fieldLink R_Tp 24 "WaterMen$Tape" "behind" "I") tw_120) (fun _ h9 => h9) rfl d_Tp_passLetters_16 ?_
        refine tw_aldB (ct := ct) hx hb hK hP hO_1 m_5 rfl ((fun (a_0 : Int32) (a_1 : Int32) (k_0 : ¬ (a_0 < 0)) (k_1 : ¬ (a_1 ≤ a_0)) (k_2 : ¬ (400 < a_1)) => (show vp_in (a_0) 400 from by have z0 : (0 : Int32).toInt = 0 := (by decide +kernel); have z1 : (400 : Int32).toInt = 400 := (by decide +kernel); have r0 := fb_rng (a_0); have r1 := fb_rng (a_1); have e0 := k_0; rw [Int32.lt_iff_toInt_lt, z0] at e0; have e1 := k_1; rw [Int32.le_iff_toInt_le] at e1; have e2 := k_2; rw [Int32.lt_iff_toInt_lt, z1] at e2; rw [vp_in_iff]; omega)) (ti f_1 q0 4) x_3 bf_2.1 c_4 b_3.2) d_Tp_passLetters_19 (fun x_6 e_6 b_6 => ?_)
        refine vp_callSi (va_Run.run (va_runS (As := [.int x_6]) (rest := []) ⟨hx, hb, hml, hown, htb⟩ (c_Tp_isLetter l x_6) (cwS 1 htb (gd_S tw_125 tw_126 tw_124 tw_123) rfl rfl rfl (by decide +kernel) ⟨Nat.le_of_ble_eq_true rfl, Nat.le_of_ble_eq_true rfl⟩) ⟨fun _ _ _ _ h => h, fun U _ _ => ⟨rfl, trivial⟩⟩ rfl rfl hl.1 rfl (lv_room (Nat.le_of_ble_eq_true rfl)) d_Tp_passLetters_20 ⟨Nat.le_of_ble_eq_true rfl, Nat.le_of_ble_eq_true rfl⟩)) (fun r er => ?_)
        subst er
        by_cases c_8 : x_6 < 97
        · refine hb_ti 0 (by unfold f_Tp_isLetter; rw [if_pos c_8]; first | done | rfl) ?_
          refine lv_if_eq (tgt := 39) hx hb d_Tp_passLetters_23 (by decide) (fun _ => ?_) (fun h => absurd (by decide +kernel) h)
          refine W.widen (k := 0) (n := 0) (Nat.le_of_ble_eq_true rfl) (Nat.le_of_ble_eq_true rfl) ?_
          exact W.vret hx hb hr (fun t ht hW => ⟨⟨(L_1, f_1), rfl, ⟨hO_1, hA_1.mono (by decide +kernel), trivial⟩, by rw [ht]; exact hP, va_K.moved hW.alike hK, by rw [hAe]; exact hD⟩, by rw [hAe]; exact hS.F ht⟩) (by rw [hAe]; exact hS.2.2) d_Tp_passLetters_39
        · by_cases c_9 : 122 < x_6
          · refine hb_ti 0 (by unfold f_Tp_isLetter; rw [if_neg c_8, if_pos c_9]; first | done | rfl) ?_
            refine lv_if_eq (tgt := 39) hx hb d_Tp_passLetters_23 (by decide) (fun _ => ?_) (fun h => absurd (by decide +kernel) h)
            refine W.widen (k := 0) (n := 0) (Nat.le_of_ble_eq_true rfl) (Nat.le_of_ble_eq_true rfl) ?_
            exact W.vret hx hb hr (fun t ht hW => ⟨⟨(L_1, f_1), rfl, ⟨hO_1, hA_1.mono (by decide +kernel), trivial⟩, by rw [ht]; exact hP, va_K.moved hW.alike hK, by rw [hAe]; exact hD⟩, by rw [hAe]; exact hS.F ht⟩) (by rw [hAe]; exact hS.2.2) d_Tp_passLetters_39
          · refine hb_ti 1 (by unfold f_Tp_isLetter; rw [if_neg c_8, if_neg c_9]; first | done | rfl) ?_
            refine lv_if_eq (tgt := 39) hx hb d_Tp_passLetters_23 (by decide) (fun h => absurd h (by decide +kernel)) (fun _ => ?_)
            refine lv_aload_n hx hb d_Tp_passLetters_26 rfl (lv_at hl 0 rfl) ?_
            refine lv_dup hx hb d_Tp_passLetters_27 rfl ?_
            refine tw_getI (x := (ti f_1 q0 4)) (D := (dC, dI)) (C := R_Tp) (T := F_Tp) (N := 6) (ci := 4) (kd := 10) (ct := ct) hx hb htb i_Tp hown hK hP (hA_1.m m0) rfl rfl 4 rfl (by decide) (htb (.fieldLink R_Tp 24 "WaterMen$Tape" "behind" "I") tw_120) (fun _ h9 => h9) rfl d_Tp_passLetters_28 ?_
            refine lv_iconst (v := 1) hx hb d_Tp_passLetters_31 (by decide +kernel) ?_
            refine lv_iadd hx hb d_Tp_passLetters_32 ?_
            refine tw_puti (v := ((ti f_1 q0 4) + 1)) (D := (dC, dI)) (C := R_Tp) (T := F_Tp) (N := 6) (ci := 4) (kd := 10) (ct := ct) (ty := .int) hx hb htb i_Tp t_Tp t_Tp_ok n_Tp hown hK hP hD hS hO_1 (hA_1.m m0) rfl rfl 4 (by decide) (htb (.fieldLink R_Tp 24 "WaterMen$Tape" "behind" "I") tw_120) (fun _ h9 => h9) rfl (by decide +kernel) rfl rfl rfl ⟨(show ¬ (((ti f_1 q0 4) + 1) < 0) from ((fun (a_0 : Int32) (a_1 : Int32) (k_0 : ¬ (a_0 < 0)) (k_1 : ¬ (a_1 ≤ a_0)) => (show ¬ ((a_0 + 1) < 0) from by have z0 : (0 : Int32).toInt = 0 := (by decide +kernel); have z1 : (1 : Int32).toInt = 1 := (by decide +kernel); have r0 := fb_rng (a_0); have r1 := fb_rng (a_1); have e0 := k_0; rw [Int32.lt_iff_toInt_lt, z0] at e0; have e1 := k_1; rw [Int32.le_iff_toInt_le] at e1; obtain ⟨n_0, hn_0, s0⟩ := nd_add (x := a_0) (y := (1 : Int32)) (by (try rw [z1]); omega) (by (try rw [z1]); omega); rw [z1] at s0; rw [hn_0, Int32.lt_iff_toInt_lt, z0]; omega)) (ti f_1 q0 4) x_3 bf_2.1 c_4)), (show ¬ (400 < ((ti f_1 q0 4) + 1)) from ((fun (a_0 : Int32) (a_1 : Int32) (k_0 : ¬ (a_1 ≤ a_0)) (k_1 : ¬ (400 < a_1)) => (show ¬ (400 < (a_0 + 1)) from by have z0 : (1 : Int32).toInt = 1 := (by decide +kernel); have z1 : (400 : Int32).toInt = 400 := (by decide +kernel); have r0 := fb_rng (a_0); have r1 := fb_rng (a_1); have e0 := k_0; rw [Int32.le_iff_toInt_le] at e0; have e1 := k_1; rw [Int32.lt_iff_toInt_lt, z1] at e1; obtain ⟨n_0, hn_0, s0⟩ := nd_add (x := a_0) (y := (1 : Int32)) (by (try rw [z0]); omega) (by (try rw [z0]); omega); rw [z0] at s0; rw [hn_0, Int32.lt_iff_toInt_lt, z1]; omega)) (ti f_1 q0 4) x_3 c_4 b_3.2))⟩ d_Tp_passLetters_33 (fun f_2 H locs hP hD hS hO_2 hE_2 w_10 hF_2 => ?_)
            have hA_2 := hA_1.trans hE_2
            refine lv_goto (tgt := 0) hx hb d_Tp_passLetters_36 (by decide) ?_
            exact ih_1 (n_1 - 1) (ms_1 ((fun (a_0 : Int32) (a_1 : Int32) (k_0 : ¬ (a_1 ≤ a_0)) (k_1 : ¬ (400 < a_1)) => (show 1 ≤ (400 : Int32).toInt - a_0.toInt ∧ (400 : Int32).toInt - (a_0 + (1 : Int32)).toInt + 1 ≤ (400 : Int32).toInt - a_0.toInt from by have z0 : (1 : Int32).toInt = 1 := (by decide +kernel); have z1 : (400 : Int32).toInt = 400 := (by decide +kernel); have r0 := fb_rng (a_0); have r1 := fb_rng (a_1); have e0 := k_0; rw [Int32.le_iff_toInt_le] at e0; have e1 := k_1; rw [Int32.lt_iff_toInt_lt, z1] at e1; obtain ⟨n_0, hn_0, s0⟩ := nd_add (x := a_0) (y := (1 : Int32)) (by (try rw [z0]); omega) (by (try rw [z0]); omega); rw [z0] at s0; rw [hn_0]; (try rw [z1]); omega)) (ti f_1 q0 4) x_3 c_4 b_3.2) hm_1) _ _ _ _ _ hP hD hS hO_2 ((hE_1.trans hE_2).mono (by decide +kernel)) (by rw [show ti f_2 q0 4 = ((ti f_1 q0 4) + 1) from w_10]; exact ms_2 ((fun (a_0 : Int32) (a_1 : Int32) (k_0 : ¬ (a_1 ≤ a_0)) (k_1 : ¬ (400 < a_1)) => (show 1 ≤ (400 : Int32).toInt - a_0.toInt ∧ (400 : Int32).toInt - (a_0 + (1 : Int32)).toInt + 1 ≤ (400 : Int32).toInt - a_0.toInt from by have z0 : (1 : Int32).toInt = 1 := (by decide +kernel); have z1 : (400 : Int32).toInt = 400 := (by decide +kernel); have r0 := fb_rng (a_0); have r1 := fb_rng (a_1); have e0 := k_0; rw [Int32.le_iff_toInt_le] at e0; have e1 := k_1; rw [Int32.lt_iff_toInt_lt, z1] at e1; obtain ⟨n_0, hn_0, s0⟩ := nd_add (x := a_0) (y := (1 : Int32)) (by (try rw [z0]); omega) (by (try rw [z0]); omega); rw [z0] at s0; rw [hn_0]; (try rw [z1]); omega)) (ti f_1 q0 4) x_3 c_4 b_3.2) hm_1) (lv_sub hl [0] rfl)
  exact cut_1 4294967296 _ _ _ _ _ hP hD hS hO_0 Ext.rf (by exact ms_0 _ _) (lv_sub hl [0] rfl)
