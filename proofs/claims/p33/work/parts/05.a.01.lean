set_option maxHeartbeats 4000000 in
set_option maxRecDepth 100000 in
theorem c_WM_foretold_t (l : Launch) (dC : Nat → ClassId) (dI : Nat → Nat → Nat) (ct : Nat → ClassId) (L : List Nat) (f : TF) (hO_0 : Ok L f) (q0 : Nat) (m0 : q0 ∈ L ∧ tk f q0 = 0)    : Met l y_WM_foretold (.code y_WM_foretold b_WM_foretold 2 (some .int) :: TB) ({ frames := 3, cells := 0, slots := 0, locals := 72 }) (va_Pc [.ref q0] (PR dC dI (TW ct L f) (TT ct))) (vp_Si (fun r => True)) 0 0 (fun _ => False) := by
  refine Met.ofW (cc := b_WM_foretold) (maxL := 2) (ret := (some .int)) (by decide) rfl ?_
  intro p e s m args below meth c s₁ B hml hv
  obtain ⟨rfl, hP, hK, hN⟩ := hv
  have hx := B.exec
  have hb := B.bytes
  have hr := B.returns
  have hts := atoms_spec (ws := (.code y_WM_foretold b_WM_foretold 2 (some .int) :: TB)) B.pre
  have htb := fun w (h : w ∈ TB) => hts w (List.mem_cons_of_mem _ h)
  have hown : s.vm.findClass R_WM = some m.cls := findClass_of_methodNamed B.named
  have hlocks := B.notSynchronized
  have hl := lv_entry ([.ref q0]) (n := 2) (Nat.le_of_ble_eq_true rfl)
  rw [lg_entry_eq]
  generalize (lg_sl ([.ref q0]) ++ List.replicate (2 - (lg_sl ([.ref q0])).length) Slot.unset).toArray = ls at hl ⊢
  have hl : lv_has ls 2 [(0, .ref q0)] := hl
  refine lv_aload_n hx hb d_WM_foretold_0 rfl (lv_at hl 0 rfl) ?_
  refine tw_getr (D := (dC, dI)) (C := R_WM) (T := F_WM) (N := 13) (ci := 0) (kd := 0) (ct := ct) hx hb htb i_WM hown hK hP hO_0 m0 rfl rfl 6 (by decide) (htb (.fieldLink R_WM 50 "WaterMen" "box" "LWaterMen$Box;") tw_48) (fun _ h9 => h9) rfl d_WM_foretold_1 (fun q_1 e_1 m_1 => ?_)
  refine lv_aload_n hx hb d_WM_foretold_4 rfl (lv_at hl 0 rfl) ?_
  refine vp_callSi (va_Run.run (va_runV (As := []) (rest := [.ref q_1]) ⟨hx, hb, hml, hown, htb⟩ (c_WM_today_t l dC dI ct L f hO_0 q0 m0) (cwV 0 htb (gd_V tw_50 tw_51 tw_52 tw_26 tw_49) rfl rfl rfl (by decide +kernel) ⟨Nat.le_of_ble_eq_true rfl, Nat.le_of_ble_eq_true rfl⟩) ⟨pr_blind, tw_recv hK hP m0 rfl rfl, pr_pre hP hK hN⟩ rfl rfl hl.1 rfl (lv_room (Nat.le_of_ble_eq_true rfl)) d_WM_foretold_5 ⟨Nat.le_of_ble_eq_true rfl, Nat.le_of_ble_eq_true rfl⟩)) (fun r_2 er_2 => ?_)
  obtain ⟨po_3, po_4, -⟩ := er_2
  refine vp_callSi (va_Run.run (va_runV (As := [.int r_2]) (rest := []) ⟨hx, hb, hml, hown, htb⟩ (c_Bx_firstShortDay_t l dC dI ct L f hO_0 q_1 m_1 r_2 po_3 po_4) (cwV 1 htb (gd_V tw_73 tw_74 tw_75 tw_61 tw_72) rfl rfl rfl (by decide +kernel) ⟨Nat.le_of_ble_eq_true rfl, Nat.le_of_ble_eq_true rfl⟩) ⟨pr_blind, tw_recv hK hP m_1 rfl rfl, pr_pre hP hK hN⟩ rfl rfl hl.1 rfl (lv_room (Nat.le_of_ble_eq_true rfl)) d_WM_foretold_8 ⟨Nat.le_of_ble_eq_true rfl, Nat.le_of_ble_eq_true rfl⟩)) (fun r_5 er_5 => ?_)
  clear er_5
  refine lv_istore_n (lv' := [(1, .int r_5), (0, .ref q0)]) hx hb d_WM_foretold_11 rfl hl (by decide) rfl (fun ls hl => ?_)
  refine lv_iload_n hx hb d_WM_foretold_12 rfl (lv_at hl 0 rfl) ?_
  refine lv_iconst (v := (-1)) hx hb d_WM_foretold_13 (by decide +kernel) ?_
  refine lv_icmp_ne (tgt := 22) hx hb d_WM_foretold_14 (by decide) (fun c_6 => ?_) (fun c_6 => ?_)
  · refine lv_iload_n hx hb d_WM_foretold_22 rfl (lv_at hl 0 rfl) ?_
    exact W.iret (v := r_5) hx hb hr (fun t ht hW => ⟨r_5, rfl, trivial, ht⟩) t_nil d_WM_foretold_23
  · refine lv_bipush (v := (-2)) hx hb d_WM_foretold_17 (by decide +kernel) ?_
    refine lv_goto (tgt := 23) hx hb d_WM_foretold_19 (by decide) ?_
    exact W.iret (v := (-2)) hx hb hr (fun t ht hW => ⟨(-2), rfl, trivial, ht⟩) t_nil d_WM_foretold_23
set_option maxHeartbeats 4000000 in
set_option maxRecDepth 100000 in
theorem c_WM_pensioner_t (l : Launch) (dC : Nat → ClassId) (dI : Nat → Nat → Nat) (ct : Nat → ClassId) (L : List Nat) (f : TF) (hO_0 : Ok L f) (q0 : Nat) (m0 : q0 ∈ L ∧ tk f q0 = 0) (p_0 : Int32) (p_1 : Int32)   : Met l y_WM_pensioner (.code y_WM_pensioner b_WM_pensioner 4 (some .int) :: TB) ({ frames := 1, cells := 0, slots := 0, locals := 21 }) (va_Pc [.ref q0, .int p_0, .int p_1] (PR dC dI (TW ct L f) (TT ct))) (vp_Si (fun r => True)) 0 0 (fun _ => False) := by
  refine Met.ofW (cc := b_WM_pensioner) (maxL := 4) (ret := (some .int)) (by decide) rfl ?_
  intro p e s m args below meth c s₁ B hml hv
  obtain ⟨rfl, hP, hK, hN⟩ := hv
  have hx := B.exec
  have hb := B.bytes
  have hr := B.returns
  have hts := atoms_spec (ws := (.code y_WM_pensioner b_WM_pensioner 4 (some .int) :: TB)) B.pre
  have htb := fun w (h : w ∈ TB) => hts w (List.mem_cons_of_mem _ h)
  have hown : s.vm.findClass R_WM = some m.cls := findClass_of_methodNamed B.named
  have hlocks := B.notSynchronized
  have hl := lv_entry ([.ref q0, .int p_0, .int p_1]) (n := 4) (Nat.le_of_ble_eq_true rfl)
  rw [lg_entry_eq]
  generalize (lg_sl ([.ref q0, .int p_0, .int p_1]) ++ List.replicate (4 - (lg_sl ([.ref q0, .int p_0, .int p_1])).length) Slot.unset).toArray = ls at hl ⊢
  have hl : lv_has ls 4 [(0, .ref q0), (1, .int p_0), (2, .int p_1)] := hl
  refine lv_aload_n hx hb d_WM_pensioner_0 rfl (lv_at hl 0 rfl) ?_
  refine tw_getr (D := (dC, dI)) (C := R_WM) (T := F_WM) (N := 13) (ci := 0) (kd := 0) (ct := ct) hx hb htb i_WM hown hK hP hO_0 m0 rfl rfl 6 (by decide) (htb (.fieldLink R_WM 50 "WaterMen" "box" "LWaterMen$Box;") tw_48) (fun _ h9 => h9) rfl d_WM_pensioner_1 (fun q_1 e_1 m_1 => ?_)
  refine lv_iload_n hx hb d_WM_pensioner_4 rfl (lv_at hl 1 rfl) ?_
  refine va_csq (va_Run.run (va_runV (As := [.int p_0]) (rest := []) ⟨hx, hb, hml, hown, htb⟩ (c_Bx_pensionerAt_t l dC dI ct L f hO_0 q_1 m_1 p_0) (cwV 1 htb (gd_V tw_76 tw_63 tw_64 tw_61 tw_60) rfl rfl rfl (by decide +kernel) ⟨Nat.le_of_ble_eq_true rfl, Nat.le_of_ble_eq_true rfl⟩) ⟨pr_blind, tw_recv hK hP m_1 rfl rfl, pr_pre hP hK hN⟩ rfl rfl hl.1 rfl (lv_room (Nat.le_of_ble_eq_true rfl)) d_WM_pensioner_5 ⟨Nat.le_of_ble_eq_true rfl, Nat.le_of_ble_eq_true rfl⟩)) (fun r_2 er_2 => ?_)
  rcases er_2 with rfl | ⟨q_2, rfl, m_2⟩
  · refine hb_tv .null rfl ?_
    refine lv_astore_nN (lv' := [(3, .null), (0, .ref q0), (1, .int p_0), (2, .int p_1)]) hx hb d_WM_pensioner_8 rfl hl (by decide) rfl (fun ls hl => ?_)
    refine lv_aload_nN hx hb d_WM_pensioner_9 rfl (lv_at hl 0 rfl) ?_
    refine lv_ifnonnullN hx hb d_WM_pensioner_10 ?_
    refine lv_iconst (v := (-1)) hx hb d_WM_pensioner_13 (by decide +kernel) ?_
    exact W.iret (v := (-1)) hx hb hr (fun t ht hW => ⟨(-1), rfl, trivial, ht⟩) t_nil d_WM_pensioner_14
  · refine hb_tv (.ref q_2) rfl ?_
    refine lv_astore_n (lv' := [(3, .ref q_2), (0, .ref q0), (1, .int p_0), (2, .int p_1)]) hx hb d_WM_pensioner_8 rfl hl (by decide) rfl (fun ls hl => ?_)
    refine lv_aload_n hx hb d_WM_pensioner_9 rfl (lv_at hl 0 rfl) ?_
    refine lv_ifnonnull (tgt := 15) hx hb d_WM_pensioner_10 (by decide) ?_
    refine lv_iload_n hx hb d_WM_pensioner_15 rfl (lv_at hl 3 rfl) ?_
    by_cases c_3 : p_1 = 0
    · refine lv_tableIn (off := 28) (tgt := 44) hx hb d_WM_pensioner_16 (by rw [c_3]; decide +kernel) (by rw [c_3]; decide +kernel) (by rw [c_3]; decide +kernel) (by decide) ?_
      refine lv_aload_n hx hb d_WM_pensioner_44 rfl (lv_at hl 0 rfl) ?_
      refine tw_geti (D := (dC, dI)) (C := R_Pn) (T := F_Pn) (N := 3) (ci := 6) (kd := 26) (ct := ct) hx hb htb i_Pn hown hK hP hO_0 m_2 rfl rfl 0 (by decide) (htb (.fieldLink R_WM 329 "WaterMen$Pensioner" "pension" "I") tw_77) (fun _ h9 => h9) rfl d_WM_pensioner_45 (fun x_4 e_4 b_4 => ?_)
      exact W.iret (v := x_4) hx hb hr (fun t ht hW => ⟨x_4, rfl, trivial, ht⟩) t_nil d_WM_pensioner_48
    · by_cases c_5 : p_1 = 1
      · refine lv_tableIn (off := 33) (tgt := 49) hx hb d_WM_pensioner_16 (by rw [c_5]; decide +kernel) (by rw [c_5]; decide +kernel) (by rw [c_5]; decide +kernel) (by decide) ?_
        refine lv_aload_n hx hb d_WM_pensioner_49 rfl (lv_at hl 0 rfl) ?_
        refine tw_geti (D := (dC, dI)) (C := R_Pn) (T := F_Pn) (N := 3) (ci := 6) (kd := 26) (ct := ct) hx hb htb i_Pn hown hK hP hO_0 m_2 rfl rfl 1 (by decide) (htb (.fieldLink R_WM 334 "WaterMen$Pensioner" "end" "I") tw_78) (fun _ h9 => h9) rfl d_WM_pensioner_50 (fun x_6 e_6 b_6 => ?_)
        exact W.iret (v := x_6) hx hb hr (fun t ht hW => ⟨x_6, rfl, trivial, ht⟩) t_nil d_WM_pensioner_53
      · by_cases c_7 : p_1 = 2
        · refine lv_tableIn (off := 38) (tgt := 54) hx hb d_WM_pensioner_16 (by rw [c_7]; decide +kernel) (by rw [c_7]; decide +kernel) (by rw [c_7]; decide +kernel) (by decide) ?_
          refine lv_aload_n hx hb d_WM_pensioner_54 rfl (lv_at hl 0 rfl) ?_
          refine tw_geti (D := (dC, dI)) (C := R_Pn) (T := F_Pn) (N := 3) (ci := 6) (kd := 26) (ct := ct) hx hb htb i_Pn hown hK hP hO_0 m_2 rfl rfl 2 (by decide) (htb (.fieldLink R_WM 337 "WaterMen$Pensioner" "got" "I") tw_79) (fun _ h9 => h9) rfl d_WM_pensioner_55 (fun x_8 e_8 b_8 => ?_)
          exact W.iret (v := x_8) hx hb hr (fun t ht hW => ⟨x_8, rfl, trivial, ht⟩) t_nil d_WM_pensioner_58
        · refine lv_tableOut (tgt := 59) hx hb d_WM_pensioner_16 (by have h0 := lv_neT c_3 (show (0 : Int32).toInt = 0 by decide +kernel); have h1 := lv_neT c_5 (show (1 : Int32).toInt = 1 by decide +kernel); have h2 := lv_neT c_7 (show (2 : Int32).toInt = 2 by decide +kernel); omega) (by decide) ?_
          refine lv_iconst (v := (-1)) hx hb d_WM_pensioner_59 (by decide +kernel) ?_
          exact W.iret (v := (-1)) hx hb hr (fun t ht hW => ⟨(-1), rfl, trivial, ht⟩) t_nil d_WM_pensioner_60
set_option maxHeartbeats 4000000 in
set_option maxRecDepth 100000 in
theorem c_WM_coinsOfMen_t (l : Launch) (dC : Nat → ClassId) (dI : Nat → Nat → Nat) (ct : Nat → ClassId) (L : List Nat) (f : TF) (hO_0 : Ok L f) (q0 : Nat) (m0 : q0 ∈ L ∧ tk f q0 = 0)    : Met l y_WM_coinsOfMen (.code y_WM_coinsOfMen b_WM_coinsOfMen 4 (some .int) :: TB) ({ frames := 0, cells := 0, slots := 0, locals := 0 }) (va_Pc [.ref q0] (PR dC dI (TW ct L f) (TT ct))) (vp_Si (fun r => True)) 0 0 (fun _ => False) := by
  refine Met.ofW (cc := b_WM_coinsOfMen) (maxL := 4) (ret := (some .int)) (by decide) rfl ?_
  intro p e s m args below meth c s₁ B hml hv
  obtain ⟨rfl, hP, hK, hN⟩ := hv
  have hx := B.exec
  have hb := B.bytes
  have hr := B.returns
  have hts := atoms_spec (ws := (.code y_WM_coinsOfMen b_WM_coinsOfMen 4 (some .int) :: TB)) B.pre
  have htb := fun w (h : w ∈ TB) => hts w (List.mem_cons_of_mem _ h)
  have hown : s.vm.findClass R_WM = some m.cls := findClass_of_methodNamed B.named
  have hlocks := B.notSynchronized
  have hl := lv_entry ([.ref q0]) (n := 4) (Nat.le_of_ble_eq_true rfl)
  rw [lg_entry_eq]
  generalize (lg_sl ([.ref q0]) ++ List.replicate (4 - (lg_sl ([.ref q0])).length) Slot.unset).toArray = ls at hl ⊢
  have hl : lv_has ls 4 [(0, .ref q0)] := hl
  refine lv_iconst (v := 0) hx hb d_WM_coinsOfMen_0 (by decide +kernel) ?_
  refine lv_istore_n (lv' := [(1, .int 0), (0, .ref q0)]) hx hb d_WM_coinsOfMen_1 rfl hl (by decide) rfl (fun ls hl => ?_)
  refine lv_iconst (v := 0) hx hb d_WM_coinsOfMen_2 (by decide +kernel) ?_
  refine lv_istore_n (lv' := [(2, .int 0), (1, .int 0), (0, .ref q0)]) hx hb d_WM_coinsOfMen_3 rfl hl (by decide) rfl (fun ls hl => ?_)
  have cut_1 : ∀ (n_1 : Nat) (v1_1 v2_1 : Int32) (ls : Array Slot), ¬ (v2_1 < 0) → ¬ (40 < v2_1) → (40 : Int32).toInt - (v2_1 : Int32).toInt ≤ (n_1 : Int) → lv_has ls 4 [(0, .ref q0), (1, .int v1_1), (2, .int v2_1)] → W p l e (headSpec (.code y_WM_coinsOfMen b_WM_coinsOfMen 4 (some .int) :: TB) ({ frames := 0, cells := 0, slots := 0, locals := 0 })).room s m [.ref q0].toArray below meth c s.heap [] 0 0 (MQ below (vp_Si (fun r => True)) [.ref q0].toArray s 0 0 (fun _ => False)) (F0 m 4 ls []) := by
    intro n_1
    induction n_1 using Nat.strongRecOn with
    | _ n_1 ih_1 =>
      intro v1_1 v2_1 ls iv0_1 iv1_1 hm_1 hl
      refine lv_iload_n hx hb d_WM_coinsOfMen_4 rfl (lv_at hl 2 rfl) ?_
      refine lv_bipush (v := 40) hx hb d_WM_coinsOfMen_5 (by decide +kernel) ?_
      refine lv_icmp_ge (tgt := 38) hx hb d_WM_coinsOfMen_7 (by decide) (fun c_2 => ?_) (fun c_2 => ?_)
      · refine lv_iload_n hx hb d_WM_coinsOfMen_38 rfl (lv_at hl 1 rfl) ?_
        exact W.iret (v := v1_1) hx hb hr (fun t ht hW => ⟨v1_1, rfl, trivial, ht⟩) t_nil d_WM_coinsOfMen_39
      · refine lv_aload_n hx hb d_WM_coinsOfMen_10 rfl (lv_at hl 0 rfl) ?_
        refine tw_getr (D := (dC, dI)) (C := R_WM) (T := F_WM) (N := 13) (ci := 0) (kd := 0) (ct := ct) hx hb htb i_WM hown hK hP hO_0 m0 rfl rfl 1 (by decide) (htb (.fieldLink R_WM 18 "WaterMen" "men" "[LWaterMen$Man;") tw_24) (fun _ h9 => h9) rfl d_WM_coinsOfMen_11 (fun q_3 e_3 m_3 => ?_)
        refine lv_iload_n hx hb d_WM_coinsOfMen_14 rfl (lv_at hl 2 rfl) ?_
        refine tw_aldq (ct := ct) hx hb hK hP hO_0 m_3 rfl rfl (hb_in iv0_1 c_2 (by decide +kernel)) d_WM_coinsOfMen_15 (fun e_4 => ?_) (fun q_4 e_4 m_4 => ?_)
        · refine lv_astore_nN (lv' := [(3, .null), (0, .ref q0), (1, .int v1_1), (2, .int v2_1)]) hx hb d_WM_coinsOfMen_16 rfl hl (by decide) rfl (fun ls hl => ?_)
          refine lv_iload_n hx hb d_WM_coinsOfMen_17 rfl (lv_at hl 2 rfl) ?_
          refine lv_aload_nN hx hb d_WM_coinsOfMen_18 rfl (lv_at hl 0 rfl) ?_
          refine lv_ifnonnullN hx hb d_WM_coinsOfMen_19 ?_
          refine lv_iconst (v := 0) hx hb d_WM_coinsOfMen_22 (by decide +kernel) ?_
          refine lv_goto (tgt := 30) hx hb d_WM_coinsOfMen_23 (by decide) ?_
          refine lv_iadd hx hb d_WM_coinsOfMen_30 ?_
          refine lv_istore_n (lv' := [(1, .int (v1_1 + 0)), (3, .null), (0, .ref q0), (2, .int v2_1)]) hx hb d_WM_coinsOfMen_31 rfl hl (by decide) rfl (fun ls hl => ?_)
          refine lv_iinc (v := (v2_1 + 1)) (lv' := [(2, .int (v2_1 + 1)), (1, .int (v1_1 + 0)), (3, .null), (0, .ref q0)]) hx hb d_WM_coinsOfMen_32 hl (k := 3) rfl rfl (by decide) rfl (fun ls hl => ?_)
          refine lv_goto (tgt := 4) hx hb d_WM_coinsOfMen_35 (by decide) ?_
          exact ih_1 (n_1 - 1) (ms_1 ((fun (a_0 : Int32) (k_0 : ¬ (40 ≤ a_0)) => (show 1 ≤ (40 : Int32).toInt - (a_0).toInt ∧ (40 : Int32).toInt - ((a_0) + (1 : Int32)).toInt + 1 ≤ (40 : Int32).toInt - (a_0).toInt from by have z0 : (1 : Int32).toInt = 1 := (by decide +kernel); have z1 : (40 : Int32).toInt = 40 := (by decide +kernel); have r0 := fb_rng (a_0); have e0 := k_0; rw [Int32.le_iff_toInt_le, z1] at e0; obtain ⟨n_0, hn_0, s0⟩ := nd_add (x := (a_0)) (y := (1 : Int32)) (by (try rw [z0]); omega) (by (try rw [z0]); omega); rw [z0] at s0; rw [hn_0]; (try rw [z1]); omega)) v2_1 c_2) hm_1) (v1_1 + 0) (v2_1 + 1) _ (show ¬ ((v2_1 + 1) < 0) from by have e0 := iv0_1; rw [Int32.lt_iff_toInt_lt] at e0; have e1 := c_2; rw [Int32.le_iff_toInt_le] at e1; have z0 : (0 : Int32).toInt = 0 := (by decide +kernel); have z1 : (1 : Int32).toInt = 1 := (by decide +kernel); have z2 : (40 : Int32).toInt = 40 := (by decide +kernel); have ss := fb_addI (x := v2_1) (y := 1) (by omega) (by omega); rw [Int32.lt_iff_toInt_lt]; omega) (show ¬ (40 < (v2_1 + 1)) from by have e0 := iv0_1; rw [Int32.lt_iff_toInt_lt] at e0; have e1 := c_2; rw [Int32.le_iff_toInt_le] at e1; have z0 : (0 : Int32).toInt = 0 := (by decide +kernel); have z1 : (1 : Int32).toInt = 1 := (by decide +kernel); have z2 : (40 : Int32).toInt = 40 := (by decide +kernel); have ss := fb_addI (x := v2_1) (y := 1) (by omega) (by omega); rw [Int32.lt_iff_toInt_lt]; omega) (by exact ms_2 ((fun (a_0 : Int32) (k_0 : ¬ (40 ≤ a_0)) => (show 1 ≤ (40 : Int32).toInt - (a_0).toInt ∧ (40 : Int32).toInt - ((a_0) + (1 : Int32)).toInt + 1 ≤ (40 : Int32).toInt - (a_0).toInt from by have z0 : (1 : Int32).toInt = 1 := (by decide +kernel); have z1 : (40 : Int32).toInt = 40 := (by decide +kernel); have r0 := fb_rng (a_0); have e0 := k_0; rw [Int32.le_iff_toInt_le, z1] at e0; obtain ⟨n_0, hn_0, s0⟩ := nd_add (x := (a_0)) (y := (1 : Int32)) (by (try rw [z0]); omega) (by (try rw [z0]); omega); rw [z0] at s0; rw [hn_0]; (try rw [z1]); omega)) v2_1 c_2) hm_1) (lv_sub hl [3, 1, 0] rfl)
        · refine lv_astore_n (lv' := [(3, .ref q_4), (0, .ref q0), (1, .int v1_1), (2, .int v2_1)]) hx hb d_WM_coinsOfMen_16 rfl hl (by decide) rfl (fun ls hl => ?_)
          refine lv_iload_n hx hb d_WM_coinsOfMen_17 rfl (lv_at hl 2 rfl) ?_
          refine lv_aload_n hx hb d_WM_coinsOfMen_18 rfl (lv_at hl 0 rfl) ?_
          refine lv_ifnonnull (tgt := 26) hx hb d_WM_coinsOfMen_19 (by decide) ?_
          refine lv_aload_n hx hb d_WM_coinsOfMen_26 rfl (lv_at hl 0 rfl) ?_
          refine tw_geti (D := (dC, dI)) (C := R_Mn) (T := F_Mn) (N := 8) (ci := 2) (kd := 20) (ct := ct) hx hb htb i_Mn hown hK hP hO_0 m_4 rfl rfl 4 (by decide) (htb (.fieldLink R_WM 152 "WaterMen$Man" "coins" "I") tw_39) (fun _ h9 => h9) rfl d_WM_coinsOfMen_27 (fun x_5 e_5 b_5 => ?_)
          refine lv_iadd hx hb d_WM_coinsOfMen_30 ?_
          refine lv_istore_n (lv' := [(1, .int (v1_1 + x_5)), (3, .ref q_4), (0, .ref q0), (2, .int v2_1)]) hx hb d_WM_coinsOfMen_31 rfl hl (by decide) rfl (fun ls hl => ?_)
          refine lv_iinc (v := (v2_1 + 1)) (lv' := [(2, .int (v2_1 + 1)), (1, .int (v1_1 + x_5)), (3, .ref q_4), (0, .ref q0)]) hx hb d_WM_coinsOfMen_32 hl (k := 3) rfl rfl (by decide) rfl (fun ls hl => ?_)
          refine lv_goto (tgt := 4) hx hb d_WM_coinsOfMen_35 (by decide) ?_
          exact ih_1 (n_1 - 1) (ms_1 ((fun (a_0 : Int32) (k_0 : ¬ (40 ≤ a_0)) => (show 1 ≤ (40 : Int32).toInt - (a_0).toInt ∧ (40 : Int32).toInt - ((a_0) + (1 : Int32)).toInt + 1 ≤ (40 : Int32).toInt - (a_0).toInt from by have z0 : (1 : Int32).toInt = 1 := (by decide +kernel); have z1 : (40 : Int32).toInt = 40 := (by decide +kernel); have r0 := fb_rng (a_0); have e0 := k_0; rw [Int32.le_iff_toInt_le, z1] at e0; obtain ⟨n_0, hn_0, s0⟩ := nd_add (x := (a_0)) (y := (1 : Int32)) (by (try rw [z0]); omega) (by (try rw [z0]); omega); rw [z0] at s0; rw [hn_0]; (try rw [z1]); omega)) v2_1 c_2) hm_1) (v1_1 + x_5) (v2_1 + 1) _ (show ¬ ((v2_1 + 1) < 0) from by have e0 := iv0_1; rw [Int32.lt_iff_toInt_lt] at e0; have e1 := c_2; rw [Int32.le_iff_toInt_le] at e1; have z0 : (0 : Int32).toInt = 0 := (by decide +kernel); have z1 : (1 : Int32).toInt = 1 := (by decide +kernel); have z2 : (40 : Int32).toInt = 40 := (by decide +kernel); have ss := fb_addI (x := v2_1) (y := 1) (by omega) (by omega); rw [Int32.lt_iff_toInt_lt]; omega) (show ¬ (40 < (v2_1 + 1)) from by have e0 := iv0_1; rw [Int32.lt_iff_toInt_lt] at e0; have e1 := c_2; rw [Int32.le_iff_toInt_le] at e1; have z0 : (0 : Int32).toInt = 0 := (by decide +kernel); have z1 : (1 : Int32).toInt = 1 := (by decide +kernel); have z2 : (40 : Int32).toInt = 40 := (by decide +kernel); have ss := fb_addI (x := v2_1) (y := 1) (by omega) (by omega); rw [Int32.lt_iff_toInt_lt]; omega) (by exact ms_2 ((fun (a_0 : Int32) (k_0 : ¬ (40 ≤ a_0)) => (show 1 ≤ (40 : Int32).toInt - (a_0).toInt ∧ (40 : Int32).toInt - ((a_0) + (1 : Int32)).toInt + 1 ≤ (40 : Int32).toInt - (a_0).toInt from by have z0 : (1 : Int32).toInt = 1 := (by decide +kernel); have z1 : (40 : Int32).toInt = 40 := (by decide +kernel); have r0 := fb_rng (a_0); have e0 := k_0; rw [Int32.le_iff_toInt_le, z1] at e0; obtain ⟨n_0, hn_0, s0⟩ := nd_add (x := (a_0)) (y := (1 : Int32)) (by (try rw [z0]); omega) (by (try rw [z0]); omega); rw [z0] at s0; rw [hn_0]; (try rw [z1]); omega)) v2_1 c_2) hm_1) (lv_sub hl [3, 1, 0] rfl)
  exact cut_1 4294967296 (0 : Int32) (0 : Int32) _ (by decide +kernel) (by decide +kernel) (by exact ms_0 _ _) (lv_sub hl [2, 1, 0] rfl)
set_option maxHeartbeats 4000000 in
set_option maxRecDepth 100000 in
theorem c_WM_coins_t (l : Launch) (dC : Nat → ClassId) (dI : Nat → Nat → Nat) (ct : Nat → ClassId) (L : List Nat) (f : TF) (hO_0 : Ok L f) (q0 : Nat) (m0 : q0 ∈ L ∧ tk f q0 = 0) (p_0 : Int32)   : Met l y_WM_coins (.code y_WM_coins b_WM_coins 2 (some .int) :: TB) ({ frames := 1, cells := 0, slots := 0, locals := 23 }) (va_Pc [.ref q0, .int p_0] (PR dC dI (TW ct L f) (TT ct))) (vp_Si (fun r => True)) 0 0 (fun _ => False) := by
  refine Met.ofW (cc := b_WM_coins) (maxL := 2) (ret := (some .int)) (by decide) rfl ?_
  intro p e s m args below meth c s₁ B hml hv
  obtain ⟨rfl, hP, hK, hN⟩ := hv
  have hx := B.exec
  have hb := B.bytes
  have hr := B.returns
  have hts := atoms_spec (ws := (.code y_WM_coins b_WM_coins 2 (some .int) :: TB)) B.pre
  have htb := fun w (h : w ∈ TB) => hts w (List.mem_cons_of_mem _ h)
  have hown : s.vm.findClass R_WM = some m.cls := findClass_of_methodNamed B.named
  have hlocks := B.notSynchronized
  have hl := lv_entry ([.ref q0, .int p_0]) (n := 2) (Nat.le_of_ble_eq_true rfl)
  rw [lg_entry_eq]
  generalize (lg_sl ([.ref q0, .int p_0]) ++ List.replicate (2 - (lg_sl ([.ref q0, .int p_0])).length) Slot.unset).toArray = ls at hl ⊢
  have hl : lv_has ls 2 [(0, .ref q0), (1, .int p_0)] := hl
  refine lv_iload_n hx hb d_WM_coins_0 rfl (lv_at hl 1 rfl) ?_
  by_cases c_1 : p_0 = 0
  · refine lv_tableIn (off := 35) (tgt := 36) hx hb d_WM_coins_1 (by rw [c_1]; decide +kernel) (by rw [c_1]; decide +kernel) (by rw [c_1]; decide +kernel) (by decide) ?_
    refine lv_aload_n hx hb d_WM_coins_36 rfl (lv_at hl 0 rfl) ?_
    refine tw_getr (D := (dC, dI)) (C := R_WM) (T := F_WM) (N := 13) (ci := 0) (kd := 0) (ct := ct) hx hb htb i_WM hown hK hP hO_0 m0 rfl rfl 6 (by decide) (htb (.fieldLink R_WM 50 "WaterMen" "box" "LWaterMen$Box;") tw_48) (fun _ h9 => h9) rfl d_WM_coins_37 (fun q_2 e_2 m_2 => ?_)
    refine tw_geti (D := (dC, dI)) (C := R_Bx) (T := F_Bx) (N := 7) (ci := 5) (kd := 12) (ct := ct) hx hb htb i_Bx hown hK hP hO_0 m_2 rfl rfl 0 (by decide) (htb (.fieldLink R_WM 343 "WaterMen$Box" "coins" "I") tw_80) (fun _ h9 => h9) rfl d_WM_coins_40 (fun x_3 e_3 b_3 => ?_)
    exact W.iret (v := x_3) hx hb hr (fun t ht hW => ⟨x_3, rfl, trivial, ht⟩) t_nil d_WM_coins_43
  · by_cases c_4 : p_0 = 1
    · refine lv_tableIn (off := 43) (tgt := 44) hx hb d_WM_coins_1 (by rw [c_4]; decide +kernel) (by rw [c_4]; decide +kernel) (by rw [c_4]; decide +kernel) (by decide) ?_
      refine lv_aload_n hx hb d_WM_coins_44 rfl (lv_at hl 0 rfl) ?_
      refine tw_getr (D := (dC, dI)) (C := R_WM) (T := F_WM) (N := 13) (ci := 0) (kd := 0) (ct := ct) hx hb htb i_WM hown hK hP hO_0 m0 rfl rfl 6 (by decide) (htb (.fieldLink R_WM 50 "WaterMen" "box" "LWaterMen$Box;") tw_48) (fun _ h9 => h9) rfl d_WM_coins_45 (fun q_5 e_5 m_5 => ?_)
      refine tw_geti (D := (dC, dI)) (C := R_Bx) (T := F_Bx) (N := 7) (ci := 5) (kd := 12) (ct := ct) hx hb htb i_Bx hown hK hP hO_0 m_5 rfl rfl 1 (by decide) (htb (.fieldLink R_WM 344 "WaterMen$Box" "pot" "I") tw_81) (fun _ h9 => h9) rfl d_WM_coins_48 (fun x_6 e_6 b_6 => ?_)
      exact W.iret (v := x_6) hx hb hr (fun t ht hW => ⟨x_6, rfl, trivial, ht⟩) t_nil d_WM_coins_51
    · by_cases c_7 : p_0 = 2
      · refine lv_tableIn (off := 51) (tgt := 52) hx hb d_WM_coins_1 (by rw [c_7]; decide +kernel) (by rw [c_7]; decide +kernel) (by rw [c_7]; decide +kernel) (by decide) ?_
        refine lv_aload_n hx hb d_WM_coins_52 rfl (lv_at hl 0 rfl) ?_
        refine vp_callSi (va_Run.run (va_runV (As := []) (rest := []) ⟨hx, hb, hml, hown, htb⟩ (c_WM_coinsOfMen_t l dC dI ct L f hO_0 q0 m0) (cwV 0 htb (gd_V tw_83 tw_84 tw_85 tw_26 tw_82) rfl rfl rfl (by decide +kernel) ⟨Nat.le_of_ble_eq_true rfl, Nat.le_of_ble_eq_true rfl⟩) ⟨pr_blind, tw_recv hK hP m0 rfl rfl, pr_pre hP hK hN⟩ rfl rfl hl.1 rfl (lv_room (Nat.le_of_ble_eq_true rfl)) d_WM_coins_53 ⟨Nat.le_of_ble_eq_true rfl, Nat.le_of_ble_eq_true rfl⟩)) (fun r_8 er_8 => ?_)
        clear er_8
        exact W.iret (v := r_8) hx hb hr (fun t ht hW => ⟨r_8, rfl, trivial, ht⟩) t_nil d_WM_coins_56
      · by_cases c_9 : p_0 = 3
        · refine lv_tableIn (off := 56) (tgt := 57) hx hb d_WM_coins_1 (by rw [c_9]; decide +kernel) (by rw [c_9]; decide +kernel) (by rw [c_9]; decide +kernel) (by decide) ?_
          refine lv_aload_n hx hb d_WM_coins_57 rfl (lv_at hl 0 rfl) ?_
          refine tw_getr (D := (dC, dI)) (C := R_WM) (T := F_WM) (N := 13) (ci := 0) (kd := 0) (ct := ct) hx hb htb i_WM hown hK hP hO_0 m0 rfl rfl 6 (by decide) (htb (.fieldLink R_WM 50 "WaterMen" "box" "LWaterMen$Box;") tw_48) (fun _ h9 => h9) rfl d_WM_coins_58 (fun q_10 e_10 m_10 => ?_)
          refine tw_geti (D := (dC, dI)) (C := R_Bx) (T := F_Bx) (N := 7) (ci := 5) (kd := 12) (ct := ct) hx hb htb i_Bx hown hK hP hO_0 m_10 rfl rfl 2 (by decide) (htb (.fieldLink R_WM 350 "WaterMen$Box" "allPaid" "I") tw_86) (fun _ h9 => h9) rfl d_WM_coins_61 (fun x_11 e_11 b_11 => ?_)
          exact W.iret (v := x_11) hx hb hr (fun t ht hW => ⟨x_11, rfl, trivial, ht⟩) t_nil d_WM_coins_64
        · by_cases c_12 : p_0 = 4
          · refine lv_tableIn (off := 64) (tgt := 65) hx hb d_WM_coins_1 (by rw [c_12]; decide +kernel) (by rw [c_12]; decide +kernel) (by rw [c_12]; decide +kernel) (by decide) ?_
            refine lv_aload_n hx hb d_WM_coins_65 rfl (lv_at hl 0 rfl) ?_
            refine tw_getr (D := (dC, dI)) (C := R_WM) (T := F_WM) (N := 13) (ci := 0) (kd := 0) (ct := ct) hx hb htb i_WM hown hK hP hO_0 m0 rfl rfl 6 (by decide) (htb (.fieldLink R_WM 50 "WaterMen" "box" "LWaterMen$Box;") tw_48) (fun _ h9 => h9) rfl d_WM_coins_66 (fun q_13 e_13 m_13 => ?_)
            refine tw_geti (D := (dC, dI)) (C := R_Bx) (T := F_Bx) (N := 7) (ci := 5) (kd := 12) (ct := ct) hx hb htb i_Bx hown hK hP hO_0 m_13 rfl rfl 3 (by decide) (htb (.fieldLink R_WM 353 "WaterMen$Box" "allPensions" "I") tw_87) (fun _ h9 => h9) rfl d_WM_coins_69 (fun x_14 e_14 b_14 => ?_)
            exact W.iret (v := x_14) hx hb hr (fun t ht hW => ⟨x_14, rfl, trivial, ht⟩) t_nil d_WM_coins_72
          · refine lv_tableOut (tgt := 73) hx hb d_WM_coins_1 (by have h0 := lv_neT c_1 (show (0 : Int32).toInt = 0 by decide +kernel); have h1 := lv_neT c_4 (show (1 : Int32).toInt = 1 by decide +kernel); have h2 := lv_neT c_7 (show (2 : Int32).toInt = 2 by decide +kernel); have h3 := lv_neT c_9 (show (3 : Int32).toInt = 3 by decide +kernel); have h4 := lv_neT c_12 (show (4 : Int32).toInt = 4 by decide +kernel); omega) (by decide) ?_
            refine lv_iconst (v := (-1)) hx hb d_WM_coins_73 (by decide +kernel) ?_
            exact W.iret (v := (-1)) hx hb hr (fun t ht hW => ⟨(-1), rfl, trivial, ht⟩) t_nil d_WM_coins_74
