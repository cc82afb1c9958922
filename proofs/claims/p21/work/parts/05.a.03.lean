set_option maxHeartbeats 4000000 in
set_option maxRecDepth 100000 in
theorem c_Or_shutsBridge_t (l : Launch) (dC : Nat → ClassId) (dI : Nat → Nat → Nat) (ct : Nat → ClassId) (L : List Nat) (f : TF) (hO_0 : Ok L f) (q0 : Nat) (m0 : q0 ∈ L ∧ tk f q0 = 15) (p_0 : Int32) (p_1 : Int32)   : Met l y_Or_shutsBridge (.code y_Or_shutsBridge b_Or_shutsBridge 4 (some .boolean) :: TB) ({ frames := 1, cells := 0, slots := 0, locals := 21 }) (va_Pc [.ref q0, .int p_0, .int p_1] (PR dC dI (TW ct L f) (TT ct))) (vp_Si (fun r => (r = 0 ∧ True) ∨ (r = 1 ∧ True))) 0 0 (fun _ => False) := by
  refine Met.ofW (cc := b_Or_shutsBridge) (maxL := 4) (ret := (some .boolean)) (by decide) rfl ?_
  intro p e s m args below meth c s₁ B hml hv
  obtain ⟨rfl, hP, hK, hN⟩ := hv
  have hx := B.exec
  have hb := B.bytes
  have hr := B.returns
  have hts := atoms_spec (ws := (.code y_Or_shutsBridge b_Or_shutsBridge 4 (some .boolean) :: TB)) B.pre
  have htb := fun w (h : w ∈ TB) => hts w (List.mem_cons_of_mem _ h)
  have hown : s.vm.findClass R_Or = some m.cls := findClass_of_methodNamed B.named
  have hlocks := B.notSynchronized
  have hl := lv_entry ([.ref q0, .int p_0, .int p_1]) (n := 4) (Nat.le_of_ble_eq_true rfl)
  rw [lg_entry_eq]
  generalize (lg_sl ([.ref q0, .int p_0, .int p_1]) ++ List.replicate (4 - (lg_sl ([.ref q0, .int p_0, .int p_1])).length) Slot.unset).toArray = ls at hl ⊢
  have hl : lv_has ls 4 [(0, .ref q0), (1, .int p_0), (2, .int p_1)] := hl
  refine lv_aload_n hx hb d_Or_shutsBridge_0 rfl (lv_at hl 0 rfl) ?_
  refine tw_getr (D := (dC, dI)) (C := R_Or) (T := F_Or) (N := 9) (ci := 3) (kd := 15) (ct := ct) hx hb htb i_Or hown hK hP hO_0 m0 rfl rfl 4 (by decide) (htb (.fieldLink R_Or 20 "WaterMen$Order" "single" "[I") tw_65) (fun _ h9 => h9) rfl d_Or_shutsBridge_1 (fun q_1 e_1 m_1 => ?_)
  refine lv_bipush (v := 6) hx hb d_Or_shutsBridge_4 (by decide +kernel) ?_
  refine tw_aldI (ct := ct) hx hb hK hP hO_0 m_1 rfl (by unfold vp_in; decide +kernel) d_Or_shutsBridge_6 (fun x_2 e_2 b_2 => ?_)
  refine lv_iconst (v := (-1)) hx hb d_Or_shutsBridge_7 (by decide +kernel) ?_
  refine lv_icmp_eq (tgt := 29) hx hb d_Or_shutsBridge_8 (by decide) (fun c_3 => ?_) (fun c_3 => ?_)
  · refine lv_aload_n hx hb d_Or_shutsBridge_29 rfl (lv_at hl 0 rfl) ?_
    refine tw_getR (D := (dC, dI)) (C := R_Or) (T := F_Or) (N := 9) (ci := 3) (kd := 15) (ct := ct) hx hb htb i_Or hown hK hP m0 rfl rfl 4 e_1 (by decide) (htb (.fieldLink R_Or 20 "WaterMen$Order" "single" "[I") tw_65) (fun _ h9 => h9) rfl d_Or_shutsBridge_30 ?_
    refine hb_tv (.ref q_1) rfl ?_
    refine lv_bipush (v := 7) hx hb d_Or_shutsBridge_33 (by decide +kernel) ?_
    refine tw_aldI (ct := ct) hx hb hK hP hO_0 m_1 rfl (by unfold vp_in; decide +kernel) d_Or_shutsBridge_35 (fun x_4 e_4 b_4 => ?_)
    refine lv_istore_n (lv' := [(3, .int x_4), (0, .ref q0), (1, .int p_0), (2, .int p_1)]) hx hb d_Or_shutsBridge_36 rfl hl (by decide) rfl (fun ls hl => ?_)
    refine lv_iload_n hx hb d_Or_shutsBridge_37 rfl (lv_at hl 0 rfl) ?_
    refine lv_iconst (v := (-1)) hx hb d_Or_shutsBridge_38 (by decide +kernel) ?_
    refine lv_icmp_eq (tgt := 54) hx hb d_Or_shutsBridge_39 (by decide) (fun c_5 => ?_) (fun c_5 => ?_)
    · refine lv_iconst (v := 0) hx hb d_Or_shutsBridge_54 (by decide +kernel) ?_
      exact W.zret (v := 0) hx hb hr (by decide +kernel) (fun t ht hW => ⟨0, rfl, (Or.inl ⟨rfl, trivial⟩), ht⟩) t_nil d_Or_shutsBridge_55
    · refine lv_iload_n hx hb d_Or_shutsBridge_42 rfl (lv_at hl 3 rfl) ?_
      refine va_mabs hx hb (hml.trans hl.1.symm) hown (htb (.methodLink R_Or 66 Lib.Math.abs.name) tw_85) (htb (.static Lib.Math.abs.name) tw_31) (htb (.initialized "java/lang/Math") tw_32) (htb (.code Lib.Math.abs.name Lib.Math.abs.code 1 (some .int)) tw_33) (Nat.le_of_ble_eq_true rfl) (Nat.le_of_ble_eq_true rfl) (Nat.le_of_ble_eq_true rfl) (Nat.le_of_ble_eq_true rfl) d_Or_shutsBridge_43 ?_
      refine hb_anyi (fun y_6 => ?_)
      refine lv_iload_n hx hb d_Or_shutsBridge_46 rfl (lv_at hl 0 rfl) ?_
      refine lv_icmp_le (tgt := 54) hx hb d_Or_shutsBridge_47 (by decide) (fun c_7 => ?_) (fun c_7 => ?_)
      · refine lv_iconst (v := 0) hx hb d_Or_shutsBridge_54 (by decide +kernel) ?_
        exact W.zret (v := 0) hx hb hr (by decide +kernel) (fun t ht hW => ⟨0, rfl, (Or.inl ⟨rfl, trivial⟩), ht⟩) t_nil d_Or_shutsBridge_55
      · refine lv_iconst (v := 1) hx hb d_Or_shutsBridge_50 (by decide +kernel) ?_
        refine lv_goto (tgt := 55) hx hb d_Or_shutsBridge_51 (by decide) ?_
        exact W.zret (v := 1) hx hb hr (by decide +kernel) (fun t ht hW => ⟨1, rfl, (Or.inr ⟨rfl, trivial⟩), ht⟩) t_nil d_Or_shutsBridge_55
  · refine lv_iload_n hx hb d_Or_shutsBridge_11 rfl (lv_at hl 1 rfl) ?_
    refine lv_aload_n hx hb d_Or_shutsBridge_12 rfl (lv_at hl 0 rfl) ?_
    refine tw_geti (D := (dC, dI)) (C := R_Or) (T := F_Or) (N := 9) (ci := 3) (kd := 15) (ct := ct) hx hb htb i_Or hown hK hP hO_0 m0 rfl rfl 7 (by decide) (htb (.fieldLink R_Or 34 "WaterMen$Order" "bridgeOpens" "I") tw_86) (fun _ h9 => h9) rfl d_Or_shutsBridge_13 (fun x_8 e_8 b_8 => ?_)
    refine lv_icmp_lt (tgt := 27) hx hb d_Or_shutsBridge_16 (by decide) (fun c_9 => ?_) (fun c_9 => ?_)
    · refine lv_iconst (v := 1) hx hb d_Or_shutsBridge_27 (by decide +kernel) ?_
      exact W.zret (v := 1) hx hb hr (by decide +kernel) (fun t ht hW => ⟨1, rfl, (Or.inr ⟨rfl, trivial⟩), ht⟩) t_nil d_Or_shutsBridge_28
    · refine lv_iload_n hx hb d_Or_shutsBridge_19 rfl (lv_at hl 1 rfl) ?_
      refine lv_aload_n hx hb d_Or_shutsBridge_20 rfl (lv_at hl 0 rfl) ?_
      refine tw_geti (D := (dC, dI)) (C := R_Or) (T := F_Or) (N := 9) (ci := 3) (kd := 15) (ct := ct) hx hb htb i_Or hown hK hP hO_0 m0 rfl rfl 8 (by decide) (htb (.fieldLink R_Or 37 "WaterMen$Order" "bridgeShuts" "I") tw_87) (fun _ h9 => h9) rfl d_Or_shutsBridge_21 (fun x_10 e_10 b_10 => ?_)
      refine lv_icmp_le (tgt := 29) hx hb d_Or_shutsBridge_24 (by decide) (fun c_11 => ?_) (fun c_11 => ?_)
      · refine lv_aload_n hx hb d_Or_shutsBridge_29 rfl (lv_at hl 0 rfl) ?_
        refine tw_getR (D := (dC, dI)) (C := R_Or) (T := F_Or) (N := 9) (ci := 3) (kd := 15) (ct := ct) hx hb htb i_Or hown hK hP m0 rfl rfl 4 e_1 (by decide) (htb (.fieldLink R_Or 20 "WaterMen$Order" "single" "[I") tw_65) (fun _ h9 => h9) rfl d_Or_shutsBridge_30 ?_
        refine hb_tv (.ref q_1) rfl ?_
        refine lv_bipush (v := 7) hx hb d_Or_shutsBridge_33 (by decide +kernel) ?_
        refine tw_aldI (ct := ct) hx hb hK hP hO_0 m_1 rfl (by unfold vp_in; decide +kernel) d_Or_shutsBridge_35 (fun x_12 e_12 b_12 => ?_)
        refine lv_istore_n (lv' := [(3, .int x_12), (0, .ref q0), (1, .int p_0), (2, .int p_1)]) hx hb d_Or_shutsBridge_36 rfl hl (by decide) rfl (fun ls hl => ?_)
        refine lv_iload_n hx hb d_Or_shutsBridge_37 rfl (lv_at hl 0 rfl) ?_
        refine lv_iconst (v := (-1)) hx hb d_Or_shutsBridge_38 (by decide +kernel) ?_
        refine lv_icmp_eq (tgt := 54) hx hb d_Or_shutsBridge_39 (by decide) (fun c_13 => ?_) (fun c_13 => ?_)
        · refine lv_iconst (v := 0) hx hb d_Or_shutsBridge_54 (by decide +kernel) ?_
          exact W.zret (v := 0) hx hb hr (by decide +kernel) (fun t ht hW => ⟨0, rfl, (Or.inl ⟨rfl, trivial⟩), ht⟩) t_nil d_Or_shutsBridge_55
        · refine lv_iload_n hx hb d_Or_shutsBridge_42 rfl (lv_at hl 3 rfl) ?_
          refine va_mabs hx hb (hml.trans hl.1.symm) hown (htb (.methodLink R_Or 66 Lib.Math.abs.name) tw_85) (htb (.static Lib.Math.abs.name) tw_31) (htb (.initialized "java/lang/Math") tw_32) (htb (.code Lib.Math.abs.name Lib.Math.abs.code 1 (some .int)) tw_33) (Nat.le_of_ble_eq_true rfl) (Nat.le_of_ble_eq_true rfl) (Nat.le_of_ble_eq_true rfl) (Nat.le_of_ble_eq_true rfl) d_Or_shutsBridge_43 ?_
          refine hb_anyi (fun y_14 => ?_)
          refine lv_iload_n hx hb d_Or_shutsBridge_46 rfl (lv_at hl 0 rfl) ?_
          refine lv_icmp_le (tgt := 54) hx hb d_Or_shutsBridge_47 (by decide) (fun c_15 => ?_) (fun c_15 => ?_)
          · refine lv_iconst (v := 0) hx hb d_Or_shutsBridge_54 (by decide +kernel) ?_
            exact W.zret (v := 0) hx hb hr (by decide +kernel) (fun t ht hW => ⟨0, rfl, (Or.inl ⟨rfl, trivial⟩), ht⟩) t_nil d_Or_shutsBridge_55
          · refine lv_iconst (v := 1) hx hb d_Or_shutsBridge_50 (by decide +kernel) ?_
            refine lv_goto (tgt := 55) hx hb d_Or_shutsBridge_51 (by decide) ?_
            exact W.zret (v := 1) hx hb hr (by decide +kernel) (fun t ht hW => ⟨1, rfl, (Or.inr ⟨rfl, trivial⟩), ht⟩) t_nil d_Or_shutsBridge_55
      · refine lv_iconst (v := 1) hx hb d_Or_shutsBridge_27 (by decide +kernel) ?_
        exact W.zret (v := 1) hx hb hr (by decide +kernel) (fun t ht hW => ⟨1, rfl, (Or.inr ⟨rfl, trivial⟩), ht⟩) t_nil d_Or_shutsBridge_28
def W_Bx_receive_t : List (Nat × Nat) := [(12, 0), (13, 1000)]
set_option maxHeartbeats 4000000 in
set_option maxRecDepth 100000 in
theorem c_Bx_receive_t (l : Launch) (dC : Nat → ClassId) (dI : Nat → Nat → Nat) (ct : Nat → ClassId) (L : List Nat) (f : TF) (hO_0 : Ok L f) (q0 : Nat) (m0 : q0 ∈ L ∧ tk f q0 = 12) (sz : Nat) (p_0 : Int32) (p_1 : Int32)   : Met l y_Bx_receive (.code y_Bx_receive b_Bx_receive 3 none :: TB) ({ frames := 1, cells := 0, slots := 0, locals := 20 }) (va_Pc [.ref q0, .int p_0, .int p_1] (PC dC dI (TW ct L f) (TT ct) sz)) (va_Qv (fun (u : TSt) => Ok u.1 u.2 ∧ Ext W_Bx_receive_t L f u.1 u.2 ∧ (True)) (fun (u : TSt) t => va_P (dC, dI) vwCl (TW ct u.1 u.2) t.heap ∧ va_K (dC, dI) vwCl (TT ct) t ∧ va_D (va_A (TW ct L f) sz) (TW ct u.1 u.2)) (va_A (TW ct L f) sz)) 0 0 (va_A (TW ct L f) sz) := by
  refine Met.ofW (cc := b_Bx_receive) (maxL := 3) (ret := none) (by decide) rfl ?_
  intro p e s m args below meth c s₁ B hml hv
  obtain ⟨rfl, hsz, hP, hK, hD0, hN⟩ := hv
  have hx := B.exec
  have hb := B.bytes
  have hr := B.returns
  have hts := atoms_spec (ws := (.code y_Bx_receive b_Bx_receive 3 none :: TB)) B.pre
  have htb := fun w (h : w ∈ TB) => hts w (List.mem_cons_of_mem _ h)
  have hown : s.vm.findClass R_Bx = some m.cls := findClass_of_methodNamed B.named
  have hlocks := B.notSynchronized
  have hl := lv_entry ([.ref q0, .int p_0, .int p_1]) (n := 3) (Nat.le_of_ble_eq_true rfl)
  rw [lg_entry_eq]
  generalize (lg_sl ([.ref q0, .int p_0, .int p_1]) ++ List.replicate (3 - (lg_sl ([.ref q0, .int p_0, .int p_1])).length) Slot.unset).toArray = ls at hl ⊢
  have hl : lv_has ls 3 [(0, .ref q0), (1, .int p_0), (2, .int p_1)] := hl
  subst hsz
  have hD := hD0.self (sz := s.heap.size)
  obtain ⟨A, hAe⟩ : ∃ A, va_A (TW ct L f) s.heap.size = A := ⟨_, rfl⟩
  rw [hAe] at hD
  have hA : ∀ q : Nat, s.heap.size ≤ q → A q := fun q h => by rw [← hAe]; exact Or.inr h
  have hS : va_S A s.heap s.heap [] := va_S.rf
  have hA_0 : Ext [] L f L f := Ext.rf
  suffices hGo : ∀ (H : Heap) (locs : List Loc), va_P (dC, dI) vwCl (TW ct L f) H → va_S A s.heap H locs → W p l e (headSpec (.code y_Bx_receive b_Bx_receive 3 none :: TB) ({ frames := 1, cells := 0, slots := 0, locals := 20 })).room s m [.ref q0, .int p_0, .int p_1].toArray below meth c H locs 0 0 (MQ below (va_Qv (fun (u : TSt) => Ok u.1 u.2 ∧ Ext W_Bx_receive_t L f u.1 u.2 ∧ (True)) (fun (u : TSt) t => va_P (dC, dI) vwCl (TW ct u.1 u.2) t.heap ∧ va_K (dC, dI) vwCl (TT ct) t ∧ va_D (va_A (TW ct L f) s.heap.size) (TW ct u.1 u.2)) (va_A (TW ct L f) s.heap.size)) [.ref q0, .int p_0, .int p_1].toArray s 0 0 (va_A (TW ct L f) s.heap.size)) (F0 m 0 ls []) from hGo _ _ hP hS
  clear hP hS
  intro H locs hP hS
  refine lv_aload_n hx hb d_Bx_receive_0 rfl (lv_at hl 0 rfl) ?_
  refine lv_dup hx hb d_Bx_receive_1 rfl ?_
  refine tw_geti (D := (dC, dI)) (C := R_Bx) (T := F_Bx) (N := 7) (ci := 5) (kd := 12) (ct := ct) hx hb htb i_Bx hown hK hP hO_0 m0 rfl rfl 0 (by decide) (htb (.fieldLink R_Bx 21 "WaterMen$Box" "coins" "I") tw_88) (fun _ h9 => h9) rfl d_Bx_receive_2 (fun x_1 e_1 b_1 => ?_)
  refine lv_iload_n hx hb d_Bx_receive_5 rfl (lv_at hl 2 rfl) ?_
  refine lv_iadd hx hb d_Bx_receive_6 ?_
  refine tw_puti (v := (x_1 + p_1)) (D := (dC, dI)) (C := R_Bx) (T := F_Bx) (N := 7) (ci := 5) (kd := 12) (ct := ct) (ty := .int) hx hb htb i_Bx t_Bx t_Bx_ok n_Bx hown hK hP hD hS hO_0 m0 rfl rfl 0 (by decide) (htb (.fieldLink R_Bx 21 "WaterMen$Box" "coins" "I") tw_88) (fun _ h9 => h9) rfl (by decide +kernel) rfl rfl rfl (i32_full _) d_Bx_receive_7 (fun f_1 H locs hP hD hS hO_1 hE_1 w_2 hF_1 => ?_)
  have hA_1 := hA_0.trans hE_1
  refine lv_iload_n hx hb d_Bx_receive_10 rfl (lv_at hl 1 rfl) ?_
  refine vp_callSi (va_Run.run (va_runSN (As := [.int p_0]) (rest := []) ⟨hx, hb, hml, hown, htb⟩ (c_WM_isDay l p_0) ⟨va_cnB 1 htb (gd_I tw_24) rfl rfl rfl (hN.1 _ nw_7) (htb (.initialized R_WM) tw_25) (by decide +kernel) ⟨Nat.le_of_ble_eq_true rfl, Nat.le_of_ble_eq_true rfl⟩, (htb (.static y_WM_isDay) tw_26), trivial⟩ ⟨fun _ _ _ _ h => h, fun U _ _ => ⟨rfl, trivial⟩⟩ rfl rfl hl.1 rfl (lv_room (Nat.le_of_ble_eq_true rfl)) d_Bx_receive_11 ⟨Nat.le_of_ble_eq_true rfl, Nat.le_of_ble_eq_true rfl⟩)) (fun r er => ?_)
  subst er
  by_cases c_4 : p_0 < 0
  · refine hb_ti 0 (by unfold f_WM_isDay; rw [if_pos c_4]; first | done | rfl) ?_
    refine lv_if_eq (tgt := 27) hx hb d_Bx_receive_14 (by decide) (fun _ => ?_) (fun h => absurd (by decide +kernel) h)
    refine W.widen (k := 0) (n := 0) (Nat.le_of_ble_eq_true rfl) (Nat.le_of_ble_eq_true rfl) ?_
    exact W.vret hx hb hr (fun t ht hW => ⟨⟨(L, f_1), rfl, ⟨hO_1, hA_1.mono (by decide +kernel), trivial⟩, by rw [ht]; exact hP, va_K.moved hW.alike hK, by rw [hAe]; exact hD⟩, by rw [hAe]; exact hS.F ht⟩) (by rw [hAe]; exact hS.2.2) d_Bx_receive_27
  · by_cases c_5 : 500 ≤ p_0
    · refine hb_ti 0 (by unfold f_WM_isDay; rw [if_neg c_4, if_pos c_5]; first | done | rfl) ?_
      refine lv_if_eq (tgt := 27) hx hb d_Bx_receive_14 (by decide) (fun _ => ?_) (fun h => absurd (by decide +kernel) h)
      refine W.widen (k := 0) (n := 0) (Nat.le_of_ble_eq_true rfl) (Nat.le_of_ble_eq_true rfl) ?_
      exact W.vret hx hb hr (fun t ht hW => ⟨⟨(L, f_1), rfl, ⟨hO_1, hA_1.mono (by decide +kernel), trivial⟩, by rw [ht]; exact hP, va_K.moved hW.alike hK, by rw [hAe]; exact hD⟩, by rw [hAe]; exact hS.F ht⟩) (by rw [hAe]; exact hS.2.2) d_Bx_receive_27
    · refine hb_ti 1 (by unfold f_WM_isDay; rw [if_neg c_4, if_neg c_5]; first | done | rfl) ?_
      refine lv_if_eq (tgt := 27) hx hb d_Bx_receive_14 (by decide) (fun h => absurd h (by decide +kernel)) (fun _ => ?_)
      refine lv_aload_n hx hb d_Bx_receive_17 rfl (lv_at hl 0 rfl) ?_
      refine tw_getr (D := (dC, dI)) (C := R_Bx) (T := F_Bx) (N := 7) (ci := 5) (kd := 12) (ct := ct) hx hb htb i_Bx hown hK hP hO_1 (hA_1.m m0) rfl rfl 4 (by decide) (htb (.fieldLink R_Bx 9 "WaterMen$Box" "income" "[I") tw_89) (fun _ h9 => h9) rfl d_Bx_receive_18 (fun q_6 e_6 m_6 => ?_)
      refine lv_iload_n hx hb d_Bx_receive_21 rfl (lv_at hl 1 rfl) ?_
      refine lv_dup2_11 hx hb d_Bx_receive_22 rfl rfl ?_
      refine tw_aldI (ct := ct) hx hb hK hP hO_1 m_6 rfl (hb_in c_4 c_5 (by decide +kernel)) d_Bx_receive_23 (fun x_7 e_7 b_7 => ?_)
      refine lv_iload_n hx hb d_Bx_receive_24 rfl (lv_at hl 2 rfl) ?_
      refine lv_iadd hx hb d_Bx_receive_25 ?_
      refine tw_astI (ct := ct) (x := (x_7 + p_1)) hx hb hK hP hD hS hO_1 m_6 rfl (hb_in c_4 c_5 (by decide +kernel)) (i32_full _) d_Bx_receive_26 (fun f_2 H locs hP hD hS hO_2 hE_2 w_8 ow_8 hF_2 => ?_)
      have hA_2 := hA_1.trans hE_2
      refine W.widen (k := 0) (n := 0) (Nat.le_of_ble_eq_true rfl) (Nat.le_of_ble_eq_true rfl) ?_
      exact W.vret hx hb hr (fun t ht hW => ⟨⟨(L, f_2), rfl, ⟨hO_2, hA_2.mono (by decide +kernel), trivial⟩, by rw [ht]; exact hP, va_K.moved hW.alike hK, by rw [hAe]; exact hD⟩, by rw [hAe]; exact hS.F ht⟩) (by rw [hAe]; exact hS.2.2) d_Bx_receive_27
set_option maxHeartbeats 4000000 in
set_option maxRecDepth 100000 in
theorem c_Bx_pensionerAt_t (l : Launch) (dC : Nat → ClassId) (dI : Nat → Nat → Nat) (ct : Nat → ClassId) (L : List Nat) (f : TF) (hO_0 : Ok L f) (q0 : Nat) (m0 : q0 ∈ L ∧ tk f q0 = 12) (p_0 : Int32)   : Met l y_Bx_pensionerAt (.code y_Bx_pensionerAt b_Bx_pensionerAt 2 (some (.object "WaterMen$Pensioner")) :: TB) ({ frames := 0, cells := 0, slots := 0, locals := 0 }) (va_Pc [.ref q0, .int p_0] (PR dC dI (TW ct L f) (TT ct))) (va_Sq (fun r => r = none ∨ ∃ b, r = some b ∧ b ∈ L ∧ tk f b = 26)) 0 0 (fun _ => False) := by
  refine Met.ofW (cc := b_Bx_pensionerAt) (maxL := 2) (ret := (some (.object "WaterMen$Pensioner"))) (by decide) rfl ?_
  intro p e s m args below meth c s₁ B hml hv
  obtain ⟨rfl, hP, hK, hN⟩ := hv
  have hx := B.exec
  have hb := B.bytes
  have hr := B.returns
  have hts := atoms_spec (ws := (.code y_Bx_pensionerAt b_Bx_pensionerAt 2 (some (.object "WaterMen$Pensioner")) :: TB)) B.pre
  have htb := fun w (h : w ∈ TB) => hts w (List.mem_cons_of_mem _ h)
  have hown : s.vm.findClass R_Bx = some m.cls := findClass_of_methodNamed B.named
  have hlocks := B.notSynchronized
  have hl := lv_entry ([.ref q0, .int p_0]) (n := 2) (Nat.le_of_ble_eq_true rfl)
  rw [lg_entry_eq]
  generalize (lg_sl ([.ref q0, .int p_0]) ++ List.replicate (2 - (lg_sl ([.ref q0, .int p_0])).length) Slot.unset).toArray = ls at hl ⊢
  have hl : lv_has ls 2 [(0, .ref q0), (1, .int p_0)] := hl
  refine lv_iload_n hx hb d_Bx_pensionerAt_0 rfl (lv_at hl 1 rfl) ?_
  refine lv_if_lt (tgt := 21) hx hb d_Bx_pensionerAt_1 (by decide) (fun c_1 => ?_) (fun c_1 => ?_)
  · refine lv_null hx hb d_Bx_pensionerAt_21 ?_
    exact W.aret (v := .null) (rt := .object "WaterMen$Pensioner") hx hb hr (Or.inl ⟨_, rfl⟩) (Or.inl rfl) (fun t ht hW => ⟨none, rfl, Or.inl rfl, ht⟩) t_nil d_Bx_pensionerAt_22
  · refine lv_iload_n hx hb d_Bx_pensionerAt_4 rfl (lv_at hl 1 rfl) ?_
    refine lv_aload_n hx hb d_Bx_pensionerAt_5 rfl (lv_at hl 0 rfl) ?_
    refine tw_geti (D := (dC, dI)) (C := R_Bx) (T := F_Bx) (N := 7) (ci := 5) (kd := 12) (ct := ct) hx hb htb i_Bx hown hK hP hO_0 m0 rfl rfl 6 (by decide) (htb (.fieldLink R_Bx 29 "WaterMen$Box" "pensionerCount" "I") tw_90) (fun _ h9 => h9) rfl d_Bx_pensionerAt_6 (fun x_2 e_2 b_2 => ?_)
    refine lv_icmp_ge (tgt := 21) hx hb d_Bx_pensionerAt_9 (by decide) (fun c_3 => ?_) (fun c_3 => ?_)
    · refine lv_null hx hb d_Bx_pensionerAt_21 ?_
      exact W.aret (v := .null) (rt := .object "WaterMen$Pensioner") hx hb hr (Or.inl ⟨_, rfl⟩) (Or.inl rfl) (fun t ht hW => ⟨none, rfl, Or.inl rfl, ht⟩) t_nil d_Bx_pensionerAt_22
    · refine lv_aload_n hx hb d_Bx_pensionerAt_12 rfl (lv_at hl 0 rfl) ?_
      refine tw_getr (D := (dC, dI)) (C := R_Bx) (T := F_Bx) (N := 7) (ci := 5) (kd := 12) (ct := ct) hx hb htb i_Bx hown hK hP hO_0 m0 rfl rfl 5 (by decide) (htb (.fieldLink R_Bx 17 "WaterMen$Box" "pensioners" "[LWaterMen$Pensioner;") tw_91) (fun _ h9 => h9) rfl d_Bx_pensionerAt_13 (fun q_4 e_4 m_4 => ?_)
      refine lv_iload_n hx hb d_Bx_pensionerAt_16 rfl (lv_at hl 1 rfl) ?_
      refine tw_aldq (ct := ct) hx hb hK hP hO_0 m_4 rfl rfl ((fun (a_0 : Int32) (a_1 : Int32) (k_0 : ¬ (a_0 < 0)) (k_1 : ¬ (a_1 ≤ a_0)) (k_2 : ¬ (30 < a_1)) => (show vp_in (a_0) 30 from by have z0 : (0 : Int32).toInt = 0 := (by decide +kernel); have z1 : (30 : Int32).toInt = 30 := (by decide +kernel); have r0 := fb_rng (a_0); have r1 := fb_rng (a_1); have e0 := k_0; rw [Int32.lt_iff_toInt_lt, z0] at e0; have e1 := k_1; rw [Int32.le_iff_toInt_le] at e1; have e2 := k_2; rw [Int32.lt_iff_toInt_lt, z1] at e2; rw [vp_in_iff]; omega)) p_0 x_2 c_1 c_3 b_2.2) d_Bx_pensionerAt_17 (fun e_5 => ?_) (fun q_5 e_5 m_5 => ?_)
      · refine lv_goto (tgt := 22) hx hb d_Bx_pensionerAt_18 (by decide) ?_
        exact W.aret (v := .null) (rt := .object "WaterMen$Pensioner") hx hb hr (Or.inl ⟨_, rfl⟩) (Or.inl rfl) (fun t ht hW => ⟨none, rfl, Or.inl rfl, ht⟩) t_nil d_Bx_pensionerAt_22
      · refine lv_goto (tgt := 22) hx hb d_Bx_pensionerAt_18 (by decide) ?_
        exact W.aret (v := .ref q_5) (rt := .object "WaterMen$Pensioner") hx hb hr (Or.inl ⟨_, rfl⟩) (Or.inr ⟨_, rfl⟩) (fun t ht hW => ⟨some q_5, rfl, Or.inr ⟨q_5, rfl, m_5⟩, ht⟩) t_nil d_Bx_pensionerAt_22
def W_Pn_init_t : List (Nat × Nat) := [(26, 0), (26, 1)]
set_option maxHeartbeats 4000000 in
set_option maxRecDepth 100000 in
theorem c_Pn_init_t (l : Launch) (dC : Nat → ClassId) (dI : Nat → Nat → Nat) (ct : Nat → ClassId) (L : List Nat) (f : TF) (hO_0 : Ok L f) (q0 : Nat) (m0 : q0 ∈ L ∧ tk f q0 = 26) (sz : Nat) (p_0 : Int32) (p_1 : Int32)   : Met l y_Pn_init (.code y_Pn_init b_Pn_init 3 none :: TB) ({ frames := 1, cells := 0, slots := 0, locals := 12 }) (va_Pc [.ref q0, .int p_0, .int p_1] (PC dC dI (TW ct L f) (TT ct) sz)) (va_Qv (fun (u : TSt) => Ok u.1 u.2 ∧ Ext W_Pn_init_t L f u.1 u.2 ∧ (True)) (fun (u : TSt) t => va_P (dC, dI) vwCl (TW ct u.1 u.2) t.heap ∧ va_K (dC, dI) vwCl (TT ct) t ∧ va_D (va_A (TW ct L f) sz) (TW ct u.1 u.2)) (va_A (TW ct L f) sz)) 0 0 (va_A (TW ct L f) sz) := by
  refine Met.ofW (cc := b_Pn_init) (maxL := 3) (ret := none) (by decide) rfl ?_
  intro p e s m args below meth c s₁ B hml hv
  obtain ⟨rfl, hsz, hP, hK, hD0, hN⟩ := hv
  have hx := B.exec
  have hb := B.bytes
  have hr := B.returns
  have hts := atoms_spec (ws := (.code y_Pn_init b_Pn_init 3 none :: TB)) B.pre
  have htb := fun w (h : w ∈ TB) => hts w (List.mem_cons_of_mem _ h)
  have hown : s.vm.findClass R_Pn = some m.cls := findClass_of_methodNamed B.named
  have hlocks := B.notSynchronized
  have hin : meth.name = "<init>" := (name_of_methodNamed B.named B.method).1
  have hl := lv_entry ([.ref q0, .int p_0, .int p_1]) (n := 3) (Nat.le_of_ble_eq_true rfl)
  rw [lg_entry_eq]
  generalize (lg_sl ([.ref q0, .int p_0, .int p_1]) ++ List.replicate (3 - (lg_sl ([.ref q0, .int p_0, .int p_1])).length) Slot.unset).toArray = ls at hl ⊢
  have hl : lv_has ls 3 [(0, .ref q0), (1, .int p_0), (2, .int p_1)] := hl
  subst hsz
  have hD := hD0.self (sz := s.heap.size)
  obtain ⟨A, hAe⟩ : ∃ A, va_A (TW ct L f) s.heap.size = A := ⟨_, rfl⟩
  rw [hAe] at hD
  have hA : ∀ q : Nat, s.heap.size ≤ q → A q := fun q h => by rw [← hAe]; exact Or.inr h
  have hS : va_S A s.heap s.heap [] := va_S.rf
  have hA_0 : Ext [] L f L f := Ext.rf
  suffices hGo : ∀ (H : Heap) (locs : List Loc), va_P (dC, dI) vwCl (TW ct L f) H → va_S A s.heap H locs → W p l e (headSpec (.code y_Pn_init b_Pn_init 3 none :: TB) ({ frames := 1, cells := 0, slots := 0, locals := 12 })).room s m [.ref q0, .int p_0, .int p_1].toArray below meth c H locs 0 0 (MQ below (va_Qv (fun (u : TSt) => Ok u.1 u.2 ∧ Ext W_Pn_init_t L f u.1 u.2 ∧ (True)) (fun (u : TSt) t => va_P (dC, dI) vwCl (TW ct u.1 u.2) t.heap ∧ va_K (dC, dI) vwCl (TT ct) t ∧ va_D (va_A (TW ct L f) s.heap.size) (TW ct u.1 u.2)) (va_A (TW ct L f) s.heap.size)) [.ref q0, .int p_0, .int p_1].toArray s 0 0 (va_A (TW ct L f) s.heap.size)) (F0 m 0 ls []) from hGo _ _ hP hS
  clear hP hS
  intro H locs hP hS
  refine lv_aload_n hx hb d_Pn_init_0 rfl (lv_at hl 0 rfl) ?_
  refine W.objInit hx hb hown (htb (.methodLink R_Pn 1 objectInit) tw_95) (htb (.instanceMethod objectInit) tw_96) (htb (.code objectInit ⟨#[0xb1]⟩ 1 none) tw_97) rfl (by rw [hml]; exact hl.1) rfl d_Pn_init_1 (Nat.le_of_ble_eq_true rfl) (Nat.le_of_ble_eq_true rfl) ?_
  refine W.eq (g2 := F0 m 4 ls []) rfl ?_
  refine lv_aload_n hx hb d_Pn_init_4 rfl (lv_at hl 0 rfl) ?_
  refine lv_iload_n hx hb d_Pn_init_5 rfl (lv_at hl 1 rfl) ?_
  refine tw_putFi (v := p_0) (D := (dC, dI)) (C := R_Pn) (T := F_Pn) (N := 3) (ci := 6) (kd := 26) (ct := ct) (ty := .int) hx hb htb i_Pn t_Pn t_Pn_ok n_Pn hown hK hP hD hS hO_0 m0 rfl rfl 0 (by decide) (htb (.fieldLink R_Pn 7 "WaterMen$Pensioner" "pension" "I") tw_98) (fun _ h9 => h9) rfl hin rfl (by decide +kernel) rfl rfl rfl (i32_full _) d_Pn_init_6 (fun f_1 H locs hP hD hS hO_1 hE_1 w_1 hF_1 => ?_)
  have hA_1 := hA_0.trans hE_1
  refine lv_aload_n hx hb d_Pn_init_9 rfl (lv_at hl 0 rfl) ?_
  refine lv_iload_n hx hb d_Pn_init_10 rfl (lv_at hl 2 rfl) ?_
  refine tw_putFi (v := p_1) (D := (dC, dI)) (C := R_Pn) (T := F_Pn) (N := 3) (ci := 6) (kd := 26) (ct := ct) (ty := .int) hx hb htb i_Pn t_Pn t_Pn_ok n_Pn hown hK hP hD hS hO_1 (hA_1.m m0) rfl rfl 1 (by decide) (htb (.fieldLink R_Pn 13 "WaterMen$Pensioner" "end" "I") tw_99) (fun _ h9 => h9) rfl hin rfl (by decide +kernel) rfl rfl rfl (i32_full _) d_Pn_init_11 (fun f_2 H locs hP hD hS hO_2 hE_2 w_2 hF_2 => ?_)
  have hA_2 := hA_1.trans hE_2
  refine W.widen (k := 0) (n := 0) (Nat.le_of_ble_eq_true rfl) (Nat.le_of_ble_eq_true rfl) ?_
  exact W.vret hx hb hr (fun t ht hW => ⟨⟨(L, f_2), rfl, ⟨hO_2, hA_2.mono (by decide +kernel), trivial⟩, by rw [ht]; exact hP, va_K.moved hW.alike hK, by rw [hAe]; exact hD⟩, by rw [hAe]; exact hS.F ht⟩) (by rw [hAe]; exact hS.2.2) d_Pn_init_14
def W_Bx_take_t : List (Nat × Nat) := [(12, 6), (14, 1000), (26, 0), (26, 1)]
set_option maxHeartbeats 4000000 in
set_option maxRecDepth 100000 in
theorem c_Bx_take_t (l : Launch) (dC : Nat → ClassId) (dI : Nat → Nat → Nat) (ct : Nat → ClassId) (L : List Nat) (f : TF) (hO_0 : Ok L f) (q0 : Nat) (m0 : q0 ∈ L ∧ tk f q0 = 12) (sz : Nat) (p_0 : Int32) (p_1 : Int32)  (as_0 : ¬ (29 < (ti f q0 6))) : Met l y_Bx_take (.code y_Bx_take b_Bx_take 3 (some .int) :: TB) ({ frames := 2, cells := 1, slots := 3, locals := 34 }) (va_Pc [.ref q0, .int p_0, .int p_1] (PC dC dI (TW ct L f) (TT ct) sz)) (va_Qi (fun r (u : TSt) => Ok u.1 u.2 ∧ Ext W_Bx_take_t L f u.1 u.2 ∧ (True)) (fun (u : TSt) t => va_P (dC, dI) vwCl (TW ct u.1 u.2) t.heap ∧ va_K (dC, dI) vwCl (TT ct) t ∧ va_D (va_A (TW ct L f) sz) (TW ct u.1 u.2)) (va_A (TW ct L f) sz)) 1 3 (va_A (TW ct L f) sz) := by
  refine Met.ofW (cc := b_Bx_take) (maxL := 3) (ret := (some .int)) (by decide) rfl ?_
  intro p e s m args below meth c s₁ B hml hv
  obtain ⟨rfl, hsz, hP, hK, hD0, hN⟩ := hv
  have hx := B.exec
  have hb := B.bytes
  have hr := B.returns
  have hts := atoms_spec (ws := (.code y_Bx_take b_Bx_take 3 (some .int) :: TB)) B.pre
  have htb := fun w (h : w ∈ TB) => hts w (List.mem_cons_of_mem _ h)
  have hown : s.vm.findClass R_Bx = some m.cls := findClass_of_methodNamed B.named
  have hlocks := B.notSynchronized
  have hl := lv_entry ([.ref q0, .int p_0, .int p_1]) (n := 3) (Nat.le_of_ble_eq_true rfl)
  rw [lg_entry_eq]
  generalize (lg_sl ([.ref q0, .int p_0, .int p_1]) ++ List.replicate (3 - (lg_sl ([.ref q0, .int p_0, .int p_1])).length) Slot.unset).toArray = ls at hl ⊢
  have hl : lv_has ls 3 [(0, .ref q0), (1, .int p_0), (2, .int p_1)] := hl
  subst hsz
  have hD := hD0.self (sz := s.heap.size)
  obtain ⟨A, hAe⟩ : ∃ A, va_A (TW ct L f) s.heap.size = A := ⟨_, rfl⟩
  rw [hAe] at hD
  have hA : ∀ q : Nat, s.heap.size ≤ q → A q := fun q h => by rw [← hAe]; exact Or.inr h
  have hS : va_S A s.heap s.heap [] := va_S.rf
  have hA_0 : Ext [] L f L f := Ext.rf
  suffices hGo : ∀ (H : Heap) (locs : List Loc), va_P (dC, dI) vwCl (TW ct L f) H → va_S A s.heap H locs → W p l e (headSpec (.code y_Bx_take b_Bx_take 3 (some .int) :: TB) ({ frames := 2, cells := 1, slots := 3, locals := 34 })).room s m [.ref q0, .int p_0, .int p_1].toArray below meth c H locs 0 0 (MQ below (va_Qi (fun r (u : TSt) => Ok u.1 u.2 ∧ Ext W_Bx_take_t L f u.1 u.2 ∧ (True)) (fun (u : TSt) t => va_P (dC, dI) vwCl (TW ct u.1 u.2) t.heap ∧ va_K (dC, dI) vwCl (TT ct) t ∧ va_D (va_A (TW ct L f) s.heap.size) (TW ct u.1 u.2)) (va_A (TW ct L f) s.heap.size)) [.ref q0, .int p_0, .int p_1].toArray s 1 3 (va_A (TW ct L f) s.heap.size)) (F0 m 0 ls []) from hGo _ _ hP hS
  clear hP hS
  intro H locs hP hS
  have bp_6 := hO_0.i m0 (show slotD 12 6 = some (.inl (0, 30)) from rfl)
  refine lv_aload_n hx hb d_Bx_take_0 rfl (lv_at hl 0 rfl) ?_
  refine tw_getr (D := (dC, dI)) (C := R_Bx) (T := F_Bx) (N := 7) (ci := 5) (kd := 12) (ct := ct) hx hb htb i_Bx hown hK hP hO_0 m0 rfl rfl 5 (by decide) (htb (.fieldLink R_Bx 17 "WaterMen$Box" "pensioners" "[LWaterMen$Pensioner;") tw_91) (fun _ h9 => h9) rfl d_Bx_take_1 (fun q_1 e_1 m_1 => ?_)
  refine lv_aload_n hx hb d_Bx_take_4 rfl (lv_at hl 0 rfl) ?_
  refine tw_getI (x := (ti f q0 6)) (D := (dC, dI)) (C := R_Bx) (T := F_Bx) (N := 7) (ci := 5) (kd := 12) (ct := ct) hx hb htb i_Bx hown hK hP m0 rfl rfl 6 rfl (by decide) (htb (.fieldLink R_Bx 29 "WaterMen$Box" "pensionerCount" "I") tw_90) (fun _ h9 => h9) rfl d_Bx_take_5 ?_
  refine tw_newO (D := (dC, dI)) (ci := 6) (fs := [.int 0, .int 0, .int 0]) (C := R_Pn) (T := F_Pn) (N := 3) (ct := ct) hx hb htb i_Pn t_Pn t_Pn_ok hown (htb (.classLink R_Bx 15 R_Pn) tw_92) (htb (.instantiable R_Pn 3) tw_93) (htb (.initialized R_Pn) tw_94) hK hP hD hS hA hO_0 26 rfl rfl rfl (by decide +kernel) (df_Pn) (Nat.le_of_ble_eq_true rfl) (Nat.le_of_ble_eq_true rfl) d_Bx_take_8 (fun q_n1 L_1 f_1 H hP hD hS hO_1 hE_1 m_n1 nq_1 hL_1 hF_1 => ?_)
  have hA_1 := hA_0.trans hE_1
  refine lv_dup hx hb d_Bx_take_11 rfl ?_
  refine lv_iload_n hx hb d_Bx_take_12 rfl (lv_at hl 1 rfl) ?_
  refine lv_iload_n hx hb d_Bx_take_13 rfl (lv_at hl 2 rfl) ?_
  have hFc := hb_free hD hS hA
  refine va_callv (va_runI (As := [.int p_0, .int p_1]) (rest := [.ref q_n1, .int (ti f q0 6), .ref q_1]) ⟨hx, hb, hml, hown, htb⟩ (c_Pn_init_t l dC dI ct L_1 f_1 hO_1 q_n1 m_n1 _ p_0 p_1) (cwI 2 htb (gd_I tw_100) rfl rfl rfl (htb (.initialized R_Pn) tw_94) (htb (.methodLink R_Bx 32 y_Pn_init) tw_101) (htb (.instanceMethod y_Pn_init) tw_102) rfl (by decide +kernel) ⟨Nat.le_of_ble_eq_true rfl, Nat.le_of_ble_eq_true rfl⟩) ⟨pc_blind, pc_pre hP hK hD hN⟩ rfl rfl hl.1 rfl (lv_room (Nat.le_of_ble_eq_true rfl)) d_Bx_take_14 ⟨Nat.le_of_ble_eq_true rfl, Nat.le_of_ble_eq_true rfl⟩) hS (fun q _ h => hFc q h) hFc (fun u t H locs ht hvm er hB hz1 hk1 hS => ?_)
  obtain ⟨L_2, f_2⟩ := u
  obtain ⟨hO_2, hE_2, er⟩ := er
  obtain ⟨hP, hK1, hD1⟩ := hB
  rw [ht] at hP
  have hP : va_P (dC, dI) vwCl (TW ct L_2 f_2) H := hP
  have hD : va_D A (TW ct L_2 f_2) := hD1.weaken (fun _ q _ h => hFc q.1 h)
  have hO_2 : Ok L_2 f_2 := hO_2
  have hE_2 : Ext W_Pn_init_t L_1 f_1 L_2 f_2 := hE_2
  clear hK1 hD1 ht hvm hz1 hk1
  have hA_2 := hA_1.trans hE_2
  clear er
  refine tw_astq (ct := ct) hx hb hK hP hD hS hO_2 (hA_2.m m_1) rfl rfl (hE_2.m m_n1) rfl rfl (hb_inl bp_6.1 as_0 (by decide +kernel)) d_Bx_take_17 (fun f_3 H locs hP hD hS hO_3 hE_3 w_3 hF_3 => ?_)
  have hA_3 := hA_2.trans hE_3
  refine lv_aload_n hx hb d_Bx_take_18 rfl (lv_at hl 0 rfl) ?_
  refine lv_dup hx hb d_Bx_take_19 rfl ?_
  refine tw_getI (x := (ti f q0 6)) (D := (dC, dI)) (C := R_Bx) (T := F_Bx) (N := 7) (ci := 5) (kd := 12) (ct := ct) hx hb htb i_Bx hown hK hP (hA_3.m m0) rfl rfl 6 ((hA_3.ei m0 rfl).trans rfl) (by decide) (htb (.fieldLink R_Bx 29 "WaterMen$Box" "pensionerCount" "I") tw_90) (fun _ h9 => h9) rfl d_Bx_take_20 ?_
  refine lv_iconst (v := 1) hx hb d_Bx_take_23 (by decide +kernel) ?_
  refine lv_iadd hx hb d_Bx_take_24 ?_
  refine tw_puti (v := ((ti f q0 6) + 1)) (D := (dC, dI)) (C := R_Bx) (T := F_Bx) (N := 7) (ci := 5) (kd := 12) (ct := ct) (ty := .int) hx hb htb i_Bx t_Bx t_Bx_ok n_Bx hown hK hP hD hS hO_3 (hA_3.m m0) rfl rfl 6 (by decide) (htb (.fieldLink R_Bx 29 "WaterMen$Box" "pensionerCount" "I") tw_90) (fun _ h9 => h9) rfl (by decide +kernel) rfl rfl rfl ⟨(show ¬ (((ti f q0 6) + 1) < 0) from ((fun (a_0 : Int32) (k_0 : ¬ (a_0 < 0)) (k_1 : ¬ (30 < a_0)) => (show ¬ ((a_0 + 1) < 0) from by have z0 : (0 : Int32).toInt = 0 := (by decide +kernel); have z1 : (1 : Int32).toInt = 1 := (by decide +kernel); have z2 : (30 : Int32).toInt = 30 := (by decide +kernel); have r0 := fb_rng (a_0); have e0 := k_0; rw [Int32.lt_iff_toInt_lt, z0] at e0; have e1 := k_1; rw [Int32.lt_iff_toInt_lt, z2] at e1; obtain ⟨n_0, hn_0, s0⟩ := nd_add (x := a_0) (y := (1 : Int32)) (by (try rw [z1]); omega) (by (try rw [z1]); omega); rw [z1] at s0; rw [hn_0, Int32.lt_iff_toInt_lt, z0]; omega)) (ti f q0 6) bp_6.1 bp_6.2)), (show ¬ (30 < ((ti f q0 6) + 1)) from ((fun (a_0 : Int32) (k_0 : ¬ (29 < a_0)) => (show ¬ (30 < (a_0 + 1)) from by have z0 : (1 : Int32).toInt = 1 := (by decide +kernel); have z1 : (29 : Int32).toInt = 29 := (by decide +kernel); have z2 : (30 : Int32).toInt = 30 := (by decide +kernel); have r0 := fb_rng (a_0); have e0 := k_0; rw [Int32.lt_iff_toInt_lt, z1] at e0; obtain ⟨n_0, hn_0, s0⟩ := nd_add (x := a_0) (y := (1 : Int32)) (by (try rw [z0]); omega) (by (try rw [z0]); omega); rw [z0] at s0; rw [hn_0, Int32.lt_iff_toInt_lt, z2]; omega)) (ti f q0 6) as_0))⟩ d_Bx_take_25 (fun f_4 H locs hP hD hS hO_4 hE_4 w_4 hF_4 => ?_)
  have hA_4 := hA_3.trans hE_4
  refine lv_aload_n hx hb d_Bx_take_28 rfl (lv_at hl 0 rfl) ?_
  refine tw_getI (x := ((ti f q0 6) + 1)) (D := (dC, dI)) (C := R_Bx) (T := F_Bx) (N := 7) (ci := 5) (kd := 12) (ct := ct) hx hb htb i_Bx hown hK hP (hA_4.m m0) rfl rfl 6 w_4 (by decide) (htb (.fieldLink R_Bx 29 "WaterMen$Box" "pensionerCount" "I") tw_90) (fun _ h9 => h9) rfl d_Bx_take_29 ?_
  refine lv_iconst (v := 1) hx hb d_Bx_take_32 (by decide +kernel) ?_
  refine lv_isub hx hb d_Bx_take_33 ?_
  refine W.widen (k := 1) (n := 3) (Nat.le_of_ble_eq_true rfl) (Nat.le_of_ble_eq_true rfl) ?_
  exact W.iret (v := (((ti f q0 6) + 1) - 1)) hx hb hr (fun t ht hW => ⟨⟨(((ti f q0 6) + 1) - 1), (L_2, f_4), rfl, ⟨hO_4, hA_4.mono (by decide +kernel), trivial⟩, by rw [ht]; exact hP, va_K.moved hW.alike hK, by rw [hAe]; exact hD⟩, by rw [hAe]; exact hS.F ht⟩) (by rw [hAe]; exact hS.2.2) d_Bx_take_34
def WL_Bx_payPensions_t_10_2 : List (Nat × Nat) := [(12, 0), (12, 3), (26, 2)]
def W_Bx_payPensions_t : List (Nat × Nat) := [(12, 0), (12, 3), (26, 2)]
set_option maxHeartbeats 4000000 in
set_option maxRecDepth 100000 in
theorem c_Bx_payPensions_t (l : Launch) (dC : Nat → ClassId) (dI : Nat → Nat → Nat) (ct : Nat → ClassId) (L : List Nat) (f : TF) (hO_0 : Ok L f) (q0 : Nat) (m0 : q0 ∈ L ∧ tk f q0 = 12) (sz : Nat) (p_0 : Int32)   : Met l y_Bx_payPensions (.code y_Bx_payPensions b_Bx_payPensions 4 none :: TB) ({ frames := 1, cells := 0, slots := 0, locals := 21 }) (va_Pc [.ref q0, .int p_0] (PC dC dI (TW ct L f) (TT ct) sz)) (va_Qv (fun (u : TSt) => Ok u.1 u.2 ∧ Ext W_Bx_payPensions_t L f u.1 u.2 ∧ (True)) (fun (u : TSt) t => va_P (dC, dI) vwCl (TW ct u.1 u.2) t.heap ∧ va_K (dC, dI) vwCl (TT ct) t ∧ va_D (va_A (TW ct L f) sz) (TW ct u.1 u.2)) (va_A (TW ct L f) sz)) 0 0 (va_A (TW ct L f) sz) := by
  refine Met.ofW (cc := b_Bx_payPensions) (maxL := 4) (ret := none) (by decide) rfl ?_
  intro p e s m args below meth c s₁ B hml hv
  obtain ⟨rfl, hsz, hP, hK, hD0, hN⟩ := hv
  have hx := B.exec
  have hb := B.bytes
  have hr := B.returns
  have hts := atoms_spec (ws := (.code y_Bx_payPensions b_Bx_payPensions 4 none :: TB)) B.pre
  have htb := fun w (h : w ∈ TB) => hts w (List.mem_cons_of_mem _ h)
  have hown : s.vm.findClass R_Bx = some m.cls := findClass_of_methodNamed B.named
  have hlocks := B.notSynchronized
  have hl := lv_entry ([.ref q0, .int p_0]) (n := 4) (Nat.le_of_ble_eq_true rfl)
  rw [lg_entry_eq]
  generalize (lg_sl ([.ref q0, .int p_0]) ++ List.replicate (4 - (lg_sl ([.ref q0, .int p_0])).length) Slot.unset).toArray = ls at hl ⊢
  have hl : lv_has ls 4 [(0, .ref q0), (1, .int p_0)] := hl
  subst hsz
  have hD := hD0.self (sz := s.heap.size)
  obtain ⟨A, hAe⟩ : ∃ A, va_A (TW ct L f) s.heap.size = A := ⟨_, rfl⟩
  rw [hAe] at hD
  have hA : ∀ q : Nat, s.heap.size ≤ q → A q := fun q h => by rw [← hAe]; exact Or.inr h
  have hS : va_S A s.heap s.heap [] := va_S.rf
  have hA_0 : Ext [] L f L f := Ext.rf
  suffices hGo : ∀ (H : Heap) (locs : List Loc), va_P (dC, dI) vwCl (TW ct L f) H → va_S A s.heap H locs → W p l e (headSpec (.code y_Bx_payPensions b_Bx_payPensions 4 none :: TB) ({ frames := 1, cells := 0, slots := 0, locals := 21 })).room s m [.ref q0, .int p_0].toArray below meth c H locs 0 0 (MQ below (va_Qv (fun (u : TSt) => Ok u.1 u.2 ∧ Ext W_Bx_payPensions_t L f u.1 u.2 ∧ (True)) (fun (u : TSt) t => va_P (dC, dI) vwCl (TW ct u.1 u.2) t.heap ∧ va_K (dC, dI) vwCl (TT ct) t ∧ va_D (va_A (TW ct L f) s.heap.size) (TW ct u.1 u.2)) (va_A (TW ct L f) s.heap.size)) [.ref q0, .int p_0].toArray s 0 0 (va_A (TW ct L f) s.heap.size)) (F0 m 0 ls []) from hGo _ _ hP hS
  clear hP hS
  intro H locs hP hS
  refine lv_iload_n hx hb d_Bx_payPensions_0 rfl (lv_at hl 1 rfl) ?_
  refine lv_bipush (v := 100) hx hb d_Bx_payPensions_1 (by decide +kernel) ?_
  refine lv_irem hx hb d_Bx_payPensions_3 (by decide) ?_
  refine lv_if_eq (tgt := 8) hx hb d_Bx_payPensions_4 (by decide) (fun c_1 => ?_) (fun c_1 => ?_)
  · refine lv_iconst (v := 0) hx hb d_Bx_payPensions_8 (by decide +kernel) ?_
    refine lv_istore_n (lv' := [(2, .int 0), (0, .ref q0), (1, .int p_0)]) hx hb d_Bx_payPensions_9 rfl hl (by decide) rfl (fun ls hl => ?_)
    have cut_2 : ∀ (n_2 : Nat) (v2_2 : Int32) (L_1 : List Nat) (f_1 : TF) (H : Heap) (locs : List Loc) (ls : Array Slot), va_P (dC, dI) vwCl (TW ct L_1 f_1) H → va_D A (TW ct L_1 f_1) → va_S A s.heap H locs → Ok L_1 f_1 → Ext WL_Bx_payPensions_t_10_2 L f L_1 f_1 → ¬ (v2_2 < 0) → ¬ (30 < v2_2) → (30 : Int32).toInt - (v2_2 : Int32).toInt ≤ (n_2 : Int) → lv_has ls 4 [(0, .ref q0), (1, .int p_0), (2, .int v2_2)] → W p l e (headSpec (.code y_Bx_payPensions b_Bx_payPensions 4 none :: TB) ({ frames := 1, cells := 0, slots := 0, locals := 21 })).room s m [.ref q0, .int p_0].toArray below meth c H locs 0 0 (MQ below (va_Qv (fun (u : TSt) => Ok u.1 u.2 ∧ Ext W_Bx_payPensions_t L f u.1 u.2 ∧ (True)) (fun (u : TSt) t => va_P (dC, dI) vwCl (TW ct u.1 u.2) t.heap ∧ va_K (dC, dI) vwCl (TT ct) t ∧ va_D (va_A (TW ct L f) s.heap.size) (TW ct u.1 u.2)) (va_A (TW ct L f) s.heap.size)) [.ref q0, .int p_0].toArray s 0 0 (va_A (TW ct L f) s.heap.size)) (F0 m 10 ls []) := by
      intro n_2
      induction n_2 using Nat.strongRecOn with
      | _ n_2 ih_2 =>
        intro v2_2 L_1 f_1 H locs ls hP hD hS hO_1 hE_1 iv0_2 iv1_2 hm_2 hl
        have hA_1 := hA_0.trans hE_1
        refine lv_iload_n hx hb d_Bx_payPensions_10 rfl (lv_at hl 2 rfl) ?_
        refine lv_aload_n hx hb d_Bx_payPensions_11 rfl (lv_at hl 0 rfl) ?_
        refine tw_geti (D := (dC, dI)) (C := R_Bx) (T := F_Bx) (N := 7) (ci := 5) (kd := 12) (ct := ct) hx hb htb i_Bx hown hK hP hO_1 (hA_1.m m0) rfl rfl 6 (by decide) (htb (.fieldLink R_Bx 29 "WaterMen$Box" "pensionerCount" "I") tw_90) (fun _ h9 => h9) rfl d_Bx_payPensions_12 (fun x_3 e_3 b_3 => ?_)
        refine lv_icmp_ge (tgt := 92) hx hb d_Bx_payPensions_15 (by decide) (fun c_4 => ?_) (fun c_4 => ?_)
        · refine W.widen (k := 0) (n := 0) (Nat.le_of_ble_eq_true rfl) (Nat.le_of_ble_eq_true rfl) ?_
          exact W.vret hx hb hr (fun t ht hW => ⟨⟨(L_1, f_1), rfl, ⟨hO_1, hA_1.mono (by decide +kernel), trivial⟩, by rw [ht]; exact hP, va_K.moved hW.alike hK, by rw [hAe]; exact hD⟩, by rw [hAe]; exact hS.F ht⟩) (by rw [hAe]; exact hS.2.2) d_Bx_payPensions_92
        · refine lv_aload_n hx hb d_Bx_payPensions_18 rfl (lv_at hl 0 rfl) ?_
          refine lv_iload_n hx hb d_Bx_payPensions_19 rfl (lv_at hl 2 rfl) ?_
          refine va_csq (va_Run.run (va_runV (As := [.int v2_2]) (rest := []) ⟨hx, hb, hml, hown, htb⟩ (c_Bx_pensionerAt_t l dC dI ct L_1 f_1 hO_1 q0 (hA_1.m m0) v2_2) (cwV 1 htb (gd_V tw_105 tw_106 tw_107 tw_104 tw_103) rfl rfl rfl (by decide +kernel) ⟨Nat.le_of_ble_eq_true rfl, Nat.le_of_ble_eq_true rfl⟩) ⟨pr_blind, tw_recv hK hP (hA_1.m m0) rfl rfl, pr_pre hP hK hN⟩ rfl rfl hl.1 rfl (lv_room (Nat.le_of_ble_eq_true rfl)) d_Bx_payPensions_20 ⟨Nat.le_of_ble_eq_true rfl, Nat.le_of_ble_eq_true rfl⟩)) (fun r_5 er_5 => ?_)
          rcases er_5 with rfl | ⟨q_5, rfl, m_5⟩
          · refine hb_tv .null rfl ?_
            refine lv_astore_nN (lv' := [(3, .null), (0, .ref q0), (1, .int p_0), (2, .int v2_2)]) hx hb d_Bx_payPensions_23 rfl hl (by decide) rfl (fun ls hl => ?_)
            refine lv_aload_nN hx hb d_Bx_payPensions_24 rfl (lv_at hl 0 rfl) ?_
            refine lv_ifnullN (tgt := 86) hx hb d_Bx_payPensions_25 (by decide) ?_
            refine lv_iinc (v := (v2_2 + 1)) (lv' := [(2, .int (v2_2 + 1)), (3, .null), (0, .ref q0), (1, .int p_0)]) hx hb d_Bx_payPensions_86 hl (k := 3) rfl rfl (by decide) rfl (fun ls hl => ?_)
            refine lv_goto (tgt := 10) hx hb d_Bx_payPensions_89 (by decide) ?_
            exact ih_2 (n_2 - 1) (ms_1 ((fun (a_0 : Int32) (a_1 : Int32) (k_0 : ¬ (a_1 ≤ a_0)) (k_1 : ¬ (30 < a_1)) => (show 1 ≤ (30 : Int32).toInt - (a_0).toInt ∧ (30 : Int32).toInt - ((a_0) + (1 : Int32)).toInt + 1 ≤ (30 : Int32).toInt - (a_0).toInt from by have z0 : (1 : Int32).toInt = 1 := (by decide +kernel); have z1 : (30 : Int32).toInt = 30 := (by decide +kernel); have r0 := fb_rng (a_0); have r1 := fb_rng (a_1); have e0 := k_0; rw [Int32.le_iff_toInt_le] at e0; have e1 := k_1; rw [Int32.lt_iff_toInt_lt, z1] at e1; obtain ⟨n_0, hn_0, s0⟩ := nd_add (x := (a_0)) (y := (1 : Int32)) (by (try rw [z0]); omega) (by (try rw [z0]); omega); rw [z0] at s0; rw [hn_0]; (try rw [z1]); omega)) v2_2 x_3 c_4 b_3.2) hm_2) (v2_2 + 1) _ _ _ _ _ hP hD hS hO_1 (hE_1.mono (by decide +kernel)) (show ¬ ((v2_2 + 1) < 0) from by have e0 := iv0_2; rw [Int32.lt_iff_toInt_lt] at e0; have e1 := iv1_2; rw [Int32.lt_iff_toInt_lt] at e1; have z0 : (0 : Int32).toInt = 0 := (by decide +kernel); have z1 : (1 : Int32).toInt = 1 := (by decide +kernel); have z2 : (30 : Int32).toInt = 30 := (by decide +kernel); have ss := fb_addI (x := v2_2) (y := 1) (by omega) (by omega); rw [Int32.lt_iff_toInt_lt]; omega) (show ¬ (30 < (v2_2 + 1)) from ((fun (a_0 : Int32) (a_1 : Int32) (k_0 : ¬ (a_1 ≤ a_0)) (k_1 : ¬ (30 < a_1)) => (show ¬ (30 < (a_0 + 1)) from by have z0 : (1 : Int32).toInt = 1 := (by decide +kernel); have z1 : (30 : Int32).toInt = 30 := (by decide +kernel); have r0 := fb_rng (a_0); have r1 := fb_rng (a_1); have e0 := k_0; rw [Int32.le_iff_toInt_le] at e0; have e1 := k_1; rw [Int32.lt_iff_toInt_lt, z1] at e1; obtain ⟨n_0, hn_0, s0⟩ := nd_add (x := (a_0)) (y := (1 : Int32)) (by (try rw [z0]); omega) (by (try rw [z0]); omega); rw [z0] at s0; rw [hn_0, Int32.lt_iff_toInt_lt, z1]; omega)) v2_2 x_3 c_4 b_3.2)) (by exact ms_2 ((fun (a_0 : Int32) (a_1 : Int32) (k_0 : ¬ (a_1 ≤ a_0)) (k_1 : ¬ (30 < a_1)) => (show 1 ≤ (30 : Int32).toInt - (a_0).toInt ∧ (30 : Int32).toInt - ((a_0) + (1 : Int32)).toInt + 1 ≤ (30 : Int32).toInt - (a_0).toInt from by have z0 : (1 : Int32).toInt = 1 := (by decide +kernel); have z1 : (30 : Int32).toInt = 30 := (by decide +kernel); have r0 := fb_rng (a_0); have r1 := fb_rng (a_1); have e0 := k_0; rw [Int32.le_iff_toInt_le] at e0; have e1 := k_1; rw [Int32.lt_iff_toInt_lt, z1] at e1; obtain ⟨n_0, hn_0, s0⟩ := nd_add (x := (a_0)) (y := (1 : Int32)) (by (try rw [z0]); omega) (by (try rw [z0]); omega); rw [z0] at s0; rw [hn_0]; (try rw [z1]); omega)) v2_2 x_3 c_4 b_3.2) hm_2) (lv_sub hl [2, 3, 0] rfl)
          · refine hb_tv (.ref q_5) rfl ?_
            refine lv_astore_n (lv' := [(3, .ref q_5), (0, .ref q0), (1, .int p_0), (2, .int v2_2)]) hx hb d_Bx_payPensions_23 rfl hl (by decide) rfl (fun ls hl => ?_)
            refine lv_aload_n hx hb d_Bx_payPensions_24 rfl (lv_at hl 0 rfl) ?_
            refine lv_ifnull hx hb d_Bx_payPensions_25 ?_
            refine lv_iload_n hx hb d_Bx_payPensions_28 rfl (lv_at hl 2 rfl) ?_
            refine lv_aload_n hx hb d_Bx_payPensions_29 rfl (lv_at hl 0 rfl) ?_
            refine tw_geti (D := (dC, dI)) (C := R_Pn) (T := F_Pn) (N := 3) (ci := 6) (kd := 26) (ct := ct) hx hb htb i_Pn hown hK hP hO_1 m_5 rfl rfl 1 (by decide) (htb (.fieldLink R_Bx 39 "WaterMen$Pensioner" "end" "I") tw_108) (fun _ h9 => h9) rfl d_Bx_payPensions_30 (fun x_6 e_6 b_6 => ?_)
            refine lv_icmp_ge (tgt := 86) hx hb d_Bx_payPensions_33 (by decide) (fun c_7 => ?_) (fun c_7 => ?_)
            · refine lv_iinc (v := (v2_2 + 1)) (lv' := [(2, .int (v2_2 + 1)), (3, .ref q_5), (0, .ref q0), (1, .int p_0)]) hx hb d_Bx_payPensions_86 hl (k := 3) rfl rfl (by decide) rfl (fun ls hl => ?_)
              refine lv_goto (tgt := 10) hx hb d_Bx_payPensions_89 (by decide) ?_
              exact ih_2 (n_2 - 1) (ms_1 ((fun (a_0 : Int32) (a_1 : Int32) (k_0 : ¬ (a_1 ≤ a_0)) (k_1 : ¬ (30 < a_1)) => (show 1 ≤ (30 : Int32).toInt - (a_0).toInt ∧ (30 : Int32).toInt - ((a_0) + (1 : Int32)).toInt + 1 ≤ (30 : Int32).toInt - (a_0).toInt from by have z0 : (1 : Int32).toInt = 1 := (by decide +kernel); have z1 : (30 : Int32).toInt = 30 := (by decide +kernel); have r0 := fb_rng (a_0); have r1 := fb_rng (a_1); have e0 := k_0; rw [Int32.le_iff_toInt_le] at e0; have e1 := k_1; rw [Int32.lt_iff_toInt_lt, z1] at e1; obtain ⟨n_0, hn_0, s0⟩ := nd_add (x := (a_0)) (y := (1 : Int32)) (by (try rw [z0]); omega) (by (try rw [z0]); omega); rw [z0] at s0; rw [hn_0]; (try rw [z1]); omega)) v2_2 x_3 c_4 b_3.2) hm_2) (v2_2 + 1) _ _ _ _ _ hP hD hS hO_1 (hE_1.mono (by decide +kernel)) (show ¬ ((v2_2 + 1) < 0) from by have e0 := iv0_2; rw [Int32.lt_iff_toInt_lt] at e0; have e1 := iv1_2; rw [Int32.lt_iff_toInt_lt] at e1; have z0 : (0 : Int32).toInt = 0 := (by decide +kernel); have z1 : (1 : Int32).toInt = 1 := (by decide +kernel); have z2 : (30 : Int32).toInt = 30 := (by decide +kernel); have ss := fb_addI (x := v2_2) (y := 1) (by omega) (by omega); rw [Int32.lt_iff_toInt_lt]; omega) (show ¬ (30 < (v2_2 + 1)) from ((fun (a_0 : Int32) (a_1 : Int32) (k_0 : ¬ (a_1 ≤ a_0)) (k_1 : ¬ (30 < a_1)) => (show ¬ (30 < (a_0 + 1)) from by have z0 : (1 : Int32).toInt = 1 := (by decide +kernel); have z1 : (30 : Int32).toInt = 30 := (by decide +kernel); have r0 := fb_rng (a_0); have r1 := fb_rng (a_1); have e0 := k_0; rw [Int32.le_iff_toInt_le] at e0; have e1 := k_1; rw [Int32.lt_iff_toInt_lt, z1] at e1; obtain ⟨n_0, hn_0, s0⟩ := nd_add (x := (a_0)) (y := (1 : Int32)) (by (try rw [z0]); omega) (by (try rw [z0]); omega); rw [z0] at s0; rw [hn_0, Int32.lt_iff_toInt_lt, z1]; omega)) v2_2 x_3 c_4 b_3.2)) (by exact ms_2 ((fun (a_0 : Int32) (a_1 : Int32) (k_0 : ¬ (a_1 ≤ a_0)) (k_1 : ¬ (30 < a_1)) => (show 1 ≤ (30 : Int32).toInt - (a_0).toInt ∧ (30 : Int32).toInt - ((a_0) + (1 : Int32)).toInt + 1 ≤ (30 : Int32).toInt - (a_0).toInt from by have z0 : (1 : Int32).toInt = 1 := (by decide +kernel); have z1 : (30 : Int32).toInt = 30 := (by decide +kernel); have r0 := fb_rng (a_0); have r1 := fb_rng (a_1); have e0 := k_0; rw [Int32.le_iff_toInt_le] at e0; have e1 := k_1; rw [Int32.lt_iff_toInt_lt, z1] at e1; obtain ⟨n_0, hn_0, s0⟩ := nd_add (x := (a_0)) (y := (1 : Int32)) (by (try rw [z0]); omega) (by (try rw [z0]); omega); rw [z0] at s0; rw [hn_0]; (try rw [z1]); omega)) v2_2 x_3 c_4 b_3.2) hm_2) (lv_sub hl [2, 3, 0] rfl)
            · refine lv_aload_n hx hb d_Bx_payPensions_36 rfl (lv_at hl 0 rfl) ?_
              refine tw_geti (D := (dC, dI)) (C := R_Pn) (T := F_Pn) (N := 3) (ci := 6) (kd := 26) (ct := ct) hx hb htb i_Pn hown hK hP hO_1 m_5 rfl rfl 0 (by decide) (htb (.fieldLink R_Bx 42 "WaterMen$Pensioner" "pension" "I") tw_109) (fun _ h9 => h9) rfl d_Bx_payPensions_37 (fun x_8 e_8 b_8 => ?_)
              refine lv_aload_n hx hb d_Bx_payPensions_40 rfl (lv_at hl 1 rfl) ?_
              refine tw_geti (D := (dC, dI)) (C := R_Bx) (T := F_Bx) (N := 7) (ci := 5) (kd := 12) (ct := ct) hx hb htb i_Bx hown hK hP hO_1 (hA_1.m m0) rfl rfl 0 (by decide) (htb (.fieldLink R_Bx 21 "WaterMen$Box" "coins" "I") tw_88) (fun _ h9 => h9) rfl d_Bx_payPensions_41 (fun x_9 e_9 b_9 => ?_)
              refine lv_icmp_gt (tgt := 86) hx hb d_Bx_payPensions_44 (by decide) (fun c_10 => ?_) (fun c_10 => ?_)
              · refine lv_iinc (v := (v2_2 + 1)) (lv' := [(2, .int (v2_2 + 1)), (3, .ref q_5), (0, .ref q0), (1, .int p_0)]) hx hb d_Bx_payPensions_86 hl (k := 3) rfl rfl (by decide) rfl (fun ls hl => ?_)
                refine lv_goto (tgt := 10) hx hb d_Bx_payPensions_89 (by decide) ?_
                exact ih_2 (n_2 - 1) (ms_1 ((fun (a_0 : Int32) (a_1 : Int32) (k_0 : ¬ (a_1 ≤ a_0)) (k_1 : ¬ (30 < a_1)) => (show 1 ≤ (30 : Int32).toInt - (a_0).toInt ∧ (30 : Int32).toInt - ((a_0) + (1 : Int32)).toInt + 1 ≤ (30 : Int32).toInt - (a_0).toInt from by have z0 : (1 : Int32).toInt = 1 := (by decide +kernel); have z1 : (30 : Int32).toInt = 30 := (by decide +kernel); have r0 := fb_rng (a_0); have r1 := fb_rng (a_1); have e0 := k_0; rw [Int32.le_iff_toInt_le] at e0; have e1 := k_1; rw [Int32.lt_iff_toInt_lt, z1] at e1; obtain ⟨n_0, hn_0, s0⟩ := nd_add (x := (a_0)) (y := (1 : Int32)) (by (try rw [z0]); omega) (by (try rw [z0]); omega); rw [z0] at s0; rw [hn_0]; (try rw [z1]); omega)) v2_2 x_3 c_4 b_3.2) hm_2) (v2_2 + 1) _ _ _ _ _ hP hD hS hO_1 (hE_1.mono (by decide +kernel)) (show ¬ ((v2_2 + 1) < 0) from by have e0 := iv0_2; rw [Int32.lt_iff_toInt_lt] at e0; have e1 := iv1_2; rw [Int32.lt_iff_toInt_lt] at e1; have z0 : (0 : Int32).toInt = 0 := (by decide +kernel); have z1 : (1 : Int32).toInt = 1 := (by decide +kernel); have z2 : (30 : Int32).toInt = 30 := (by decide +kernel); have ss := fb_addI (x := v2_2) (y := 1) (by omega) (by omega); rw [Int32.lt_iff_toInt_lt]; omega) (show ¬ (30 < (v2_2 + 1)) from ((fun (a_0 : Int32) (a_1 : Int32) (k_0 : ¬ (a_1 ≤ a_0)) (k_1 : ¬ (30 < a_1)) => (show ¬ (30 < (a_0 + 1)) from by have z0 : (1 : Int32).toInt = 1 := (by decide +kernel); have z1 : (30 : Int32).toInt = 30 := (by decide +kernel); have r0 := fb_rng (a_0); have r1 := fb_rng (a_1); have e0 := k_0; rw [Int32.le_iff_toInt_le] at e0; have e1 := k_1; rw [Int32.lt_iff_toInt_lt, z1] at e1; obtain ⟨n_0, hn_0, s0⟩ := nd_add (x := (a_0)) (y := (1 : Int32)) (by (try rw [z0]); omega) (by (try rw [z0]); omega); rw [z0] at s0; rw [hn_0, Int32.lt_iff_toInt_lt, z1]; omega)) v2_2 x_3 c_4 b_3.2)) (by exact ms_2 ((fun (a_0 : Int32) (a_1 : Int32) (k_0 : ¬ (a_1 ≤ a_0)) (k_1 : ¬ (30 < a_1)) => (show 1 ≤ (30 : Int32).toInt - (a_0).toInt ∧ (30 : Int32).toInt - ((a_0) + (1 : Int32)).toInt + 1 ≤ (30 : Int32).toInt - (a_0).toInt from by have z0 : (1 : Int32).toInt = 1 := (by decide +kernel); have z1 : (30 : Int32).toInt = 30 := (by decide +kernel); have r0 := fb_rng (a_0); have r1 := fb_rng (a_1); have e0 := k_0; rw [Int32.le_iff_toInt_le] at e0; have e1 := k_1; rw [Int32.lt_iff_toInt_lt, z1] at e1; obtain ⟨n_0, hn_0, s0⟩ := nd_add (x := (a_0)) (y := (1 : Int32)) (by (try rw [z0]); omega) (by (try rw [z0]); omega); rw [z0] at s0; rw [hn_0]; (try rw [z1]); omega)) v2_2 x_3 c_4 b_3.2) hm_2) (lv_sub hl [2, 3, 0] rfl)
              · refine lv_aload_n hx hb d_Bx_payPensions_47 rfl (lv_at hl 1 rfl) ?_
                refine lv_dup hx hb d_Bx_payPensions_48 rfl ?_
                refine tw_getI (x := x_9) (D := (dC, dI)) (C := R_Bx) (T := F_Bx) (N := 7) (ci := 5) (kd := 12) (ct := ct) hx hb htb i_Bx hown hK hP (hA_1.m m0) rfl rfl 0 e_9 (by decide) (htb (.fieldLink R_Bx 21 "WaterMen$Box" "coins" "I") tw_88) (fun _ h9 => h9) rfl d_Bx_payPensions_49 ?_
                refine lv_aload_n hx hb d_Bx_payPensions_52 rfl (lv_at hl 0 rfl) ?_
                refine tw_getI (x := x_8) (D := (dC, dI)) (C := R_Pn) (T := F_Pn) (N := 3) (ci := 6) (kd := 26) (ct := ct) hx hb htb i_Pn hown hK hP m_5 rfl rfl 0 e_8 (by decide) (htb (.fieldLink R_Bx 42 "WaterMen$Pensioner" "pension" "I") tw_109) (fun _ h9 => h9) rfl d_Bx_payPensions_53 ?_
                refine lv_isub hx hb d_Bx_payPensions_56 ?_
                refine tw_puti (v := (x_9 - x_8)) (D := (dC, dI)) (C := R_Bx) (T := F_Bx) (N := 7) (ci := 5) (kd := 12) (ct := ct) (ty := .int) hx hb htb i_Bx t_Bx t_Bx_ok n_Bx hown hK hP hD hS hO_1 (hA_1.m m0) rfl rfl 0 (by decide) (htb (.fieldLink R_Bx 21 "WaterMen$Box" "coins" "I") tw_88) (fun _ h9 => h9) rfl (by decide +kernel) rfl rfl rfl (i32_full _) d_Bx_payPensions_57 (fun f_2 H locs hP hD hS hO_2 hE_2 w_11 hF_2 => ?_)
                have hA_2 := hA_1.trans hE_2
                refine lv_aload_n hx hb d_Bx_payPensions_60 rfl (lv_at hl 0 rfl) ?_
                refine lv_dup hx hb d_Bx_payPensions_61 rfl ?_
                refine tw_geti (D := (dC, dI)) (C := R_Pn) (T := F_Pn) (N := 3) (ci := 6) (kd := 26) (ct := ct) hx hb htb i_Pn hown hK hP hO_2 (hE_2.m m_5) rfl rfl 2 (by decide) (htb (.fieldLink R_Bx 45 "WaterMen$Pensioner" "got" "I") tw_110) (fun _ h9 => h9) rfl d_Bx_payPensions_62 (fun x_12 e_12 b_12 => ?_)
                refine lv_aload_n hx hb d_Bx_payPensions_65 rfl (lv_at hl 0 rfl) ?_
                refine tw_getI (x := x_8) (D := (dC, dI)) (C := R_Pn) (T := F_Pn) (N := 3) (ci := 6) (kd := 26) (ct := ct) hx hb htb i_Pn hown hK hP (hE_2.m m_5) rfl rfl 0 ((hE_2.ei m_5 rfl).trans e_8) (by decide) (htb (.fieldLink R_Bx 42 "WaterMen$Pensioner" "pension" "I") tw_109) (fun _ h9 => h9) rfl d_Bx_payPensions_66 ?_
                refine lv_iadd hx hb d_Bx_payPensions_69 ?_
                refine tw_puti (v := (x_12 + x_8)) (D := (dC, dI)) (C := R_Pn) (T := F_Pn) (N := 3) (ci := 6) (kd := 26) (ct := ct) (ty := .int) hx hb htb i_Pn t_Pn t_Pn_ok n_Pn hown hK hP hD hS hO_2 (hE_2.m m_5) rfl rfl 2 (by decide) (htb (.fieldLink R_Bx 45 "WaterMen$Pensioner" "got" "I") tw_110) (fun _ h9 => h9) rfl (by decide +kernel) rfl rfl rfl (i32_full _) d_Bx_payPensions_70 (fun f_3 H locs hP hD hS hO_3 hE_3 w_13 hF_3 => ?_)
                have hA_3 := hA_2.trans hE_3
                refine lv_aload_n hx hb d_Bx_payPensions_73 rfl (lv_at hl 1 rfl) ?_
                refine lv_dup hx hb d_Bx_payPensions_74 rfl ?_
                refine tw_geti (D := (dC, dI)) (C := R_Bx) (T := F_Bx) (N := 7) (ci := 5) (kd := 12) (ct := ct) hx hb htb i_Bx hown hK hP hO_3 (hA_3.m m0) rfl rfl 3 (by decide) (htb (.fieldLink R_Bx 48 "WaterMen$Box" "allPensions" "I") tw_111) (fun _ h9 => h9) rfl d_Bx_payPensions_75 (fun x_14 e_14 b_14 => ?_)
                refine lv_aload_n hx hb d_Bx_payPensions_78 rfl (lv_at hl 0 rfl) ?_
                refine tw_getI (x := x_8) (D := (dC, dI)) (C := R_Pn) (T := F_Pn) (N := 3) (ci := 6) (kd := 26) (ct := ct) hx hb htb i_Pn hown hK hP (hE_3.m (hE_2.m m_5)) rfl rfl 0 ((hE_3.ei (hE_2.m m_5) rfl).trans ((hE_2.ei m_5 rfl).trans e_8)) (by decide) (htb (.fieldLink R_Bx 42 "WaterMen$Pensioner" "pension" "I") tw_109) (fun _ h9 => h9) rfl d_Bx_payPensions_79 ?_
                refine lv_iadd hx hb d_Bx_payPensions_82 ?_
                refine tw_puti (v := (x_14 + x_8)) (D := (dC, dI)) (C := R_Bx) (T := F_Bx) (N := 7) (ci := 5) (kd := 12) (ct := ct) (ty := .int) hx hb htb i_Bx t_Bx t_Bx_ok n_Bx hown hK hP hD hS hO_3 (hA_3.m m0) rfl rfl 3 (by decide) (htb (.fieldLink R_Bx 48 "WaterMen$Box" "allPensions" "I") tw_111) (fun _ h9 => h9) rfl (by decide +kernel) rfl rfl rfl (i32_full _) d_Bx_payPensions_83 (fun f_4 H locs hP hD hS hO_4 hE_4 w_15 hF_4 => ?_)
                have hA_4 := hA_3.trans hE_4
                refine lv_iinc (v := (v2_2 + 1)) (lv' := [(2, .int (v2_2 + 1)), (3, .ref q_5), (0, .ref q0), (1, .int p_0)]) hx hb d_Bx_payPensions_86 hl (k := 3) rfl rfl (by decide) rfl (fun ls hl => ?_)
                refine lv_goto (tgt := 10) hx hb d_Bx_payPensions_89 (by decide) ?_
                exact ih_2 (n_2 - 1) (ms_1 ((fun (a_0 : Int32) (a_1 : Int32) (k_0 : ¬ (a_1 ≤ a_0)) (k_1 : ¬ (30 < a_1)) => (show 1 ≤ (30 : Int32).toInt - (a_0).toInt ∧ (30 : Int32).toInt - ((a_0) + (1 : Int32)).toInt + 1 ≤ (30 : Int32).toInt - (a_0).toInt from by have z0 : (1 : Int32).toInt = 1 := (by decide +kernel); have z1 : (30 : Int32).toInt = 30 := (by decide +kernel); have r0 := fb_rng (a_0); have r1 := fb_rng (a_1); have e0 := k_0; rw [Int32.le_iff_toInt_le] at e0; have e1 := k_1; rw [Int32.lt_iff_toInt_lt, z1] at e1; obtain ⟨n_0, hn_0, s0⟩ := nd_add (x := (a_0)) (y := (1 : Int32)) (by (try rw [z0]); omega) (by (try rw [z0]); omega); rw [z0] at s0; rw [hn_0]; (try rw [z1]); omega)) v2_2 x_3 c_4 b_3.2) hm_2) (v2_2 + 1) _ _ _ _ _ hP hD hS hO_4 ((((hE_1.trans hE_2).trans hE_3).trans hE_4).mono (by decide +kernel)) (show ¬ ((v2_2 + 1) < 0) from by have e0 := iv0_2; rw [Int32.lt_iff_toInt_lt] at e0; have e1 := iv1_2; rw [Int32.lt_iff_toInt_lt] at e1; have z0 : (0 : Int32).toInt = 0 := (by decide +kernel); have z1 : (1 : Int32).toInt = 1 := (by decide +kernel); have z2 : (30 : Int32).toInt = 30 := (by decide +kernel); have ss := fb_addI (x := v2_2) (y := 1) (by omega) (by omega); rw [Int32.lt_iff_toInt_lt]; omega) (show ¬ (30 < (v2_2 + 1)) from ((fun (a_0 : Int32) (a_1 : Int32) (k_0 : ¬ (a_1 ≤ a_0)) (k_1 : ¬ (30 < a_1)) => (show ¬ (30 < (a_0 + 1)) from by have z0 : (1 : Int32).toInt = 1 := (by decide +kernel); have z1 : (30 : Int32).toInt = 30 := (by decide +kernel); have r0 := fb_rng (a_0); have r1 := fb_rng (a_1); have e0 := k_0; rw [Int32.le_iff_toInt_le] at e0; have e1 := k_1; rw [Int32.lt_iff_toInt_lt, z1] at e1; obtain ⟨n_0, hn_0, s0⟩ := nd_add (x := (a_0)) (y := (1 : Int32)) (by (try rw [z0]); omega) (by (try rw [z0]); omega); rw [z0] at s0; rw [hn_0, Int32.lt_iff_toInt_lt, z1]; omega)) v2_2 x_3 c_4 b_3.2)) (by exact ms_2 ((fun (a_0 : Int32) (a_1 : Int32) (k_0 : ¬ (a_1 ≤ a_0)) (k_1 : ¬ (30 < a_1)) => (show 1 ≤ (30 : Int32).toInt - (a_0).toInt ∧ (30 : Int32).toInt - ((a_0) + (1 : Int32)).toInt + 1 ≤ (30 : Int32).toInt - (a_0).toInt from by have z0 : (1 : Int32).toInt = 1 := (by decide +kernel); have z1 : (30 : Int32).toInt = 30 := (by decide +kernel); have r0 := fb_rng (a_0); have r1 := fb_rng (a_1); have e0 := k_0; rw [Int32.le_iff_toInt_le] at e0; have e1 := k_1; rw [Int32.lt_iff_toInt_lt, z1] at e1; obtain ⟨n_0, hn_0, s0⟩ := nd_add (x := (a_0)) (y := (1 : Int32)) (by (try rw [z0]); omega) (by (try rw [z0]); omega); rw [z0] at s0; rw [hn_0]; (try rw [z1]); omega)) v2_2 x_3 c_4 b_3.2) hm_2) (lv_sub hl [2, 3, 0] rfl)
    exact cut_2 4294967296 (0 : Int32) _ _ _ _ _ hP hD hS hO_0 Ext.rf (by decide +kernel) (by decide +kernel) (by exact ms_0 _ _) (lv_sub hl [1, 2, 0] rfl)
  · refine W.widen (k := 0) (n := 0) (Nat.le_of_ble_eq_true rfl) (Nat.le_of_ble_eq_true rfl) ?_
    exact W.vret hx hb hr (fun t ht hW => ⟨⟨(L, f), rfl, ⟨hO_0, hA_0.mono (by decide +kernel), trivial⟩, by rw [ht]; exact hP, va_K.moved hW.alike hK, by rw [hAe]; exact hD⟩, by rw [hAe]; exact hS.F ht⟩) (by rw [hAe]; exact hS.2.2) d_Bx_payPensions_7
set_option maxHeartbeats 4000000 in
set_option maxRecDepth 100000 in
theorem c_Bx_owedOn_t (l : Launch) (dC : Nat → ClassId) (dI : Nat → Nat → Nat) (ct : Nat → ClassId) (L : List Nat) (f : TF) (hO_0 : Ok L f) (q0 : Nat) (m0 : q0 ∈ L ∧ tk f q0 = 12) (p_0 : Int32)   : Met l y_Bx_owedOn (.code y_Bx_owedOn b_Bx_owedOn 5 (some .int) :: TB) ({ frames := 1, cells := 0, slots := 0, locals := 21 }) (va_Pc [.ref q0, .int p_0] (PR dC dI (TW ct L f) (TT ct))) (vp_Si (fun r => True)) 0 0 (fun _ => False) := by
  refine Met.ofW (cc := b_Bx_owedOn) (maxL := 5) (ret := (some .int)) (by decide) rfl ?_
  intro p e s m args below meth c s₁ B hml hv
  obtain ⟨rfl, hP, hK, hN⟩ := hv
  have hx := B.exec
  have hb := B.bytes
  have hr := B.returns
  have hts := atoms_spec (ws := (.code y_Bx_owedOn b_Bx_owedOn 5 (some .int) :: TB)) B.pre
  have htb := fun w (h : w ∈ TB) => hts w (List.mem_cons_of_mem _ h)
  have hown : s.vm.findClass R_Bx = some m.cls := findClass_of_methodNamed B.named
  have hlocks := B.notSynchronized
  have hl := lv_entry ([.ref q0, .int p_0]) (n := 5) (Nat.le_of_ble_eq_true rfl)
  rw [lg_entry_eq]
  generalize (lg_sl ([.ref q0, .int p_0]) ++ List.replicate (5 - (lg_sl ([.ref q0, .int p_0])).length) Slot.unset).toArray = ls at hl ⊢
  have hl : lv_has ls 5 [(0, .ref q0), (1, .int p_0)] := hl
  refine lv_iconst (v := 0) hx hb d_Bx_owedOn_0 (by decide +kernel) ?_
  refine lv_istore_n (lv' := [(2, .int 0), (0, .ref q0), (1, .int p_0)]) hx hb d_Bx_owedOn_1 rfl hl (by decide) rfl (fun ls hl => ?_)
  refine lv_iconst (v := 0) hx hb d_Bx_owedOn_2 (by decide +kernel) ?_
  refine lv_istore_n (lv' := [(3, .int 0), (2, .int 0), (0, .ref q0), (1, .int p_0)]) hx hb d_Bx_owedOn_3 rfl hl (by decide) rfl (fun ls hl => ?_)
  have cut_1 : ∀ (n_1 : Nat) (v2_1 v3_1 : Int32) (ls : Array Slot), ¬ (v3_1 < 0) → ¬ (30 < v3_1) → (30 : Int32).toInt - (v3_1 : Int32).toInt ≤ (n_1 : Int) → lv_has ls 5 [(0, .ref q0), (1, .int p_0), (2, .int v2_1), (3, .int v3_1)] → W p l e (headSpec (.code y_Bx_owedOn b_Bx_owedOn 5 (some .int) :: TB) ({ frames := 1, cells := 0, slots := 0, locals := 21 })).room s m [.ref q0, .int p_0].toArray below meth c s.heap [] 0 0 (MQ below (vp_Si (fun r => True)) [.ref q0, .int p_0].toArray s 0 0 (fun _ => False)) (F0 m 4 ls []) := by
    intro n_1
    induction n_1 using Nat.strongRecOn with
    | _ n_1 ih_1 =>
      intro v2_1 v3_1 ls iv0_1 iv1_1 hm_1 hl
      refine lv_iload_n hx hb d_Bx_owedOn_4 rfl (lv_at hl 3 rfl) ?_
      refine lv_aload_n hx hb d_Bx_owedOn_5 rfl (lv_at hl 0 rfl) ?_
      refine tw_geti (D := (dC, dI)) (C := R_Bx) (T := F_Bx) (N := 7) (ci := 5) (kd := 12) (ct := ct) hx hb htb i_Bx hown hK hP hO_0 m0 rfl rfl 6 (by decide) (htb (.fieldLink R_Bx 29 "WaterMen$Box" "pensionerCount" "I") tw_90) (fun _ h9 => h9) rfl d_Bx_owedOn_6 (fun x_2 e_2 b_2 => ?_)
      refine lv_icmp_ge (tgt := 47) hx hb d_Bx_owedOn_9 (by decide) (fun c_3 => ?_) (fun c_3 => ?_)
      · refine lv_iload_n hx hb d_Bx_owedOn_47 rfl (lv_at hl 2 rfl) ?_
        exact W.iret (v := v2_1) hx hb hr (fun t ht hW => ⟨v2_1, rfl, trivial, ht⟩) t_nil d_Bx_owedOn_48
      · refine lv_aload_n hx hb d_Bx_owedOn_12 rfl (lv_at hl 0 rfl) ?_
        refine lv_iload_n hx hb d_Bx_owedOn_13 rfl (lv_at hl 3 rfl) ?_
        refine va_csq (va_Run.run (va_runV (As := [.int v3_1]) (rest := []) ⟨hx, hb, hml, hown, htb⟩ (c_Bx_pensionerAt_t l dC dI ct L f hO_0 q0 m0 v3_1) (cwV 1 htb (gd_V tw_105 tw_106 tw_107 tw_104 tw_103) rfl rfl rfl (by decide +kernel) ⟨Nat.le_of_ble_eq_true rfl, Nat.le_of_ble_eq_true rfl⟩) ⟨pr_blind, tw_recv hK hP m0 rfl rfl, pr_pre hP hK hN⟩ rfl rfl hl.1 rfl (lv_room (Nat.le_of_ble_eq_true rfl)) d_Bx_owedOn_14 ⟨Nat.le_of_ble_eq_true rfl, Nat.le_of_ble_eq_true rfl⟩)) (fun r_4 er_4 => ?_)
        rcases er_4 with rfl | ⟨q_4, rfl, m_4⟩
        · refine hb_tv .null rfl ?_
          refine lv_astoreN (lv' := [(4, .null), (0, .ref q0), (1, .int p_0), (2, .int v2_1), (3, .int v3_1)]) hx hb d_Bx_owedOn_17 hl (by decide) rfl (fun ls hl => ?_)
          refine lv_aloadN hx hb d_Bx_owedOn_19 (lv_at hl 0 rfl) ?_
          refine lv_ifnullN (tgt := 41) hx hb d_Bx_owedOn_21 (by decide) ?_
          refine lv_iinc (v := (v3_1 + 1)) (lv' := [(3, .int (v3_1 + 1)), (4, .null), (0, .ref q0), (1, .int p_0), (2, .int v2_1)]) hx hb d_Bx_owedOn_41 hl (k := 4) rfl rfl (by decide) rfl (fun ls hl => ?_)
          refine lv_goto (tgt := 4) hx hb d_Bx_owedOn_44 (by decide) ?_
          exact ih_1 (n_1 - 1) (ms_1 ((fun (a_0 : Int32) (a_1 : Int32) (k_0 : ¬ (a_1 ≤ a_0)) (k_1 : ¬ (30 < a_1)) => (show 1 ≤ (30 : Int32).toInt - (a_0).toInt ∧ (30 : Int32).toInt - ((a_0) + (1 : Int32)).toInt + 1 ≤ (30 : Int32).toInt - (a_0).toInt from by have z0 : (1 : Int32).toInt = 1 := (by decide +kernel); have z1 : (30 : Int32).toInt = 30 := (by decide +kernel); have r0 := fb_rng (a_0); have r1 := fb_rng (a_1); have e0 := k_0; rw [Int32.le_iff_toInt_le] at e0; have e1 := k_1; rw [Int32.lt_iff_toInt_lt, z1] at e1; obtain ⟨n_0, hn_0, s0⟩ := nd_add (x := (a_0)) (y := (1 : Int32)) (by (try rw [z0]); omega) (by (try rw [z0]); omega); rw [z0] at s0; rw [hn_0]; (try rw [z1]); omega)) v3_1 x_2 c_3 b_2.2) hm_1) v2_1 (v3_1 + 1) _ (show ¬ ((v3_1 + 1) < 0) from by have e0 := iv0_1; rw [Int32.lt_iff_toInt_lt] at e0; have e1 := iv1_1; rw [Int32.lt_iff_toInt_lt] at e1; have z0 : (0 : Int32).toInt = 0 := (by decide +kernel); have z1 : (1 : Int32).toInt = 1 := (by decide +kernel); have z2 : (30 : Int32).toInt = 30 := (by decide +kernel); have ss := fb_addI (x := v3_1) (y := 1) (by omega) (by omega); rw [Int32.lt_iff_toInt_lt]; omega) (show ¬ (30 < (v3_1 + 1)) from ((fun (a_0 : Int32) (a_1 : Int32) (k_0 : ¬ (a_1 ≤ a_0)) (k_1 : ¬ (30 < a_1)) => (show ¬ (30 < (a_0 + 1)) from by have z0 : (1 : Int32).toInt = 1 := (by decide +kernel); have z1 : (30 : Int32).toInt = 30 := (by decide +kernel); have r0 := fb_rng (a_0); have r1 := fb_rng (a_1); have e0 := k_0; rw [Int32.le_iff_toInt_le] at e0; have e1 := k_1; rw [Int32.lt_iff_toInt_lt, z1] at e1; obtain ⟨n_0, hn_0, s0⟩ := nd_add (x := (a_0)) (y := (1 : Int32)) (by (try rw [z0]); omega) (by (try rw [z0]); omega); rw [z0] at s0; rw [hn_0, Int32.lt_iff_toInt_lt, z1]; omega)) v3_1 x_2 c_3 b_2.2)) (by exact ms_2 ((fun (a_0 : Int32) (a_1 : Int32) (k_0 : ¬ (a_1 ≤ a_0)) (k_1 : ¬ (30 < a_1)) => (show 1 ≤ (30 : Int32).toInt - (a_0).toInt ∧ (30 : Int32).toInt - ((a_0) + (1 : Int32)).toInt + 1 ≤ (30 : Int32).toInt - (a_0).toInt from by have z0 : (1 : Int32).toInt = 1 := (by decide +kernel); have z1 : (30 : Int32).toInt = 30 := (by decide +kernel); have r0 := fb_rng (a_0); have r1 := fb_rng (a_1); have e0 := k_0; rw [Int32.le_iff_toInt_le] at e0; have e1 := k_1; rw [Int32.lt_iff_toInt_lt, z1] at e1; obtain ⟨n_0, hn_0, s0⟩ := nd_add (x := (a_0)) (y := (1 : Int32)) (by (try rw [z0]); omega) (by (try rw [z0]); omega); rw [z0] at s0; rw [hn_0]; (try rw [z1]); omega)) v3_1 x_2 c_3 b_2.2) hm_1) (lv_sub hl [2, 3, 4, 0] rfl)
        · refine hb_tv (.ref q_4) rfl ?_
          refine lv_astore (lv' := [(4, .ref q_4), (0, .ref q0), (1, .int p_0), (2, .int v2_1), (3, .int v3_1)]) hx hb d_Bx_owedOn_17 hl (by decide) rfl (fun ls hl => ?_)
          refine lv_aload hx hb d_Bx_owedOn_19 (lv_at hl 0 rfl) ?_
          refine lv_ifnull hx hb d_Bx_owedOn_21 ?_
          refine lv_iload_n hx hb d_Bx_owedOn_24 rfl (lv_at hl 2 rfl) ?_
          refine lv_aload hx hb d_Bx_owedOn_25 (lv_at hl 0 rfl) ?_
          refine tw_geti (D := (dC, dI)) (C := R_Pn) (T := F_Pn) (N := 3) (ci := 6) (kd := 26) (ct := ct) hx hb htb i_Pn hown hK hP hO_0 m_4 rfl rfl 1 (by decide) (htb (.fieldLink R_Bx 39 "WaterMen$Pensioner" "end" "I") tw_108) (fun _ h9 => h9) rfl d_Bx_owedOn_27 (fun x_5 e_5 b_5 => ?_)
          refine lv_icmp_ge (tgt := 41) hx hb d_Bx_owedOn_30 (by decide) (fun c_6 => ?_) (fun c_6 => ?_)
          · refine lv_iinc (v := (v3_1 + 1)) (lv' := [(3, .int (v3_1 + 1)), (4, .ref q_4), (0, .ref q0), (1, .int p_0), (2, .int v2_1)]) hx hb d_Bx_owedOn_41 hl (k := 4) rfl rfl (by decide) rfl (fun ls hl => ?_)
            refine lv_goto (tgt := 4) hx hb d_Bx_owedOn_44 (by decide) ?_
            exact ih_1 (n_1 - 1) (ms_1 ((fun (a_0 : Int32) (a_1 : Int32) (k_0 : ¬ (a_1 ≤ a_0)) (k_1 : ¬ (30 < a_1)) => (show 1 ≤ (30 : Int32).toInt - (a_0).toInt ∧ (30 : Int32).toInt - ((a_0) + (1 : Int32)).toInt + 1 ≤ (30 : Int32).toInt - (a_0).toInt from by have z0 : (1 : Int32).toInt = 1 := (by decide +kernel); have z1 : (30 : Int32).toInt = 30 := (by decide +kernel); have r0 := fb_rng (a_0); have r1 := fb_rng (a_1); have e0 := k_0; rw [Int32.le_iff_toInt_le] at e0; have e1 := k_1; rw [Int32.lt_iff_toInt_lt, z1] at e1; obtain ⟨n_0, hn_0, s0⟩ := nd_add (x := (a_0)) (y := (1 : Int32)) (by (try rw [z0]); omega) (by (try rw [z0]); omega); rw [z0] at s0; rw [hn_0]; (try rw [z1]); omega)) v3_1 x_2 c_3 b_2.2) hm_1) v2_1 (v3_1 + 1) _ (show ¬ ((v3_1 + 1) < 0) from by have e0 := iv0_1; rw [Int32.lt_iff_toInt_lt] at e0; have e1 := iv1_1; rw [Int32.lt_iff_toInt_lt] at e1; have z0 : (0 : Int32).toInt = 0 := (by decide +kernel); have z1 : (1 : Int32).toInt = 1 := (by decide +kernel); have z2 : (30 : Int32).toInt = 30 := (by decide +kernel); have ss := fb_addI (x := v3_1) (y := 1) (by omega) (by omega); rw [Int32.lt_iff_toInt_lt]; omega) (show ¬ (30 < (v3_1 + 1)) from ((fun (a_0 : Int32) (a_1 : Int32) (k_0 : ¬ (a_1 ≤ a_0)) (k_1 : ¬ (30 < a_1)) => (show ¬ (30 < (a_0 + 1)) from by have z0 : (1 : Int32).toInt = 1 := (by decide +kernel); have z1 : (30 : Int32).toInt = 30 := (by decide +kernel); have r0 := fb_rng (a_0); have r1 := fb_rng (a_1); have e0 := k_0; rw [Int32.le_iff_toInt_le] at e0; have e1 := k_1; rw [Int32.lt_iff_toInt_lt, z1] at e1; obtain ⟨n_0, hn_0, s0⟩ := nd_add (x := (a_0)) (y := (1 : Int32)) (by (try rw [z0]); omega) (by (try rw [z0]); omega); rw [z0] at s0; rw [hn_0, Int32.lt_iff_toInt_lt, z1]; omega)) v3_1 x_2 c_3 b_2.2)) (by exact ms_2 ((fun (a_0 : Int32) (a_1 : Int32) (k_0 : ¬ (a_1 ≤ a_0)) (k_1 : ¬ (30 < a_1)) => (show 1 ≤ (30 : Int32).toInt - (a_0).toInt ∧ (30 : Int32).toInt - ((a_0) + (1 : Int32)).toInt + 1 ≤ (30 : Int32).toInt - (a_0).toInt from by have z0 : (1 : Int32).toInt = 1 := (by decide +kernel); have z1 : (30 : Int32).toInt = 30 := (by decide +kernel); have r0 := fb_rng (a_0); have r1 := fb_rng (a_1); have e0 := k_0; rw [Int32.le_iff_toInt_le] at e0; have e1 := k_1; rw [Int32.lt_iff_toInt_lt, z1] at e1; obtain ⟨n_0, hn_0, s0⟩ := nd_add (x := (a_0)) (y := (1 : Int32)) (by (try rw [z0]); omega) (by (try rw [z0]); omega); rw [z0] at s0; rw [hn_0]; (try rw [z1]); omega)) v3_1 x_2 c_3 b_2.2) hm_1) (lv_sub hl [2, 3, 4, 0] rfl)
          · refine lv_iload_n hx hb d_Bx_owedOn_33 rfl (lv_at hl 3 rfl) ?_
            refine lv_aload hx hb d_Bx_owedOn_34 (lv_at hl 0 rfl) ?_
            refine tw_geti (D := (dC, dI)) (C := R_Pn) (T := F_Pn) (N := 3) (ci := 6) (kd := 26) (ct := ct) hx hb htb i_Pn hown hK hP hO_0 m_4 rfl rfl 0 (by decide) (htb (.fieldLink R_Bx 42 "WaterMen$Pensioner" "pension" "I") tw_109) (fun _ h9 => h9) rfl d_Bx_owedOn_36 (fun x_7 e_7 b_7 => ?_)
            refine lv_iadd hx hb d_Bx_owedOn_39 ?_
            refine lv_istore_n (lv' := [(2, .int (v2_1 + x_7)), (4, .ref q_4), (0, .ref q0), (1, .int p_0), (3, .int v3_1)]) hx hb d_Bx_owedOn_40 rfl hl (by decide) rfl (fun ls hl => ?_)
            refine lv_iinc (v := (v3_1 + 1)) (lv' := [(3, .int (v3_1 + 1)), (2, .int (v2_1 + x_7)), (4, .ref q_4), (0, .ref q0), (1, .int p_0)]) hx hb d_Bx_owedOn_41 hl (k := 4) rfl rfl (by decide) rfl (fun ls hl => ?_)
            refine lv_goto (tgt := 4) hx hb d_Bx_owedOn_44 (by decide) ?_
            exact ih_1 (n_1 - 1) (ms_1 ((fun (a_0 : Int32) (a_1 : Int32) (k_0 : ¬ (a_1 ≤ a_0)) (k_1 : ¬ (30 < a_1)) => (show 1 ≤ (30 : Int32).toInt - (a_0).toInt ∧ (30 : Int32).toInt - ((a_0) + (1 : Int32)).toInt + 1 ≤ (30 : Int32).toInt - (a_0).toInt from by have z0 : (1 : Int32).toInt = 1 := (by decide +kernel); have z1 : (30 : Int32).toInt = 30 := (by decide +kernel); have r0 := fb_rng (a_0); have r1 := fb_rng (a_1); have e0 := k_0; rw [Int32.le_iff_toInt_le] at e0; have e1 := k_1; rw [Int32.lt_iff_toInt_lt, z1] at e1; obtain ⟨n_0, hn_0, s0⟩ := nd_add (x := (a_0)) (y := (1 : Int32)) (by (try rw [z0]); omega) (by (try rw [z0]); omega); rw [z0] at s0; rw [hn_0]; (try rw [z1]); omega)) v3_1 x_2 c_3 b_2.2) hm_1) (v2_1 + x_7) (v3_1 + 1) _ (show ¬ ((v3_1 + 1) < 0) from by have e0 := iv0_1; rw [Int32.lt_iff_toInt_lt] at e0; have e1 := iv1_1; rw [Int32.lt_iff_toInt_lt] at e1; have z0 : (0 : Int32).toInt = 0 := (by decide +kernel); have z1 : (1 : Int32).toInt = 1 := (by decide +kernel); have z2 : (30 : Int32).toInt = 30 := (by decide +kernel); have ss := fb_addI (x := v3_1) (y := 1) (by omega) (by omega); rw [Int32.lt_iff_toInt_lt]; omega) (show ¬ (30 < (v3_1 + 1)) from ((fun (a_0 : Int32) (a_1 : Int32) (k_0 : ¬ (a_1 ≤ a_0)) (k_1 : ¬ (30 < a_1)) => (show ¬ (30 < (a_0 + 1)) from by have z0 : (1 : Int32).toInt = 1 := (by decide +kernel); have z1 : (30 : Int32).toInt = 30 := (by decide +kernel); have r0 := fb_rng (a_0); have r1 := fb_rng (a_1); have e0 := k_0; rw [Int32.le_iff_toInt_le] at e0; have e1 := k_1; rw [Int32.lt_iff_toInt_lt, z1] at e1; obtain ⟨n_0, hn_0, s0⟩ := nd_add (x := (a_0)) (y := (1 : Int32)) (by (try rw [z0]); omega) (by (try rw [z0]); omega); rw [z0] at s0; rw [hn_0, Int32.lt_iff_toInt_lt, z1]; omega)) v3_1 x_2 c_3 b_2.2)) (by exact ms_2 ((fun (a_0 : Int32) (a_1 : Int32) (k_0 : ¬ (a_1 ≤ a_0)) (k_1 : ¬ (30 < a_1)) => (show 1 ≤ (30 : Int32).toInt - (a_0).toInt ∧ (30 : Int32).toInt - ((a_0) + (1 : Int32)).toInt + 1 ≤ (30 : Int32).toInt - (a_0).toInt from by have z0 : (1 : Int32).toInt = 1 := (by decide +kernel); have z1 : (30 : Int32).toInt = 30 := (by decide +kernel); have r0 := fb_rng (a_0); have r1 := fb_rng (a_1); have e0 := k_0; rw [Int32.le_iff_toInt_le] at e0; have e1 := k_1; rw [Int32.lt_iff_toInt_lt, z1] at e1; obtain ⟨n_0, hn_0, s0⟩ := nd_add (x := (a_0)) (y := (1 : Int32)) (by (try rw [z0]); omega) (by (try rw [z0]); omega); rw [z0] at s0; rw [hn_0]; (try rw [z1]); omega)) v3_1 x_2 c_3 b_2.2) hm_1) (lv_sub hl [3, 4, 1, 0] rfl)
  exact cut_1 4294967296 (0 : Int32) (0 : Int32) _ (by decide +kernel) (by decide +kernel) (by exact ms_0 _ _) (lv_sub hl [2, 3, 1, 0] rfl)
