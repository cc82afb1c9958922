set_option maxHeartbeats 4000000 in
set_option maxRecDepth 100000 in
theorem c_WM_boatAt_t (l : Launch) (dC : Nat → ClassId) (dI : Nat → Nat → Nat) (ct : Nat → ClassId) (L : List Nat) (f : TF) (hO_0 : Ok L f) (q0 : Nat) (m0 : q0 ∈ L ∧ tk f q0 = 0) (p_0 : Int32)   : Met l y_WM_boatAt (.code y_WM_boatAt b_WM_boatAt 2 (some (.object "WaterMen$Boat")) :: TB) ({ frames := 0, cells := 0, slots := 0, locals := 0 }) (va_Pc [.ref q0, .int p_0] (PR dC dI (TW ct L f) (TT ct))) (va_Sq (fun r => r = none ∨ ∃ b, r = some b ∧ b ∈ L ∧ tk f b = 24)) 0 0 (fun _ => False) := by
  refine Met.ofW (cc := b_WM_boatAt) (maxL := 2) (ret := (some (.object "WaterMen$Boat"))) (by decide) rfl ?_
  intro p e s m args below meth c s₁ B hml hv
  obtain ⟨rfl, hP, hK, hN⟩ := hv
  have hx := B.exec
  have hb := B.bytes
  have hr := B.returns
  have hts := atoms_spec (ws := (.code y_WM_boatAt b_WM_boatAt 2 (some (.object "WaterMen$Boat")) :: TB)) B.pre
  have htb := fun w (h : w ∈ TB) => hts w (List.mem_cons_of_mem _ h)
  have hown : s.vm.findClass R_WM = some m.cls := findClass_of_methodNamed B.named
  have hlocks := B.notSynchronized
  have hl := lv_entry ([.ref q0, .int p_0]) (n := 2) (Nat.le_of_ble_eq_true rfl)
  rw [lg_entry_eq]
  generalize (lg_sl ([.ref q0, .int p_0]) ++ List.replicate (2 - (lg_sl ([.ref q0, .int p_0])).length) Slot.unset).toArray = ls at hl ⊢
  have hl : lv_has ls 2 [(0, .ref q0), (1, .int p_0)] := hl
  refine lv_iload_n hx hb d_WM_boatAt_0 rfl (lv_at hl 1 rfl) ?_
  refine lv_if_lt (tgt := 21) hx hb d_WM_boatAt_1 (by decide) (fun c_1 => ?_) (fun c_1 => ?_)
  · refine lv_null hx hb d_WM_boatAt_21 ?_
    exact W.aret (v := .null) (rt := .object "WaterMen$Boat") hx hb hr (Or.inl ⟨_, rfl⟩) (Or.inl rfl) (fun t ht hW => ⟨none, rfl, Or.inl rfl, ht⟩) t_nil d_WM_boatAt_22
  · refine lv_iload_n hx hb d_WM_boatAt_4 rfl (lv_at hl 1 rfl) ?_
    refine lv_aload_n hx hb d_WM_boatAt_5 rfl (lv_at hl 0 rfl) ?_
    refine tw_geti (D := (dC, dI)) (C := R_WM) (T := F_WM) (N := 13) (ci := 0) (kd := 0) (ct := ct) hx hb htb i_WM hown hK hP hO_0 m0 rfl rfl 7 (by decide) (htb (.fieldLink R_WM 170 "WaterMen" "boatCount" "I") tw_242) (fun _ h9 => h9) rfl d_WM_boatAt_6 (fun x_2 e_2 b_2 => ?_)
    refine lv_icmp_ge (tgt := 21) hx hb d_WM_boatAt_9 (by decide) (fun c_3 => ?_) (fun c_3 => ?_)
    · refine lv_null hx hb d_WM_boatAt_21 ?_
      exact W.aret (v := .null) (rt := .object "WaterMen$Boat") hx hb hr (Or.inl ⟨_, rfl⟩) (Or.inl rfl) (fun t ht hW => ⟨none, rfl, Or.inl rfl, ht⟩) t_nil d_WM_boatAt_22
    · refine lv_aload_n hx hb d_WM_boatAt_12 rfl (lv_at hl 0 rfl) ?_
      refine tw_getr (D := (dC, dI)) (C := R_WM) (T := F_WM) (N := 13) (ci := 0) (kd := 0) (ct := ct) hx hb htb i_WM hown hK hP hO_0 m0 rfl rfl 2 (by decide) (htb (.fieldLink R_WM 24 "WaterMen" "boats" "[LWaterMen$Boat;") tw_243) (fun _ h9 => h9) rfl d_WM_boatAt_13 (fun q_4 e_4 m_4 => ?_)
      refine lv_iload_n hx hb d_WM_boatAt_16 rfl (lv_at hl 1 rfl) ?_
      refine tw_aldq (ct := ct) hx hb hK hP hO_0 m_4 rfl rfl ((fun (a_0 : Int32) (a_1 : Int32) (k_0 : ¬ (a_0 < 0)) (k_1 : ¬ (a_1 ≤ a_0)) (k_2 : ¬ (20 < a_1)) => (show vp_in (a_0) 20 from by have z0 : (0 : Int32).toInt = 0 := (by decide +kernel); have z1 : (20 : Int32).toInt = 20 := (by decide +kernel); have r0 := fb_rng (a_0); have r1 := fb_rng (a_1); have e0 := k_0; rw [Int32.lt_iff_toInt_lt, z0] at e0; have e1 := k_1; rw [Int32.le_iff_toInt_le] at e1; have e2 := k_2; rw [Int32.lt_iff_toInt_lt, z1] at e2; rw [vp_in_iff]; omega)) p_0 x_2 c_1 c_3 b_2.2) d_WM_boatAt_17 (fun e_5 => ?_) (fun q_5 e_5 m_5 => ?_)
      · refine lv_goto (tgt := 22) hx hb d_WM_boatAt_18 (by decide) ?_
        exact W.aret (v := .null) (rt := .object "WaterMen$Boat") hx hb hr (Or.inl ⟨_, rfl⟩) (Or.inl rfl) (fun t ht hW => ⟨none, rfl, Or.inl rfl, ht⟩) t_nil d_WM_boatAt_22
      · refine lv_goto (tgt := 22) hx hb d_WM_boatAt_18 (by decide) ?_
        exact W.aret (v := .ref q_5) (rt := .object "WaterMen$Boat") hx hb hr (Or.inl ⟨_, rfl⟩) (Or.inr ⟨_, rfl⟩) (fun t ht hW => ⟨some q_5, rfl, Or.inr ⟨q_5, rfl, m_5⟩, ht⟩) t_nil d_WM_boatAt_22
set_option maxHeartbeats 4000000 in
set_option maxRecDepth 100000 in
theorem c_WM_craft_t (l : Launch) (dC : Nat → ClassId) (dI : Nat → Nat → Nat) (ct : Nat → ClassId) (L : List Nat) (f : TF) (hO_0 : Ok L f) (q0 : Nat) (m0 : q0 ∈ L ∧ tk f q0 = 0) (p_0 : Int32) (p_1 : Int32)   : Met l y_WM_craft (.code y_WM_craft b_WM_craft 4 (some .int) :: TB) ({ frames := 1, cells := 0, slots := 0, locals := 21 }) (va_Pc [.ref q0, .int p_0, .int p_1] (PR dC dI (TW ct L f) (TT ct))) (vp_Si (fun r => True)) 0 0 (fun _ => False) := by
  refine Met.ofW (cc := b_WM_craft) (maxL := 4) (ret := (some .int)) (by decide) rfl ?_
  intro p e s m args below meth c s₁ B hml hv
  obtain ⟨rfl, hP, hK, hN⟩ := hv
  have hx := B.exec
  have hb := B.bytes
  have hr := B.returns
  have hts := atoms_spec (ws := (.code y_WM_craft b_WM_craft 4 (some .int) :: TB)) B.pre
  have htb := fun w (h : w ∈ TB) => hts w (List.mem_cons_of_mem _ h)
  have hown : s.vm.findClass R_WM = some m.cls := findClass_of_methodNamed B.named
  have hlocks := B.notSynchronized
  have hl := lv_entry ([.ref q0, .int p_0, .int p_1]) (n := 4) (Nat.le_of_ble_eq_true rfl)
  rw [lg_entry_eq]
  generalize (lg_sl ([.ref q0, .int p_0, .int p_1]) ++ List.replicate (4 - (lg_sl ([.ref q0, .int p_0, .int p_1])).length) Slot.unset).toArray = ls at hl ⊢
  have hl : lv_has ls 4 [(0, .ref q0), (1, .int p_0), (2, .int p_1)] := hl
  refine lv_aload_n hx hb d_WM_craft_0 rfl (lv_at hl 0 rfl) ?_
  refine lv_iload_n hx hb d_WM_craft_1 rfl (lv_at hl 1 rfl) ?_
  refine va_csq (va_Run.run (va_runV (As := [.int p_0]) (rest := []) ⟨hx, hb, hml, hown, htb⟩ (c_WM_boatAt_t l dC dI ct L f hO_0 q0 m0 p_0) (cwV 1 htb (gd_V tw_256 tw_257 tw_258 tw_25 tw_255) rfl rfl rfl (by decide +kernel) ⟨Nat.le_of_ble_eq_true rfl, Nat.le_of_ble_eq_true rfl⟩) ⟨pr_blind, tw_recv hK hP m0 rfl rfl, pr_pre hP hK hN⟩ rfl rfl hl.1 rfl (lv_room (Nat.le_of_ble_eq_true rfl)) d_WM_craft_2 ⟨Nat.le_of_ble_eq_true rfl, Nat.le_of_ble_eq_true rfl⟩)) (fun r_1 er_1 => ?_)
  rcases er_1 with rfl | ⟨q_1, rfl, m_1⟩
  · refine hb_tv .null rfl ?_
    refine lv_astore_nN (lv' := [(3, .null), (0, .ref q0), (1, .int p_0), (2, .int p_1)]) hx hb d_WM_craft_5 rfl hl (by decide) rfl (fun ls hl => ?_)
    refine lv_aload_nN hx hb d_WM_craft_6 rfl (lv_at hl 0 rfl) ?_
    refine lv_ifnonnullN hx hb d_WM_craft_7 ?_
    refine lv_iconst (v := (-1)) hx hb d_WM_craft_10 (by decide +kernel) ?_
    exact W.iret (v := (-1)) hx hb hr (fun t ht hW => ⟨(-1), rfl, trivial, ht⟩) t_nil d_WM_craft_11
  · refine hb_tv (.ref q_1) rfl ?_
    refine lv_astore_n (lv' := [(3, .ref q_1), (0, .ref q0), (1, .int p_0), (2, .int p_1)]) hx hb d_WM_craft_5 rfl hl (by decide) rfl (fun ls hl => ?_)
    refine lv_aload_n hx hb d_WM_craft_6 rfl (lv_at hl 0 rfl) ?_
    refine lv_ifnonnull (tgt := 12) hx hb d_WM_craft_7 (by decide) ?_
    refine lv_iload_n hx hb d_WM_craft_12 rfl (lv_at hl 3 rfl) ?_
    by_cases c_2 : p_1 = 0
    · refine lv_tableIn (off := 35) (tgt := 48) hx hb d_WM_craft_13 (by rw [c_2]; decide +kernel) (by rw [c_2]; decide +kernel) (by rw [c_2]; decide +kernel) (by decide) ?_
      refine lv_aload_n hx hb d_WM_craft_48 rfl (lv_at hl 0 rfl) ?_
      refine tw_geti (D := (dC, dI)) (C := R_Bt) (T := F_Bt) (N := 6) (ci := 9) (kd := 24) (ct := ct) hx hb htb i_Bt hown hK hP hO_0 m_1 rfl rfl 1 (by decide) (htb (.fieldLink R_WM 178 "WaterMen$Boat" "stairs" "I") tw_259) (fun _ h9 => h9) rfl d_WM_craft_49 (fun x_3 e_3 b_3 => ?_)
      exact W.iret (v := x_3) hx hb hr (fun t ht hW => ⟨x_3, rfl, trivial, ht⟩) t_nil d_WM_craft_52
    · by_cases c_4 : p_1 = 1
      · refine lv_tableIn (off := 40) (tgt := 53) hx hb d_WM_craft_13 (by rw [c_4]; decide +kernel) (by rw [c_4]; decide +kernel) (by rw [c_4]; decide +kernel) (by decide) ?_
        refine lv_aload_n hx hb d_WM_craft_53 rfl (lv_at hl 0 rfl) ?_
        refine tw_geti (D := (dC, dI)) (C := R_Bt) (T := F_Bt) (N := 6) (ci := 9) (kd := 24) (ct := ct) hx hb htb i_Bt hown hK hP hO_0 m_1 rfl rfl 0 (by decide) (htb (.fieldLink R_WM 181 "WaterMen$Boat" "oars" "I") tw_260) (fun _ h9 => h9) rfl d_WM_craft_54 (fun x_5 e_5 b_5 => ?_)
        exact W.iret (v := x_5) hx hb hr (fun t ht hW => ⟨x_5, rfl, trivial, ht⟩) t_nil d_WM_craft_57
      · by_cases c_6 : p_1 = 2
        · refine lv_tableIn (off := 45) (tgt := 58) hx hb d_WM_craft_13 (by rw [c_6]; decide +kernel) (by rw [c_6]; decide +kernel) (by rw [c_6]; decide +kernel) (by decide) ?_
          refine lv_aload_n hx hb d_WM_craft_58 rfl (lv_at hl 0 rfl) ?_
          refine tw_geti (D := (dC, dI)) (C := R_Bt) (T := F_Bt) (N := 6) (ci := 9) (kd := 24) (ct := ct) hx hb htb i_Bt hown hK hP hO_0 m_1 rfl rfl 2 (by decide) (htb (.fieldLink R_WM 184 "WaterMen$Boat" "thereFrom" "I") tw_261) (fun _ h9 => h9) rfl d_WM_craft_59 (fun x_7 e_7 b_7 => ?_)
          exact W.iret (v := x_7) hx hb hr (fun t ht hW => ⟨x_7, rfl, trivial, ht⟩) t_nil d_WM_craft_62
        · by_cases c_8 : p_1 = 3
          · refine lv_tableIn (off := 50) (tgt := 63) hx hb d_WM_craft_13 (by rw [c_8]; decide +kernel) (by rw [c_8]; decide +kernel) (by rw [c_8]; decide +kernel) (by decide) ?_
            refine lv_aload_n hx hb d_WM_craft_63 rfl (lv_at hl 0 rfl) ?_
            refine lv_aload_n hx hb d_WM_craft_64 rfl (lv_at hl 1 rfl) ?_
            refine tw_geti (D := (dC, dI)) (C := R_WM) (T := F_WM) (N := 13) (ci := 0) (kd := 0) (ct := ct) hx hb htb i_WM hown hK hP hO_0 m0 rfl rfl 10 (by decide) (htb (.fieldLink R_WM 155 "WaterMen" "now" "I") tw_178) (fun _ h9 => h9) rfl d_WM_craft_65 (fun x_9 e_9 b_9 => ?_)
            refine vp_callSi (va_Run.run (va_runV (As := [.int x_9]) (rest := []) ⟨hx, hb, hml, hown, htb⟩ (c_Bt_stateAt_t l dC dI ct L f hO_0 q_1 m_1 x_9) (cwV 1 htb (gd_V tw_263 tw_264 tw_265 tw_246 tw_262) rfl rfl rfl (by decide +kernel) ⟨Nat.le_of_ble_eq_true rfl, Nat.le_of_ble_eq_true rfl⟩) ⟨pr_blind, tw_recv hK hP m_1 rfl rfl, pr_pre hP hK hN⟩ rfl rfl hl.1 rfl (lv_room (Nat.le_of_ble_eq_true rfl)) d_WM_craft_68 ⟨Nat.le_of_ble_eq_true rfl, Nat.le_of_ble_eq_true rfl⟩)) (fun r_10 er_10 => ?_)
            clear er_10
            refine lv_iconst (v := 1) hx hb d_WM_craft_71 (by decide +kernel) ?_
            refine lv_icmp_ne (tgt := 82) hx hb d_WM_craft_72 (by decide) (fun c_11 => ?_) (fun c_11 => ?_)
            · refine lv_iconst (v := (-1)) hx hb d_WM_craft_82 (by decide +kernel) ?_
              exact W.iret (v := (-1)) hx hb hr (fun t ht hW => ⟨(-1), rfl, trivial, ht⟩) t_nil d_WM_craft_83
            · refine lv_aload_n hx hb d_WM_craft_75 rfl (lv_at hl 0 rfl) ?_
              refine tw_geti (D := (dC, dI)) (C := R_Bt) (T := F_Bt) (N := 6) (ci := 9) (kd := 24) (ct := ct) hx hb htb i_Bt hown hK hP hO_0 m_1 rfl rfl 3 (by decide) (htb (.fieldLink R_WM 190 "WaterMen$Boat" "rower" "I") tw_266) (fun _ h9 => h9) rfl d_WM_craft_76 (fun x_12 e_12 b_12 => ?_)
              refine lv_goto (tgt := 83) hx hb d_WM_craft_79 (by decide) ?_
              exact W.iret (v := x_12) hx hb hr (fun t ht hW => ⟨x_12, rfl, trivial, ht⟩) t_nil d_WM_craft_83
          · by_cases c_13 : p_1 = 4
            · refine lv_tableIn (off := 71) (tgt := 84) hx hb d_WM_craft_13 (by rw [c_13]; decide +kernel) (by rw [c_13]; decide +kernel) (by rw [c_13]; decide +kernel) (by decide) ?_
              refine lv_aload_n hx hb d_WM_craft_84 rfl (lv_at hl 0 rfl) ?_
              refine lv_aload_n hx hb d_WM_craft_85 rfl (lv_at hl 1 rfl) ?_
              refine tw_geti (D := (dC, dI)) (C := R_WM) (T := F_WM) (N := 13) (ci := 0) (kd := 0) (ct := ct) hx hb htb i_WM hown hK hP hO_0 m0 rfl rfl 10 (by decide) (htb (.fieldLink R_WM 155 "WaterMen" "now" "I") tw_178) (fun _ h9 => h9) rfl d_WM_craft_86 (fun x_14 e_14 b_14 => ?_)
              refine vp_callSi (va_Run.run (va_runV (As := [.int x_14]) (rest := []) ⟨hx, hb, hml, hown, htb⟩ (c_Bt_stateAt_t l dC dI ct L f hO_0 q_1 m_1 x_14) (cwV 1 htb (gd_V tw_263 tw_264 tw_265 tw_246 tw_262) rfl rfl rfl (by decide +kernel) ⟨Nat.le_of_ble_eq_true rfl, Nat.le_of_ble_eq_true rfl⟩) ⟨pr_blind, tw_recv hK hP m_1 rfl rfl, pr_pre hP hK hN⟩ rfl rfl hl.1 rfl (lv_room (Nat.le_of_ble_eq_true rfl)) d_WM_craft_89 ⟨Nat.le_of_ble_eq_true rfl, Nat.le_of_ble_eq_true rfl⟩)) (fun r_15 er_15 => ?_)
              clear er_15
              exact W.iret (v := r_15) hx hb hr (fun t ht hW => ⟨r_15, rfl, trivial, ht⟩) t_nil d_WM_craft_92
            · refine lv_tableOut (tgt := 93) hx hb d_WM_craft_13 (by have h0 := lv_neT c_2 (show (0 : Int32).toInt = 0 by decide +kernel); have h1 := lv_neT c_4 (show (1 : Int32).toInt = 1 by decide +kernel); have h2 := lv_neT c_6 (show (2 : Int32).toInt = 2 by decide +kernel); have h3 := lv_neT c_8 (show (3 : Int32).toInt = 3 by decide +kernel); have h4 := lv_neT c_13 (show (4 : Int32).toInt = 4 by decide +kernel); omega) (by decide) ?_
              refine lv_iconst (v := (-1)) hx hb d_WM_craft_93 (by decide +kernel) ?_
              exact W.iret (v := (-1)) hx hb hr (fun t ht hW => ⟨(-1), rfl, trivial, ht⟩) t_nil d_WM_craft_94
def W_WM_join_t : List (Nat × Nat) := [(0, 11), (20, 2), (20, 3)]
set_option maxHeartbeats 4000000 in
set_option maxRecDepth 100000 in
theorem c_WM_join_t (l : Launch) (dC : Nat → ClassId) (dI : Nat → Nat → Nat) (ct : Nat → ClassId) (L : List Nat) (f : TF) (hO_0 : Ok L f) (q0 : Nat) (m0 : q0 ∈ L ∧ tk f q0 = 0) (sz : Nat) (p_0 : Int32) (p_1 : Int32)   : Met l y_WM_join (.code y_WM_join b_WM_join 4 (some .int) :: TB) ({ frames := 1, cells := 0, slots := 0, locals := 24 }) (va_Pc [.ref q0, .int p_0, .int p_1] (PC dC dI (TW ct L f) (TT ct) sz)) (va_Qi (fun r (u : TSt) => Ok u.1 u.2 ∧ Ext W_WM_join_t L f u.1 u.2 ∧ (True)) (fun (u : TSt) t => va_P (dC, dI) vwCl (TW ct u.1 u.2) t.heap ∧ va_K (dC, dI) vwCl (TT ct) t ∧ va_D (va_A (TW ct L f) sz) (TW ct u.1 u.2)) (va_A (TW ct L f) sz)) 0 0 (va_A (TW ct L f) sz) := by
  refine Met.ofW (cc := b_WM_join) (maxL := 4) (ret := (some .int)) (by decide) rfl ?_
  intro p e s m args below meth c s₁ B hml hv
  obtain ⟨rfl, hsz, hP, hK, hD0, hN⟩ := hv
  have hx := B.exec
  have hb := B.bytes
  have hr := B.returns
  have hts := atoms_spec (ws := (.code y_WM_join b_WM_join 4 (some .int) :: TB)) B.pre
  have htb := fun w (h : w ∈ TB) => hts w (List.mem_cons_of_mem _ h)
  have hown : s.vm.findClass R_WM = some m.cls := findClass_of_methodNamed B.named
  have hlocks := B.notSynchronized
  have hl := lv_entry ([.ref q0, .int p_0, .int p_1]) (n := 4) (Nat.le_of_ble_eq_true rfl)
  rw [lg_entry_eq]
  generalize (lg_sl ([.ref q0, .int p_0, .int p_1]) ++ List.replicate (4 - (lg_sl ([.ref q0, .int p_0, .int p_1])).length) Slot.unset).toArray = ls at hl ⊢
  have hl : lv_has ls 4 [(0, .ref q0), (1, .int p_0), (2, .int p_1)] := hl
  subst hsz
  have hD := hD0.self (sz := s.heap.size)
  obtain ⟨A, hAe⟩ : ∃ A, va_A (TW ct L f) s.heap.size = A := ⟨_, rfl⟩
  rw [hAe] at hD
  have hA : ∀ q : Nat, s.heap.size ≤ q → A q := fun q h => by rw [← hAe]; exact Or.inr h
  have hS : va_S A s.heap s.heap [] := va_S.rf
  have hA_0 : Ext [] L f L f := Ext.rf
  suffices hGo : ∀ (H : Heap) (locs : List Loc), va_P (dC, dI) vwCl (TW ct L f) H → va_S A s.heap H locs → W p l e (headSpec (.code y_WM_join b_WM_join 4 (some .int) :: TB) ({ frames := 1, cells := 0, slots := 0, locals := 24 })).room s m [.ref q0, .int p_0, .int p_1].toArray below meth c H locs 0 0 (MQ below (va_Qi (fun r (u : TSt) => Ok u.1 u.2 ∧ Ext W_WM_join_t L f u.1 u.2 ∧ (True)) (fun (u : TSt) t => va_P (dC, dI) vwCl (TW ct u.1 u.2) t.heap ∧ va_K (dC, dI) vwCl (TT ct) t ∧ va_D (va_A (TW ct L f) s.heap.size) (TW ct u.1 u.2)) (va_A (TW ct L f) s.heap.size)) [.ref q0, .int p_0, .int p_1].toArray s 0 0 (va_A (TW ct L f) s.heap.size)) (F0 m 0 ls []) from hGo _ _ hP hS
  clear hP hS
  intro H locs hP hS
  refine lv_aload_n hx hb d_WM_join_0 rfl (lv_at hl 0 rfl) ?_
  refine lv_iload_n hx hb d_WM_join_1 rfl (lv_at hl 2 rfl) ?_
  refine va_csq (va_Run.run (va_runV (As := [.int p_1]) (rest := []) ⟨hx, hb, hml, hown, htb⟩ (c_WM_manAt_t l dC dI ct L f hO_0 q0 m0 p_1) (cwV 1 htb (gd_V tw_190 tw_191 tw_192 tw_25 tw_189) rfl rfl rfl (by decide +kernel) ⟨Nat.le_of_ble_eq_true rfl, Nat.le_of_ble_eq_true rfl⟩) ⟨pr_blind, tw_recv hK hP m0 rfl rfl, pr_pre hP hK hN⟩ rfl rfl hl.1 rfl (lv_room (Nat.le_of_ble_eq_true rfl)) d_WM_join_2 ⟨Nat.le_of_ble_eq_true rfl, Nat.le_of_ble_eq_true rfl⟩)) (fun r_1 er_1 => ?_)
  rcases er_1 with rfl | ⟨q_1, rfl, m_1⟩
  · refine hb_tv .null rfl ?_
    refine lv_astore_nN (lv' := [(3, .null), (0, .ref q0), (1, .int p_0), (2, .int p_1)]) hx hb d_WM_join_5 rfl hl (by decide) rfl (fun ls hl => ?_)
    refine lv_aload_nN hx hb d_WM_join_6 rfl (lv_at hl 0 rfl) ?_
    refine lv_ifnullN (tgt := 21) hx hb d_WM_join_7 (by decide) ?_
    refine lv_iconst (v := (-1)) hx hb d_WM_join_21 (by decide +kernel) ?_
    refine W.widen (k := 0) (n := 0) (Nat.le_of_ble_eq_true rfl) (Nat.le_of_ble_eq_true rfl) ?_
    exact W.iret (v := (-1)) hx hb hr (fun t ht hW => ⟨⟨(-1), (L, f), rfl, ⟨hO_0, hA_0.mono (by decide +kernel), trivial⟩, by rw [ht]; exact hP, va_K.moved hW.alike hK, by rw [hAe]; exact hD⟩, by rw [hAe]; exact hS.F ht⟩) (by rw [hAe]; exact hS.2.2) d_WM_join_22
  · refine hb_tv (.ref q_1) rfl ?_
    refine lv_astore_n (lv' := [(3, .ref q_1), (0, .ref q0), (1, .int p_0), (2, .int p_1)]) hx hb d_WM_join_5 rfl hl (by decide) rfl (fun ls hl => ?_)
    refine lv_aload_n hx hb d_WM_join_6 rfl (lv_at hl 0 rfl) ?_
    refine lv_ifnull hx hb d_WM_join_7 ?_
    refine lv_aload_n hx hb d_WM_join_10 rfl (lv_at hl 1 rfl) ?_
    refine tw_getr (D := (dC, dI)) (C := R_WM) (T := F_WM) (N := 13) (ci := 0) (kd := 0) (ct := ct) hx hb htb i_WM hown hK hP hO_0 m0 rfl rfl 0 (by decide) (htb (.fieldLink R_WM 12 "WaterMen" "river" "LWaterMen$River;") tw_154) (fun _ h9 => h9) rfl d_WM_join_11 (fun q_2 e_2 m_2 => ?_)
    refine lv_iload_n hx hb d_WM_join_14 rfl (lv_at hl 2 rfl) ?_
    refine vp_callSi (va_Run.run (va_runV (As := [.int p_0]) (rest := []) ⟨hx, hb, hml, hown, htb⟩ (c_Rv_hasStairs_t l dC dI ct L f hO_0 q_2 m_2 p_0) (cwV 1 htb (gd_V tw_239 tw_240 tw_241 tw_45 tw_238) rfl rfl rfl (by decide +kernel) ⟨Nat.le_of_ble_eq_true rfl, Nat.le_of_ble_eq_true rfl⟩) ⟨pr_blind, tw_recv hK hP m_2 rfl rfl, pr_pre hP hK hN⟩ rfl rfl hl.1 rfl (lv_room (Nat.le_of_ble_eq_true rfl)) d_WM_join_15 ⟨Nat.le_of_ble_eq_true rfl, Nat.le_of_ble_eq_true rfl⟩)) (fun r_3 er_3 => ?_)
    rcases er_3 with ⟨rfl, -⟩ | ⟨rfl, po_4, po_5, -⟩
    · refine lv_if_ne (tgt := 23) hx hb d_WM_join_18 (by decide) (fun h => absurd (by decide +kernel) h) (fun _ => ?_)
      refine lv_iconst (v := (-1)) hx hb d_WM_join_21 (by decide +kernel) ?_
      refine W.widen (k := 0) (n := 0) (Nat.le_of_ble_eq_true rfl) (Nat.le_of_ble_eq_true rfl) ?_
      exact W.iret (v := (-1)) hx hb hr (fun t ht hW => ⟨⟨(-1), (L, f), rfl, ⟨hO_0, hA_0.mono (by decide +kernel), trivial⟩, by rw [ht]; exact hP, va_K.moved hW.alike hK, by rw [hAe]; exact hD⟩, by rw [hAe]; exact hS.F ht⟩) (by rw [hAe]; exact hS.2.2) d_WM_join_22
    · refine lv_if_ne (tgt := 23) hx hb d_WM_join_18 (by decide) (fun _ => ?_) (fun h => absurd h (by decide +kernel))
      refine lv_aload_n hx hb d_WM_join_23 rfl (lv_at hl 0 rfl) ?_
      refine tw_geti (D := (dC, dI)) (C := R_Mn) (T := F_Mn) (N := 8) (ci := 2) (kd := 20) (ct := ct) hx hb htb i_Mn hown hK hP hO_0 m_1 rfl rfl 0 (by decide) (htb (.fieldLink R_WM 111 "WaterMen$Man" "state" "I") tw_193) (fun _ h9 => h9) rfl d_WM_join_24 (fun x_6 e_6 b_6 => ?_)
      refine lv_iconst (v := 2) hx hb d_WM_join_27 (by decide +kernel) ?_
      refine lv_icmp_ne (tgt := 50) hx hb d_WM_join_28 (by decide) (fun c_7 => ?_) (fun c_7 => ?_)
      · refine lv_bipush (v := (-2)) hx hb d_WM_join_50 (by decide +kernel) ?_
        refine W.widen (k := 0) (n := 0) (Nat.le_of_ble_eq_true rfl) (Nat.le_of_ble_eq_true rfl) ?_
        exact W.iret (v := (-2)) hx hb hr (fun t ht hW => ⟨⟨(-2), (L, f), rfl, ⟨hO_0, hA_0.mono (by decide +kernel), trivial⟩, by rw [ht]; exact hP, va_K.moved hW.alike hK, by rw [hAe]; exact hD⟩, by rw [hAe]; exact hS.F ht⟩) (by rw [hAe]; exact hS.2.2) d_WM_join_52
      · refine lv_aload_n hx hb d_WM_join_31 rfl (lv_at hl 0 rfl) ?_
        refine lv_aload_n hx hb d_WM_join_32 rfl (lv_at hl 1 rfl) ?_
        refine tw_geti (D := (dC, dI)) (C := R_WM) (T := F_WM) (N := 13) (ci := 0) (kd := 0) (ct := ct) hx hb htb i_WM hown hK hP hO_0 m0 rfl rfl 10 (by decide) (htb (.fieldLink R_WM 155 "WaterMen" "now" "I") tw_178) (fun _ h9 => h9) rfl d_WM_join_33 (fun x_8 e_8 b_8 => ?_)
        refine vp_callSi (va_Run.run (va_runV (As := [.int x_8]) (rest := []) ⟨hx, hb, hml, hown, htb⟩ (c_Mn_isOnWay_t l dC dI ct L f hO_0 q_1 m_1 x_8) (cwV 1 htb (gd_V tw_231 tw_232 tw_233 tw_230 tw_229) rfl rfl rfl (by decide +kernel) ⟨Nat.le_of_ble_eq_true rfl, Nat.le_of_ble_eq_true rfl⟩) ⟨pr_blind, tw_recv hK hP m_1 rfl rfl, pr_pre hP hK hN⟩ rfl rfl hl.1 rfl (lv_room (Nat.le_of_ble_eq_true rfl)) d_WM_join_36 ⟨Nat.le_of_ble_eq_true rfl, Nat.le_of_ble_eq_true rfl⟩)) (fun r_9 er_9 => ?_)
        rcases er_9 with ⟨rfl, -⟩ | ⟨rfl, -⟩
        · refine lv_if_ne (tgt := 50) hx hb d_WM_join_39 (by decide) (fun h => absurd (by decide +kernel) h) (fun _ => ?_)
          refine lv_aload_n hx hb d_WM_join_42 rfl (lv_at hl 0 rfl) ?_
          refine tw_geti (D := (dC, dI)) (C := R_Mn) (T := F_Mn) (N := 8) (ci := 2) (kd := 20) (ct := ct) hx hb htb i_Mn hown hK hP hO_0 m_1 rfl rfl 2 (by decide) (htb (.fieldLink R_WM 145 "WaterMen$Man" "turnStairs" "I") tw_222) (fun _ h9 => h9) rfl d_WM_join_43 (fun x_10 e_10 b_10 => ?_)
          refine lv_iconst (v := (-1)) hx hb d_WM_join_46 (by decide +kernel) ?_
          refine lv_icmp_eq (tgt := 53) hx hb d_WM_join_47 (by decide) (fun c_11 => ?_) (fun c_11 => ?_)
          · refine lv_aload_n hx hb d_WM_join_53 rfl (lv_at hl 0 rfl) ?_
            refine lv_iload_n hx hb d_WM_join_54 rfl (lv_at hl 2 rfl) ?_
            refine tw_puti (v := p_0) (D := (dC, dI)) (C := R_Mn) (T := F_Mn) (N := 8) (ci := 2) (kd := 20) (ct := ct) (ty := .int) hx hb htb i_Mn t_Mn t_Mn_ok n_Mn hown hK hP hD hS hO_0 m_1 rfl rfl 2 (by decide) (htb (.fieldLink R_WM 145 "WaterMen$Man" "turnStairs" "I") tw_222) (fun _ h9 => h9) rfl (by decide +kernel) rfl rfl rfl (i32_full _) d_WM_join_55 (fun f_1 H locs hP hD hS hO_1 hE_1 w_12 hF_1 => ?_)
            have hA_1 := hA_0.trans hE_1
            refine lv_aload_n hx hb d_WM_join_58 rfl (lv_at hl 0 rfl) ?_
            refine lv_aload_n hx hb d_WM_join_59 rfl (lv_at hl 1 rfl) ?_
            refine tw_geti (D := (dC, dI)) (C := R_WM) (T := F_WM) (N := 13) (ci := 0) (kd := 0) (ct := ct) hx hb htb i_WM hown hK hP hO_1 (hA_1.m m0) rfl rfl 11 (by decide) (htb (.fieldLink R_WM 193 "WaterMen" "joins" "I") tw_267) (fun _ h9 => h9) rfl d_WM_join_60 (fun x_13 e_13 b_13 => ?_)
            refine tw_puti (v := x_13) (D := (dC, dI)) (C := R_Mn) (T := F_Mn) (N := 8) (ci := 2) (kd := 20) (ct := ct) (ty := .int) hx hb htb i_Mn t_Mn t_Mn_ok n_Mn hown hK hP hD hS hO_1 (hA_1.m m_1) rfl rfl 3 (by decide) (htb (.fieldLink R_WM 196 "WaterMen$Man" "turnTicket" "I") tw_223) (fun _ h9 => h9) rfl (by decide +kernel) rfl rfl rfl (i32_full _) d_WM_join_63 (fun f_2 H locs hP hD hS hO_2 hE_2 w_14 hF_2 => ?_)
            have hA_2 := hA_1.trans hE_2
            refine lv_aload_n hx hb d_WM_join_66 rfl (lv_at hl 1 rfl) ?_
            refine lv_dup hx hb d_WM_join_67 rfl ?_
            refine tw_getI (x := x_13) (D := (dC, dI)) (C := R_WM) (T := F_WM) (N := 13) (ci := 0) (kd := 0) (ct := ct) hx hb htb i_WM hown hK hP (hA_2.m m0) rfl rfl 11 ((hE_2.ei (hA_1.m m0) rfl).trans e_13) (by decide) (htb (.fieldLink R_WM 193 "WaterMen" "joins" "I") tw_267) (fun _ h9 => h9) rfl d_WM_join_68 ?_
            refine lv_iconst (v := 1) hx hb d_WM_join_71 (by decide +kernel) ?_
            refine lv_iadd hx hb d_WM_join_72 ?_
            refine tw_puti (v := (x_13 + 1)) (D := (dC, dI)) (C := R_WM) (T := F_WM) (N := 13) (ci := 0) (kd := 0) (ct := ct) (ty := .int) hx hb htb i_WM t_WM t_WM_ok n_WM hown hK hP hD hS hO_2 (hA_2.m m0) rfl rfl 11 (by decide) (htb (.fieldLink R_WM 193 "WaterMen" "joins" "I") tw_267) (fun _ h9 => h9) rfl (by decide +kernel) rfl rfl rfl (i32_full _) d_WM_join_73 (fun f_3 H locs hP hD hS hO_3 hE_3 w_15 hF_3 => ?_)
            have hA_3 := hA_2.trans hE_3
            refine lv_aload_n hx hb d_WM_join_76 rfl (lv_at hl 1 rfl) ?_
            refine lv_aload_n hx hb d_WM_join_77 rfl (lv_at hl 0 rfl) ?_
            refine vp_callSi (va_Run.run (va_runV (As := [.ref q_1]) (rest := []) ⟨hx, hb, hml, hown, htb⟩ (c_WM_placeInTurns_t l dC dI ct L f_3 hO_3 q0 (hA_3.m m0) q_1 (hA_3.m m_1)) (cwV 1 htb (gd_V tw_225 tw_226 tw_227 tw_25 tw_224) rfl rfl rfl (by decide +kernel) ⟨Nat.le_of_ble_eq_true rfl, Nat.le_of_ble_eq_true rfl⟩) ⟨pr_blind, tw_recv hK hP (hA_3.m m0) rfl rfl, pr_pre hP hK hN⟩ rfl rfl hl.1 rfl (lv_room (Nat.le_of_ble_eq_true rfl)) d_WM_join_78 ⟨Nat.le_of_ble_eq_true rfl, Nat.le_of_ble_eq_true rfl⟩)) (fun r_16 er_16 => ?_)
            clear er_16
            refine lv_iconst (v := 1) hx hb d_WM_join_81 (by decide +kernel) ?_
            refine lv_iadd hx hb d_WM_join_82 ?_
            refine W.widen (k := 0) (n := 0) (Nat.le_of_ble_eq_true rfl) (Nat.le_of_ble_eq_true rfl) ?_
            exact W.iret (v := (r_16 + 1)) hx hb hr (fun t ht hW => ⟨⟨(r_16 + 1), (L, f_3), rfl, ⟨hO_3, hA_3.mono (by decide +kernel), trivial⟩, by rw [ht]; exact hP, va_K.moved hW.alike hK, by rw [hAe]; exact hD⟩, by rw [hAe]; exact hS.F ht⟩) (by rw [hAe]; exact hS.2.2) d_WM_join_83
          · refine lv_bipush (v := (-2)) hx hb d_WM_join_50 (by decide +kernel) ?_
            refine W.widen (k := 0) (n := 0) (Nat.le_of_ble_eq_true rfl) (Nat.le_of_ble_eq_true rfl) ?_
            exact W.iret (v := (-2)) hx hb hr (fun t ht hW => ⟨⟨(-2), (L, f), rfl, ⟨hO_0, hA_0.mono (by decide +kernel), trivial⟩, by rw [ht]; exact hP, va_K.moved hW.alike hK, by rw [hAe]; exact hD⟩, by rw [hAe]; exact hS.F ht⟩) (by rw [hAe]; exact hS.2.2) d_WM_join_52
        · refine lv_if_ne (tgt := 50) hx hb d_WM_join_39 (by decide) (fun _ => ?_) (fun h => absurd h (by decide +kernel))
          refine lv_bipush (v := (-2)) hx hb d_WM_join_50 (by decide +kernel) ?_
          refine W.widen (k := 0) (n := 0) (Nat.le_of_ble_eq_true rfl) (Nat.le_of_ble_eq_true rfl) ?_
          exact W.iret (v := (-2)) hx hb hr (fun t ht hW => ⟨⟨(-2), (L, f), rfl, ⟨hO_0, hA_0.mono (by decide +kernel), trivial⟩, by rw [ht]; exact hP, va_K.moved hW.alike hK, by rw [hAe]; exact hD⟩, by rw [hAe]; exact hS.F ht⟩) (by rw [hAe]; exact hS.2.2) d_WM_join_52
def W_WM_leave_t : List (Nat × Nat) := [(20, 2)]
set_option maxHeartbeats 4000000 in
set_option maxRecDepth 100000 in
theorem c_WM_leave_t (l : Launch) (dC : Nat → ClassId) (dI : Nat → Nat → Nat) (ct : Nat → ClassId) (L : List Nat) (f : TF) (hO_0 : Ok L f) (q0 : Nat) (m0 : q0 ∈ L ∧ tk f q0 = 0) (sz : Nat) (p_0 : Int32)   : Met l y_WM_leave (.code y_WM_leave b_WM_leave 3 (some .int) :: TB) ({ frames := 1, cells := 0, slots := 0, locals := 21 }) (va_Pc [.ref q0, .int p_0] (PC dC dI (TW ct L f) (TT ct) sz)) (va_Qi (fun r (u : TSt) => Ok u.1 u.2 ∧ Ext W_WM_leave_t L f u.1 u.2 ∧ (True)) (fun (u : TSt) t => va_P (dC, dI) vwCl (TW ct u.1 u.2) t.heap ∧ va_K (dC, dI) vwCl (TT ct) t ∧ va_D (va_A (TW ct L f) sz) (TW ct u.1 u.2)) (va_A (TW ct L f) sz)) 0 0 (va_A (TW ct L f) sz) := by
  refine Met.ofW (cc := b_WM_leave) (maxL := 3) (ret := (some .int)) (by decide) rfl ?_
  intro p e s m args below meth c s₁ B hml hv
  obtain ⟨rfl, hsz, hP, hK, hD0, hN⟩ := hv
  have hx := B.exec
  have hb := B.bytes
  have hr := B.returns
  have hts := atoms_spec (ws := (.code y_WM_leave b_WM_leave 3 (some .int) :: TB)) B.pre
  have htb := fun w (h : w ∈ TB) => hts w (List.mem_cons_of_mem _ h)
  have hown : s.vm.findClass R_WM = some m.cls := findClass_of_methodNamed B.named
  have hlocks := B.notSynchronized
  have hl := lv_entry ([.ref q0, .int p_0]) (n := 3) (Nat.le_of_ble_eq_true rfl)
  rw [lg_entry_eq]
  generalize (lg_sl ([.ref q0, .int p_0]) ++ List.replicate (3 - (lg_sl ([.ref q0, .int p_0])).length) Slot.unset).toArray = ls at hl ⊢
  have hl : lv_has ls 3 [(0, .ref q0), (1, .int p_0)] := hl
  subst hsz
  have hD := hD0.self (sz := s.heap.size)
  obtain ⟨A, hAe⟩ : ∃ A, va_A (TW ct L f) s.heap.size = A := ⟨_, rfl⟩
  rw [hAe] at hD
  have hA : ∀ q : Nat, s.heap.size ≤ q → A q := fun q h => by rw [← hAe]; exact Or.inr h
  have hS : va_S A s.heap s.heap [] := va_S.rf
  have hA_0 : Ext [] L f L f := Ext.rf
  suffices hGo : ∀ (H : Heap) (locs : List Loc), va_P (dC, dI) vwCl (TW ct L f) H → va_S A s.heap H locs → W p l e (headSpec (.code y_WM_leave b_WM_leave 3 (some .int) :: TB) ({ frames := 1, cells := 0, slots := 0, locals := 21 })).room s m [.ref q0, .int p_0].toArray below meth c H locs 0 0 (MQ below (va_Qi (fun r (u : TSt) => Ok u.1 u.2 ∧ Ext W_WM_leave_t L f u.1 u.2 ∧ (True)) (fun (u : TSt) t => va_P (dC, dI) vwCl (TW ct u.1 u.2) t.heap ∧ va_K (dC, dI) vwCl (TT ct) t ∧ va_D (va_A (TW ct L f) s.heap.size) (TW ct u.1 u.2)) (va_A (TW ct L f) s.heap.size)) [.ref q0, .int p_0].toArray s 0 0 (va_A (TW ct L f) s.heap.size)) (F0 m 0 ls []) from hGo _ _ hP hS
  clear hP hS
  intro H locs hP hS
  refine lv_aload_n hx hb d_WM_leave_0 rfl (lv_at hl 0 rfl) ?_
  refine lv_iload_n hx hb d_WM_leave_1 rfl (lv_at hl 1 rfl) ?_
  refine va_csq (va_Run.run (va_runV (As := [.int p_0]) (rest := []) ⟨hx, hb, hml, hown, htb⟩ (c_WM_manAt_t l dC dI ct L f hO_0 q0 m0 p_0) (cwV 1 htb (gd_V tw_190 tw_191 tw_192 tw_25 tw_189) rfl rfl rfl (by decide +kernel) ⟨Nat.le_of_ble_eq_true rfl, Nat.le_of_ble_eq_true rfl⟩) ⟨pr_blind, tw_recv hK hP m0 rfl rfl, pr_pre hP hK hN⟩ rfl rfl hl.1 rfl (lv_room (Nat.le_of_ble_eq_true rfl)) d_WM_leave_2 ⟨Nat.le_of_ble_eq_true rfl, Nat.le_of_ble_eq_true rfl⟩)) (fun r_1 er_1 => ?_)
  rcases er_1 with rfl | ⟨q_1, rfl, m_1⟩
  · refine hb_tv .null rfl ?_
    refine lv_astore_nN (lv' := [(2, .null), (0, .ref q0), (1, .int p_0)]) hx hb d_WM_leave_5 rfl hl (by decide) rfl (fun ls hl => ?_)
    refine lv_aload_nN hx hb d_WM_leave_6 rfl (lv_at hl 0 rfl) ?_
    refine lv_ifnonnullN hx hb d_WM_leave_7 ?_
    refine lv_iconst (v := (-1)) hx hb d_WM_leave_10 (by decide +kernel) ?_
    refine W.widen (k := 0) (n := 0) (Nat.le_of_ble_eq_true rfl) (Nat.le_of_ble_eq_true rfl) ?_
    exact W.iret (v := (-1)) hx hb hr (fun t ht hW => ⟨⟨(-1), (L, f), rfl, ⟨hO_0, hA_0.mono (by decide +kernel), trivial⟩, by rw [ht]; exact hP, va_K.moved hW.alike hK, by rw [hAe]; exact hD⟩, by rw [hAe]; exact hS.F ht⟩) (by rw [hAe]; exact hS.2.2) d_WM_leave_11
  · refine hb_tv (.ref q_1) rfl ?_
    refine lv_astore_n (lv' := [(2, .ref q_1), (0, .ref q0), (1, .int p_0)]) hx hb d_WM_leave_5 rfl hl (by decide) rfl (fun ls hl => ?_)
    refine lv_aload_n hx hb d_WM_leave_6 rfl (lv_at hl 0 rfl) ?_
    refine lv_ifnonnull (tgt := 12) hx hb d_WM_leave_7 (by decide) ?_
    refine lv_aload_n hx hb d_WM_leave_12 rfl (lv_at hl 0 rfl) ?_
    refine tw_geti (D := (dC, dI)) (C := R_Mn) (T := F_Mn) (N := 8) (ci := 2) (kd := 20) (ct := ct) hx hb htb i_Mn hown hK hP hO_0 m_1 rfl rfl 2 (by decide) (htb (.fieldLink R_WM 145 "WaterMen$Man" "turnStairs" "I") tw_222) (fun _ h9 => h9) rfl d_WM_leave_13 (fun x_2 e_2 b_2 => ?_)
    refine lv_iconst (v := (-1)) hx hb d_WM_leave_16 (by decide +kernel) ?_
    refine lv_icmp_ne (tgt := 23) hx hb d_WM_leave_17 (by decide) (fun c_3 => ?_) (fun c_3 => ?_)
    · refine lv_aload_n hx hb d_WM_leave_23 rfl (lv_at hl 0 rfl) ?_
      refine lv_iconst (v := (-1)) hx hb d_WM_leave_24 (by decide +kernel) ?_
      refine tw_puti (v := (-1)) (D := (dC, dI)) (C := R_Mn) (T := F_Mn) (N := 8) (ci := 2) (kd := 20) (ct := ct) (ty := .int) hx hb htb i_Mn t_Mn t_Mn_ok n_Mn hown hK hP hD hS hO_0 m_1 rfl rfl 2 (by decide) (htb (.fieldLink R_WM 145 "WaterMen$Man" "turnStairs" "I") tw_222) (fun _ h9 => h9) rfl (by decide +kernel) rfl rfl rfl (i32_full _) d_WM_leave_25 (fun f_1 H locs hP hD hS hO_1 hE_1 w_4 hF_1 => ?_)
      have hA_1 := hA_0.trans hE_1
      refine lv_iconst (v := 1) hx hb d_WM_leave_28 (by decide +kernel) ?_
      refine W.widen (k := 0) (n := 0) (Nat.le_of_ble_eq_true rfl) (Nat.le_of_ble_eq_true rfl) ?_
      exact W.iret (v := 1) hx hb hr (fun t ht hW => ⟨⟨1, (L, f_1), rfl, ⟨hO_1, hA_1.mono (by decide +kernel), trivial⟩, by rw [ht]; exact hP, va_K.moved hW.alike hK, by rw [hAe]; exact hD⟩, by rw [hAe]; exact hS.F ht⟩) (by rw [hAe]; exact hS.2.2) d_WM_leave_29
    · refine lv_bipush (v := (-2)) hx hb d_WM_leave_20 (by decide +kernel) ?_
      refine W.widen (k := 0) (n := 0) (Nat.le_of_ble_eq_true rfl) (Nat.le_of_ble_eq_true rfl) ?_
      exact W.iret (v := (-2)) hx hb hr (fun t ht hW => ⟨⟨(-2), (L, f), rfl, ⟨hO_0, hA_0.mono (by decide +kernel), trivial⟩, by rw [ht]; exact hP, va_K.moved hW.alike hK, by rw [hAe]; exact hD⟩, by rw [hAe]; exact hS.F ht⟩) (by rw [hAe]; exact hS.2.2) d_WM_leave_22
def W_WM_feed_t : List (Nat × Nat) := [(10, 1), (11, 1000)]
set_option maxHeartbeats 4000000 in
set_option maxRecDepth 100000 in
theorem c_WM_feed_t (l : Launch) (dC : Nat → ClassId) (dI : Nat → Nat → Nat) (ct : Nat → ClassId) (L : List Nat) (f : TF) (hO_0 : Ok L f) (q0 : Nat) (m0 : q0 ∈ L ∧ tk f q0 = 0) (sz : Nat) (p_0 : Int32) (p_1 : Int32) (p_2 : Int32) (p_3 : Int32) (p_4 : Int32)   : Met l y_WM_feed (.code y_WM_feed b_WM_feed 6 (some .int) :: TB) ({ frames := 1, cells := 0, slots := 0, locals := 21 }) (va_Pc [.ref q0, .int p_0, .int p_1, .int p_2, .int p_3, .int p_4] (PC dC dI (TW ct L f) (TT ct) sz)) (va_Qi (fun r (u : TSt) => Ok u.1 u.2 ∧ Ext W_WM_feed_t L f u.1 u.2 ∧ (True)) (fun (u : TSt) t => va_P (dC, dI) vwCl (TW ct u.1 u.2) t.heap ∧ va_K (dC, dI) vwCl (TT ct) t ∧ va_D (va_A (TW ct L f) sz) (TW ct u.1 u.2)) (va_A (TW ct L f) sz)) 0 0 (va_A (TW ct L f) sz) := by
  refine Met.ofW (cc := b_WM_feed) (maxL := 6) (ret := (some .int)) (by decide) rfl ?_
  intro p e s m args below meth c s₁ B hml hv
  obtain ⟨rfl, hsz, hP, hK, hD0, hN⟩ := hv
  have hx := B.exec
  have hb := B.bytes
  have hr := B.returns
  have hts := atoms_spec (ws := (.code y_WM_feed b_WM_feed 6 (some .int) :: TB)) B.pre
  have htb := fun w (h : w ∈ TB) => hts w (List.mem_cons_of_mem _ h)
  have hown : s.vm.findClass R_WM = some m.cls := findClass_of_methodNamed B.named
  have hlocks := B.notSynchronized
  have hl := lv_entry ([.ref q0, .int p_0, .int p_1, .int p_2, .int p_3, .int p_4]) (n := 6) (Nat.le_of_ble_eq_true rfl)
  rw [lg_entry_eq]
  generalize (lg_sl ([.ref q0, .int p_0, .int p_1, .int p_2, .int p_3, .int p_4]) ++ List.replicate (6 - (lg_sl ([.ref q0, .int p_0, .int p_1, .int p_2, .int p_3, .int p_4])).length) Slot.unset).toArray = ls at hl ⊢
  have hl : lv_has ls 6 [(0, .ref q0), (1, .int p_0), (2, .int p_1), (3, .int p_2), (4, .int p_3), (5, .int p_4)] := hl
  subst hsz
  have hD := hD0.self (sz := s.heap.size)
  obtain ⟨A, hAe⟩ : ∃ A, va_A (TW ct L f) s.heap.size = A := ⟨_, rfl⟩
  rw [hAe] at hD
  have hA : ∀ q : Nat, s.heap.size ≤ q → A q := fun q h => by rw [← hAe]; exact Or.inr h
  have hS : va_S A s.heap s.heap [] := va_S.rf
  have hA_0 : Ext [] L f L f := Ext.rf
  suffices hGo : ∀ (H : Heap) (locs : List Loc), va_P (dC, dI) vwCl (TW ct L f) H → va_S A s.heap H locs → W p l e (headSpec (.code y_WM_feed b_WM_feed 6 (some .int) :: TB) ({ frames := 1, cells := 0, slots := 0, locals := 21 })).room s m [.ref q0, .int p_0, .int p_1, .int p_2, .int p_3, .int p_4].toArray below meth c H locs 0 0 (MQ below (va_Qi (fun r (u : TSt) => Ok u.1 u.2 ∧ Ext W_WM_feed_t L f u.1 u.2 ∧ (True)) (fun (u : TSt) t => va_P (dC, dI) vwCl (TW ct u.1 u.2) t.heap ∧ va_K (dC, dI) vwCl (TT ct) t ∧ va_D (va_A (TW ct L f) s.heap.size) (TW ct u.1 u.2)) (va_A (TW ct L f) s.heap.size)) [.ref q0, .int p_0, .int p_1, .int p_2, .int p_3, .int p_4].toArray s 0 0 (va_A (TW ct L f) s.heap.size)) (F0 m 0 ls []) from hGo _ _ hP hS
  clear hP hS
  intro H locs hP hS
  refine lv_aload_n hx hb d_WM_feed_0 rfl (lv_at hl 0 rfl) ?_
  refine tw_getr (D := (dC, dI)) (C := R_WM) (T := F_WM) (N := 13) (ci := 0) (kd := 0) (ct := ct) hx hb htb i_WM hown hK hP hO_0 m0 rfl rfl 5 (by decide) (htb (.fieldLink R_WM 43 "WaterMen" "tape" "LWaterMen$Tape;") tw_268) (fun _ h9 => h9) rfl d_WM_feed_1 (fun q_1 e_1 m_1 => ?_)
  refine vp_callSi (va_Run.run (va_runV (As := []) (rest := []) ⟨hx, hb, hml, hown, htb⟩ (c_Tp_hasRoomForFive_t l dC dI ct L f hO_0 q_1 m_1) (cwV 0 htb (gd_V tw_270 tw_271 tw_272 tw_124 tw_269) rfl rfl rfl (by decide +kernel) ⟨Nat.le_of_ble_eq_true rfl, Nat.le_of_ble_eq_true rfl⟩) ⟨pr_blind, tw_recv hK hP m_1 rfl rfl, pr_pre hP hK hN⟩ rfl rfl hl.1 rfl (lv_room (Nat.le_of_ble_eq_true rfl)) d_WM_feed_4 ⟨Nat.le_of_ble_eq_true rfl, Nat.le_of_ble_eq_true rfl⟩)) (fun r_2 er_2 => ?_)
  rcases er_2 with ⟨rfl, -⟩ | ⟨rfl, -⟩
  · refine lv_if_ne (tgt := 13) hx hb d_WM_feed_7 (by decide) (fun h => absurd (by decide +kernel) h) (fun _ => ?_)
    refine lv_bipush (v := (-3)) hx hb d_WM_feed_10 (by decide +kernel) ?_
    refine W.widen (k := 0) (n := 0) (Nat.le_of_ble_eq_true rfl) (Nat.le_of_ble_eq_true rfl) ?_
    exact W.iret (v := (-3)) hx hb hr (fun t ht hW => ⟨⟨(-3), (L, f), rfl, ⟨hO_0, hA_0.mono (by decide +kernel), trivial⟩, by rw [ht]; exact hP, va_K.moved hW.alike hK, by rw [hAe]; exact hD⟩, by rw [hAe]; exact hS.F ht⟩) (by rw [hAe]; exact hS.2.2) d_WM_feed_12
  · refine lv_if_ne (tgt := 13) hx hb d_WM_feed_7 (by decide) (fun _ => ?_) (fun h => absurd h (by decide +kernel))
    refine lv_aload_n hx hb d_WM_feed_13 rfl (lv_at hl 0 rfl) ?_
    refine tw_getR (D := (dC, dI)) (C := R_WM) (T := F_WM) (N := 13) (ci := 0) (kd := 0) (ct := ct) hx hb htb i_WM hown hK hP m0 rfl rfl 5 e_1 (by decide) (htb (.fieldLink R_WM 43 "WaterMen" "tape" "LWaterMen$Tape;") tw_268) (fun _ h9 => h9) rfl d_WM_feed_14 ?_
    refine hb_tv (.ref q_1) rfl ?_
    refine lv_iload_n hx hb d_WM_feed_17 rfl (lv_at hl 1 rfl) ?_
    have hFc := hb_free hD hS hA
    refine va_callv (va_runV (As := [.int p_0]) (rest := []) ⟨hx, hb, hml, hown, htb⟩ (c_Tp_append_t l dC dI ct L f hO_0 q_1 m_1 _ p_0) (cwV 1 htb (gd_V tw_274 tw_275 tw_276 tw_124 tw_273) rfl rfl rfl (by decide +kernel) ⟨Nat.le_of_ble_eq_true rfl, Nat.le_of_ble_eq_true rfl⟩) ⟨pc_blind, tw_recv hK hP m_1 rfl rfl, pc_pre hP hK hD hN⟩ rfl rfl hl.1 rfl (lv_room (Nat.le_of_ble_eq_true rfl)) d_WM_feed_18 ⟨Nat.le_of_ble_eq_true rfl, Nat.le_of_ble_eq_true rfl⟩) hS (fun q _ h => hFc q h) hFc (fun u t H locs ht hvm er hB hz1 hk1 hS => ?_)
    obtain ⟨L_1, f_1⟩ := u
    obtain ⟨hO_1, hE_1, er⟩ := er
    obtain ⟨hP, hK1, hD1⟩ := hB
    rw [ht] at hP
    have hP : va_P (dC, dI) vwCl (TW ct L_1 f_1) H := hP
    have hD : va_D A (TW ct L_1 f_1) := hD1.weaken (fun _ q _ h => hFc q.1 h)
    have hO_1 : Ok L_1 f_1 := hO_1
    have hE_1 : Ext W_Tp_append_t L f L_1 f_1 := hE_1
    clear hK1 hD1 ht hvm hz1 hk1
    have hA_1 := hA_0.trans hE_1
    clear er
    refine lv_aload_n hx hb d_WM_feed_21 rfl (lv_at hl 0 rfl) ?_
    refine tw_getR (D := (dC, dI)) (C := R_WM) (T := F_WM) (N := 13) (ci := 0) (kd := 0) (ct := ct) hx hb htb i_WM hown hK hP (hA_1.m m0) rfl rfl 5 ((hA_1.er m0 rfl).trans e_1) (by decide) (htb (.fieldLink R_WM 43 "WaterMen" "tape" "LWaterMen$Tape;") tw_268) (fun _ h9 => h9) rfl d_WM_feed_22 ?_
    refine hb_tv (.ref q_1) rfl ?_
    refine lv_iload_n hx hb d_WM_feed_25 rfl (lv_at hl 2 rfl) ?_
    have hFc := hb_free hD hS hA
    refine va_callv (va_runV (As := [.int p_1]) (rest := []) ⟨hx, hb, hml, hown, htb⟩ (c_Tp_append_t l dC dI ct L_1 f_1 hO_1 q_1 (hA_1.m m_1) _ p_1) (cwV 1 htb (gd_V tw_274 tw_275 tw_276 tw_124 tw_273) rfl rfl rfl (by decide +kernel) ⟨Nat.le_of_ble_eq_true rfl, Nat.le_of_ble_eq_true rfl⟩) ⟨pc_blind, tw_recv hK hP (hA_1.m m_1) rfl rfl, pc_pre hP hK hD hN⟩ rfl rfl hl.1 rfl (lv_room (Nat.le_of_ble_eq_true rfl)) d_WM_feed_26 ⟨Nat.le_of_ble_eq_true rfl, Nat.le_of_ble_eq_true rfl⟩) hS (fun q _ h => hFc q h) hFc (fun u t H locs ht hvm er hB hz1 hk1 hS => ?_)
    obtain ⟨L_2, f_2⟩ := u
    obtain ⟨hO_2, hE_2, er⟩ := er
    obtain ⟨hP, hK1, hD1⟩ := hB
    rw [ht] at hP
    have hP : va_P (dC, dI) vwCl (TW ct L_2 f_2) H := hP
    have hD : va_D A (TW ct L_2 f_2) := hD1.weaken (fun _ q _ h => hFc q.1 h)
    have hO_2 : Ok L_2 f_2 := hO_2
    have hE_2 : Ext W_Tp_append_t L_1 f_1 L_2 f_2 := hE_2
    clear hK1 hD1 ht hvm hz1 hk1
    have hA_2 := hA_1.trans hE_2
    clear er
    refine lv_aload_n hx hb d_WM_feed_29 rfl (lv_at hl 0 rfl) ?_
    refine tw_getR (D := (dC, dI)) (C := R_WM) (T := F_WM) (N := 13) (ci := 0) (kd := 0) (ct := ct) hx hb htb i_WM hown hK hP (hA_2.m m0) rfl rfl 5 ((hA_2.er m0 rfl).trans e_1) (by decide) (htb (.fieldLink R_WM 43 "WaterMen" "tape" "LWaterMen$Tape;") tw_268) (fun _ h9 => h9) rfl d_WM_feed_30 ?_
    refine hb_tv (.ref q_1) rfl ?_
    refine lv_iload_n hx hb d_WM_feed_33 rfl (lv_at hl 3 rfl) ?_
    have hFc := hb_free hD hS hA
    refine va_callv (va_runV (As := [.int p_2]) (rest := []) ⟨hx, hb, hml, hown, htb⟩ (c_Tp_append_t l dC dI ct L_2 f_2 hO_2 q_1 (hA_2.m m_1) _ p_2) (cwV 1 htb (gd_V tw_274 tw_275 tw_276 tw_124 tw_273) rfl rfl rfl (by decide +kernel) ⟨Nat.le_of_ble_eq_true rfl, Nat.le_of_ble_eq_true rfl⟩) ⟨pc_blind, tw_recv hK hP (hA_2.m m_1) rfl rfl, pc_pre hP hK hD hN⟩ rfl rfl hl.1 rfl (lv_room (Nat.le_of_ble_eq_true rfl)) d_WM_feed_34 ⟨Nat.le_of_ble_eq_true rfl, Nat.le_of_ble_eq_true rfl⟩) hS (fun q _ h => hFc q h) hFc (fun u t H locs ht hvm er hB hz1 hk1 hS => ?_)
    obtain ⟨L_3, f_3⟩ := u
    obtain ⟨hO_3, hE_3, er⟩ := er
    obtain ⟨hP, hK1, hD1⟩ := hB
    rw [ht] at hP
    have hP : va_P (dC, dI) vwCl (TW ct L_3 f_3) H := hP
    have hD : va_D A (TW ct L_3 f_3) := hD1.weaken (fun _ q _ h => hFc q.1 h)
    have hO_3 : Ok L_3 f_3 := hO_3
    have hE_3 : Ext W_Tp_append_t L_2 f_2 L_3 f_3 := hE_3
    clear hK1 hD1 ht hvm hz1 hk1
    have hA_3 := hA_2.trans hE_3
    clear er
    refine lv_aload_n hx hb d_WM_feed_37 rfl (lv_at hl 0 rfl) ?_
    refine tw_getR (D := (dC, dI)) (C := R_WM) (T := F_WM) (N := 13) (ci := 0) (kd := 0) (ct := ct) hx hb htb i_WM hown hK hP (hA_3.m m0) rfl rfl 5 ((hA_3.er m0 rfl).trans e_1) (by decide) (htb (.fieldLink R_WM 43 "WaterMen" "tape" "LWaterMen$Tape;") tw_268) (fun _ h9 => h9) rfl d_WM_feed_38 ?_
    refine hb_tv (.ref q_1) rfl ?_
    refine lv_iload hx hb d_WM_feed_41 (lv_at hl 4 rfl) ?_
    have hFc := hb_free hD hS hA
    refine va_callv (va_runV (As := [.int p_3]) (rest := []) ⟨hx, hb, hml, hown, htb⟩ (c_Tp_append_t l dC dI ct L_3 f_3 hO_3 q_1 (hA_3.m m_1) _ p_3) (cwV 1 htb (gd_V tw_274 tw_275 tw_276 tw_124 tw_273) rfl rfl rfl (by decide +kernel) ⟨Nat.le_of_ble_eq_true rfl, Nat.le_of_ble_eq_true rfl⟩) ⟨pc_blind, tw_recv hK hP (hA_3.m m_1) rfl rfl, pc_pre hP hK hD hN⟩ rfl rfl hl.1 rfl (lv_room (Nat.le_of_ble_eq_true rfl)) d_WM_feed_43 ⟨Nat.le_of_ble_eq_true rfl, Nat.le_of_ble_eq_true rfl⟩) hS (fun q _ h => hFc q h) hFc (fun u t H locs ht hvm er hB hz1 hk1 hS => ?_)
    obtain ⟨L_4, f_4⟩ := u
    obtain ⟨hO_4, hE_4, er⟩ := er
    obtain ⟨hP, hK1, hD1⟩ := hB
    rw [ht] at hP
    have hP : va_P (dC, dI) vwCl (TW ct L_4 f_4) H := hP
    have hD : va_D A (TW ct L_4 f_4) := hD1.weaken (fun _ q _ h => hFc q.1 h)
    have hO_4 : Ok L_4 f_4 := hO_4
    have hE_4 : Ext W_Tp_append_t L_3 f_3 L_4 f_4 := hE_4
    clear hK1 hD1 ht hvm hz1 hk1
    have hA_4 := hA_3.trans hE_4
    clear er
    refine lv_aload_n hx hb d_WM_feed_46 rfl (lv_at hl 0 rfl) ?_
    refine tw_getR (D := (dC, dI)) (C := R_WM) (T := F_WM) (N := 13) (ci := 0) (kd := 0) (ct := ct) hx hb htb i_WM hown hK hP (hA_4.m m0) rfl rfl 5 ((hA_4.er m0 rfl).trans e_1) (by decide) (htb (.fieldLink R_WM 43 "WaterMen" "tape" "LWaterMen$Tape;") tw_268) (fun _ h9 => h9) rfl d_WM_feed_47 ?_
    refine hb_tv (.ref q_1) rfl ?_
    refine lv_iload hx hb d_WM_feed_50 (lv_at hl 5 rfl) ?_
    have hFc := hb_free hD hS hA
    refine va_callv (va_runV (As := [.int p_4]) (rest := []) ⟨hx, hb, hml, hown, htb⟩ (c_Tp_append_t l dC dI ct L_4 f_4 hO_4 q_1 (hA_4.m m_1) _ p_4) (cwV 1 htb (gd_V tw_274 tw_275 tw_276 tw_124 tw_273) rfl rfl rfl (by decide +kernel) ⟨Nat.le_of_ble_eq_true rfl, Nat.le_of_ble_eq_true rfl⟩) ⟨pc_blind, tw_recv hK hP (hA_4.m m_1) rfl rfl, pc_pre hP hK hD hN⟩ rfl rfl hl.1 rfl (lv_room (Nat.le_of_ble_eq_true rfl)) d_WM_feed_52 ⟨Nat.le_of_ble_eq_true rfl, Nat.le_of_ble_eq_true rfl⟩) hS (fun q _ h => hFc q h) hFc (fun u t H locs ht hvm er hB hz1 hk1 hS => ?_)
    obtain ⟨L_5, f_5⟩ := u
    obtain ⟨hO_5, hE_5, er⟩ := er
    obtain ⟨hP, hK1, hD1⟩ := hB
    rw [ht] at hP
    have hP : va_P (dC, dI) vwCl (TW ct L_5 f_5) H := hP
    have hD : va_D A (TW ct L_5 f_5) := hD1.weaken (fun _ q _ h => hFc q.1 h)
    have hO_5 : Ok L_5 f_5 := hO_5
    have hE_5 : Ext W_Tp_append_t L_4 f_4 L_5 f_5 := hE_5
    clear hK1 hD1 ht hvm hz1 hk1
    have hA_5 := hA_4.trans hE_5
    clear er
    refine lv_aload_n hx hb d_WM_feed_55 rfl (lv_at hl 0 rfl) ?_
    refine tw_getR (D := (dC, dI)) (C := R_WM) (T := F_WM) (N := 13) (ci := 0) (kd := 0) (ct := ct) hx hb htb i_WM hown hK hP (hA_5.m m0) rfl rfl 5 ((hA_5.er m0 rfl).trans e_1) (by decide) (htb (.fieldLink R_WM 43 "WaterMen" "tape" "LWaterMen$Tape;") tw_268) (fun _ h9 => h9) rfl d_WM_feed_56 ?_
    refine hb_tv (.ref q_1) rfl ?_
    refine tw_geti (D := (dC, dI)) (C := R_Tp) (T := F_Tp) (N := 6) (ci := 4) (kd := 10) (ct := ct) hx hb htb i_Tp hown hK hP hO_5 (hA_5.m m_1) rfl rfl 1 (by decide) (htb (.fieldLink R_WM 207 "WaterMen$Tape" "length" "I") tw_277) (fun _ h9 => h9) rfl d_WM_feed_59 (fun x_8 e_8 b_8 => ?_)
    refine W.widen (k := 0) (n := 0) (Nat.le_of_ble_eq_true rfl) (Nat.le_of_ble_eq_true rfl) ?_
    exact W.iret (v := x_8) hx hb hr (fun t ht hW => ⟨⟨x_8, (L_5, f_5), rfl, ⟨hO_5, hA_5.mono (by decide +kernel), trivial⟩, by rw [ht]; exact hP, va_K.moved hW.alike hK, by rw [hAe]; exact hD⟩, by rw [hAe]; exact hS.F ht⟩) (by rw [hAe]; exact hS.2.2) d_WM_feed_62
def W_WM_end_t : List (Nat × Nat) := [(10, 1)]
set_option maxHeartbeats 4000000 in
set_option maxRecDepth 100000 in
theorem c_WM_end_t (l : Launch) (dC : Nat → ClassId) (dI : Nat → Nat → Nat) (ct : Nat → ClassId) (L : List Nat) (f : TF) (hO_0 : Ok L f) (q0 : Nat) (m0 : q0 ∈ L ∧ tk f q0 = 0) (sz : Nat) (p_0 : Int32)   : Met l y_WM_end (.code y_WM_end b_WM_end 2 (some .int) :: TB) ({ frames := 0, cells := 0, slots := 0, locals := 0 }) (va_Pc [.ref q0, .int p_0] (PC dC dI (TW ct L f) (TT ct) sz)) (va_Qi (fun r (u : TSt) => Ok u.1 u.2 ∧ Ext W_WM_end_t L f u.1 u.2 ∧ (True)) (fun (u : TSt) t => va_P (dC, dI) vwCl (TW ct u.1 u.2) t.heap ∧ va_K (dC, dI) vwCl (TT ct) t ∧ va_D (va_A (TW ct L f) sz) (TW ct u.1 u.2)) (va_A (TW ct L f) sz)) 0 0 (va_A (TW ct L f) sz) := by
  refine Met.ofW (cc := b_WM_end) (maxL := 2) (ret := (some .int)) (by decide) rfl ?_
  intro p e s m args below meth c s₁ B hml hv
  obtain ⟨rfl, hsz, hP, hK, hD0, hN⟩ := hv
  have hx := B.exec
  have hb := B.bytes
  have hr := B.returns
  have hts := atoms_spec (ws := (.code y_WM_end b_WM_end 2 (some .int) :: TB)) B.pre
  have htb := fun w (h : w ∈ TB) => hts w (List.mem_cons_of_mem _ h)
  have hown : s.vm.findClass R_WM = some m.cls := findClass_of_methodNamed B.named
  have hlocks := B.notSynchronized
  have hl := lv_entry ([.ref q0, .int p_0]) (n := 2) (Nat.le_of_ble_eq_true rfl)
  rw [lg_entry_eq]
  generalize (lg_sl ([.ref q0, .int p_0]) ++ List.replicate (2 - (lg_sl ([.ref q0, .int p_0])).length) Slot.unset).toArray = ls at hl ⊢
  have hl : lv_has ls 2 [(0, .ref q0), (1, .int p_0)] := hl
  subst hsz
  have hD := hD0.self (sz := s.heap.size)
  obtain ⟨A, hAe⟩ : ∃ A, va_A (TW ct L f) s.heap.size = A := ⟨_, rfl⟩
  rw [hAe] at hD
  have hA : ∀ q : Nat, s.heap.size ≤ q → A q := fun q h => by rw [← hAe]; exact Or.inr h
  have hS : va_S A s.heap s.heap [] := va_S.rf
  have hA_0 : Ext [] L f L f := Ext.rf
  suffices hGo : ∀ (H : Heap) (locs : List Loc), va_P (dC, dI) vwCl (TW ct L f) H → va_S A s.heap H locs → W p l e (headSpec (.code y_WM_end b_WM_end 2 (some .int) :: TB) ({ frames := 0, cells := 0, slots := 0, locals := 0 })).room s m [.ref q0, .int p_0].toArray below meth c H locs 0 0 (MQ below (va_Qi (fun r (u : TSt) => Ok u.1 u.2 ∧ Ext W_WM_end_t L f u.1 u.2 ∧ (True)) (fun (u : TSt) t => va_P (dC, dI) vwCl (TW ct u.1 u.2) t.heap ∧ va_K (dC, dI) vwCl (TT ct) t ∧ va_D (va_A (TW ct L f) s.heap.size) (TW ct u.1 u.2)) (va_A (TW ct L f) s.heap.size)) [.ref q0, .int p_0].toArray s 0 0 (va_A (TW ct L f) s.heap.size)) (F0 m 0 ls []) from hGo _ _ hP hS
  clear hP hS
  intro H locs hP hS
  refine lv_iload_n hx hb d_WM_end_0 rfl (lv_at hl 1 rfl) ?_
  refine lv_if_lt (tgt := 15) hx hb d_WM_end_1 (by decide) (fun c_1 => ?_) (fun c_1 => ?_)
  · refine lv_iconst (v := (-1)) hx hb d_WM_end_15 (by decide +kernel) ?_
    refine W.widen (k := 0) (n := 0) (Nat.le_of_ble_eq_true rfl) (Nat.le_of_ble_eq_true rfl) ?_
    exact W.iret (v := (-1)) hx hb hr (fun t ht hW => ⟨⟨(-1), (L, f), rfl, ⟨hO_0, hA_0.mono (by decide +kernel), trivial⟩, by rw [ht]; exact hP, va_K.moved hW.alike hK, by rw [hAe]; exact hD⟩, by rw [hAe]; exact hS.F ht⟩) (by rw [hAe]; exact hS.2.2) d_WM_end_16
  · refine lv_iload_n hx hb d_WM_end_4 rfl (lv_at hl 1 rfl) ?_
    refine lv_aload_n hx hb d_WM_end_5 rfl (lv_at hl 0 rfl) ?_
    refine tw_getr (D := (dC, dI)) (C := R_WM) (T := F_WM) (N := 13) (ci := 0) (kd := 0) (ct := ct) hx hb htb i_WM hown hK hP hO_0 m0 rfl rfl 5 (by decide) (htb (.fieldLink R_WM 43 "WaterMen" "tape" "LWaterMen$Tape;") tw_268) (fun _ h9 => h9) rfl d_WM_end_6 (fun q_2 e_2 m_2 => ?_)
    refine tw_geti (D := (dC, dI)) (C := R_Tp) (T := F_Tp) (N := 6) (ci := 4) (kd := 10) (ct := ct) hx hb htb i_Tp hown hK hP hO_0 m_2 rfl rfl 1 (by decide) (htb (.fieldLink R_WM 207 "WaterMen$Tape" "length" "I") tw_277) (fun _ h9 => h9) rfl d_WM_end_9 (fun x_3 e_3 b_3 => ?_)
    refine lv_icmp_le (tgt := 17) hx hb d_WM_end_12 (by decide) (fun c_4 => ?_) (fun c_4 => ?_)
    · refine lv_aload_n hx hb d_WM_end_17 rfl (lv_at hl 0 rfl) ?_
      refine tw_getR (D := (dC, dI)) (C := R_WM) (T := F_WM) (N := 13) (ci := 0) (kd := 0) (ct := ct) hx hb htb i_WM hown hK hP m0 rfl rfl 5 e_2 (by decide) (htb (.fieldLink R_WM 43 "WaterMen" "tape" "LWaterMen$Tape;") tw_268) (fun _ h9 => h9) rfl d_WM_end_18 ?_
      refine hb_tv (.ref q_2) rfl ?_
      refine lv_iload_n hx hb d_WM_end_21 rfl (lv_at hl 1 rfl) ?_
      refine tw_puti (v := p_0) (D := (dC, dI)) (C := R_Tp) (T := F_Tp) (N := 6) (ci := 4) (kd := 10) (ct := ct) (ty := .int) hx hb htb i_Tp t_Tp t_Tp_ok n_Tp hown hK hP hD hS hO_0 m_2 rfl rfl 1 (by decide) (htb (.fieldLink R_WM 207 "WaterMen$Tape" "length" "I") tw_277) (fun _ h9 => h9) rfl (by decide +kernel) rfl rfl rfl ⟨c_1, (show ¬ (400 < p_0) from ((fun (a_0 : Int32) (a_1 : Int32) (k_0 : a_0 ≤ a_1) (k_1 : ¬ (400 < a_1)) => (show ¬ (400 < a_0) from by have z0 : (400 : Int32).toInt = 400 := (by decide +kernel); have r0 := fb_rng (a_0); have r1 := fb_rng (a_1); have e0 := k_0; rw [Int32.le_iff_toInt_le] at e0; have e1 := k_1; rw [Int32.lt_iff_toInt_lt, z0] at e1; rw [Int32.lt_iff_toInt_lt, z0]; omega)) p_0 x_3 c_4 b_3.2))⟩ d_WM_end_22 (fun f_1 H locs hP hD hS hO_1 hE_1 w_5 hF_1 => ?_)
      have hA_1 := hA_0.trans hE_1
      refine lv_iload_n hx hb d_WM_end_25 rfl (lv_at hl 1 rfl) ?_
      refine W.widen (k := 0) (n := 0) (Nat.le_of_ble_eq_true rfl) (Nat.le_of_ble_eq_true rfl) ?_
      exact W.iret (v := p_0) hx hb hr (fun t ht hW => ⟨⟨p_0, (L, f_1), rfl, ⟨hO_1, hA_1.mono (by decide +kernel), trivial⟩, by rw [ht]; exact hP, va_K.moved hW.alike hK, by rw [hAe]; exact hD⟩, by rw [hAe]; exact hS.F ht⟩) (by rw [hAe]; exact hS.2.2) d_WM_end_26
    · refine lv_iconst (v := (-1)) hx hb d_WM_end_15 (by decide +kernel) ?_
      refine W.widen (k := 0) (n := 0) (Nat.le_of_ble_eq_true rfl) (Nat.le_of_ble_eq_true rfl) ?_
      exact W.iret (v := (-1)) hx hb hr (fun t ht hW => ⟨⟨(-1), (L, f), rfl, ⟨hO_0, hA_0.mono (by decide +kernel), trivial⟩, by rw [ht]; exact hP, va_K.moved hW.alike hK, by rw [hAe]; exact hD⟩, by rw [hAe]; exact hS.F ht⟩) (by rw [hAe]; exact hS.2.2) d_WM_end_16
set_option maxHeartbeats 4000000 in
set_option maxRecDepth 100000 in
theorem c_Or_takesLine_0_t (l : Launch) (dC : Nat → ClassId) (dI : Nat → Nat → Nat) (ct : Nat → ClassId) (L : List Nat) (f : TF) (hO_0 : Ok L f) (q0 : Nat) (m0 : q0 ∈ L ∧ tk f q0 = 15)    : Met l y_Or_takesLine (.code y_Or_takesLine b_Or_takesLine 2 (some .boolean) :: TB) ({ frames := 0, cells := 0, slots := 0, locals := 0 }) (va_Pc [.ref q0, .int 0] (PR dC dI (TW ct L f) (TT ct))) (vp_Si (fun r => (r = 0 ∧ True) ∨ (r = 1 ∧ ¬ (11 < (ti f q0 5)) ∧ True))) 0 0 (fun _ => False) := by
  refine Met.ofW (cc := b_Or_takesLine) (maxL := 2) (ret := (some .boolean)) (by decide) rfl ?_
  intro p e s m args below meth c s₁ B hml hv
  obtain ⟨rfl, hP, hK, hN⟩ := hv
  have hx := B.exec
  have hb := B.bytes
  have hr := B.returns
  have hts := atoms_spec (ws := (.code y_Or_takesLine b_Or_takesLine 2 (some .boolean) :: TB)) B.pre
  have htb := fun w (h : w ∈ TB) => hts w (List.mem_cons_of_mem _ h)
  have hown : s.vm.findClass R_Or = some m.cls := findClass_of_methodNamed B.named
  have hlocks := B.notSynchronized
  have hl := lv_entry ([.ref q0, .int 0]) (n := 2) (Nat.le_of_ble_eq_true rfl)
  rw [lg_entry_eq]
  generalize (lg_sl ([.ref q0, .int 0]) ++ List.replicate (2 - (lg_sl ([.ref q0, .int 0])).length) Slot.unset).toArray = ls at hl ⊢
  have hl : lv_has ls 2 [(0, .ref q0), (1, .int 0)] := hl
  have bs_1 := hO_0.i m0 (show slotD 15 5 = some (.inl (0, 12)) from rfl)
  have bs_2 := hO_0.i m0 (show slotD 15 6 = some (.inl (0, 12)) from rfl)
  refine lv_iload_n hx hb d_Or_takesLine_0 rfl (lv_at hl 1 rfl) ?_
  refine lv_if_ne (tgt := 19) hx hb d_Or_takesLine_1 (by decide) (fun h => absurd (by decide +kernel) h) (fun _ => ?_)
  refine lv_aload_n hx hb d_Or_takesLine_4 rfl (lv_at hl 0 rfl) ?_
  refine tw_getI (x := (ti f q0 5)) (D := (dC, dI)) (C := R_Or) (T := F_Or) (N := 9) (ci := 3) (kd := 15) (ct := ct) hx hb htb i_Or hown hK hP m0 rfl rfl 5 rfl (by decide) (htb (.fieldLink R_Or 23 "WaterMen$Order" "fareCount" "I") tw_63) (fun _ h9 => h9) rfl d_Or_takesLine_5 ?_
  refine lv_bipush (v := 12) hx hb d_Or_takesLine_8 (by decide +kernel) ?_
  refine lv_icmp_ge (tgt := 17) hx hb d_Or_takesLine_10 (by decide) (fun c_3 => ?_) (fun c_3 => ?_)
  · refine lv_iconst (v := 0) hx hb d_Or_takesLine_17 (by decide +kernel) ?_
    exact W.zret (v := 0) hx hb hr (by decide +kernel) (fun t ht hW => ⟨0, rfl, (Or.inl ⟨rfl, trivial⟩), ht⟩) t_nil d_Or_takesLine_18
  · refine lv_iconst (v := 1) hx hb d_Or_takesLine_13 (by decide +kernel) ?_
    refine lv_goto (tgt := 18) hx hb d_Or_takesLine_14 (by decide) ?_
    exact W.zret (v := 1) hx hb hr (by decide +kernel) (fun t ht hW => ⟨1, rfl, (Or.inr ⟨rfl, (show ¬ (11 < (ti f q0 5)) from ((fun (a_0 : Int32) (k_0 : ¬ (12 ≤ a_0)) => (show ¬ (11 < a_0) from by have z0 : (11 : Int32).toInt = 11 := (by decide +kernel); have z1 : (12 : Int32).toInt = 12 := (by decide +kernel); have r0 := fb_rng (a_0); have e0 := k_0; rw [Int32.le_iff_toInt_le, z1] at e0; rw [Int32.lt_iff_toInt_lt, z0]; omega)) (ti f q0 5) c_3)), trivial⟩), ht⟩) t_nil d_Or_takesLine_18
