def W_WM_leave_t : List (Nat × Nat) := [(20, 2)]
set_option maxHeartbeats 4000000 in
set_option maxRecDepth 100000 in
theorem c_WM_leave_t (l : Launch) (dC : Nat → ClassId) (dI : Nat → Nat → Nat) (ct : Nat → ClassId) (L : List Nat) (f : TF) (hO_0 : Ok L f) (q0 : Nat) (m0 : q0 ∈ L ∧ tk f q0 = 0) (sz : Nat) (p_0 : Int32)  : Met l y_WM_leave (.code y_WM_leave b_WM_leave 3 (some .int) :: TB) ({ frames := 1, cells := 0, slots := 0, locals := 21 }) (va_Pc [.ref q0, .int p_0] (PC dC dI (TW ct L f) (TT ct) sz)) (va_Qi (fun r (u : TSt) => Ok u.1 u.2 ∧ Ext W_WM_leave_t L f u.1 u.2 ∧ (True)) (fun (u : TSt) t => va_P (dC, dI) vwCl (TW ct u.1 u.2) t.heap ∧ va_K (dC, dI) vwCl (TT ct) t ∧ va_D (va_A (TW ct L f) sz) (TW ct u.1 u.2)) (va_A (TW ct L f) sz)) 0 0 (va_A (TW ct L f) sz) := by
  refine Met.ofW (cc := b_WM_leave) (maxL := 3) (ret := (some .int)) (by decide) rfl ?_
  intro p e s m args below meth c s₁ B hml hv
  obtain ⟨rfl, hsz, hP, hK, hD0, hN⟩ := hv
  have hx := B.exec
  have hb := B.bytes
  have hr := B.returns
  have hts := atoms_spec (ws := (.code y_WM_leave b_WM_leave 3 (some .int) :: TB)) B.pre
  have htb := fun w (h : w ∈ TB) => hts w (List.mem_cons_of_mem _ h)
  have hown : s.vm.findClass R_WM = some m.cls := findClass_of_methodNamed B.named
  have hlocks := B.notSynchronized
  have hl := lv_entry ([.ref q0, .int p_0]) (n := 3) (Nat.le_of_ble_eq_true rfl)
  rw [lg_entry_eq]
  generalize (lg_sl ([.ref q0, .int p_0]) ++ List.replicate (3 - (lg_sl ([.ref q0, .int p_0])).length) Slot.unset).toArray = ls at hl ⊢
  have hl : lv_has ls 3 [(0, .ref q0), (1, .int p_0)] := hl
  subst hsz
  have hD := hD0.self (sz := s.heap.size)
  obtain ⟨A, hAe⟩ : ∃ A, va_A (TW ct L f) s.heap.size = A := ⟨_, rfl⟩
  rw [hAe] at hD
  have hA : ∀ q : Nat, s.heap.size ≤ q → A q := fun q h => by rw [← hAe]; exact Or.inr h
  have hS : va_S A s.heap s.heap [] := va_S.rf
  have hA_0 : Ext [] L f L f := Ext.rf
  suffices hGo : ∀ (H : Heap) (locs : List Loc), va_P (dC, dI) vwCl (TW ct L f) H → va_S A s.heap H locs → W p l e (headSpec (.code y_WM_leave b_WM_leave 3 (some .int) :: TB) ({ frames := 1, cells := 0, slots := 0, locals := 21 })).room s m [.ref q0, .int p_0].toArray below meth c H locs 0 0 (MQ below (va_Qi (fun r (u : TSt) => Ok u.1 u.2 ∧ Ext W_WM_leave_t L f u.1 u.2 ∧ (True)) (fun (u : TSt) t => va_P (dC, dI) vwCl (TW ct u.1 u.2) t.heap ∧ va_K (dC, dI) vwCl (TT ct) t ∧ va_D (va_A (TW ct L f) s.heap.size) (TW ct u.1 u.2)) (va_A (TW ct L f) s.heap.size)) [.ref q0, .int p_0].toArray s 0 0 (va_A (TW ct L f) s.heap.size)) (F0 m 0 ls []) from hGo _ _ hP hS
  clear hP hS
  intro H locs hP hS
  refine lv_aload_n hx hb d_WM_leave_0 rfl (lv_at hl 0 rfl) ?_
  refine lv_iload_n hx hb d_WM_leave_1 rfl (lv_at hl 1 rfl) ?_
  refine va_csq (va_Run.run (va_runV (As := [.int p_0]) (rest := []) ⟨hx, hb, hml, hown, htb⟩ (c_WM_manAt_t l dC dI ct L f hO_0 q0 m0 p_0) (cwV 1 htb (gd_V tw_54 tw_55 tw_56 tw_1 tw_53) rfl rfl rfl (by decide +kernel) ⟨Nat.le_of_ble_eq_true rfl, Nat.le_of_ble_eq_true rfl⟩) ⟨pr_blind, tw_recv hK hP m0 rfl rfl, pr_pre hP hK hN⟩ rfl rfl hl.1 rfl (lv_room (Nat.le_of_ble_eq_true rfl)) d_WM_leave_2 ⟨Nat.le_of_ble_eq_true rfl, Nat.le_of_ble_eq_true rfl⟩)) (fun r_1 er_1 => ?_)
  rcases er_1 with rfl | ⟨q_1, rfl, m_1⟩
  · refine hb_tv .null rfl ?_
    refine lv_astore_nN (lv' := [(2, .null), (0, .ref q0), (1, .int p_0)]) hx hb d_WM_leave_5 rfl hl (by decide) rfl (fun ls hl => ?_)
    refine lv_aload_nN hx hb d_WM_leave_6 rfl (lv_at hl 0 rfl) ?_
    refine lv_ifnonnullN hx hb d_WM_leave_7 ?_
    refine lv_iconst (v := (-1)) hx hb d_WM_leave_10 (by decide +kernel) ?_
    refine W.widen (k := 0) (n := 0) (Nat.le_of_ble_eq_true rfl) (Nat.le_of_ble_eq_true rfl) ?_
    exact W.iret (v := (-1)) hx hb hr (fun t ht hW => ⟨⟨(-1), (L, f), rfl, ⟨hO_0, hA_0.mono (by decide +kernel), trivial⟩, by rw [ht]; exact hP, va_K.moved hW.alike hK, by rw [hAe]; exact hD⟩, by rw [hAe]; exact hS.F ht⟩) (by rw [hAe]; exact hS.2.2) d_WM_leave_11
  · refine hb_tv (.ref q_1) rfl ?_
    refine lv_astore_n (lv' := [(2, .ref q_1), (0, .ref q0), (1, .int p_0)]) hx hb d_WM_leave_5 rfl hl (by decide) rfl (fun ls hl => ?_)
    refine lv_aload_n hx hb d_WM_leave_6 rfl (lv_at hl 0 rfl) ?_
    refine lv_ifnonnull (tgt := 12) hx hb d_WM_leave_7 (by decide) ?_
    refine lv_aload_n hx hb d_WM_leave_12 rfl (lv_at hl 0 rfl) ?_
    refine tw_geti (D := (dC, dI)) (C := R_Mn) (T := F_Mn) (N := 8) (ci := 2) (kd := 20) (ct := ct) hx hb htb i_Mn hown hK hP hO_0 m_1 rfl rfl 2 (by decide) (htb (.fieldLink R_WM 145 "WaterMen$Man" "turnStairs" "I") tw_73) (fun _ h9 => h9) rfl d_WM_leave_13 (fun x_2 e_2 b_2 => ?_)
    refine lv_iconst (v := (-1)) hx hb d_WM_leave_16 (by decide +kernel) ?_
    refine lv_icmp_ne (tgt := 23) hx hb d_WM_leave_17 (by decide) (fun c_3 => ?_) (fun c_3 => ?_)
    · refine lv_aload_n hx hb d_WM_leave_23 rfl (lv_at hl 0 rfl) ?_
      refine lv_iconst (v := (-1)) hx hb d_WM_leave_24 (by decide +kernel) ?_
      refine tw_puti (v := (-1)) (D := (dC, dI)) (C := R_Mn) (T := F_Mn) (N := 8) (ci := 2) (kd := 20) (ct := ct) (ty := .int) hx hb htb i_Mn t_Mn t_Mn_ok n_Mn hown hK hP hD hS hO_0 m_1 rfl rfl 2 (by decide) (htb (.fieldLink R_WM 145 "WaterMen$Man" "turnStairs" "I") tw_73) (fun _ h9 => h9) rfl (by decide +kernel) rfl rfl rfl (i32_full _) d_WM_leave_25 (fun f_1 H locs hP hD hS hO_1 hE_1 w_4 => ?_)
      have hA_1 := hA_0.trans hE_1
      refine lv_iconst (v := 1) hx hb d_WM_leave_28 (by decide +kernel) ?_
      refine W.widen (k := 0) (n := 0) (Nat.le_of_ble_eq_true rfl) (Nat.le_of_ble_eq_true rfl) ?_
      exact W.iret (v := 1) hx hb hr (fun t ht hW => ⟨⟨1, (L, f_1), rfl, ⟨hO_1, hA_1.mono (by decide +kernel), trivial⟩, by rw [ht]; exact hP, va_K.moved hW.alike hK, by rw [hAe]; exact hD⟩, by rw [hAe]; exact hS.F ht⟩) (by rw [hAe]; exact hS.2.2) d_WM_leave_29
    · refine lv_bipush (v := (-2)) hx hb d_WM_leave_20 (by decide +kernel) ?_
      refine W.widen (k := 0) (n := 0) (Nat.le_of_ble_eq_true rfl) (Nat.le_of_ble_eq_true rfl) ?_
      exact W.iret (v := (-2)) hx hb hr (fun t ht hW => ⟨⟨(-2), (L, f), rfl, ⟨hO_0, hA_0.mono (by decide +kernel), trivial⟩, by rw [ht]; exact hP, va_K.moved hW.alike hK, by rw [hAe]; exact hD⟩, by rw [hAe]; exact hS.F ht⟩) (by rw [hAe]; exact hS.2.2) d_WM_leave_22
def W_WM_end_t : List (Nat × Nat) := [(10, 1)]
set_option maxHeartbeats 4000000 in
set_option maxRecDepth 100000 in
theorem c_WM_end_t (l : Launch) (dC : Nat → ClassId) (dI : Nat → Nat → Nat) (ct : Nat → ClassId) (L : List Nat) (f : TF) (hO_0 : Ok L f) (q0 : Nat) (m0 : q0 ∈ L ∧ tk f q0 = 0) (sz : Nat) (p_0 : Int32)  : Met l y_WM_end (.code y_WM_end b_WM_end 2 (some .int) :: TB) ({ frames := 0, cells := 0, slots := 0, locals := 0 }) (va_Pc [.ref q0, .int p_0] (PC dC dI (TW ct L f) (TT ct) sz)) (va_Qi (fun r (u : TSt) => Ok u.1 u.2 ∧ Ext W_WM_end_t L f u.1 u.2 ∧ (True)) (fun (u : TSt) t => va_P (dC, dI) vwCl (TW ct u.1 u.2) t.heap ∧ va_K (dC, dI) vwCl (TT ct) t ∧ va_D (va_A (TW ct L f) sz) (TW ct u.1 u.2)) (va_A (TW ct L f) sz)) 0 0 (va_A (TW ct L f) sz) := by
  refine Met.ofW (cc := b_WM_end) (maxL := 2) (ret := (some .int)) (by decide) rfl ?_
  intro p e s m args below meth c s₁ B hml hv
  obtain ⟨rfl, hsz, hP, hK, hD0, hN⟩ := hv
  have hx := B.exec
  have hb := B.bytes
  have hr := B.returns
  have hts := atoms_spec (ws := (.code y_WM_end b_WM_end 2 (some .int) :: TB)) B.pre
  have htb := fun w (h : w ∈ TB) => hts w (List.mem_cons_of_mem _ h)
  have hown : s.vm.findClass R_WM = some m.cls := findClass_of_methodNamed B.named
  have hlocks := B.notSynchronized
  have hl := lv_entry ([.ref q0, .int p_0]) (n := 2) (Nat.le_of_ble_eq_true rfl)
  rw [lg_entry_eq]
  generalize (lg_sl ([.ref q0, .int p_0]) ++ List.replicate (2 - (lg_sl ([.ref q0, .int p_0])).length) Slot.unset).toArray = ls at hl ⊢
  have hl : lv_has ls 2 [(0, .ref q0), (1, .int p_0)] := hl
  subst hsz
  have hD := hD0.self (sz := s.heap.size)
  obtain ⟨A, hAe⟩ : ∃ A, va_A (TW ct L f) s.heap.size = A := ⟨_, rfl⟩
  rw [hAe] at hD
  have hA : ∀ q : Nat, s.heap.size ≤ q → A q := fun q h => by rw [← hAe]; exact Or.inr h
  have hS : va_S A s.heap s.heap [] := va_S.rf
  have hA_0 : Ext [] L f L f := Ext.rf
  suffices hGo : ∀ (H : Heap) (locs : List Loc), va_P (dC, dI) vwCl (TW ct L f) H → va_S A s.heap H locs → W p l e (headSpec (.code y_WM_end b_WM_end 2 (some .int) :: TB) ({ frames := 0, cells := 0, slots := 0, locals := 0 })).room s m [.ref q0, .int p_0].toArray below meth c H locs 0 0 (MQ below (va_Qi (fun r (u : TSt) => Ok u.1 u.2 ∧ Ext W_WM_end_t L f u.1 u.2 ∧ (True)) (fun (u : TSt) t => va_P (dC, dI) vwCl (TW ct u.1 u.2) t.heap ∧ va_K (dC, dI) vwCl (TT ct) t ∧ va_D (va_A (TW ct L f) s.heap.size) (TW ct u.1 u.2)) (va_A (TW ct L f) s.heap.size)) [.ref q0, .int p_0].toArray s 0 0 (va_A (TW ct L f) s.heap.size)) (F0 m 0 ls []) from hGo _ _ hP hS
  clear hP hS
  intro H locs hP hS
  refine lv_iload_n hx hb d_WM_end_0 rfl (lv_at hl 1 rfl) ?_
  refine lv_if_lt (tgt := 15) hx hb d_WM_end_1 (by decide) (fun c_1 => ?_) (fun c_1 => ?_)
  · refine lv_iconst (v := (-1)) hx hb d_WM_end_15 (by decide +kernel) ?_
    refine W.widen (k := 0) (n := 0) (Nat.le_of_ble_eq_true rfl) (Nat.le_of_ble_eq_true rfl) ?_
    exact W.iret (v := (-1)) hx hb hr (fun t ht hW => ⟨⟨(-1), (L, f), rfl, ⟨hO_0, hA_0.mono (by decide +kernel), trivial⟩, by rw [ht]; exact hP, va_K.moved hW.alike hK, by rw [hAe]; exact hD⟩, by rw [hAe]; exact hS.F ht⟩) (by rw [hAe]; exact hS.2.2) d_WM_end_16
  · refine lv_iload_n hx hb d_WM_end_4 rfl (lv_at hl 1 rfl) ?_
    refine lv_aload_n hx hb d_WM_end_5 rfl (lv_at hl 0 rfl) ?_
    refine tw_getr (D := (dC, dI)) (C := R_WM) (T := F_WM) (N := 13) (ci := 0) (kd := 0) (ct := ct) hx hb htb i_WM hown hK hP hO_0 m0 rfl rfl 5 (by decide) (htb (.fieldLink R_WM 43 "WaterMen" "tape" "LWaterMen$Tape;") tw_74) (fun _ h9 => h9) rfl d_WM_end_6 (fun q_2 e_2 m_2 => ?_)
    refine tw_geti (D := (dC, dI)) (C := R_Tp) (T := F_Tp) (N := 6) (ci := 4) (kd := 10) (ct := ct) hx hb htb i_Tp hown hK hP hO_0 m_2 rfl rfl 1 (by decide) (htb (.fieldLink R_WM 207 "WaterMen$Tape" "length" "I") tw_75) (fun _ h9 => h9) rfl d_WM_end_9 (fun x_3 e_3 b_3 => ?_)
    refine lv_icmp_le (tgt := 17) hx hb d_WM_end_12 (by decide) (fun c_4 => ?_) (fun c_4 => ?_)
    · refine lv_aload_n hx hb d_WM_end_17 rfl (lv_at hl 0 rfl) ?_
      refine tw_getR (D := (dC, dI)) (C := R_WM) (T := F_WM) (N := 13) (ci := 0) (kd := 0) (ct := ct) hx hb htb i_WM hown hK hP m0 rfl rfl 5 e_2 (by decide) (htb (.fieldLink R_WM 43 "WaterMen" "tape" "LWaterMen$Tape;") tw_74) (fun _ h9 => h9) rfl d_WM_end_18 ?_
      refine hb_tv (.ref q_2) rfl ?_
      refine lv_iload_n hx hb d_WM_end_21 rfl (lv_at hl 1 rfl) ?_
      refine tw_puti (v := p_0) (D := (dC, dI)) (C := R_Tp) (T := F_Tp) (N := 6) (ci := 4) (kd := 10) (ct := ct) (ty := .int) hx hb htb i_Tp t_Tp t_Tp_ok n_Tp hown hK hP hD hS hO_0 m_2 rfl rfl 1 (by decide) (htb (.fieldLink R_WM 207 "WaterMen$Tape" "length" "I") tw_75) (fun _ h9 => h9) rfl (by decide +kernel) rfl rfl rfl ⟨c_1, (show ¬ (400 < p_0) from by have z0 : (0 : Int32).toInt = 0 := (by decide +kernel); have z1 : (400 : Int32).toInt = 400 := (by decide +kernel); have r0 := fb_rng (p_0); have r1 := fb_rng (x_3); have e0 := c_1; rw [Int32.lt_iff_toInt_lt] at e0; have e1 := c_4; rw [Int32.le_iff_toInt_le] at e1; have e2 := b_3.1; rw [Int32.lt_iff_toInt_lt] at e2; have e3 := b_3.2; rw [Int32.lt_iff_toInt_lt] at e3; rw [Int32.lt_iff_toInt_lt]; omega)⟩ d_WM_end_22 (fun f_1 H locs hP hD hS hO_1 hE_1 w_5 => ?_)
      have hA_1 := hA_0.trans hE_1
      refine lv_iload_n hx hb d_WM_end_25 rfl (lv_at hl 1 rfl) ?_
      refine W.widen (k := 0) (n := 0) (Nat.le_of_ble_eq_true rfl) (Nat.le_of_ble_eq_true rfl) ?_
      exact W.iret (v := p_0) hx hb hr (fun t ht hW => ⟨⟨p_0, (L, f_1), rfl, ⟨hO_1, hA_1.mono (by decide +kernel), trivial⟩, by rw [ht]; exact hP, va_K.moved hW.alike hK, by rw [hAe]; exact hD⟩, by rw [hAe]; exact hS.F ht⟩) (by rw [hAe]; exact hS.2.2) d_WM_end_26
    · refine lv_iconst (v := (-1)) hx hb d_WM_end_15 (by decide +kernel) ?_
      refine W.widen (k := 0) (n := 0) (Nat.le_of_ble_eq_true rfl) (Nat.le_of_ble_eq_true rfl) ?_
      exact W.iret (v := (-1)) hx hb hr (fun t ht hW => ⟨⟨(-1), (L, f), rfl, ⟨hO_0, hA_0.mono (by decide +kernel), trivial⟩, by rw [ht]; exact hP, va_K.moved hW.alike hK, by rw [hAe]; exact hD⟩, by rw [hAe]; exact hS.F ht⟩) (by rw [hAe]; exact hS.2.2) d_WM_end_16
set_option maxHeartbeats 4000000 in
set_option maxRecDepth 100000 in
theorem c_WM_tripAt_t (l : Launch) (dC : Nat → ClassId) (dI : Nat → Nat → Nat) (ct : Nat → ClassId) (L : List Nat) (f : TF) (hO_0 : Ok L f) (q0 : Nat) (m0 : q0 ∈ L ∧ tk f q0 = 0) (p_0 : Int32)  : Met l y_WM_tripAt (.code y_WM_tripAt b_WM_tripAt 2 (some (.object "WaterMen$Trip")) :: TB) ({ frames := 0, cells := 0, slots := 0, locals := 0 }) (va_Pc [.ref q0, .int p_0] (PR dC dI (TW ct L f) (TT ct))) (va_Sq (fun r => r = none ∨ ∃ b, r = some b ∧ b ∈ L ∧ tk f b = 25)) 0 0 (fun _ => False) := by
  refine Met.ofW (cc := b_WM_tripAt) (maxL := 2) (ret := (some (.object "WaterMen$Trip"))) (by decide) rfl ?_
  intro p e s m args below meth c s₁ B hml hv
  obtain ⟨rfl, hP, hK, hN⟩ := hv
  have hx := B.exec
  have hb := B.bytes
  have hr := B.returns
  have hts := atoms_spec (ws := (.code y_WM_tripAt b_WM_tripAt 2 (some (.object "WaterMen$Trip")) :: TB)) B.pre
  have htb := fun w (h : w ∈ TB) => hts w (List.mem_cons_of_mem _ h)
  have hown : s.vm.findClass R_WM = some m.cls := findClass_of_methodNamed B.named
  have hlocks := B.notSynchronized
  have hl := lv_entry ([.ref q0, .int p_0]) (n := 2) (Nat.le_of_ble_eq_true rfl)
  rw [lg_entry_eq]
  generalize (lg_sl ([.ref q0, .int p_0]) ++ List.replicate (2 - (lg_sl ([.ref q0, .int p_0])).length) Slot.unset).toArray = ls at hl ⊢
  have hl : lv_has ls 2 [(0, .ref q0), (1, .int p_0)] := hl
  refine lv_iload_n hx hb d_WM_tripAt_0 rfl (lv_at hl 1 rfl) ?_
  refine lv_if_lt (tgt := 21) hx hb d_WM_tripAt_1 (by decide) (fun c_1 => ?_) (fun c_1 => ?_)
  · refine lv_null hx hb d_WM_tripAt_21 ?_
    exact W.aret (v := .null) (rt := .object "WaterMen$Trip") hx hb hr (Or.inl ⟨_, rfl⟩) (Or.inl rfl) (fun t ht hW => ⟨none, rfl, Or.inl rfl, ht⟩) t_nil d_WM_tripAt_22
  · refine lv_iload_n hx hb d_WM_tripAt_4 rfl (lv_at hl 1 rfl) ?_
    refine lv_aload_n hx hb d_WM_tripAt_5 rfl (lv_at hl 0 rfl) ?_
    refine tw_geti (D := (dC, dI)) (C := R_WM) (T := F_WM) (N := 13) (ci := 0) (kd := 0) (ct := ct) hx hb htb i_WM hown hK hP hO_0 m0 rfl rfl 9 (by decide) (htb (.fieldLink R_WM 243 "WaterMen" "tripCount" "I") tw_76) (fun _ h9 => h9) rfl d_WM_tripAt_6 (fun x_2 e_2 b_2 => ?_)
    refine lv_icmp_ge (tgt := 21) hx hb d_WM_tripAt_9 (by decide) (fun c_3 => ?_) (fun c_3 => ?_)
    · refine lv_null hx hb d_WM_tripAt_21 ?_
      exact W.aret (v := .null) (rt := .object "WaterMen$Trip") hx hb hr (Or.inl ⟨_, rfl⟩) (Or.inl rfl) (fun t ht hW => ⟨none, rfl, Or.inl rfl, ht⟩) t_nil d_WM_tripAt_22
    · refine lv_aload_n hx hb d_WM_tripAt_12 rfl (lv_at hl 0 rfl) ?_
      refine tw_getr (D := (dC, dI)) (C := R_WM) (T := F_WM) (N := 13) (ci := 0) (kd := 0) (ct := ct) hx hb htb i_WM hown hK hP hO_0 m0 rfl rfl 4 (by decide) (htb (.fieldLink R_WM 36 "WaterMen" "trips" "[LWaterMen$Trip;") tw_77) (fun _ h9 => h9) rfl d_WM_tripAt_13 (fun q_4 e_4 m_4 => ?_)
      refine lv_iload_n hx hb d_WM_tripAt_16 rfl (lv_at hl 1 rfl) ?_
      refine tw_aldq (ct := ct) hx hb hK hP hO_0 m_4 rfl rfl (by have z0 : (0 : Int32).toInt = 0 := (by decide +kernel); have z1 : (600 : Int32).toInt = 600 := (by decide +kernel); have r0 := fb_rng (p_0); have r1 := fb_rng (x_2); have e0 := c_1; rw [Int32.lt_iff_toInt_lt] at e0; have e1 := c_3; rw [Int32.le_iff_toInt_le] at e1; have e2 := b_2.1; rw [Int32.lt_iff_toInt_lt] at e2; have e3 := b_2.2; rw [Int32.lt_iff_toInt_lt] at e3; rw [vp_in_iff]; omega) d_WM_tripAt_17 (fun e_5 => ?_) (fun q_5 e_5 m_5 => ?_)
      · refine lv_goto (tgt := 22) hx hb d_WM_tripAt_18 (by decide) ?_
        exact W.aret (v := .null) (rt := .object "WaterMen$Trip") hx hb hr (Or.inl ⟨_, rfl⟩) (Or.inl rfl) (fun t ht hW => ⟨none, rfl, Or.inl rfl, ht⟩) t_nil d_WM_tripAt_22
      · refine lv_goto (tgt := 22) hx hb d_WM_tripAt_18 (by decide) ?_
        exact W.aret (v := .ref q_5) (rt := .object "WaterMen$Trip") hx hb hr (Or.inl ⟨_, rfl⟩) (Or.inr ⟨_, rfl⟩) (fun t ht hW => ⟨some q_5, rfl, Or.inr ⟨q_5, rfl, m_5⟩, ht⟩) t_nil d_WM_tripAt_22
set_option maxHeartbeats 4000000 in
set_option maxRecDepth 100000 in
theorem c_WM_trip_t (l : Launch) (dC : Nat → ClassId) (dI : Nat → Nat → Nat) (ct : Nat → ClassId) (L : List Nat) (f : TF) (hO_0 : Ok L f) (q0 : Nat) (m0 : q0 ∈ L ∧ tk f q0 = 0) (p_0 : Int32) (p_1 : Int32)  : Met l y_WM_trip (.code y_WM_trip b_WM_trip 4 (some .int) :: TB) ({ frames := 1, cells := 0, slots := 0, locals := 21 }) (va_Pc [.ref q0, .int p_0, .int p_1] (PR dC dI (TW ct L f) (TT ct))) (vp_Si (fun r => True)) 0 0 (fun _ => False) := by
  refine Met.ofW (cc := b_WM_trip) (maxL := 4) (ret := (some .int)) (by decide) rfl ?_
  intro p e s m args below meth c s₁ B hml hv
  obtain ⟨rfl, hP, hK, hN⟩ := hv
  have hx := B.exec
  have hb := B.bytes
  have hr := B.returns
  have hts := atoms_spec (ws := (.code y_WM_trip b_WM_trip 4 (some .int) :: TB)) B.pre
  have htb := fun w (h : w ∈ TB) => hts w (List.mem_cons_of_mem _ h)
  have hown : s.vm.findClass R_WM = some m.cls := findClass_of_methodNamed B.named
  have hlocks := B.notSynchronized
  have hl := lv_entry ([.ref q0, .int p_0, .int p_1]) (n := 4) (Nat.le_of_ble_eq_true rfl)
  rw [lg_entry_eq]
  generalize (lg_sl ([.ref q0, .int p_0, .int p_1]) ++ List.replicate (4 - (lg_sl ([.ref q0, .int p_0, .int p_1])).length) Slot.unset).toArray = ls at hl ⊢
  have hl : lv_has ls 4 [(0, .ref q0), (1, .int p_0), (2, .int p_1)] := hl
  refine lv_aload_n hx hb d_WM_trip_0 rfl (lv_at hl 0 rfl) ?_
  refine lv_iload_n hx hb d_WM_trip_1 rfl (lv_at hl 1 rfl) ?_
  refine va_csq (va_Run.run (va_runV (As := [.int p_0]) (rest := []) ⟨hx, hb, hml, hown, htb⟩ (c_WM_tripAt_t l dC dI ct L f hO_0 q0 m0 p_0) (cwV 1 htb (gd_V tw_79 tw_80 tw_81 tw_1 tw_78) rfl rfl rfl (by decide +kernel) ⟨Nat.le_of_ble_eq_true rfl, Nat.le_of_ble_eq_true rfl⟩) ⟨pr_blind, tw_recv hK hP m0 rfl rfl, pr_pre hP hK hN⟩ rfl rfl hl.1 rfl (lv_room (Nat.le_of_ble_eq_true rfl)) d_WM_trip_2 ⟨Nat.le_of_ble_eq_true rfl, Nat.le_of_ble_eq_true rfl⟩)) (fun r_1 er_1 => ?_)
  rcases er_1 with rfl | ⟨q_1, rfl, m_1⟩
  · refine hb_tv .null rfl ?_
    refine lv_astore_nN (lv' := [(3, .null), (0, .ref q0), (1, .int p_0), (2, .int p_1)]) hx hb d_WM_trip_5 rfl hl (by decide) rfl (fun ls hl => ?_)
    refine lv_aload_nN hx hb d_WM_trip_6 rfl (lv_at hl 0 rfl) ?_
    refine lv_ifnonnullN hx hb d_WM_trip_7 ?_
    refine lv_bipush (v := (-2)) hx hb d_WM_trip_10 (by decide +kernel) ?_
    exact W.iret (v := (-2)) hx hb hr (fun t ht hW => ⟨(-2), rfl, trivial, ht⟩) t_nil d_WM_trip_12
  · refine hb_tv (.ref q_1) rfl ?_
    refine lv_astore_n (lv' := [(3, .ref q_1), (0, .ref q0), (1, .int p_0), (2, .int p_1)]) hx hb d_WM_trip_5 rfl hl (by decide) rfl (fun ls hl => ?_)
    refine lv_aload_n hx hb d_WM_trip_6 rfl (lv_at hl 0 rfl) ?_
    refine lv_ifnonnull (tgt := 13) hx hb d_WM_trip_7 (by decide) ?_
    refine lv_iload_n hx hb d_WM_trip_13 rfl (lv_at hl 3 rfl) ?_
    by_cases c_2 : p_1 = 0
    · refine lv_tableIn (off := 46) (tgt := 60) hx hb d_WM_trip_14 (by rw [c_2]; decide +kernel) (by rw [c_2]; decide +kernel) (by rw [c_2]; decide +kernel) (by decide) ?_
      refine lv_aload_n hx hb d_WM_trip_60 rfl (lv_at hl 0 rfl) ?_
      refine tw_geti (D := (dC, dI)) (C := R_Tr) (T := F_Tr) (N := 8) (ci := 10) (kd := 25) (ct := ct) hx hb htb i_Tr hown hK hP hO_0 m_1 rfl rfl 0 (by decide) (htb (.fieldLink R_WM 303 "WaterMen$Trip" "boat" "I") tw_82) (fun _ h9 => h9) rfl d_WM_trip_61 (fun x_3 e_3 b_3 => ?_)
      exact W.iret (v := x_3) hx hb hr (fun t ht hW => ⟨x_3, rfl, trivial, ht⟩) t_nil d_WM_trip_64
    · by_cases c_4 : p_1 = 1
      · refine lv_tableIn (off := 51) (tgt := 65) hx hb d_WM_trip_14 (by rw [c_4]; decide +kernel) (by rw [c_4]; decide +kernel) (by rw [c_4]; decide +kernel) (by decide) ?_
        refine lv_aload_n hx hb d_WM_trip_65 rfl (lv_at hl 0 rfl) ?_
        refine tw_geti (D := (dC, dI)) (C := R_Tr) (T := F_Tr) (N := 8) (ci := 10) (kd := 25) (ct := ct) hx hb htb i_Tr hown hK hP hO_0 m_1 rfl rfl 1 (by decide) (htb (.fieldLink R_WM 306 "WaterMen$Trip" "man" "I") tw_83) (fun _ h9 => h9) rfl d_WM_trip_66 (fun x_5 e_5 b_5 => ?_)
        exact W.iret (v := x_5) hx hb hr (fun t ht hW => ⟨x_5, rfl, trivial, ht⟩) t_nil d_WM_trip_69
      · by_cases c_6 : p_1 = 2
        · refine lv_tableIn (off := 56) (tgt := 70) hx hb d_WM_trip_14 (by rw [c_6]; decide +kernel) (by rw [c_6]; decide +kernel) (by rw [c_6]; decide +kernel) (by decide) ?_
          refine lv_aload_n hx hb d_WM_trip_70 rfl (lv_at hl 0 rfl) ?_
          refine tw_geti (D := (dC, dI)) (C := R_Tr) (T := F_Tr) (N := 8) (ci := 10) (kd := 25) (ct := ct) hx hb htb i_Tr hown hK hP hO_0 m_1 rfl rfl 4 (by decide) (htb (.fieldLink R_WM 247 "WaterMen$Trip" "from" "I") tw_84) (fun _ h9 => h9) rfl d_WM_trip_71 (fun x_7 e_7 b_7 => ?_)
          exact W.iret (v := x_7) hx hb hr (fun t ht hW => ⟨x_7, rfl, trivial, ht⟩) t_nil d_WM_trip_74
        · by_cases c_8 : p_1 = 3
          · refine lv_tableIn (off := 61) (tgt := 75) hx hb d_WM_trip_14 (by rw [c_8]; decide +kernel) (by rw [c_8]; decide +kernel) (by rw [c_8]; decide +kernel) (by decide) ?_
            refine lv_aload_n hx hb d_WM_trip_75 rfl (lv_at hl 0 rfl) ?_
            refine tw_geti (D := (dC, dI)) (C := R_Tr) (T := F_Tr) (N := 8) (ci := 10) (kd := 25) (ct := ct) hx hb htb i_Tr hown hK hP hO_0 m_1 rfl rfl 5 (by decide) (htb (.fieldLink R_WM 250 "WaterMen$Trip" "to" "I") tw_85) (fun _ h9 => h9) rfl d_WM_trip_76 (fun x_9 e_9 b_9 => ?_)
            exact W.iret (v := x_9) hx hb hr (fun t ht hW => ⟨x_9, rfl, trivial, ht⟩) t_nil d_WM_trip_79
          · by_cases c_10 : p_1 = 4
            · refine lv_tableIn (off := 66) (tgt := 80) hx hb d_WM_trip_14 (by rw [c_10]; decide +kernel) (by rw [c_10]; decide +kernel) (by rw [c_10]; decide +kernel) (by decide) ?_
              refine lv_aload_n hx hb d_WM_trip_80 rfl (lv_at hl 0 rfl) ?_
              refine tw_geti (D := (dC, dI)) (C := R_Tr) (T := F_Tr) (N := 8) (ci := 10) (kd := 25) (ct := ct) hx hb htb i_Tr hown hK hP hO_0 m_1 rfl rfl 2 (by decide) (htb (.fieldLink R_WM 309 "WaterMen$Trip" "start" "I") tw_86) (fun _ h9 => h9) rfl d_WM_trip_81 (fun x_11 e_11 b_11 => ?_)
              exact W.iret (v := x_11) hx hb hr (fun t ht hW => ⟨x_11, rfl, trivial, ht⟩) t_nil d_WM_trip_84
            · by_cases c_12 : p_1 = 5
              · refine lv_tableIn (off := 71) (tgt := 85) hx hb d_WM_trip_14 (by rw [c_12]; decide +kernel) (by rw [c_12]; decide +kernel) (by rw [c_12]; decide +kernel) (by decide) ?_
                refine lv_aload_n hx hb d_WM_trip_85 rfl (lv_at hl 0 rfl) ?_
                refine tw_geti (D := (dC, dI)) (C := R_Tr) (T := F_Tr) (N := 8) (ci := 10) (kd := 25) (ct := ct) hx hb htb i_Tr hown hK hP hO_0 m_1 rfl rfl 6 (by decide) (htb (.fieldLink R_WM 257 "WaterMen$Trip" "arrival" "I") tw_87) (fun _ h9 => h9) rfl d_WM_trip_86 (fun x_13 e_13 b_13 => ?_)
                exact W.iret (v := x_13) hx hb hr (fun t ht hW => ⟨x_13, rfl, trivial, ht⟩) t_nil d_WM_trip_89
              · by_cases c_14 : p_1 = 6
                · refine lv_tableIn (off := 76) (tgt := 90) hx hb d_WM_trip_14 (by rw [c_14]; decide +kernel) (by rw [c_14]; decide +kernel) (by rw [c_14]; decide +kernel) (by decide) ?_
                  refine lv_aload_n hx hb d_WM_trip_90 rfl (lv_at hl 0 rfl) ?_
                  refine tw_geti (D := (dC, dI)) (C := R_Tr) (T := F_Tr) (N := 8) (ci := 10) (kd := 25) (ct := ct) hx hb htb i_Tr hown hK hP hO_0 m_1 rfl rfl 3 (by decide) (htb (.fieldLink R_WM 312 "WaterMen$Trip" "paid" "I") tw_88) (fun _ h9 => h9) rfl d_WM_trip_91 (fun x_15 e_15 b_15 => ?_)
                  exact W.iret (v := x_15) hx hb hr (fun t ht hW => ⟨x_15, rfl, trivial, ht⟩) t_nil d_WM_trip_94
                · by_cases c_16 : p_1 = 7
                  · refine lv_tableIn (off := 81) (tgt := 95) hx hb d_WM_trip_14 (by rw [c_16]; decide +kernel) (by rw [c_16]; decide +kernel) (by rw [c_16]; decide +kernel) (by decide) ?_
                    refine lv_aload_n hx hb d_WM_trip_95 rfl (lv_at hl 0 rfl) ?_
                    refine tw_geti (D := (dC, dI)) (C := R_Tr) (T := F_Tr) (N := 8) (ci := 10) (kd := 25) (ct := ct) hx hb htb i_Tr hown hK hP hO_0 m_1 rfl rfl 7 (by decide) (htb (.fieldLink R_WM 297 "WaterMen$Trip" "sank" "Z") tw_89) (fun _ h9 => h9) rfl d_WM_trip_96 (fun x_17 e_17 b_17 => ?_)
                    refine lv_if_eq (tgt := 106) hx hb d_WM_trip_99 (by decide) (fun c_18 => ?_) (fun c_18 => ?_)
                    · refine lv_iconst (v := 0) hx hb d_WM_trip_106 (by decide +kernel) ?_
                      exact W.iret (v := 0) hx hb hr (fun t ht hW => ⟨0, rfl, trivial, ht⟩) t_nil d_WM_trip_107
                    · refine lv_iconst (v := 1) hx hb d_WM_trip_102 (by decide +kernel) ?_
                      refine lv_goto (tgt := 107) hx hb d_WM_trip_103 (by decide) ?_
                      exact W.iret (v := 1) hx hb hr (fun t ht hW => ⟨1, rfl, trivial, ht⟩) t_nil d_WM_trip_107
                  · refine lv_tableOut (tgt := 108) hx hb d_WM_trip_14 (by have h0 := lv_neT c_2 (show (0 : Int32).toInt = 0 by decide +kernel); have h1 := lv_neT c_4 (show (1 : Int32).toInt = 1 by decide +kernel); have h2 := lv_neT c_6 (show (2 : Int32).toInt = 2 by decide +kernel); have h3 := lv_neT c_8 (show (3 : Int32).toInt = 3 by decide +kernel); have h4 := lv_neT c_10 (show (4 : Int32).toInt = 4 by decide +kernel); have h5 := lv_neT c_12 (show (5 : Int32).toInt = 5 by decide +kernel); have h6 := lv_neT c_14 (show (6 : Int32).toInt = 6 by decide +kernel); have h7 := lv_neT c_16 (show (7 : Int32).toInt = 7 by decide +kernel); omega) (by decide) ?_
                    refine lv_bipush (v := (-2)) hx hb d_WM_trip_108 (by decide +kernel) ?_
                    exact W.iret (v := (-2)) hx hb hr (fun t ht hW => ⟨(-2), rfl, trivial, ht⟩) t_nil d_WM_trip_110
set_option maxHeartbeats 4000000 in
set_option maxRecDepth 100000 in
theorem c_Bx_pensionerAt_t (l : Launch) (dC : Nat → ClassId) (dI : Nat → Nat → Nat) (ct : Nat → ClassId) (L : List Nat) (f : TF) (hO_0 : Ok L f) (q0 : Nat) (m0 : q0 ∈ L ∧ tk f q0 = 12) (p_0 : Int32)  : Met l y_Bx_pensionerAt (.code y_Bx_pensionerAt b_Bx_pensionerAt 2 (some (.object "WaterMen$Pensioner")) :: TB) ({ frames := 0, cells := 0, slots := 0, locals := 0 }) (va_Pc [.ref q0, .int p_0] (PR dC dI (TW ct L f) (TT ct))) (va_Sq (fun r => r = none ∨ ∃ b, r = some b ∧ b ∈ L ∧ tk f b = 26)) 0 0 (fun _ => False) := by
  refine Met.ofW (cc := b_Bx_pensionerAt) (maxL := 2) (ret := (some (.object "WaterMen$Pensioner"))) (by decide) rfl ?_
  intro p e s m args below meth c s₁ B hml hv
  obtain ⟨rfl, hP, hK, hN⟩ := hv
  have hx := B.exec
  have hb := B.bytes
  have hr := B.returns
  have hts := atoms_spec (ws := (.code y_Bx_pensionerAt b_Bx_pensionerAt 2 (some (.object "WaterMen$Pensioner")) :: TB)) B.pre
  have htb := fun w (h : w ∈ TB) => hts w (List.mem_cons_of_mem _ h)
  have hown : s.vm.findClass R_Bx = some m.cls := findClass_of_methodNamed B.named
  have hlocks := B.notSynchronized
  have hl := lv_entry ([.ref q0, .int p_0]) (n := 2) (Nat.le_of_ble_eq_true rfl)
  rw [lg_entry_eq]
  generalize (lg_sl ([.ref q0, .int p_0]) ++ List.replicate (2 - (lg_sl ([.ref q0, .int p_0])).length) Slot.unset).toArray = ls at hl ⊢
  have hl : lv_has ls 2 [(0, .ref q0), (1, .int p_0)] := hl
  refine lv_iload_n hx hb d_Bx_pensionerAt_0 rfl (lv_at hl 1 rfl) ?_
  refine lv_if_lt (tgt := 21) hx hb d_Bx_pensionerAt_1 (by decide) (fun c_1 => ?_) (fun c_1 => ?_)
  · refine lv_null hx hb d_Bx_pensionerAt_21 ?_
    exact W.aret (v := .null) (rt := .object "WaterMen$Pensioner") hx hb hr (Or.inl ⟨_, rfl⟩) (Or.inl rfl) (fun t ht hW => ⟨none, rfl, Or.inl rfl, ht⟩) t_nil d_Bx_pensionerAt_22
  · refine lv_iload_n hx hb d_Bx_pensionerAt_4 rfl (lv_at hl 1 rfl) ?_
    refine lv_aload_n hx hb d_Bx_pensionerAt_5 rfl (lv_at hl 0 rfl) ?_
    refine tw_geti (D := (dC, dI)) (C := R_Bx) (T := F_Bx) (N := 7) (ci := 5) (kd := 12) (ct := ct) hx hb htb i_Bx hown hK hP hO_0 m0 rfl rfl 6 (by decide) (htb (.fieldLink R_Bx 29 "WaterMen$Box" "pensionerCount" "I") tw_91) (fun _ h9 => h9) rfl d_Bx_pensionerAt_6 (fun x_2 e_2 b_2 => ?_)
    refine lv_icmp_ge (tgt := 21) hx hb d_Bx_pensionerAt_9 (by decide) (fun c_3 => ?_) (fun c_3 => ?_)
    · refine lv_null hx hb d_Bx_pensionerAt_21 ?_
      exact W.aret (v := .null) (rt := .object "WaterMen$Pensioner") hx hb hr (Or.inl ⟨_, rfl⟩) (Or.inl rfl) (fun t ht hW => ⟨none, rfl, Or.inl rfl, ht⟩) t_nil d_Bx_pensionerAt_22
    · refine lv_aload_n hx hb d_Bx_pensionerAt_12 rfl (lv_at hl 0 rfl) ?_
      refine tw_getr (D := (dC, dI)) (C := R_Bx) (T := F_Bx) (N := 7) (ci := 5) (kd := 12) (ct := ct) hx hb htb i_Bx hown hK hP hO_0 m0 rfl rfl 5 (by decide) (htb (.fieldLink R_Bx 17 "WaterMen$Box" "pensioners" "[LWaterMen$Pensioner;") tw_92) (fun _ h9 => h9) rfl d_Bx_pensionerAt_13 (fun q_4 e_4 m_4 => ?_)
      refine lv_iload_n hx hb d_Bx_pensionerAt_16 rfl (lv_at hl 1 rfl) ?_
      refine tw_aldq (ct := ct) hx hb hK hP hO_0 m_4 rfl rfl (by have z0 : (0 : Int32).toInt = 0 := (by decide +kernel); have z1 : (30 : Int32).toInt = 30 := (by decide +kernel); have r0 := fb_rng (p_0); have r1 := fb_rng (x_2); have e0 := c_1; rw [Int32.lt_iff_toInt_lt] at e0; have e1 := c_3; rw [Int32.le_iff_toInt_le] at e1; have e2 := b_2.1; rw [Int32.lt_iff_toInt_lt] at e2; have e3 := b_2.2; rw [Int32.lt_iff_toInt_lt] at e3; rw [vp_in_iff]; omega) d_Bx_pensionerAt_17 (fun e_5 => ?_) (fun q_5 e_5 m_5 => ?_)
      · refine lv_goto (tgt := 22) hx hb d_Bx_pensionerAt_18 (by decide) ?_
        exact W.aret (v := .null) (rt := .object "WaterMen$Pensioner") hx hb hr (Or.inl ⟨_, rfl⟩) (Or.inl rfl) (fun t ht hW => ⟨none, rfl, Or.inl rfl, ht⟩) t_nil d_Bx_pensionerAt_22
      · refine lv_goto (tgt := 22) hx hb d_Bx_pensionerAt_18 (by decide) ?_
        exact W.aret (v := .ref q_5) (rt := .object "WaterMen$Pensioner") hx hb hr (Or.inl ⟨_, rfl⟩) (Or.inr ⟨_, rfl⟩) (fun t ht hW => ⟨some q_5, rfl, Or.inr ⟨q_5, rfl, m_5⟩, ht⟩) t_nil d_Bx_pensionerAt_22
set_option maxHeartbeats 4000000 in
set_option maxRecDepth 100000 in
theorem c_WM_pensioner_t (l : Launch) (dC : Nat → ClassId) (dI : Nat → Nat → Nat) (ct : Nat → ClassId) (L : List Nat) (f : TF) (hO_0 : Ok L f) (q0 : Nat) (m0 : q0 ∈ L ∧ tk f q0 = 0) (p_0 : Int32) (p_1 : Int32)  : Met l y_WM_pensioner (.code y_WM_pensioner b_WM_pensioner 4 (some .int) :: TB) ({ frames := 1, cells := 0, slots := 0, locals := 21 }) (va_Pc [.ref q0, .int p_0, .int p_1] (PR dC dI (TW ct L f) (TT ct))) (vp_Si (fun r => True)) 0 0 (fun _ => False) := by
  refine Met.ofW (cc := b_WM_pensioner) (maxL := 4) (ret := (some .int)) (by decide) rfl ?_
  intro p e s m args below meth c s₁ B hml hv
  obtain ⟨rfl, hP, hK, hN⟩ := hv
  have hx := B.exec
  have hb := B.bytes
  have hr := B.returns
  have hts := atoms_spec (ws := (.code y_WM_pensioner b_WM_pensioner 4 (some .int) :: TB)) B.pre
  have htb := fun w (h : w ∈ TB) => hts w (List.mem_cons_of_mem _ h)
  have hown : s.vm.findClass R_WM = some m.cls := findClass_of_methodNamed B.named
  have hlocks := B.notSynchronized
  have hl := lv_entry ([.ref q0, .int p_0, .int p_1]) (n := 4) (Nat.le_of_ble_eq_true rfl)
  rw [lg_entry_eq]
  generalize (lg_sl ([.ref q0, .int p_0, .int p_1]) ++ List.replicate (4 - (lg_sl ([.ref q0, .int p_0, .int p_1])).length) Slot.unset).toArray = ls at hl ⊢
  have hl : lv_has ls 4 [(0, .ref q0), (1, .int p_0), (2, .int p_1)] := hl
  refine lv_aload_n hx hb d_WM_pensioner_0 rfl (lv_at hl 0 rfl) ?_
  refine tw_getr (D := (dC, dI)) (C := R_WM) (T := F_WM) (N := 13) (ci := 0) (kd := 0) (ct := ct) hx hb htb i_WM hown hK hP hO_0 m0 rfl rfl 6 (by decide) (htb (.fieldLink R_WM 50 "WaterMen" "box" "LWaterMen$Box;") tw_90) (fun _ h9 => h9) rfl d_WM_pensioner_1 (fun q_1 e_1 m_1 => ?_)
  refine lv_iload_n hx hb d_WM_pensioner_4 rfl (lv_at hl 1 rfl) ?_
  refine va_csq (va_Run.run (va_runV (As := [.int p_0]) (rest := []) ⟨hx, hb, hml, hown, htb⟩ (c_Bx_pensionerAt_t l dC dI ct L f hO_0 q_1 m_1 p_0) (cwV 1 htb (gd_V tw_95 tw_96 tw_97 tw_94 tw_93) rfl rfl rfl (by decide +kernel) ⟨Nat.le_of_ble_eq_true rfl, Nat.le_of_ble_eq_true rfl⟩) ⟨pr_blind, tw_recv hK hP m_1 rfl rfl, pr_pre hP hK hN⟩ rfl rfl hl.1 rfl (lv_room (Nat.le_of_ble_eq_true rfl)) d_WM_pensioner_5 ⟨Nat.le_of_ble_eq_true rfl, Nat.le_of_ble_eq_true rfl⟩)) (fun r_2 er_2 => ?_)
  rcases er_2 with rfl | ⟨q_2, rfl, m_2⟩
  · refine hb_tv .null rfl ?_
    refine lv_astore_nN (lv' := [(3, .null), (0, .ref q0), (1, .int p_0), (2, .int p_1)]) hx hb d_WM_pensioner_8 rfl hl (by decide) rfl (fun ls hl => ?_)
    refine lv_aload_nN hx hb d_WM_pensioner_9 rfl (lv_at hl 0 rfl) ?_
    refine lv_ifnonnullN hx hb d_WM_pensioner_10 ?_
    refine lv_iconst (v := (-1)) hx hb d_WM_pensioner_13 (by decide +kernel) ?_
    exact W.iret (v := (-1)) hx hb hr (fun t ht hW => ⟨(-1), rfl, trivial, ht⟩) t_nil d_WM_pensioner_14
  · refine hb_tv (.ref q_2) rfl ?_
    refine lv_astore_n (lv' := [(3, .ref q_2), (0, .ref q0), (1, .int p_0), (2, .int p_1)]) hx hb d_WM_pensioner_8 rfl hl (by decide) rfl (fun ls hl => ?_)
    refine lv_aload_n hx hb d_WM_pensioner_9 rfl (lv_at hl 0 rfl) ?_
    refine lv_ifnonnull (tgt := 15) hx hb d_WM_pensioner_10 (by decide) ?_
    refine lv_iload_n hx hb d_WM_pensioner_15 rfl (lv_at hl 3 rfl) ?_
    by_cases c_3 : p_1 = 0
    · refine lv_tableIn (off := 28) (tgt := 44) hx hb d_WM_pensioner_16 (by rw [c_3]; decide +kernel) (by rw [c_3]; decide +kernel) (by rw [c_3]; decide +kernel) (by decide) ?_
      refine lv_aload_n hx hb d_WM_pensioner_44 rfl (lv_at hl 0 rfl) ?_
      refine tw_geti (D := (dC, dI)) (C := R_Pn) (T := F_Pn) (N := 3) (ci := 6) (kd := 26) (ct := ct) hx hb htb i_Pn hown hK hP hO_0 m_2 rfl rfl 0 (by decide) (htb (.fieldLink R_WM 329 "WaterMen$Pensioner" "pension" "I") tw_98) (fun _ h9 => h9) rfl d_WM_pensioner_45 (fun x_4 e_4 b_4 => ?_)
      exact W.iret (v := x_4) hx hb hr (fun t ht hW => ⟨x_4, rfl, trivial, ht⟩) t_nil d_WM_pensioner_48
    · by_cases c_5 : p_1 = 1
      · refine lv_tableIn (off := 33) (tgt := 49) hx hb d_WM_pensioner_16 (by rw [c_5]; decide +kernel) (by rw [c_5]; decide +kernel) (by rw [c_5]; decide +kernel) (by decide) ?_
        refine lv_aload_n hx hb d_WM_pensioner_49 rfl (lv_at hl 0 rfl) ?_
        refine tw_geti (D := (dC, dI)) (C := R_Pn) (T := F_Pn) (N := 3) (ci := 6) (kd := 26) (ct := ct) hx hb htb i_Pn hown hK hP hO_0 m_2 rfl rfl 1 (by decide) (htb (.fieldLink R_WM 334 "WaterMen$Pensioner" "end" "I") tw_99) (fun _ h9 => h9) rfl d_WM_pensioner_50 (fun x_6 e_6 b_6 => ?_)
        exact W.iret (v := x_6) hx hb hr (fun t ht hW => ⟨x_6, rfl, trivial, ht⟩) t_nil d_WM_pensioner_53
      · by_cases c_7 : p_1 = 2
        · refine lv_tableIn (off := 38) (tgt := 54) hx hb d_WM_pensioner_16 (by rw [c_7]; decide +kernel) (by rw [c_7]; decide +kernel) (by rw [c_7]; decide +kernel) (by decide) ?_
          refine lv_aload_n hx hb d_WM_pensioner_54 rfl (lv_at hl 0 rfl) ?_
          refine tw_geti (D := (dC, dI)) (C := R_Pn) (T := F_Pn) (N := 3) (ci := 6) (kd := 26) (ct := ct) hx hb htb i_Pn hown hK hP hO_0 m_2 rfl rfl 2 (by decide) (htb (.fieldLink R_WM 337 "WaterMen$Pensioner" "got" "I") tw_100) (fun _ h9 => h9) rfl d_WM_pensioner_55 (fun x_8 e_8 b_8 => ?_)
          exact W.iret (v := x_8) hx hb hr (fun t ht hW => ⟨x_8, rfl, trivial, ht⟩) t_nil d_WM_pensioner_58
        · refine lv_tableOut (tgt := 59) hx hb d_WM_pensioner_16 (by have h0 := lv_neT c_3 (show (0 : Int32).toInt = 0 by decide +kernel); have h1 := lv_neT c_5 (show (1 : Int32).toInt = 1 by decide +kernel); have h2 := lv_neT c_7 (show (2 : Int32).toInt = 2 by decide +kernel); omega) (by decide) ?_
          refine lv_iconst (v := (-1)) hx hb d_WM_pensioner_59 (by decide +kernel) ?_
          exact W.iret (v := (-1)) hx hb hr (fun t ht hW => ⟨(-1), rfl, trivial, ht⟩) t_nil d_WM_pensioner_60
set_option maxHeartbeats 4000000 in
set_option maxRecDepth 100000 in
theorem c_WM_hourNow_t (l : Launch) (dC : Nat → ClassId) (dI : Nat → Nat → Nat) (ct : Nat → ClassId) (L : List Nat) (f : TF) (hO_0 : Ok L f) (q0 : Nat) (m0 : q0 ∈ L ∧ tk f q0 = 0)   : Met l y_WM_hourNow (.code y_WM_hourNow b_WM_hourNow 1 (some .int) :: TB) ({ frames := 0, cells := 0, slots := 0, locals := 0 }) (va_Pc [.ref q0] (PR dC dI (TW ct L f) (TT ct))) (vp_Si (fun r => (¬ (r < 0) ∧ ¬ (11 < r) ∧ True))) 0 0 (fun _ => False) := by
  refine Met.ofW (cc := b_WM_hourNow) (maxL := 1) (ret := (some .int)) (by decide) rfl ?_
  intro p e s m args below meth c s₁ B hml hv
  obtain ⟨rfl, hP, hK, hN⟩ := hv
  have hx := B.exec
  have hb := B.bytes
  have hr := B.returns
  have hts := atoms_spec (ws := (.code y_WM_hourNow b_WM_hourNow 1 (some .int) :: TB)) B.pre
  have htb := fun w (h : w ∈ TB) => hts w (List.mem_cons_of_mem _ h)
  have hown : s.vm.findClass R_WM = some m.cls := findClass_of_methodNamed B.named
  have hlocks := B.notSynchronized
  have hl := lv_entry ([.ref q0]) (n := 1) (Nat.le_of_ble_eq_true rfl)
  rw [lg_entry_eq]
  generalize (lg_sl ([.ref q0]) ++ List.replicate (1 - (lg_sl ([.ref q0])).length) Slot.unset).toArray = ls at hl ⊢
  have hl : lv_has ls 1 [(0, .ref q0)] := hl
  refine lv_aload_n hx hb d_WM_hourNow_0 rfl (lv_at hl 0 rfl) ?_
  refine tw_geti (D := (dC, dI)) (C := R_WM) (T := F_WM) (N := 13) (ci := 0) (kd := 0) (ct := ct) hx hb htb i_WM hown hK hP hO_0 m0 rfl rfl 10 (by decide) (htb (.fieldLink R_WM 155 "WaterMen" "now" "I") tw_42) (fun _ h9 => h9) rfl d_WM_hourNow_1 (fun x_1 e_1 b_1 => ?_)
  refine lv_bipush (v := 60) hx hb d_WM_hourNow_4 (by decide +kernel) ?_
  refine lv_idiv hx hb d_WM_hourNow_6 (by decide) ?_
  refine lv_bipush (v := 12) hx hb d_WM_hourNow_7 (by decide +kernel) ?_
  refine lv_irem hx hb d_WM_hourNow_9 (by decide) ?_
  exact W.iret (v := ((x_1 / 60) - (x_1 / 60) / 12 * 12)) hx hb hr (fun t ht hW => ⟨((x_1 / 60) - (x_1 / 60) / 12 * 12), rfl, ⟨(show ¬ (((x_1 / 60) - (x_1 / 60) / 12 * 12) < 0) from by have z0 : (0 : Int32).toInt = 0 := (by decide +kernel); have z1 : (12 : Int32).toInt = 12 := (by decide +kernel); have z2 : (60 : Int32).toInt = 60 := (by decide +kernel); have z3 : (359999 : Int32).toInt = 359999 := (by decide +kernel); have r0 := fb_rng (x_1); have e0 := b_1.1; rw [Int32.lt_iff_toInt_lt] at e0; have e1 := b_1.2; rw [Int32.lt_iff_toInt_lt] at e1; have s0 := hb_divI (x := (x_1)) (y := (60 : Int32)) (by (try rw [show (60 : Int32).toInt = 60 from (by decide +kernel)]); omega) (by (try rw [show (60 : Int32).toInt = 60 from (by decide +kernel)]); omega); rw [show (60 : Int32).toInt = 60 from (by decide +kernel)] at s0; have s1 := hb_divI (x := ((x_1) / (60 : Int32))) (y := (12 : Int32)) (by (try rw [show (12 : Int32).toInt = 12 from (by decide +kernel)]); omega) (by (try rw [show (12 : Int32).toInt = 12 from (by decide +kernel)]); omega); rw [show (12 : Int32).toInt = 12 from (by decide +kernel)] at s1; have s2 := fb_mulI (x := (((x_1) / (60 : Int32)) / (12 : Int32))) (y := (12 : Int32)) (by (try rw [show (12 : Int32).toInt = 12 from (by decide +kernel)]); omega) (by (try rw [show (12 : Int32).toInt = 12 from (by decide +kernel)]); omega); rw [show (12 : Int32).toInt = 12 from (by decide +kernel)] at s2; have s3 := fb_subI (x := ((x_1) / (60 : Int32))) (y := ((((x_1) / (60 : Int32)) / (12 : Int32)) * (12 : Int32))) (by omega) (by omega); rw [Int32.lt_iff_toInt_lt]; omega), (show ¬ (11 < ((x_1 / 60) - (x_1 / 60) / 12 * 12)) from by have z0 : (0 : Int32).toInt = 0 := (by decide +kernel); have z1 : (11 : Int32).toInt = 11 := (by decide +kernel); have z2 : (12 : Int32).toInt = 12 := (by decide +kernel); have z3 : (60 : Int32).toInt = 60 := (by decide +kernel); have z4 : (359999 : Int32).toInt = 359999 := (by decide +kernel); have r0 := fb_rng (x_1); have e0 := b_1.1; rw [Int32.lt_iff_toInt_lt] at e0; have e1 := b_1.2; rw [Int32.lt_iff_toInt_lt] at e1; have s0 := hb_divI (x := (x_1)) (y := (60 : Int32)) (by (try rw [show (60 : Int32).toInt = 60 from (by decide +kernel)]); omega) (by (try rw [show (60 : Int32).toInt = 60 from (by decide +kernel)]); omega); rw [show (60 : Int32).toInt = 60 from (by decide +kernel)] at s0; have s1 := hb_divI (x := ((x_1) / (60 : Int32))) (y := (12 : Int32)) (by (try rw [show (12 : Int32).toInt = 12 from (by decide +kernel)]); omega) (by (try rw [show (12 : Int32).toInt = 12 from (by decide +kernel)]); omega); rw [show (12 : Int32).toInt = 12 from (by decide +kernel)] at s1; have s2 := fb_mulI (x := (((x_1) / (60 : Int32)) / (12 : Int32))) (y := (12 : Int32)) (by (try rw [show (12 : Int32).toInt = 12 from (by decide +kernel)]); omega) (by (try rw [show (12 : Int32).toInt = 12 from (by decide +kernel)]); omega); rw [show (12 : Int32).toInt = 12 from (by decide +kernel)] at s2; have s3 := fb_subI (x := ((x_1) / (60 : Int32))) (y := ((((x_1) / (60 : Int32)) / (12 : Int32)) * (12 : Int32))) (by omega) (by omega); rw [Int32.lt_iff_toInt_lt]; omega), trivial⟩, ht⟩) t_nil d_WM_hourNow_10
