def W_WM_end_w : List (Nat × Nat) := [(10, 1)]
def wp_WM_end_w (L : List Nat) (f : TF) (q0 : Nat) (p_0 : Int32) (Q : Int32 → List Nat → TF → Prop) : Prop := ((p_0 < 0 → Q (-1) L f) ∧ (¬ (p_0 < 0) → ∀ q_2 : Nat, tr f q0 5 = some q_2 → ∀ x_3 : Int32, ti f q_2 1 = x_3 → ((p_0 ≤ x_3 → ∀ f_1 : TF, f_1 = sI f q_2 1 p_0 → Ok L f_1 → Q p_0 L f_1) ∧ (¬ (p_0 ≤ x_3) → Q (-1) L f))))
set_option maxHeartbeats 4000000 in
set_option maxRecDepth 100000 in
theorem c_WM_end_w (l : Launch) (dC : Nat → ClassId) (dI : Nat → Nat → Nat) (ct : Nat → ClassId) (L : List Nat) (f : TF) (hO_0 : Ok L f) (q0 : Nat) (m0 : q0 ∈ L ∧ tk f q0 = 0) (sz : Nat) (p_0 : Int32)   (Q : Int32 → List Nat → TF → Prop) (hQ : wp_WM_end_w L f q0 p_0 Q) : Met l y_WM_end (.code y_WM_end b_WM_end 2 (some .int) :: TB) ({ frames := 0, cells := 0, slots := 0, locals := 0 }) (va_Pc [.ref q0, .int p_0] (PC dC dI (TW ct L f) (TT ct) sz)) (va_Qi (fun r (u : TSt) => Ok u.1 u.2 ∧ Ext W_WM_end_w L f u.1 u.2 ∧ (True) ∧ Q r u.1 u.2) (fun (u : TSt) t => va_P (dC, dI) vwCl (TW ct u.1 u.2) t.heap ∧ va_K (dC, dI) vwCl (TT ct) t ∧ va_D (va_A (TW ct L f) sz) (TW ct u.1 u.2)) (va_A (TW ct L f) sz)) 0 0 (va_A (TW ct L f) sz) := by
  refine Met.ofW (cc := b_WM_end) (maxL := 2) (ret := (some .int)) (by decide) rfl ?_
  intro p e s m args below meth c s₁ B hml hv
  obtain ⟨rfl, hsz, hP, hK, hD0, hN⟩ := hv
  have hx := B.exec
  have hb := B.bytes
  have hr := B.returns
  have hts := atoms_spec (ws := (.code y_WM_end b_WM_end 2 (some .int) :: TB)) B.pre
  have htb := fun w (h : w ∈ TB) => hts w (List.mem_cons_of_mem _ h)
  have hown : s.vm.findClass R_WM = some m.cls := findClass_of_methodNamed B.named
  have hlocks := B.notSynchronized
  have hl := lv_entry ([.ref q0, .int p_0]) (n := 2) (Nat.le_of_ble_eq_true rfl)
  rw [lg_entry_eq]
  generalize (lg_sl ([.ref q0, .int p_0]) ++ List.replicate (2 - (lg_sl ([.ref q0, .int p_0])).length) Slot.unset).toArray = ls at hl ⊢
  have hl : lv_has ls 2 [(0, .ref q0), (1, .int p_0)] := hl
  subst hsz
  have hD := hD0.self (sz := s.heap.size)
  obtain ⟨A, hAe⟩ : ∃ A, va_A (TW ct L f) s.heap.size = A := ⟨_, rfl⟩
  rw [hAe] at hD
  have hA : ∀ q : Nat, s.heap.size ≤ q → A q := fun q h => by rw [← hAe]; exact Or.inr h
  have hS : va_S A s.heap s.heap [] := va_S.rf
  have hA_0 : Ext [] L f L f := Ext.rf
  suffices hGo : ∀ (H : Heap) (locs : List Loc), va_P (dC, dI) vwCl (TW ct L f) H → va_S A s.heap H locs → W p l e (headSpec (.code y_WM_end b_WM_end 2 (some .int) :: TB) ({ frames := 0, cells := 0, slots := 0, locals := 0 })).room s m [.ref q0, .int p_0].toArray below meth c H locs 0 0 (MQ below (va_Qi (fun r (u : TSt) => Ok u.1 u.2 ∧ Ext W_WM_end_w L f u.1 u.2 ∧ (True) ∧ Q r u.1 u.2) (fun (u : TSt) t => va_P (dC, dI) vwCl (TW ct u.1 u.2) t.heap ∧ va_K (dC, dI) vwCl (TT ct) t ∧ va_D (va_A (TW ct L f) s.heap.size) (TW ct u.1 u.2)) (va_A (TW ct L f) s.heap.size)) [.ref q0, .int p_0].toArray s 0 0 (va_A (TW ct L f) s.heap.size)) (F0 m 0 ls []) from hGo _ _ hP hS
  clear hP hS
  intro H locs hP hS
  unfold wp_WM_end_w at hQ
  refine lv_iload_n hx hb d_WM_end_0 rfl (lv_at hl 1 rfl) ?_
  refine lv_if_lt (tgt := 15) hx hb d_WM_end_1 (by decide) (fun c_1 => ?_) (fun c_1 => ?_)
  · have hQ := hQ.1 c_1
    refine lv_iconst (v := (-1)) hx hb d_WM_end_15 (by decide +kernel) ?_
    refine W.widen (k := 0) (n := 0) (Nat.le_of_ble_eq_true rfl) (Nat.le_of_ble_eq_true rfl) ?_
    exact W.iret (v := (-1)) hx hb hr (fun t ht hW => ⟨⟨(-1), (L, f), rfl, ⟨hO_0, hA_0.mono (by decide +kernel), trivial, hQ⟩, by rw [ht]; exact hP, va_K.moved hW.alike hK, by rw [hAe]; exact hD⟩, by rw [hAe]; exact hS.F ht⟩) (by rw [hAe]; exact hS.2.2) d_WM_end_16
  · have hQ := hQ.2 c_1
    refine lv_iload_n hx hb d_WM_end_4 rfl (lv_at hl 1 rfl) ?_
    refine lv_aload_n hx hb d_WM_end_5 rfl (lv_at hl 0 rfl) ?_
    refine tw_getr (D := (dC, dI)) (C := R_WM) (T := F_WM) (N := 13) (ci := 0) (kd := 0) (ct := ct) hx hb htb i_WM hown hK hP hO_0 m0 rfl rfl 5 (by decide) (htb (.fieldLink R_WM 43 "WaterMen" "tape" "LWaterMen$Tape;") tw_174) (fun _ h9 => h9) rfl d_WM_end_6 (fun q_2 e_2 m_2 => ?_)
    have hQ := hQ q_2 e_2
    refine tw_geti (D := (dC, dI)) (C := R_Tp) (T := F_Tp) (N := 6) (ci := 4) (kd := 10) (ct := ct) hx hb htb i_Tp hown hK hP hO_0 m_2 rfl rfl 1 (by decide) (htb (.fieldLink R_WM 207 "WaterMen$Tape" "length" "I") tw_186) (fun _ h9 => h9) rfl d_WM_end_9 (fun x_3 e_3 b_3 => ?_)
    have hQ := hQ x_3 e_3
    refine lv_icmp_le (tgt := 17) hx hb d_WM_end_12 (by decide) (fun c_4 => ?_) (fun c_4 => ?_)
    · have hQ := hQ.1 c_4
      refine lv_aload_n hx hb d_WM_end_17 rfl (lv_at hl 0 rfl) ?_
      refine tw_getR (D := (dC, dI)) (C := R_WM) (T := F_WM) (N := 13) (ci := 0) (kd := 0) (ct := ct) hx hb htb i_WM hown hK hP m0 rfl rfl 5 e_2 (by decide) (htb (.fieldLink R_WM 43 "WaterMen" "tape" "LWaterMen$Tape;") tw_174) (fun _ h9 => h9) rfl d_WM_end_18 ?_
      refine hb_tv (.ref q_2) rfl ?_
      refine lv_iload_n hx hb d_WM_end_21 rfl (lv_at hl 1 rfl) ?_
      refine tw_puti (v := p_0) (D := (dC, dI)) (C := R_Tp) (T := F_Tp) (N := 6) (ci := 4) (kd := 10) (ct := ct) (ty := .int) hx hb htb i_Tp t_Tp t_Tp_ok n_Tp hown hK hP hD hS hO_0 m_2 rfl rfl 1 (by decide) (htb (.fieldLink R_WM 207 "WaterMen$Tape" "length" "I") tw_186) (fun _ h9 => h9) rfl (by decide +kernel) rfl rfl rfl ⟨c_1, (show ¬ (400 < p_0) from ((fun (a_0 : Int32) (a_1 : Int32) (k_0 : a_0 ≤ a_1) (k_1 : ¬ (400 < a_1)) => (show ¬ (400 < a_0) from by have z0 : (400 : Int32).toInt = 400 := (by decide +kernel); have r0 := fb_rng (a_0); have r1 := fb_rng (a_1); have e0 := k_0; rw [Int32.le_iff_toInt_le] at e0; have e1 := k_1; rw [Int32.lt_iff_toInt_lt, z0] at e1; rw [Int32.lt_iff_toInt_lt, z0]; omega)) p_0 x_3 c_4 b_3.2))⟩ d_WM_end_22 (fun f_1 H locs hP hD hS hO_1 hE_1 w_5 hF_1 => ?_)
      have hA_1 := hA_0.trans hE_1
      have hQ := hQ f_1 hF_1
      have hQ := hQ hO_1
      refine lv_iload_n hx hb d_WM_end_25 rfl (lv_at hl 1 rfl) ?_
      refine W.widen (k := 0) (n := 0) (Nat.le_of_ble_eq_true rfl) (Nat.le_of_ble_eq_true rfl) ?_
      exact W.iret (v := p_0) hx hb hr (fun t ht hW => ⟨⟨p_0, (L, f_1), rfl, ⟨hO_1, hA_1.mono (by decide +kernel), trivial, hQ⟩, by rw [ht]; exact hP, va_K.moved hW.alike hK, by rw [hAe]; exact hD⟩, by rw [hAe]; exact hS.F ht⟩) (by rw [hAe]; exact hS.2.2) d_WM_end_26
    · have hQ := hQ.2 c_4
      refine lv_iconst (v := (-1)) hx hb d_WM_end_15 (by decide +kernel) ?_
      refine W.widen (k := 0) (n := 0) (Nat.le_of_ble_eq_true rfl) (Nat.le_of_ble_eq_true rfl) ?_
      exact W.iret (v := (-1)) hx hb hr (fun t ht hW => ⟨⟨(-1), (L, f), rfl, ⟨hO_0, hA_0.mono (by decide +kernel), trivial, hQ⟩, by rw [ht]; exact hP, va_K.moved hW.alike hK, by rw [hAe]; exact hD⟩, by rw [hAe]; exact hS.F ht⟩) (by rw [hAe]; exact hS.2.2) d_WM_end_16
def W_Md_end_w : List (Nat × Nat) := [(27, 28)]
def wp_Md_end_w (L : List Nat) (f : TF) (q0 : Nat) (p_0 : Int32) (Q : Int32 → List Nat → TF → Prop) : Prop := ∀ x_1 : Int32, ti f q0 28 = x_1 → ((p_0 < 0 → Q (-1) L f) ∧ (¬ (p_0 < 0) → ((x_1 < p_0 → Q (-1) L f) ∧ (¬ (x_1 < p_0) → ∀ f_1 : TF, f_1 = sI f q0 28 p_0 → Ok L f_1 → Q p_0 L f_1))))
set_option maxHeartbeats 4000000 in
set_option maxRecDepth 100000 in
theorem c_Md_end_w (l : Launch) (dC : Nat → ClassId) (dI : Nat → Nat → Nat) (ct : Nat → ClassId) (L : List Nat) (f : TF) (hO_0 : Ok L f) (q0 : Nat) (m0 : q0 ∈ L ∧ tk f q0 = 27) (sz : Nat) (p_0 : Int32)   (Q : Int32 → List Nat → TF → Prop) (hQ : wp_Md_end_w L f q0 p_0 Q) : Met l y_Md_end (.code y_Md_end b_Md_end 2 (some .int) :: TB) ({ frames := 1, cells := 0, slots := 0, locals := 22 }) (va_Pc [.ref q0, .int p_0] (PC dC dI (TW ct L f) (TT ct) sz)) (va_Qi (fun r (u : TSt) => Ok u.1 u.2 ∧ Ext W_Md_end_w L f u.1 u.2 ∧ (True) ∧ Q r u.1 u.2) (fun (u : TSt) t => va_P (dC, dI) vwCl (TW ct u.1 u.2) t.heap ∧ va_K (dC, dI) vwCl (TT ct) t ∧ va_D (va_A (TW ct L f) sz) (TW ct u.1 u.2)) (va_A (TW ct L f) sz)) 0 0 (va_A (TW ct L f) sz) := by
  refine Met.ofW (cc := b_Md_end) (maxL := 2) (ret := (some .int)) (by decide) rfl ?_
  intro p e s m args below meth c s₁ B hml hv
  obtain ⟨rfl, hsz, hP, hK, hD0, hN⟩ := hv
  have hx := B.exec
  have hb := B.bytes
  have hr := B.returns
  have hts := atoms_spec (ws := (.code y_Md_end b_Md_end 2 (some .int) :: TB)) B.pre
  have htb := fun w (h : w ∈ TB) => hts w (List.mem_cons_of_mem _ h)
  have hown : s.vm.findClass R_Md = some m.cls := findClass_of_methodNamed B.named
  have hlocks := B.notSynchronized
  have hl := lv_entry ([.ref q0, .int p_0]) (n := 2) (Nat.le_of_ble_eq_true rfl)
  rw [lg_entry_eq]
  generalize (lg_sl ([.ref q0, .int p_0]) ++ List.replicate (2 - (lg_sl ([.ref q0, .int p_0])).length) Slot.unset).toArray = ls at hl ⊢
  have hl : lv_has ls 2 [(0, .ref q0), (1, .int p_0)] := hl
  subst hsz
  have hD := hD0.self (sz := s.heap.size)
  obtain ⟨A, hAe⟩ : ∃ A, va_A (TW ct L f) s.heap.size = A := ⟨_, rfl⟩
  rw [hAe] at hD
  have hA : ∀ q : Nat, s.heap.size ≤ q → A q := fun q h => by rw [← hAe]; exact Or.inr h
  have hS : va_S A s.heap s.heap [] := va_S.rf
  have hA_0 : Ext [] L f L f := Ext.rf
  suffices hGo : ∀ (H : Heap) (locs : List Loc), va_P (dC, dI) vwCl (TW ct L f) H → va_S A s.heap H locs → W p l e (headSpec (.code y_Md_end b_Md_end 2 (some .int) :: TB) ({ frames := 1, cells := 0, slots := 0, locals := 22 })).room s m [.ref q0, .int p_0].toArray below meth c H locs 0 0 (MQ below (va_Qi (fun r (u : TSt) => Ok u.1 u.2 ∧ Ext W_Md_end_w L f u.1 u.2 ∧ (True) ∧ Q r u.1 u.2) (fun (u : TSt) t => va_P (dC, dI) vwCl (TW ct u.1 u.2) t.heap ∧ va_K (dC, dI) vwCl (TT ct) t ∧ va_D (va_A (TW ct L f) s.heap.size) (TW ct u.1 u.2)) (va_A (TW ct L f) s.heap.size)) [.ref q0, .int p_0].toArray s 0 0 (va_A (TW ct L f) s.heap.size)) (F0 m 0 ls []) from hGo _ _ hP hS
  clear hP hS
  intro H locs hP hS
  unfold wp_Md_end_w at hQ
  refine lv_iload_n hx hb d_Md_end_0 rfl (lv_at hl 1 rfl) ?_
  refine lv_iconst (v := 0) hx hb d_Md_end_1 (by decide +kernel) ?_
  refine lv_aload_n hx hb d_Md_end_2 rfl (lv_at hl 0 rfl) ?_
  refine tw_geti (D := (dC, dI)) (C := R_Md) (T := F_Md) (N := 64) (ci := 7) (kd := 27) (ct := ct) hx hb htb i_Md hown hK hP hO_0 m0 rfl rfl 28 (by decide) (htb (.fieldLink R_Md 212 "WaterMenModel" "taped" "I") tw_187) (fun _ h9 => h9) rfl d_Md_end_3 (fun x_1 e_1 b_1 => ?_)
  have hQ := hQ x_1 e_1
  refine vp_callSi (va_Run.run (va_runS (As := [.int p_0, .int 0, .int x_1]) (rest := []) ⟨hx, hb, hml, hown, htb⟩ (c_Md_in l p_0 0 x_1) (cwS 3 htb (gd_S tw_90 tw_91 tw_89 tw_88) rfl rfl rfl (by decide +kernel) ⟨Nat.le_of_ble_eq_true rfl, Nat.le_of_ble_eq_true rfl⟩) ⟨fun _ _ _ _ h => h, fun U _ _ => ⟨rfl, trivial⟩⟩ rfl rfl hl.1 rfl (lv_room (Nat.le_of_ble_eq_true rfl)) d_Md_end_6 ⟨Nat.le_of_ble_eq_true rfl, Nat.le_of_ble_eq_true rfl⟩)) (fun r er => ?_)
  subst er
  by_cases c_3 : p_0 < 0
  · have hQ := hQ.1 c_3
    refine hb_ti 0 (by unfold f_Md_in; rw [if_pos c_3]; first | done | rfl) ?_
    refine lv_if_ne (tgt := 14) hx hb d_Md_end_9 (by decide) (fun h => absurd (by decide +kernel) h) (fun _ => ?_)
    refine lv_iconst (v := (-1)) hx hb d_Md_end_12 (by decide +kernel) ?_
    refine W.widen (k := 0) (n := 0) (Nat.le_of_ble_eq_true rfl) (Nat.le_of_ble_eq_true rfl) ?_
    exact W.iret (v := (-1)) hx hb hr (fun t ht hW => ⟨⟨(-1), (L, f), rfl, ⟨hO_0, hA_0.mono (by decide +kernel), trivial, hQ⟩, by rw [ht]; exact hP, va_K.moved hW.alike hK, by rw [hAe]; exact hD⟩, by rw [hAe]; exact hS.F ht⟩) (by rw [hAe]; exact hS.2.2) d_Md_end_13
  · have hQ := hQ.2 c_3
    by_cases c_4 : x_1 < p_0
    · have hQ := hQ.1 c_4
      refine hb_ti 0 (by unfold f_Md_in; rw [if_neg c_3, if_pos c_4]; first | done | rfl) ?_
      refine lv_if_ne (tgt := 14) hx hb d_Md_end_9 (by decide) (fun h => absurd (by decide +kernel) h) (fun _ => ?_)
      refine lv_iconst (v := (-1)) hx hb d_Md_end_12 (by decide +kernel) ?_
      refine W.widen (k := 0) (n := 0) (Nat.le_of_ble_eq_true rfl) (Nat.le_of_ble_eq_true rfl) ?_
      exact W.iret (v := (-1)) hx hb hr (fun t ht hW => ⟨⟨(-1), (L, f), rfl, ⟨hO_0, hA_0.mono (by decide +kernel), trivial, hQ⟩, by rw [ht]; exact hP, va_K.moved hW.alike hK, by rw [hAe]; exact hD⟩, by rw [hAe]; exact hS.F ht⟩) (by rw [hAe]; exact hS.2.2) d_Md_end_13
    · have hQ := hQ.2 c_4
      refine hb_ti 1 (by unfold f_Md_in; rw [if_neg c_3, if_neg c_4]; first | done | rfl) ?_
      refine lv_if_ne (tgt := 14) hx hb d_Md_end_9 (by decide) (fun _ => ?_) (fun h => absurd h (by decide +kernel))
      refine lv_aload_n hx hb d_Md_end_14 rfl (lv_at hl 0 rfl) ?_
      refine lv_iload_n hx hb d_Md_end_15 rfl (lv_at hl 1 rfl) ?_
      refine tw_puti (v := p_0) (D := (dC, dI)) (C := R_Md) (T := F_Md) (N := 64) (ci := 7) (kd := 27) (ct := ct) (ty := .int) hx hb htb i_Md t_Md t_Md_ok n_Md hown hK hP hD hS hO_0 m0 rfl rfl 28 (by decide) (htb (.fieldLink R_Md 212 "WaterMenModel" "taped" "I") tw_187) (fun _ h9 => h9) rfl (by decide +kernel) rfl rfl rfl ⟨c_3, (show ¬ (400 < p_0) from ((fun (a_0 : Int32) (a_1 : Int32) (k_0 : ¬ (a_1 < a_0)) (k_1 : ¬ (400 < a_1)) => (show ¬ (400 < a_0) from by have z0 : (400 : Int32).toInt = 400 := (by decide +kernel); have r0 := fb_rng (a_0); have r1 := fb_rng (a_1); have e0 := k_0; rw [Int32.lt_iff_toInt_lt] at e0; have e1 := k_1; rw [Int32.lt_iff_toInt_lt, z0] at e1; rw [Int32.lt_iff_toInt_lt, z0]; omega)) p_0 x_1 c_4 b_1.2))⟩ d_Md_end_16 (fun f_1 H locs hP hD hS hO_1 hE_1 w_5 hF_1 => ?_)
      have hA_1 := hA_0.trans hE_1
      have hQ := hQ f_1 hF_1
      have hQ := hQ hO_1
      refine lv_iload_n hx hb d_Md_end_19 rfl (lv_at hl 1 rfl) ?_
      refine W.widen (k := 0) (n := 0) (Nat.le_of_ble_eq_true rfl) (Nat.le_of_ble_eq_true rfl) ?_
      exact W.iret (v := p_0) hx hb hr (fun t ht hW => ⟨⟨p_0, (L, f_1), rfl, ⟨hO_1, hA_1.mono (by decide +kernel), trivial, hQ⟩, by rw [ht]; exact hP, va_K.moved hW.alike hK, by rw [hAe]; exact hD⟩, by rw [hAe]; exact hS.F ht⟩) (by rw [hAe]; exact hS.2.2) d_Md_end_20
def wp_Rv_highest_w (L : List Nat) (f : TF) (q0 : Nat) (Q : Int32 → Prop) : Prop := ∀ x_1 : Int32, ti f q0 4 = x_1 → ((x_1 = 0 → Q (-1)) ∧ (¬ (x_1 = 0) → ∀ q_3 : Nat, tr f q0 0 = some q_3 → ∀ x_4 : Int32, ti f q_3 ((x_1 - 1) : Int32).toNatClampNeg = x_4 → Q x_4))
set_option maxHeartbeats 4000000 in
set_option maxRecDepth 100000 in
theorem c_Rv_highest_w (l : Launch) (dC : Nat → ClassId) (dI : Nat → Nat → Nat) (ct : Nat → ClassId) (L : List Nat) (f : TF) (hO_0 : Ok L f) (q0 : Nat) (m0 : q0 ∈ L ∧ tk f q0 = 1)    (Q : Int32 → Prop) (hQ : wp_Rv_highest_w L f q0 Q) : Met l y_Rv_highest (.code y_Rv_highest b_Rv_highest 1 (some .int) :: TB) ({ frames := 0, cells := 0, slots := 0, locals := 0 }) (va_Pc [.ref q0] (PR dC dI (TW ct L f) (TT ct))) (vp_Si (fun r => (True) ∧ Q r)) 0 0 (fun _ => False) := by
  refine Met.ofW (cc := b_Rv_highest) (maxL := 1) (ret := (some .int)) (by decide) rfl ?_
  intro p e s m args below meth c s₁ B hml hv
  obtain ⟨rfl, hP, hK, hN⟩ := hv
  have hx := B.exec
  have hb := B.bytes
  have hr := B.returns
  have hts := atoms_spec (ws := (.code y_Rv_highest b_Rv_highest 1 (some .int) :: TB)) B.pre
  have htb := fun w (h : w ∈ TB) => hts w (List.mem_cons_of_mem _ h)
  have hown : s.vm.findClass R_Rv = some m.cls := findClass_of_methodNamed B.named
  have hlocks := B.notSynchronized
  have hl := lv_entry ([.ref q0]) (n := 1) (Nat.le_of_ble_eq_true rfl)
  rw [lg_entry_eq]
  generalize (lg_sl ([.ref q0]) ++ List.replicate (1 - (lg_sl ([.ref q0])).length) Slot.unset).toArray = ls at hl ⊢
  have hl : lv_has ls 1 [(0, .ref q0)] := hl
  unfold wp_Rv_highest_w at hQ
  refine lv_aload_n hx hb d_Rv_highest_0 rfl (lv_at hl 0 rfl) ?_
  refine tw_geti (D := (dC, dI)) (C := R_Rv) (T := F_Rv) (N := 6) (ci := 1) (kd := 1) (ct := ct) hx hb htb i_Rv hown hK hP hO_0 m0 rfl rfl 4 (by decide) (htb (.fieldLink R_Rv 35 "WaterMen$River" "stairCount" "I") tw_193) (fun _ h9 => h9) rfl d_Rv_highest_1 (fun x_1 e_1 b_1 => ?_)
  have hQ := hQ x_1 e_1
  refine lv_if_ne (tgt := 11) hx hb d_Rv_highest_4 (by decide) (fun c_2 => ?_) (fun c_2 => ?_)
  · have hQ := hQ.2 c_2
    refine lv_aload_n hx hb d_Rv_highest_11 rfl (lv_at hl 0 rfl) ?_
    refine tw_getr (D := (dC, dI)) (C := R_Rv) (T := F_Rv) (N := 6) (ci := 1) (kd := 1) (ct := ct) hx hb htb i_Rv hown hK hP hO_0 m0 rfl rfl 0 (by decide) (htb (.fieldLink R_Rv 9 "WaterMen$River" "milesUp" "[I") tw_194) (fun _ h9 => h9) rfl d_Rv_highest_12 (fun q_3 e_3 m_3 => ?_)
    have hQ := hQ q_3 e_3
    refine lv_aload_n hx hb d_Rv_highest_15 rfl (lv_at hl 0 rfl) ?_
    refine tw_getI (x := x_1) (D := (dC, dI)) (C := R_Rv) (T := F_Rv) (N := 6) (ci := 1) (kd := 1) (ct := ct) hx hb htb i_Rv hown hK hP m0 rfl rfl 4 e_1 (by decide) (htb (.fieldLink R_Rv 35 "WaterMen$River" "stairCount" "I") tw_193) (fun _ h9 => h9) rfl d_Rv_highest_16 ?_
    refine lv_iconst (v := 1) hx hb d_Rv_highest_19 (by decide +kernel) ?_
    refine lv_isub hx hb d_Rv_highest_20 ?_
    refine tw_aldI (ct := ct) hx hb hK hP hO_0 m_3 rfl ((fun (a_0 : Int32) (k_0 : ¬ (a_0 < 0)) (k_1 : ¬ (12 < a_0)) (k_2 : ¬ (a_0 = 0)) => (show vp_in ((a_0 - 1)) 12 from by have z0 : (0 : Int32).toInt = 0 := (by decide +kernel); have z1 : (1 : Int32).toInt = 1 := (by decide +kernel); have z2 : (12 : Int32).toInt = 12 := (by decide +kernel); have r0 := fb_rng (a_0); have e0 := k_0; rw [Int32.lt_iff_toInt_lt, z0] at e0; have e1 := k_1; rw [Int32.lt_iff_toInt_lt, z2] at e1; have e2 := k_2; rw [← Int32.toInt_inj, z0] at e2; obtain ⟨n_0, hn_0, s0⟩ := nd_sub (x := (a_0)) (y := (1 : Int32)) (by (try rw [z1]); omega) (by (try rw [z1]); omega); rw [z1] at s0; rw [hn_0, vp_in_iff]; omega)) x_1 b_1.1 b_1.2 c_2) d_Rv_highest_21 (fun x_4 e_4 b_4 => ?_)
    have hQ := hQ x_4 e_4
    exact W.iret (v := x_4) hx hb hr (fun t ht hW => ⟨x_4, rfl, ⟨trivial, hQ⟩, ht⟩) t_nil d_Rv_highest_22
  · have hQ := hQ.1 c_2
    refine lv_iconst (v := (-1)) hx hb d_Rv_highest_7 (by decide +kernel) ?_
    refine lv_goto (tgt := 22) hx hb d_Rv_highest_8 (by decide) ?_
    exact W.iret (v := (-1)) hx hb hr (fun t ht hW => ⟨(-1), rfl, ⟨trivial, hQ⟩, ht⟩) t_nil d_Rv_highest_22
def W_Rv_addStairs_w : List (Nat × Nat) := [(1, 4), (2, 1000)]
def wp_Rv_addStairs_w (L : List Nat) (f : TF) (q0 : Nat) (p_0 : Int32) (Q : Int32 → List Nat → TF → Prop) : Prop := ∀ q_1 : Nat, tr f q0 0 = some q_1 → ∀ f_1 : TF, f_1 = sI f q_1 ((ti f q0 4) : Int32).toNatClampNeg p_0 → Ok L f_1 → ∀ f_2 : TF, f_2 = sI f_1 q0 4 ((ti f q0 4) + 1) → Ok L f_2 → Q (((ti f q0 4) + 1) - 1) L f_2
set_option maxHeartbeats 4000000 in
set_option maxRecDepth 100000 in
theorem c_Rv_addStairs_w (l : Launch) (dC : Nat → ClassId) (dI : Nat → Nat → Nat) (ct : Nat → ClassId) (L : List Nat) (f : TF) (hO_0 : Ok L f) (q0 : Nat) (m0 : q0 ∈ L ∧ tk f q0 = 1) (sz : Nat) (p_0 : Int32)  (as_0 : ¬ (11 < (ti f q0 4))) (Q : Int32 → List Nat → TF → Prop) (hQ : wp_Rv_addStairs_w L f q0 p_0 Q) : Met l y_Rv_addStairs (.code y_Rv_addStairs b_Rv_addStairs 2 (some .int) :: TB) ({ frames := 0, cells := 0, slots := 0, locals := 0 }) (va_Pc [.ref q0, .int p_0] (PC dC dI (TW ct L f) (TT ct) sz)) (va_Qi (fun r (u : TSt) => Ok u.1 u.2 ∧ Ext W_Rv_addStairs_w L f u.1 u.2 ∧ (True) ∧ Q r u.1 u.2) (fun (u : TSt) t => va_P (dC, dI) vwCl (TW ct u.1 u.2) t.heap ∧ va_K (dC, dI) vwCl (TT ct) t ∧ va_D (va_A (TW ct L f) sz) (TW ct u.1 u.2)) (va_A (TW ct L f) sz)) 0 0 (va_A (TW ct L f) sz) := by
  refine Met.ofW (cc := b_Rv_addStairs) (maxL := 2) (ret := (some .int)) (by decide) rfl ?_
  intro p e s m args below meth c s₁ B hml hv
  obtain ⟨rfl, hsz, hP, hK, hD0, hN⟩ := hv
  have hx := B.exec
  have hb := B.bytes
  have hr := B.returns
  have hts := atoms_spec (ws := (.code y_Rv_addStairs b_Rv_addStairs 2 (some .int) :: TB)) B.pre
  have htb := fun w (h : w ∈ TB) => hts w (List.mem_cons_of_mem _ h)
  have hown : s.vm.findClass R_Rv = some m.cls := findClass_of_methodNamed B.named
  have hlocks := B.notSynchronized
  have hl := lv_entry ([.ref q0, .int p_0]) (n := 2) (Nat.le_of_ble_eq_true rfl)
  rw [lg_entry_eq]
  generalize (lg_sl ([.ref q0, .int p_0]) ++ List.replicate (2 - (lg_sl ([.ref q0, .int p_0])).length) Slot.unset).toArray = ls at hl ⊢
  have hl : lv_has ls 2 [(0, .ref q0), (1, .int p_0)] := hl
  subst hsz
  have hD := hD0.self (sz := s.heap.size)
  obtain ⟨A, hAe⟩ : ∃ A, va_A (TW ct L f) s.heap.size = A := ⟨_, rfl⟩
  rw [hAe] at hD
  have hA : ∀ q : Nat, s.heap.size ≤ q → A q := fun q h => by rw [← hAe]; exact Or.inr h
  have hS : va_S A s.heap s.heap [] := va_S.rf
  have hA_0 : Ext [] L f L f := Ext.rf
  suffices hGo : ∀ (H : Heap) (locs : List Loc), va_P (dC, dI) vwCl (TW ct L f) H → va_S A s.heap H locs → W p l e (headSpec (.code y_Rv_addStairs b_Rv_addStairs 2 (some .int) :: TB) ({ frames := 0, cells := 0, slots := 0, locals := 0 })).room s m [.ref q0, .int p_0].toArray below meth c H locs 0 0 (MQ below (va_Qi (fun r (u : TSt) => Ok u.1 u.2 ∧ Ext W_Rv_addStairs_w L f u.1 u.2 ∧ (True) ∧ Q r u.1 u.2) (fun (u : TSt) t => va_P (dC, dI) vwCl (TW ct u.1 u.2) t.heap ∧ va_K (dC, dI) vwCl (TT ct) t ∧ va_D (va_A (TW ct L f) s.heap.size) (TW ct u.1 u.2)) (va_A (TW ct L f) s.heap.size)) [.ref q0, .int p_0].toArray s 0 0 (va_A (TW ct L f) s.heap.size)) (F0 m 0 ls []) from hGo _ _ hP hS
  clear hP hS
  intro H locs hP hS
  unfold wp_Rv_addStairs_w at hQ
  have bp_4 := hO_0.i m0 (show slotD 1 4 = some (.inl (0, 12)) from rfl)
  refine lv_aload_n hx hb d_Rv_addStairs_0 rfl (lv_at hl 0 rfl) ?_
  refine tw_getr (D := (dC, dI)) (C := R_Rv) (T := F_Rv) (N := 6) (ci := 1) (kd := 1) (ct := ct) hx hb htb i_Rv hown hK hP hO_0 m0 rfl rfl 0 (by decide) (htb (.fieldLink R_Rv 9 "WaterMen$River" "milesUp" "[I") tw_194) (fun _ h9 => h9) rfl d_Rv_addStairs_1 (fun q_1 e_1 m_1 => ?_)
  have hQ := hQ q_1 e_1
  refine lv_aload_n hx hb d_Rv_addStairs_4 rfl (lv_at hl 0 rfl) ?_
  refine tw_getI (x := (ti f q0 4)) (D := (dC, dI)) (C := R_Rv) (T := F_Rv) (N := 6) (ci := 1) (kd := 1) (ct := ct) hx hb htb i_Rv hown hK hP m0 rfl rfl 4 rfl (by decide) (htb (.fieldLink R_Rv 35 "WaterMen$River" "stairCount" "I") tw_193) (fun _ h9 => h9) rfl d_Rv_addStairs_5 ?_
  refine lv_iload_n hx hb d_Rv_addStairs_8 rfl (lv_at hl 1 rfl) ?_
  refine tw_astI (ct := ct) (x := p_0) hx hb hK hP hD hS hO_0 m_1 rfl (hb_inl bp_4.1 as_0 (by decide +kernel)) (i32_full _) d_Rv_addStairs_9 (fun f_1 H locs hP hD hS hO_1 hE_1 w_2 ow_2 hF_1 => ?_)
  have hA_1 := hA_0.trans hE_1
  have hQ := hQ f_1 hF_1
  have hQ := hQ hO_1
  refine lv_aload_n hx hb d_Rv_addStairs_10 rfl (lv_at hl 0 rfl) ?_
  refine lv_dup hx hb d_Rv_addStairs_11 rfl ?_
  refine tw_getI (x := (ti f q0 4)) (D := (dC, dI)) (C := R_Rv) (T := F_Rv) (N := 6) (ci := 1) (kd := 1) (ct := ct) hx hb htb i_Rv hown hK hP (hA_1.m m0) rfl rfl 4 ((hA_1.ei m0 rfl).trans rfl) (by decide) (htb (.fieldLink R_Rv 35 "WaterMen$River" "stairCount" "I") tw_193) (fun _ h9 => h9) rfl d_Rv_addStairs_12 ?_
  refine lv_iconst (v := 1) hx hb d_Rv_addStairs_15 (by decide +kernel) ?_
  refine lv_iadd hx hb d_Rv_addStairs_16 ?_
  refine tw_puti (v := ((ti f q0 4) + 1)) (D := (dC, dI)) (C := R_Rv) (T := F_Rv) (N := 6) (ci := 1) (kd := 1) (ct := ct) (ty := .int) hx hb htb i_Rv t_Rv t_Rv_ok n_Rv hown hK hP hD hS hO_1 (hA_1.m m0) rfl rfl 4 (by decide) (htb (.fieldLink R_Rv 35 "WaterMen$River" "stairCount" "I") tw_193) (fun _ h9 => h9) rfl (by decide +kernel) rfl rfl rfl ⟨(show ¬ (((ti f q0 4) + 1) < 0) from ((fun (a_0 : Int32) (k_0 : ¬ (a_0 < 0)) (k_1 : ¬ (12 < a_0)) => (show ¬ ((a_0 + 1) < 0) from by have z0 : (0 : Int32).toInt = 0 := (by decide +kernel); have z1 : (1 : Int32).toInt = 1 := (by decide +kernel); have z2 : (12 : Int32).toInt = 12 := (by decide +kernel); have r0 := fb_rng (a_0); have e0 := k_0; rw [Int32.lt_iff_toInt_lt, z0] at e0; have e1 := k_1; rw [Int32.lt_iff_toInt_lt, z2] at e1; obtain ⟨n_0, hn_0, s0⟩ := nd_add (x := a_0) (y := (1 : Int32)) (by (try rw [z1]); omega) (by (try rw [z1]); omega); rw [z1] at s0; rw [hn_0, Int32.lt_iff_toInt_lt, z0]; omega)) (ti f q0 4) bp_4.1 bp_4.2)), (show ¬ (12 < ((ti f q0 4) + 1)) from ((fun (a_0 : Int32) (k_0 : ¬ (11 < a_0)) => (show ¬ (12 < (a_0 + 1)) from by have z0 : (1 : Int32).toInt = 1 := (by decide +kernel); have z1 : (11 : Int32).toInt = 11 := (by decide +kernel); have z2 : (12 : Int32).toInt = 12 := (by decide +kernel); have r0 := fb_rng (a_0); have e0 := k_0; rw [Int32.lt_iff_toInt_lt, z1] at e0; obtain ⟨n_0, hn_0, s0⟩ := nd_add (x := a_0) (y := (1 : Int32)) (by (try rw [z0]); omega) (by (try rw [z0]); omega); rw [z0] at s0; rw [hn_0, Int32.lt_iff_toInt_lt, z2]; omega)) (ti f q0 4) as_0))⟩ d_Rv_addStairs_17 (fun f_2 H locs hP hD hS hO_2 hE_2 w_3 hF_2 => ?_)
  have hA_2 := hA_1.trans hE_2
  have hQ := hQ f_2 hF_2
  have hQ := hQ hO_2
  refine lv_aload_n hx hb d_Rv_addStairs_20 rfl (lv_at hl 0 rfl) ?_
  refine tw_getI (x := ((ti f q0 4) + 1)) (D := (dC, dI)) (C := R_Rv) (T := F_Rv) (N := 6) (ci := 1) (kd := 1) (ct := ct) hx hb htb i_Rv hown hK hP (hA_2.m m0) rfl rfl 4 w_3 (by decide) (htb (.fieldLink R_Rv 35 "WaterMen$River" "stairCount" "I") tw_193) (fun _ h9 => h9) rfl d_Rv_addStairs_21 ?_
  refine lv_iconst (v := 1) hx hb d_Rv_addStairs_24 (by decide +kernel) ?_
  refine lv_isub hx hb d_Rv_addStairs_25 ?_
  refine W.widen (k := 0) (n := 0) (Nat.le_of_ble_eq_true rfl) (Nat.le_of_ble_eq_true rfl) ?_
  exact W.iret (v := (((ti f q0 4) + 1) - 1)) hx hb hr (fun t ht hW => ⟨⟨(((ti f q0 4) + 1) - 1), (L, f_2), rfl, ⟨hO_2, hA_2.mono (by decide +kernel), trivial, hQ⟩, by rw [ht]; exact hP, va_K.moved hW.alike hK, by rw [hAe]; exact hD⟩, by rw [hAe]; exact hS.F ht⟩) (by rw [hAe]; exact hS.2.2) d_Rv_addStairs_26
def W_WM_stairs_w : List (Nat × Nat) := [(1, 4), (2, 1000)]
def wp_WM_stairs_w (L : List Nat) (f : TF) (q0 : Nat) (p_0 : Int32) (Q : Int32 → List Nat → TF → Prop) : Prop := ((p_0 < 0 → Q (-1) L f) ∧ (¬ (p_0 < 0) → ((60 < p_0 → Q (-1) L f) ∧ (¬ (60 < p_0) → ∀ q_3 : Nat, tr f q0 0 = some q_3 → wp_Rv_highest_w L f q_3 (fun (r_4 : Int32) => ((r_4 < p_0 → ∀ x_6 : Int32, ti f q_3 4 = x_6 → ((x_6 < 12 → wp_Rv_addStairs_w L f q_3 p_0 (fun (r_8 : Int32) (L_1 : List Nat) (f_1 : TF) => Ok L_1 f_1 → Ext W_Rv_addStairs_w L f L_1 f_1 → Q r_8 L_1 f_1)) ∧ (¬ (x_6 < 12) → Q (-3) L f))) ∧ (¬ (r_4 < p_0) → Q (-1) L f)))))))
set_option maxHeartbeats 4000000 in
set_option maxRecDepth 100000 in
theorem c_WM_stairs_w (l : Launch) (dC : Nat → ClassId) (dI : Nat → Nat → Nat) (ct : Nat → ClassId) (L : List Nat) (f : TF) (hO_0 : Ok L f) (q0 : Nat) (m0 : q0 ∈ L ∧ tk f q0 = 0) (sz : Nat) (p_0 : Int32)   (Q : Int32 → List Nat → TF → Prop) (hQ : wp_WM_stairs_w L f q0 p_0 Q) : Met l y_WM_stairs (.code y_WM_stairs b_WM_stairs 2 (some .int) :: TB) ({ frames := 1, cells := 0, slots := 0, locals := 21 }) (va_Pc [.ref q0, .int p_0] (PC dC dI (TW ct L f) (TT ct) sz)) (va_Qi (fun r (u : TSt) => Ok u.1 u.2 ∧ Ext W_WM_stairs_w L f u.1 u.2 ∧ (True) ∧ Q r u.1 u.2) (fun (u : TSt) t => va_P (dC, dI) vwCl (TW ct u.1 u.2) t.heap ∧ va_K (dC, dI) vwCl (TT ct) t ∧ va_D (va_A (TW ct L f) sz) (TW ct u.1 u.2)) (va_A (TW ct L f) sz)) 0 0 (va_A (TW ct L f) sz) := by
  refine Met.ofW (cc := b_WM_stairs) (maxL := 2) (ret := (some .int)) (by decide) rfl ?_
  intro p e s m args below meth c s₁ B hml hv
  obtain ⟨rfl, hsz, hP, hK, hD0, hN⟩ := hv
  have hx := B.exec
  have hb := B.bytes
  have hr := B.returns
  have hts := atoms_spec (ws := (.code y_WM_stairs b_WM_stairs 2 (some .int) :: TB)) B.pre
  have htb := fun w (h : w ∈ TB) => hts w (List.mem_cons_of_mem _ h)
  have hown : s.vm.findClass R_WM = some m.cls := findClass_of_methodNamed B.named
  have hlocks := B.notSynchronized
  have hl := lv_entry ([.ref q0, .int p_0]) (n := 2) (Nat.le_of_ble_eq_true rfl)
  rw [lg_entry_eq]
  generalize (lg_sl ([.ref q0, .int p_0]) ++ List.replicate (2 - (lg_sl ([.ref q0, .int p_0])).length) Slot.unset).toArray = ls at hl ⊢
  have hl : lv_has ls 2 [(0, .ref q0), (1, .int p_0)] := hl
  subst hsz
  have hD := hD0.self (sz := s.heap.size)
  obtain ⟨A, hAe⟩ : ∃ A, va_A (TW ct L f) s.heap.size = A := ⟨_, rfl⟩
  rw [hAe] at hD
  have hA : ∀ q : Nat, s.heap.size ≤ q → A q := fun q h => by rw [← hAe]; exact Or.inr h
  have hS : va_S A s.heap s.heap [] := va_S.rf
  have hA_0 : Ext [] L f L f := Ext.rf
  suffices hGo : ∀ (H : Heap) (locs : List Loc), va_P (dC, dI) vwCl (TW ct L f) H → va_S A s.heap H locs → W p l e (headSpec (.code y_WM_stairs b_WM_stairs 2 (some .int) :: TB) ({ frames := 1, cells := 0, slots := 0, locals := 21 })).room s m [.ref q0, .int p_0].toArray below meth c H locs 0 0 (MQ below (va_Qi (fun r (u : TSt) => Ok u.1 u.2 ∧ Ext W_WM_stairs_w L f u.1 u.2 ∧ (True) ∧ Q r u.1 u.2) (fun (u : TSt) t => va_P (dC, dI) vwCl (TW ct u.1 u.2) t.heap ∧ va_K (dC, dI) vwCl (TT ct) t ∧ va_D (va_A (TW ct L f) s.heap.size) (TW ct u.1 u.2)) (va_A (TW ct L f) s.heap.size)) [.ref q0, .int p_0].toArray s 0 0 (va_A (TW ct L f) s.heap.size)) (F0 m 0 ls []) from hGo _ _ hP hS
  clear hP hS
  intro H locs hP hS
  unfold wp_WM_stairs_w at hQ
  refine lv_iload_n hx hb d_WM_stairs_0 rfl (lv_at hl 1 rfl) ?_
  refine lv_if_lt (tgt := 21) hx hb d_WM_stairs_1 (by decide) (fun c_1 => ?_) (fun c_1 => ?_)
  · have hQ := hQ.1 c_1
    refine lv_iconst (v := (-1)) hx hb d_WM_stairs_21 (by decide +kernel) ?_
    refine W.widen (k := 0) (n := 0) (Nat.le_of_ble_eq_true rfl) (Nat.le_of_ble_eq_true rfl) ?_
    exact W.iret (v := (-1)) hx hb hr (fun t ht hW => ⟨⟨(-1), (L, f), rfl, ⟨hO_0, hA_0.mono (by decide +kernel), trivial, hQ⟩, by rw [ht]; exact hP, va_K.moved hW.alike hK, by rw [hAe]; exact hD⟩, by rw [hAe]; exact hS.F ht⟩) (by rw [hAe]; exact hS.2.2) d_WM_stairs_22
  · have hQ := hQ.2 c_1
    refine lv_iload_n hx hb d_WM_stairs_4 rfl (lv_at hl 1 rfl) ?_
    refine lv_bipush (v := 60) hx hb d_WM_stairs_5 (by decide +kernel) ?_
    refine lv_icmp_gt (tgt := 21) hx hb d_WM_stairs_7 (by decide) (fun c_2 => ?_) (fun c_2 => ?_)
    · have hQ := hQ.1 c_2
      refine lv_iconst (v := (-1)) hx hb d_WM_stairs_21 (by decide +kernel) ?_
      refine W.widen (k := 0) (n := 0) (Nat.le_of_ble_eq_true rfl) (Nat.le_of_ble_eq_true rfl) ?_
      exact W.iret (v := (-1)) hx hb hr (fun t ht hW => ⟨⟨(-1), (L, f), rfl, ⟨hO_0, hA_0.mono (by decide +kernel), trivial, hQ⟩, by rw [ht]; exact hP, va_K.moved hW.alike hK, by rw [hAe]; exact hD⟩, by rw [hAe]; exact hS.F ht⟩) (by rw [hAe]; exact hS.2.2) d_WM_stairs_22
    · have hQ := hQ.2 c_2
      refine lv_iload_n hx hb d_WM_stairs_10 rfl (lv_at hl 1 rfl) ?_
      refine lv_aload_n hx hb d_WM_stairs_11 rfl (lv_at hl 0 rfl) ?_
      refine tw_getr (D := (dC, dI)) (C := R_WM) (T := F_WM) (N := 13) (ci := 0) (kd := 0) (ct := ct) hx hb htb i_WM hown hK hP hO_0 m0 rfl rfl 0 (by decide) (htb (.fieldLink R_WM 12 "WaterMen" "river" "LWaterMen$River;") tw_135) (fun _ h9 => h9) rfl d_WM_stairs_12 (fun q_3 e_3 m_3 => ?_)
      have hQ := hQ q_3 e_3
      refine vp_callSi (va_Run.run (va_runV (As := []) (rest := [.int p_0]) ⟨hx, hb, hml, hown, htb⟩ (c_Rv_highest_w l dC dI ct L f hO_0 q_3 m_3 _ hQ) (cwV 0 htb (gd_V tw_196 tw_197 tw_198 tw_140 tw_195) rfl rfl rfl (by decide +kernel) ⟨Nat.le_of_ble_eq_true rfl, Nat.le_of_ble_eq_true rfl⟩) ⟨pr_blind, tw_recv hK hP m_3 rfl rfl, pr_pre hP hK hN⟩ rfl rfl hl.1 rfl (lv_room (Nat.le_of_ble_eq_true rfl)) d_WM_stairs_15 ⟨Nat.le_of_ble_eq_true rfl, Nat.le_of_ble_eq_true rfl⟩)) (fun r_4 er_4 => ?_)
      obtain ⟨er_4, hQ⟩ := er_4
      clear er_4
      refine lv_icmp_gt (tgt := 23) hx hb d_WM_stairs_18 (by decide) (fun c_5 => ?_) (fun c_5 => ?_)
      · have hQ := hQ.1 c_5
        refine lv_aload_n hx hb d_WM_stairs_23 rfl (lv_at hl 0 rfl) ?_
        refine tw_getR (D := (dC, dI)) (C := R_WM) (T := F_WM) (N := 13) (ci := 0) (kd := 0) (ct := ct) hx hb htb i_WM hown hK hP m0 rfl rfl 0 e_3 (by decide) (htb (.fieldLink R_WM 12 "WaterMen" "river" "LWaterMen$River;") tw_135) (fun _ h9 => h9) rfl d_WM_stairs_24 ?_
        refine hb_tv (.ref q_3) rfl ?_
        refine tw_geti (D := (dC, dI)) (C := R_Rv) (T := F_Rv) (N := 6) (ci := 1) (kd := 1) (ct := ct) hx hb htb i_Rv hown hK hP hO_0 m_3 rfl rfl 4 (by decide) (htb (.fieldLink R_WM 64 "WaterMen$River" "stairCount" "I") tw_199) (fun _ h9 => h9) rfl d_WM_stairs_27 (fun x_6 e_6 b_6 => ?_)
        have hQ := hQ x_6 e_6
        refine lv_bipush (v := 12) hx hb d_WM_stairs_30 (by decide +kernel) ?_
        refine lv_icmp_lt (tgt := 40) hx hb d_WM_stairs_32 (by decide) (fun c_7 => ?_) (fun c_7 => ?_)
        · have hQ := hQ.1 c_7
          refine lv_aload_n hx hb d_WM_stairs_40 rfl (lv_at hl 0 rfl) ?_
          refine tw_getR (D := (dC, dI)) (C := R_WM) (T := F_WM) (N := 13) (ci := 0) (kd := 0) (ct := ct) hx hb htb i_WM hown hK hP m0 rfl rfl 0 e_3 (by decide) (htb (.fieldLink R_WM 12 "WaterMen" "river" "LWaterMen$River;") tw_135) (fun _ h9 => h9) rfl d_WM_stairs_41 ?_
          refine hb_tv (.ref q_3) rfl ?_
          refine lv_iload_n hx hb d_WM_stairs_44 rfl (lv_at hl 1 rfl) ?_
          have hFc := hb_free hD hS hA
          refine va_calli (va_runV (As := [.int p_0]) (rest := []) ⟨hx, hb, hml, hown, htb⟩ (c_Rv_addStairs_w l dC dI ct L f hO_0 q_3 m_3 _ p_0 (by rw [show ti f q_3 4 = x_6 from e_6]; first | done | exact (show ¬ (11 < x_6) from by have e0 := b_6.1; rw [Int32.lt_iff_toInt_lt] at e0; have e1 := c_7; rw [Int32.lt_iff_toInt_lt] at e1; have z0 : (0 : Int32).toInt = 0 := (by decide +kernel); have z1 : (11 : Int32).toInt = 11 := (by decide +kernel); have z2 : (12 : Int32).toInt = 12 := (by decide +kernel); rw [Int32.lt_iff_toInt_lt]; omega)) _ hQ) (cwV 1 htb (gd_V tw_201 tw_202 tw_203 tw_140 tw_200) rfl rfl rfl (by decide +kernel) ⟨Nat.le_of_ble_eq_true rfl, Nat.le_of_ble_eq_true rfl⟩) ⟨pc_blind, tw_recv hK hP m_3 rfl rfl, pc_pre hP hK hD hN⟩ rfl rfl hl.1 rfl (lv_room (Nat.le_of_ble_eq_true rfl)) d_WM_stairs_45 ⟨Nat.le_of_ble_eq_true rfl, Nat.le_of_ble_eq_true rfl⟩) hS (fun q _ h => hFc q h) hFc (fun r_8 u t H locs ht hvm er hB hz1 hk1 hS => ?_)
          obtain ⟨L_1, f_1⟩ := u
          obtain ⟨hO_1, hE_1, er, hQ⟩ := er
          obtain ⟨hP, hK1, hD1⟩ := hB
          rw [ht] at hP
          have hP : va_P (dC, dI) vwCl (TW ct L_1 f_1) H := hP
          have hD : va_D A (TW ct L_1 f_1) := hD1.weaken (fun _ q _ h => hFc q.1 h)
          have hO_1 : Ok L_1 f_1 := hO_1
          have hE_1 : Ext W_Rv_addStairs_w L f L_1 f_1 := hE_1
          clear hK1 hD1 ht hvm hz1 hk1
          have hA_1 := hA_0.trans hE_1
          have hQ := hQ hO_1 hE_1
          clear er
          refine W.widen (k := 0) (n := 0) (Nat.le_of_ble_eq_true rfl) (Nat.le_of_ble_eq_true rfl) ?_
          exact W.iret (v := r_8) hx hb hr (fun t ht hW => ⟨⟨r_8, (L_1, f_1), rfl, ⟨hO_1, hA_1.mono (by decide +kernel), trivial, hQ⟩, by rw [ht]; exact hP, va_K.moved hW.alike hK, by rw [hAe]; exact hD⟩, by rw [hAe]; exact hS.F ht⟩) (by rw [hAe]; exact hS.2.2) d_WM_stairs_48
        · have hQ := hQ.2 c_7
          refine lv_bipush (v := (-3)) hx hb d_WM_stairs_35 (by decide +kernel) ?_
          refine lv_goto (tgt := 48) hx hb d_WM_stairs_37 (by decide) ?_
          refine W.widen (k := 0) (n := 0) (Nat.le_of_ble_eq_true rfl) (Nat.le_of_ble_eq_true rfl) ?_
          exact W.iret (v := (-3)) hx hb hr (fun t ht hW => ⟨⟨(-3), (L, f), rfl, ⟨hO_0, hA_0.mono (by decide +kernel), trivial, hQ⟩, by rw [ht]; exact hP, va_K.moved hW.alike hK, by rw [hAe]; exact hD⟩, by rw [hAe]; exact hS.F ht⟩) (by rw [hAe]; exact hS.2.2) d_WM_stairs_48
      · have hQ := hQ.2 c_5
        refine lv_iconst (v := (-1)) hx hb d_WM_stairs_21 (by decide +kernel) ?_
        refine W.widen (k := 0) (n := 0) (Nat.le_of_ble_eq_true rfl) (Nat.le_of_ble_eq_true rfl) ?_
        exact W.iret (v := (-1)) hx hb hr (fun t ht hW => ⟨⟨(-1), (L, f), rfl, ⟨hO_0, hA_0.mono (by decide +kernel), trivial, hQ⟩, by rw [ht]; exact hP, va_K.moved hW.alike hK, by rw [hAe]; exact hD⟩, by rw [hAe]; exact hS.F ht⟩) (by rw [hAe]; exact hS.2.2) d_WM_stairs_22
def W_Md_stairs_w : List (Nat × Nat) := [(27, 2), (28, 1000)]
def wp_Md_stairs_w (L : List Nat) (f : TF) (q0 : Nat) (p_0 : Int32) (Q : Int32 → List Nat → TF → Prop) : Prop := ((p_0 < 0 → Q (-1) L f) ∧ (¬ (p_0 < 0) → ((60 < p_0 → Q (-1) L f) ∧ (¬ (60 < p_0) → ∀ x_4 : Int32, ti f q0 2 = x_4 → ((x_4 ≤ 0 → ∀ q_6 : Nat, tr f q0 3 = some q_6 → ∀ f_1 : TF, f_1 = sI f q_6 (x_4 : Int32).toNatClampNeg p_0 → Ok L f_1 → ∀ f_2 : TF, f_2 = sI f_1 q0 2 (x_4 + 1) → Ok L f_2 → Q ((x_4 + 1) - 1) L f_2) ∧ (¬ (x_4 ≤ 0) → ∀ q_9 : Nat, tr f q0 3 = some q_9 → ∀ x_10 : Int32, ti f q_9 ((x_4 - 1) : Int32).toNatClampNeg = x_10 → ((x_10 < p_0 → ((x_4 = 12 → Q (-3) L f) ∧ (¬ (x_4 = 12) → ∀ f_1 : TF, f_1 = sI f q_9 (x_4 : Int32).toNatClampNeg p_0 → Ok L f_1 → ∀ f_2 : TF, f_2 = sI f_1 q0 2 (x_4 + 1) → Ok L f_2 → Q ((x_4 + 1) - 1) L f_2))) ∧ (¬ (x_10 < p_0) → Q (-1) L f))))))))
set_option maxHeartbeats 4000000 in
set_option maxRecDepth 100000 in
theorem c_Md_stairs_w (l : Launch) (dC : Nat → ClassId) (dI : Nat → Nat → Nat) (ct : Nat → ClassId) (L : List Nat) (f : TF) (hO_0 : Ok L f) (q0 : Nat) (m0 : q0 ∈ L ∧ tk f q0 = 27) (sz : Nat) (p_0 : Int32)   (Q : Int32 → List Nat → TF → Prop) (hQ : wp_Md_stairs_w L f q0 p_0 Q) : Met l y_Md_stairs (.code y_Md_stairs b_Md_stairs 2 (some .int) :: TB) ({ frames := 1, cells := 0, slots := 0, locals := 22 }) (va_Pc [.ref q0, .int p_0] (PC dC dI (TW ct L f) (TT ct) sz)) (va_Qi (fun r (u : TSt) => Ok u.1 u.2 ∧ Ext W_Md_stairs_w L f u.1 u.2 ∧ (True) ∧ Q r u.1 u.2) (fun (u : TSt) t => va_P (dC, dI) vwCl (TW ct u.1 u.2) t.heap ∧ va_K (dC, dI) vwCl (TT ct) t ∧ va_D (va_A (TW ct L f) sz) (TW ct u.1 u.2)) (va_A (TW ct L f) sz)) 0 0 (va_A (TW ct L f) sz) := by
  refine Met.ofW (cc := b_Md_stairs) (maxL := 2) (ret := (some .int)) (by decide) rfl ?_
  intro p e s m args below meth c s₁ B hml hv
  obtain ⟨rfl, hsz, hP, hK, hD0, hN⟩ := hv
  have hx := B.exec
  have hb := B.bytes
  have hr := B.returns
  have hts := atoms_spec (ws := (.code y_Md_stairs b_Md_stairs 2 (some .int) :: TB)) B.pre
  have htb := fun w (h : w ∈ TB) => hts w (List.mem_cons_of_mem _ h)
  have hown : s.vm.findClass R_Md = some m.cls := findClass_of_methodNamed B.named
  have hlocks := B.notSynchronized
  have hl := lv_entry ([.ref q0, .int p_0]) (n := 2) (Nat.le_of_ble_eq_true rfl)
  rw [lg_entry_eq]
  generalize (lg_sl ([.ref q0, .int p_0]) ++ List.replicate (2 - (lg_sl ([.ref q0, .int p_0])).length) Slot.unset).toArray = ls at hl ⊢
  have hl : lv_has ls 2 [(0, .ref q0), (1, .int p_0)] := hl
  subst hsz
  have hD := hD0.self (sz := s.heap.size)
  obtain ⟨A, hAe⟩ : ∃ A, va_A (TW ct L f) s.heap.size = A := ⟨_, rfl⟩
  rw [hAe] at hD
  have hA : ∀ q : Nat, s.heap.size ≤ q → A q := fun q h => by rw [← hAe]; exact Or.inr h
  have hS : va_S A s.heap s.heap [] := va_S.rf
  have hA_0 : Ext [] L f L f := Ext.rf
  suffices hGo : ∀ (H : Heap) (locs : List Loc), va_P (dC, dI) vwCl (TW ct L f) H → va_S A s.heap H locs → W p l e (headSpec (.code y_Md_stairs b_Md_stairs 2 (some .int) :: TB) ({ frames := 1, cells := 0, slots := 0, locals := 22 })).room s m [.ref q0, .int p_0].toArray below meth c H locs 0 0 (MQ below (va_Qi (fun r (u : TSt) => Ok u.1 u.2 ∧ Ext W_Md_stairs_w L f u.1 u.2 ∧ (True) ∧ Q r u.1 u.2) (fun (u : TSt) t => va_P (dC, dI) vwCl (TW ct u.1 u.2) t.heap ∧ va_K (dC, dI) vwCl (TT ct) t ∧ va_D (va_A (TW ct L f) s.heap.size) (TW ct u.1 u.2)) (va_A (TW ct L f) s.heap.size)) [.ref q0, .int p_0].toArray s 0 0 (va_A (TW ct L f) s.heap.size)) (F0 m 0 ls []) from hGo _ _ hP hS
  clear hP hS
  intro H locs hP hS
  unfold wp_Md_stairs_w at hQ
  refine lv_iload_n hx hb d_Md_stairs_0 rfl (lv_at hl 1 rfl) ?_
  refine lv_iconst (v := 0) hx hb d_Md_stairs_1 (by decide +kernel) ?_
  refine lv_bipush (v := 60) hx hb d_Md_stairs_2 (by decide +kernel) ?_
  refine vp_callSi (va_Run.run (va_runS (As := [.int p_0, .int 0, .int 60]) (rest := []) ⟨hx, hb, hml, hown, htb⟩ (c_Md_in l p_0 0 60) (cwS 3 htb (gd_S tw_90 tw_91 tw_89 tw_88) rfl rfl rfl (by decide +kernel) ⟨Nat.le_of_ble_eq_true rfl, Nat.le_of_ble_eq_true rfl⟩) ⟨fun _ _ _ _ h => h, fun U _ _ => ⟨rfl, trivial⟩⟩ rfl rfl hl.1 rfl (lv_room (Nat.le_of_ble_eq_true rfl)) d_Md_stairs_4 ⟨Nat.le_of_ble_eq_true rfl, Nat.le_of_ble_eq_true rfl⟩)) (fun r er => ?_)
  subst er
  by_cases c_2 : p_0 < 0
  · have hQ := hQ.1 c_2
    refine hb_ti 0 (by unfold f_Md_in; rw [if_pos c_2]; first | done | rfl) ?_
    refine lv_if_eq (tgt := 32) hx hb d_Md_stairs_7 (by decide) (fun _ => ?_) (fun h => absurd (by decide +kernel) h)
    refine lv_iconst (v := (-1)) hx hb d_Md_stairs_32 (by decide +kernel) ?_
    refine W.widen (k := 0) (n := 0) (Nat.le_of_ble_eq_true rfl) (Nat.le_of_ble_eq_true rfl) ?_
    exact W.iret (v := (-1)) hx hb hr (fun t ht hW => ⟨⟨(-1), (L, f), rfl, ⟨hO_0, hA_0.mono (by decide +kernel), trivial, hQ⟩, by rw [ht]; exact hP, va_K.moved hW.alike hK, by rw [hAe]; exact hD⟩, by rw [hAe]; exact hS.F ht⟩) (by rw [hAe]; exact hS.2.2) d_Md_stairs_33
  · have hQ := hQ.2 c_2
    by_cases c_3 : 60 < p_0
    · have hQ := hQ.1 c_3
      refine hb_ti 0 (by unfold f_Md_in; rw [if_neg c_2, if_pos c_3]; first | done | rfl) ?_
      refine lv_if_eq (tgt := 32) hx hb d_Md_stairs_7 (by decide) (fun _ => ?_) (fun h => absurd (by decide +kernel) h)
      refine lv_iconst (v := (-1)) hx hb d_Md_stairs_32 (by decide +kernel) ?_
      refine W.widen (k := 0) (n := 0) (Nat.le_of_ble_eq_true rfl) (Nat.le_of_ble_eq_true rfl) ?_
      exact W.iret (v := (-1)) hx hb hr (fun t ht hW => ⟨⟨(-1), (L, f), rfl, ⟨hO_0, hA_0.mono (by decide +kernel), trivial, hQ⟩, by rw [ht]; exact hP, va_K.moved hW.alike hK, by rw [hAe]; exact hD⟩, by rw [hAe]; exact hS.F ht⟩) (by rw [hAe]; exact hS.2.2) d_Md_stairs_33
    · have hQ := hQ.2 c_3
      refine hb_ti 1 (by unfold f_Md_in; rw [if_neg c_2, if_neg c_3]; first | done | rfl) ?_
      refine lv_if_eq (tgt := 32) hx hb d_Md_stairs_7 (by decide) (fun h => absurd h (by decide +kernel)) (fun _ => ?_)
      refine lv_aload_n hx hb d_Md_stairs_10 rfl (lv_at hl 0 rfl) ?_
      refine tw_geti (D := (dC, dI)) (C := R_Md) (T := F_Md) (N := 64) (ci := 7) (kd := 27) (ct := ct) hx hb htb i_Md hown hK hP hO_0 m0 rfl rfl 2 (by decide) (htb (.fieldLink R_Md 14 "WaterMenModel" "stairs" "I") tw_97) (fun _ h9 => h9) rfl d_Md_stairs_11 (fun x_4 e_4 b_4 => ?_)
      have hQ := hQ x_4 e_4
      refine lv_if_le (tgt := 34) hx hb d_Md_stairs_14 (by decide) (fun c_5 => ?_) (fun c_5 => ?_)
      · have hQ := hQ.1 c_5
        refine lv_aload_n hx hb d_Md_stairs_34 rfl (lv_at hl 0 rfl) ?_
        refine tw_getI (x := x_4) (D := (dC, dI)) (C := R_Md) (T := F_Md) (N := 64) (ci := 7) (kd := 27) (ct := ct) hx hb htb i_Md hown hK hP m0 rfl rfl 2 e_4 (by decide) (htb (.fieldLink R_Md 14 "WaterMenModel" "stairs" "I") tw_97) (fun _ h9 => h9) rfl d_Md_stairs_35 ?_
        refine lv_bipush (v := 12) hx hb d_Md_stairs_38 (by decide +kernel) ?_
        refine lv_icmp_ne (tgt := 46) hx hb d_Md_stairs_40 (by decide) (fun _ => ?_) (fun h => absurd h (show ¬ (x_4 = 12) from by have e0 := b_4.1; rw [Int32.lt_iff_toInt_lt] at e0; have e1 := c_5; rw [Int32.le_iff_toInt_le] at e1; have z0 : (0 : Int32).toInt = 0 := (by decide +kernel); have z1 : (12 : Int32).toInt = 12 := (by decide +kernel); rw [← Int32.toInt_inj]; omega))
        refine lv_aload_n hx hb d_Md_stairs_46 rfl (lv_at hl 0 rfl) ?_
        refine tw_getr (D := (dC, dI)) (C := R_Md) (T := F_Md) (N := 64) (ci := 7) (kd := 27) (ct := ct) hx hb htb i_Md hown hK hP hO_0 m0 rfl rfl 3 (by decide) (htb (.fieldLink R_Md 32 "WaterMenModel" "miles" "[I") tw_204) (fun _ h9 => h9) rfl d_Md_stairs_47 (fun q_6 e_6 m_6 => ?_)
        have hQ := hQ q_6 e_6
        refine lv_aload_n hx hb d_Md_stairs_50 rfl (lv_at hl 0 rfl) ?_
        refine tw_getI (x := x_4) (D := (dC, dI)) (C := R_Md) (T := F_Md) (N := 64) (ci := 7) (kd := 27) (ct := ct) hx hb htb i_Md hown hK hP m0 rfl rfl 2 e_4 (by decide) (htb (.fieldLink R_Md 14 "WaterMenModel" "stairs" "I") tw_97) (fun _ h9 => h9) rfl d_Md_stairs_51 ?_
        refine lv_iload_n hx hb d_Md_stairs_54 rfl (lv_at hl 1 rfl) ?_
        refine tw_astI (ct := ct) (x := p_0) hx hb hK hP hD hS hO_0 m_6 rfl ((fun (a_0 : Int32) (k_0 : ¬ (a_0 < 0)) (k_1 : a_0 ≤ 0) => (show vp_in (a_0) 12 from by have z0 : (0 : Int32).toInt = 0 := (by decide +kernel); have r0 := fb_rng (a_0); have e0 := k_0; rw [Int32.lt_iff_toInt_lt, z0] at e0; have e1 := k_1; rw [Int32.le_iff_toInt_le, z0] at e1; rw [vp_in_iff]; omega)) x_4 b_4.1 c_5) (i32_full _) d_Md_stairs_55 (fun f_1 H locs hP hD hS hO_1 hE_1 w_7 ow_7 hF_1 => ?_)
        have hA_1 := hA_0.trans hE_1
        have hQ := hQ f_1 hF_1
        have hQ := hQ hO_1
        refine lv_aload_n hx hb d_Md_stairs_56 rfl (lv_at hl 0 rfl) ?_
        refine lv_dup hx hb d_Md_stairs_57 rfl ?_
        refine tw_getI (x := x_4) (D := (dC, dI)) (C := R_Md) (T := F_Md) (N := 64) (ci := 7) (kd := 27) (ct := ct) hx hb htb i_Md hown hK hP (hA_1.m m0) rfl rfl 2 ((hA_1.ei m0 rfl).trans e_4) (by decide) (htb (.fieldLink R_Md 14 "WaterMenModel" "stairs" "I") tw_97) (fun _ h9 => h9) rfl d_Md_stairs_58 ?_
        refine lv_iconst (v := 1) hx hb d_Md_stairs_61 (by decide +kernel) ?_
        refine lv_iadd hx hb d_Md_stairs_62 ?_
        refine tw_puti (v := (x_4 + 1)) (D := (dC, dI)) (C := R_Md) (T := F_Md) (N := 64) (ci := 7) (kd := 27) (ct := ct) (ty := .int) hx hb htb i_Md t_Md t_Md_ok n_Md hown hK hP hD hS hO_1 (hA_1.m m0) rfl rfl 2 (by decide) (htb (.fieldLink R_Md 14 "WaterMenModel" "stairs" "I") tw_97) (fun _ h9 => h9) rfl (by decide +kernel) rfl rfl rfl ⟨(show ¬ ((x_4 + 1) < 0) from by have e0 := b_4.1; rw [Int32.lt_iff_toInt_lt] at e0; have e1 := c_5; rw [Int32.le_iff_toInt_le] at e1; have z0 : (0 : Int32).toInt = 0 := (by decide +kernel); have z1 : (1 : Int32).toInt = 1 := (by decide +kernel); have ss := fb_addI (x := x_4) (y := 1) (by omega) (by omega); rw [Int32.lt_iff_toInt_lt]; omega), (show ¬ (12 < (x_4 + 1)) from by have e0 := b_4.1; rw [Int32.lt_iff_toInt_lt] at e0; have e1 := c_5; rw [Int32.le_iff_toInt_le] at e1; have z0 : (0 : Int32).toInt = 0 := (by decide +kernel); have z1 : (1 : Int32).toInt = 1 := (by decide +kernel); have z2 : (12 : Int32).toInt = 12 := (by decide +kernel); have ss := fb_addI (x := x_4) (y := 1) (by omega) (by omega); rw [Int32.lt_iff_toInt_lt]; omega)⟩ d_Md_stairs_63 (fun f_2 H locs hP hD hS hO_2 hE_2 w_8 hF_2 => ?_)
        have hA_2 := hA_1.trans hE_2
        have hQ := hQ f_2 hF_2
        have hQ := hQ hO_2
        refine lv_aload_n hx hb d_Md_stairs_66 rfl (lv_at hl 0 rfl) ?_
        refine tw_getI (x := (x_4 + 1)) (D := (dC, dI)) (C := R_Md) (T := F_Md) (N := 64) (ci := 7) (kd := 27) (ct := ct) hx hb htb i_Md hown hK hP (hA_2.m m0) rfl rfl 2 w_8 (by decide) (htb (.fieldLink R_Md 14 "WaterMenModel" "stairs" "I") tw_97) (fun _ h9 => h9) rfl d_Md_stairs_67 ?_
        refine lv_iconst (v := 1) hx hb d_Md_stairs_70 (by decide +kernel) ?_
        refine lv_isub hx hb d_Md_stairs_71 ?_
        refine W.widen (k := 0) (n := 0) (Nat.le_of_ble_eq_true rfl) (Nat.le_of_ble_eq_true rfl) ?_
        exact W.iret (v := ((x_4 + 1) - 1)) hx hb hr (fun t ht hW => ⟨⟨((x_4 + 1) - 1), (L, f_2), rfl, ⟨hO_2, hA_2.mono (by decide +kernel), trivial, hQ⟩, by rw [ht]; exact hP, va_K.moved hW.alike hK, by rw [hAe]; exact hD⟩, by rw [hAe]; exact hS.F ht⟩) (by rw [hAe]; exact hS.2.2) d_Md_stairs_72
      · have hQ := hQ.2 c_5
        refine lv_iload_n hx hb d_Md_stairs_17 rfl (lv_at hl 1 rfl) ?_
        refine lv_aload_n hx hb d_Md_stairs_18 rfl (lv_at hl 0 rfl) ?_
        refine tw_getr (D := (dC, dI)) (C := R_Md) (T := F_Md) (N := 64) (ci := 7) (kd := 27) (ct := ct) hx hb htb i_Md hown hK hP hO_0 m0 rfl rfl 3 (by decide) (htb (.fieldLink R_Md 32 "WaterMenModel" "miles" "[I") tw_204) (fun _ h9 => h9) rfl d_Md_stairs_19 (fun q_9 e_9 m_9 => ?_)
        have hQ := hQ q_9 e_9
        refine lv_aload_n hx hb d_Md_stairs_22 rfl (lv_at hl 0 rfl) ?_
        refine tw_getI (x := x_4) (D := (dC, dI)) (C := R_Md) (T := F_Md) (N := 64) (ci := 7) (kd := 27) (ct := ct) hx hb htb i_Md hown hK hP m0 rfl rfl 2 e_4 (by decide) (htb (.fieldLink R_Md 14 "WaterMenModel" "stairs" "I") tw_97) (fun _ h9 => h9) rfl d_Md_stairs_23 ?_
        refine lv_iconst (v := 1) hx hb d_Md_stairs_26 (by decide +kernel) ?_
        refine lv_isub hx hb d_Md_stairs_27 ?_
        refine tw_aldI (ct := ct) hx hb hK hP hO_0 m_9 rfl ((fun (a_0 : Int32) (k_0 : ¬ (12 < a_0)) (k_1 : ¬ (a_0 ≤ 0)) => (show vp_in ((a_0 - 1)) 12 from by have z0 : (0 : Int32).toInt = 0 := (by decide +kernel); have z1 : (1 : Int32).toInt = 1 := (by decide +kernel); have z2 : (12 : Int32).toInt = 12 := (by decide +kernel); have r0 := fb_rng (a_0); have e0 := k_0; rw [Int32.lt_iff_toInt_lt, z2] at e0; have e1 := k_1; rw [Int32.le_iff_toInt_le, z0] at e1; obtain ⟨n_0, hn_0, s0⟩ := nd_sub (x := (a_0)) (y := (1 : Int32)) (by (try rw [z1]); omega) (by (try rw [z1]); omega); rw [z1] at s0; rw [hn_0, vp_in_iff]; omega)) x_4 b_4.2 c_5) d_Md_stairs_28 (fun x_10 e_10 b_10 => ?_)
        have hQ := hQ x_10 e_10
        refine lv_icmp_gt (tgt := 34) hx hb d_Md_stairs_29 (by decide) (fun c_11 => ?_) (fun c_11 => ?_)
        · have hQ := hQ.1 c_11
          refine lv_aload_n hx hb d_Md_stairs_34 rfl (lv_at hl 0 rfl) ?_
          refine tw_getI (x := x_4) (D := (dC, dI)) (C := R_Md) (T := F_Md) (N := 64) (ci := 7) (kd := 27) (ct := ct) hx hb htb i_Md hown hK hP m0 rfl rfl 2 e_4 (by decide) (htb (.fieldLink R_Md 14 "WaterMenModel" "stairs" "I") tw_97) (fun _ h9 => h9) rfl d_Md_stairs_35 ?_
          refine lv_bipush (v := 12) hx hb d_Md_stairs_38 (by decide +kernel) ?_
          refine lv_icmp_ne (tgt := 46) hx hb d_Md_stairs_40 (by decide) (fun c_12 => ?_) (fun c_12 => ?_)
          · have hQ := hQ.2 c_12
            refine lv_aload_n hx hb d_Md_stairs_46 rfl (lv_at hl 0 rfl) ?_
            refine tw_getR (D := (dC, dI)) (C := R_Md) (T := F_Md) (N := 64) (ci := 7) (kd := 27) (ct := ct) hx hb htb i_Md hown hK hP m0 rfl rfl 3 e_9 (by decide) (htb (.fieldLink R_Md 32 "WaterMenModel" "miles" "[I") tw_204) (fun _ h9 => h9) rfl d_Md_stairs_47 ?_
            refine hb_tv (.ref q_9) rfl ?_
            refine lv_aload_n hx hb d_Md_stairs_50 rfl (lv_at hl 0 rfl) ?_
            refine tw_getI (x := x_4) (D := (dC, dI)) (C := R_Md) (T := F_Md) (N := 64) (ci := 7) (kd := 27) (ct := ct) hx hb htb i_Md hown hK hP m0 rfl rfl 2 e_4 (by decide) (htb (.fieldLink R_Md 14 "WaterMenModel" "stairs" "I") tw_97) (fun _ h9 => h9) rfl d_Md_stairs_51 ?_
            refine lv_iload_n hx hb d_Md_stairs_54 rfl (lv_at hl 1 rfl) ?_
            refine tw_astI (ct := ct) (x := p_0) hx hb hK hP hD hS hO_0 m_9 rfl ((fun (a_0 : Int32) (k_0 : ¬ (12 < a_0)) (k_1 : ¬ (a_0 ≤ 0)) (k_2 : ¬ (a_0 = 12)) => (show vp_in (a_0) 12 from by have z0 : (0 : Int32).toInt = 0 := (by decide +kernel); have z1 : (12 : Int32).toInt = 12 := (by decide +kernel); have r0 := fb_rng (a_0); have e0 := k_0; rw [Int32.lt_iff_toInt_lt, z1] at e0; have e1 := k_1; rw [Int32.le_iff_toInt_le, z0] at e1; have e2 := k_2; rw [← Int32.toInt_inj, z1] at e2; rw [vp_in_iff]; omega)) x_4 b_4.2 c_5 c_12) (i32_full _) d_Md_stairs_55 (fun f_1 H locs hP hD hS hO_1 hE_1 w_13 ow_13 hF_1 => ?_)
            have hA_1 := hA_0.trans hE_1
            have hQ := hQ f_1 hF_1
            have hQ := hQ hO_1
            refine lv_aload_n hx hb d_Md_stairs_56 rfl (lv_at hl 0 rfl) ?_
            refine lv_dup hx hb d_Md_stairs_57 rfl ?_
            refine tw_getI (x := x_4) (D := (dC, dI)) (C := R_Md) (T := F_Md) (N := 64) (ci := 7) (kd := 27) (ct := ct) hx hb htb i_Md hown hK hP (hA_1.m m0) rfl rfl 2 ((hA_1.ei m0 rfl).trans e_4) (by decide) (htb (.fieldLink R_Md 14 "WaterMenModel" "stairs" "I") tw_97) (fun _ h9 => h9) rfl d_Md_stairs_58 ?_
            refine lv_iconst (v := 1) hx hb d_Md_stairs_61 (by decide +kernel) ?_
            refine lv_iadd hx hb d_Md_stairs_62 ?_
            refine tw_puti (v := (x_4 + 1)) (D := (dC, dI)) (C := R_Md) (T := F_Md) (N := 64) (ci := 7) (kd := 27) (ct := ct) (ty := .int) hx hb htb i_Md t_Md t_Md_ok n_Md hown hK hP hD hS hO_1 (hA_1.m m0) rfl rfl 2 (by decide) (htb (.fieldLink R_Md 14 "WaterMenModel" "stairs" "I") tw_97) (fun _ h9 => h9) rfl (by decide +kernel) rfl rfl rfl ⟨(show ¬ ((x_4 + 1) < 0) from by have e0 := c_5; rw [Int32.le_iff_toInt_le] at e0; have e1 := b_4.2; rw [Int32.lt_iff_toInt_lt] at e1; have e2 := c_12; rw [← Int32.toInt_inj] at e2; have z0 : (0 : Int32).toInt = 0 := (by decide +kernel); have z1 : (1 : Int32).toInt = 1 := (by decide +kernel); have z2 : (12 : Int32).toInt = 12 := (by decide +kernel); have ss := fb_addI (x := x_4) (y := 1) (by omega) (by omega); rw [Int32.lt_iff_toInt_lt]; omega), (show ¬ (12 < (x_4 + 1)) from by have e0 := c_5; rw [Int32.le_iff_toInt_le] at e0; have e1 := b_4.2; rw [Int32.lt_iff_toInt_lt] at e1; have e2 := c_12; rw [← Int32.toInt_inj] at e2; have z0 : (0 : Int32).toInt = 0 := (by decide +kernel); have z1 : (1 : Int32).toInt = 1 := (by decide +kernel); have z2 : (12 : Int32).toInt = 12 := (by decide +kernel); have ss := fb_addI (x := x_4) (y := 1) (by omega) (by omega); rw [Int32.lt_iff_toInt_lt]; omega)⟩ d_Md_stairs_63 (fun f_2 H locs hP hD hS hO_2 hE_2 w_14 hF_2 => ?_)
            have hA_2 := hA_1.trans hE_2
            have hQ := hQ f_2 hF_2
            have hQ := hQ hO_2
            refine lv_aload_n hx hb d_Md_stairs_66 rfl (lv_at hl 0 rfl) ?_
            refine tw_getI (x := (x_4 + 1)) (D := (dC, dI)) (C := R_Md) (T := F_Md) (N := 64) (ci := 7) (kd := 27) (ct := ct) hx hb htb i_Md hown hK hP (hA_2.m m0) rfl rfl 2 w_14 (by decide) (htb (.fieldLink R_Md 14 "WaterMenModel" "stairs" "I") tw_97) (fun _ h9 => h9) rfl d_Md_stairs_67 ?_
            refine lv_iconst (v := 1) hx hb d_Md_stairs_70 (by decide +kernel) ?_
            refine lv_isub hx hb d_Md_stairs_71 ?_
            refine W.widen (k := 0) (n := 0) (Nat.le_of_ble_eq_true rfl) (Nat.le_of_ble_eq_true rfl) ?_
            exact W.iret (v := ((x_4 + 1) - 1)) hx hb hr (fun t ht hW => ⟨⟨((x_4 + 1) - 1), (L, f_2), rfl, ⟨hO_2, hA_2.mono (by decide +kernel), trivial, hQ⟩, by rw [ht]; exact hP, va_K.moved hW.alike hK, by rw [hAe]; exact hD⟩, by rw [hAe]; exact hS.F ht⟩) (by rw [hAe]; exact hS.2.2) d_Md_stairs_72
          · have hQ := hQ.1 c_12
            refine lv_bipush (v := (-3)) hx hb d_Md_stairs_43 (by decide +kernel) ?_
            refine W.widen (k := 0) (n := 0) (Nat.le_of_ble_eq_true rfl) (Nat.le_of_ble_eq_true rfl) ?_
            exact W.iret (v := (-3)) hx hb hr (fun t ht hW => ⟨⟨(-3), (L, f), rfl, ⟨hO_0, hA_0.mono (by decide +kernel), trivial, hQ⟩, by rw [ht]; exact hP, va_K.moved hW.alike hK, by rw [hAe]; exact hD⟩, by rw [hAe]; exact hS.F ht⟩) (by rw [hAe]; exact hS.2.2) d_Md_stairs_45
        · have hQ := hQ.2 c_11
          refine lv_iconst (v := (-1)) hx hb d_Md_stairs_32 (by decide +kernel) ?_
          refine W.widen (k := 0) (n := 0) (Nat.le_of_ble_eq_true rfl) (Nat.le_of_ble_eq_true rfl) ?_
          exact W.iret (v := (-1)) hx hb hr (fun t ht hW => ⟨⟨(-1), (L, f), rfl, ⟨hO_0, hA_0.mono (by decide +kernel), trivial, hQ⟩, by rw [ht]; exact hP, va_K.moved hW.alike hK, by rw [hAe]; exact hD⟩, by rw [hAe]; exact hS.F ht⟩) (by rw [hAe]; exact hS.2.2) d_Md_stairs_33
def W_WM_bridge_w : List (Nat × Nat) := [(1, 5)]
def wp_WM_bridge_w (L : List Nat) (f : TF) (q0 : Nat) (p_0 : Int32) (Q : Int32 → List Nat → TF → Prop) : Prop := ((p_0 = (-1) → ∀ q_2 : Nat, tr f q0 0 = some q_2 → ∀ f_1 : TF, f_1 = sI f q_2 5 p_0 → Ok L f_1 → Q 1 L f_1) ∧ (¬ (p_0 = (-1)) → ((p_0 < 0 → Q (-1) L f) ∧ (¬ (p_0 < 0) → ∀ q_5 : Nat, tr f q0 0 = some q_5 → ∀ x_6 : Int32, ti f q_5 4 = x_6 → ((p_0 < (x_6 - 1) → ∀ f_1 : TF, f_1 = sI f q_5 5 p_0 → Ok L f_1 → Q 1 L f_1) ∧ (¬ (p_0 < (x_6 - 1)) → Q (-1) L f))))))
set_option maxHeartbeats 4000000 in
set_option maxRecDepth 100000 in
theorem c_WM_bridge_w (l : Launch) (dC : Nat → ClassId) (dI : Nat → Nat → Nat) (ct : Nat → ClassId) (L : List Nat) (f : TF) (hO_0 : Ok L f) (q0 : Nat) (m0 : q0 ∈ L ∧ tk f q0 = 0) (sz : Nat) (p_0 : Int32)   (Q : Int32 → List Nat → TF → Prop) (hQ : wp_WM_bridge_w L f q0 p_0 Q) : Met l y_WM_bridge (.code y_WM_bridge b_WM_bridge 2 (some .int) :: TB) ({ frames := 0, cells := 0, slots := 0, locals := 0 }) (va_Pc [.ref q0, .int p_0] (PC dC dI (TW ct L f) (TT ct) sz)) (va_Qi (fun r (u : TSt) => Ok u.1 u.2 ∧ Ext W_WM_bridge_w L f u.1 u.2 ∧ (True) ∧ Q r u.1 u.2) (fun (u : TSt) t => va_P (dC, dI) vwCl (TW ct u.1 u.2) t.heap ∧ va_K (dC, dI) vwCl (TT ct) t ∧ va_D (va_A (TW ct L f) sz) (TW ct u.1 u.2)) (va_A (TW ct L f) sz)) 0 0 (va_A (TW ct L f) sz) := by
  refine Met.ofW (cc := b_WM_bridge) (maxL := 2) (ret := (some .int)) (by decide) rfl ?_
  intro p e s m args below meth c s₁ B hml hv
  obtain ⟨rfl, hsz, hP, hK, hD0, hN⟩ := hv
  have hx := B.exec
  have hb := B.bytes
  have hr := B.returns
  have hts := atoms_spec (ws := (.code y_WM_bridge b_WM_bridge 2 (some .int) :: TB)) B.pre
  have htb := fun w (h : w ∈ TB) => hts w (List.mem_cons_of_mem _ h)
  have hown : s.vm.findClass R_WM = some m.cls := findClass_of_methodNamed B.named
  have hlocks := B.notSynchronized
  have hl := lv_entry ([.ref q0, .int p_0]) (n := 2) (Nat.le_of_ble_eq_true rfl)
  rw [lg_entry_eq]
  generalize (lg_sl ([.ref q0, .int p_0]) ++ List.replicate (2 - (lg_sl ([.ref q0, .int p_0])).length) Slot.unset).toArray = ls at hl ⊢
  have hl : lv_has ls 2 [(0, .ref q0), (1, .int p_0)] := hl
  subst hsz
  have hD := hD0.self (sz := s.heap.size)
  obtain ⟨A, hAe⟩ : ∃ A, va_A (TW ct L f) s.heap.size = A := ⟨_, rfl⟩
  rw [hAe] at hD
  have hA : ∀ q : Nat, s.heap.size ≤ q → A q := fun q h => by rw [← hAe]; exact Or.inr h
  have hS : va_S A s.heap s.heap [] := va_S.rf
  have hA_0 : Ext [] L f L f := Ext.rf
  suffices hGo : ∀ (H : Heap) (locs : List Loc), va_P (dC, dI) vwCl (TW ct L f) H → va_S A s.heap H locs → W p l e (headSpec (.code y_WM_bridge b_WM_bridge 2 (some .int) :: TB) ({ frames := 0, cells := 0, slots := 0, locals := 0 })).room s m [.ref q0, .int p_0].toArray below meth c H locs 0 0 (MQ below (va_Qi (fun r (u : TSt) => Ok u.1 u.2 ∧ Ext W_WM_bridge_w L f u.1 u.2 ∧ (True) ∧ Q r u.1 u.2) (fun (u : TSt) t => va_P (dC, dI) vwCl (TW ct u.1 u.2) t.heap ∧ va_K (dC, dI) vwCl (TT ct) t ∧ va_D (va_A (TW ct L f) s.heap.size) (TW ct u.1 u.2)) (va_A (TW ct L f) s.heap.size)) [.ref q0, .int p_0].toArray s 0 0 (va_A (TW ct L f) s.heap.size)) (F0 m 0 ls []) from hGo _ _ hP hS
  clear hP hS
  intro H locs hP hS
  unfold wp_WM_bridge_w at hQ
  refine lv_iload_n hx hb d_WM_bridge_0 rfl (lv_at hl 1 rfl) ?_
  refine lv_iconst (v := (-1)) hx hb d_WM_bridge_1 (by decide +kernel) ?_
  refine lv_icmp_eq (tgt := 24) hx hb d_WM_bridge_2 (by decide) (fun c_1 => ?_) (fun c_1 => ?_)
  · have hQ := hQ.1 c_1
    refine lv_aload_n hx hb d_WM_bridge_24 rfl (lv_at hl 0 rfl) ?_
    refine tw_getr (D := (dC, dI)) (C := R_WM) (T := F_WM) (N := 13) (ci := 0) (kd := 0) (ct := ct) hx hb htb i_WM hown hK hP hO_0 m0 rfl rfl 0 (by decide) (htb (.fieldLink R_WM 12 "WaterMen" "river" "LWaterMen$River;") tw_135) (fun _ h9 => h9) rfl d_WM_bridge_25 (fun q_2 e_2 m_2 => ?_)
    have hQ := hQ q_2 e_2
    refine lv_iload_n hx hb d_WM_bridge_28 rfl (lv_at hl 1 rfl) ?_
    refine tw_puti (v := p_0) (D := (dC, dI)) (C := R_Rv) (T := F_Rv) (N := 6) (ci := 1) (kd := 1) (ct := ct) (ty := .int) hx hb htb i_Rv t_Rv t_Rv_ok n_Rv hown hK hP hD hS hO_0 m_2 rfl rfl 5 (by decide) (htb (.fieldLink R_WM 72 "WaterMen$River" "bridgeAbove" "I") tw_205) (fun _ h9 => h9) rfl (by decide +kernel) rfl rfl rfl (i32_full _) d_WM_bridge_29 (fun f_1 H locs hP hD hS hO_1 hE_1 w_3 hF_1 => ?_)
    have hA_1 := hA_0.trans hE_1
    have hQ := hQ f_1 hF_1
    have hQ := hQ hO_1
    refine lv_iconst (v := 1) hx hb d_WM_bridge_32 (by decide +kernel) ?_
    refine W.widen (k := 0) (n := 0) (Nat.le_of_ble_eq_true rfl) (Nat.le_of_ble_eq_true rfl) ?_
    exact W.iret (v := 1) hx hb hr (fun t ht hW => ⟨⟨1, (L, f_1), rfl, ⟨hO_1, hA_1.mono (by decide +kernel), trivial, hQ⟩, by rw [ht]; exact hP, va_K.moved hW.alike hK, by rw [hAe]; exact hD⟩, by rw [hAe]; exact hS.F ht⟩) (by rw [hAe]; exact hS.2.2) d_WM_bridge_33
  · have hQ := hQ.2 c_1
    refine lv_iload_n hx hb d_WM_bridge_5 rfl (lv_at hl 1 rfl) ?_
    refine lv_if_lt (tgt := 22) hx hb d_WM_bridge_6 (by decide) (fun c_4 => ?_) (fun c_4 => ?_)
    · have hQ := hQ.1 c_4
      refine lv_iconst (v := (-1)) hx hb d_WM_bridge_22 (by decide +kernel) ?_
      refine W.widen (k := 0) (n := 0) (Nat.le_of_ble_eq_true rfl) (Nat.le_of_ble_eq_true rfl) ?_
      exact W.iret (v := (-1)) hx hb hr (fun t ht hW => ⟨⟨(-1), (L, f), rfl, ⟨hO_0, hA_0.mono (by decide +kernel), trivial, hQ⟩, by rw [ht]; exact hP, va_K.moved hW.alike hK, by rw [hAe]; exact hD⟩, by rw [hAe]; exact hS.F ht⟩) (by rw [hAe]; exact hS.2.2) d_WM_bridge_23
    · have hQ := hQ.2 c_4
      refine lv_iload_n hx hb d_WM_bridge_9 rfl (lv_at hl 1 rfl) ?_
      refine lv_aload_n hx hb d_WM_bridge_10 rfl (lv_at hl 0 rfl) ?_
      refine tw_getr (D := (dC, dI)) (C := R_WM) (T := F_WM) (N := 13) (ci := 0) (kd := 0) (ct := ct) hx hb htb i_WM hown hK hP hO_0 m0 rfl rfl 0 (by decide) (htb (.fieldLink R_WM 12 "WaterMen" "river" "LWaterMen$River;") tw_135) (fun _ h9 => h9) rfl d_WM_bridge_11 (fun q_5 e_5 m_5 => ?_)
      have hQ := hQ q_5 e_5
      refine tw_geti (D := (dC, dI)) (C := R_Rv) (T := F_Rv) (N := 6) (ci := 1) (kd := 1) (ct := ct) hx hb htb i_Rv hown hK hP hO_0 m_5 rfl rfl 4 (by decide) (htb (.fieldLink R_WM 64 "WaterMen$River" "stairCount" "I") tw_199) (fun _ h9 => h9) rfl d_WM_bridge_14 (fun x_6 e_6 b_6 => ?_)
      have hQ := hQ x_6 e_6
      refine lv_iconst (v := 1) hx hb d_WM_bridge_17 (by decide +kernel) ?_
      refine lv_isub hx hb d_WM_bridge_18 ?_
      refine lv_icmp_lt (tgt := 24) hx hb d_WM_bridge_19 (by decide) (fun c_7 => ?_) (fun c_7 => ?_)
      · have hQ := hQ.1 c_7
        refine lv_aload_n hx hb d_WM_bridge_24 rfl (lv_at hl 0 rfl) ?_
        refine tw_getR (D := (dC, dI)) (C := R_WM) (T := F_WM) (N := 13) (ci := 0) (kd := 0) (ct := ct) hx hb htb i_WM hown hK hP m0 rfl rfl 0 e_5 (by decide) (htb (.fieldLink R_WM 12 "WaterMen" "river" "LWaterMen$River;") tw_135) (fun _ h9 => h9) rfl d_WM_bridge_25 ?_
        refine hb_tv (.ref q_5) rfl ?_
        refine lv_iload_n hx hb d_WM_bridge_28 rfl (lv_at hl 1 rfl) ?_
        refine tw_puti (v := p_0) (D := (dC, dI)) (C := R_Rv) (T := F_Rv) (N := 6) (ci := 1) (kd := 1) (ct := ct) (ty := .int) hx hb htb i_Rv t_Rv t_Rv_ok n_Rv hown hK hP hD hS hO_0 m_5 rfl rfl 5 (by decide) (htb (.fieldLink R_WM 72 "WaterMen$River" "bridgeAbove" "I") tw_205) (fun _ h9 => h9) rfl (by decide +kernel) rfl rfl rfl (i32_full _) d_WM_bridge_29 (fun f_1 H locs hP hD hS hO_1 hE_1 w_8 hF_1 => ?_)
        have hA_1 := hA_0.trans hE_1
        have hQ := hQ f_1 hF_1
        have hQ := hQ hO_1
        refine lv_iconst (v := 1) hx hb d_WM_bridge_32 (by decide +kernel) ?_
        refine W.widen (k := 0) (n := 0) (Nat.le_of_ble_eq_true rfl) (Nat.le_of_ble_eq_true rfl) ?_
        exact W.iret (v := 1) hx hb hr (fun t ht hW => ⟨⟨1, (L, f_1), rfl, ⟨hO_1, hA_1.mono (by decide +kernel), trivial, hQ⟩, by rw [ht]; exact hP, va_K.moved hW.alike hK, by rw [hAe]; exact hD⟩, by rw [hAe]; exact hS.F ht⟩) (by rw [hAe]; exact hS.2.2) d_WM_bridge_33
      · have hQ := hQ.2 c_7
        refine lv_iconst (v := (-1)) hx hb d_WM_bridge_22 (by decide +kernel) ?_
        refine W.widen (k := 0) (n := 0) (Nat.le_of_ble_eq_true rfl) (Nat.le_of_ble_eq_true rfl) ?_
        exact W.iret (v := (-1)) hx hb hr (fun t ht hW => ⟨⟨(-1), (L, f), rfl, ⟨hO_0, hA_0.mono (by decide +kernel), trivial, hQ⟩, by rw [ht]; exact hP, va_K.moved hW.alike hK, by rw [hAe]; exact hD⟩, by rw [hAe]; exact hS.F ht⟩) (by rw [hAe]; exact hS.2.2) d_WM_bridge_23
