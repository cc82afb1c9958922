def f_Md_isPension  (p_0 : Int32) (p_1 : Int32) : Int32 := if p_0 < 1 then (0) else (if 10000 < p_0 then (0) else (if p_1 < 0 then (0) else (if 9999 < p_1 then (0) else (1))))
set_option maxHeartbeats 4000000 in
set_option maxRecDepth 100000 in
theorem c_Md_isPension (l : Launch)  (p_0 : Int32) (p_1 : Int32)  : Met l y_Md_isPension (.code y_Md_isPension b_Md_isPension 2 (some .boolean) :: TB) ({ frames := 1, cells := 0, slots := 0, locals := 22 }) (va_Pc [.int p_0, .int p_1] (fun _ => True)) (vp_Si (fun r => r = f_Md_isPension p_0 p_1)) 0 0 (fun _ => False) := by
  refine Met.ofW (cc := b_Md_isPension) (maxL := 2) (ret := (some .boolean)) (by decide) rfl ?_
  intro p e s m args below meth c s₁ B hml hv
  obtain ⟨rfl, -⟩ := hv
  have hx := B.exec
  have hb := B.bytes
  have hr := B.returns
  have hts := atoms_spec (ws := (.code y_Md_isPension b_Md_isPension 2 (some .boolean) :: TB)) B.pre
  have htb := fun w (h : w ∈ TB) => hts w (List.mem_cons_of_mem _ h)
  have hown : s.vm.findClass R_Md = some m.cls := findClass_of_methodNamed B.named
  have hlocks := B.notSynchronized
  have hl := lv_entry ([.int p_0, .int p_1]) (n := 2) (Nat.le_of_ble_eq_true rfl)
  rw [lg_entry_eq]
  generalize (lg_sl ([.int p_0, .int p_1]) ++ List.replicate (2 - (lg_sl ([.int p_0, .int p_1])).length) Slot.unset).toArray = ls at hl ⊢
  have hl : lv_has ls 2 [(0, .int p_0), (1, .int p_1)] := hl
  refine lv_iload_n hx hb d_Md_isPension_0 rfl (lv_at hl 0 rfl) ?_
  refine lv_iconst (v := 1) hx hb d_Md_isPension_1 (by decide +kernel) ?_
  refine lv_sipush (v := 10000) hx hb d_Md_isPension_2 (by decide +kernel) ?_
  refine vp_callSi (va_Run.run (va_runS (As := [.int p_0, .int 1, .int 10000]) (rest := []) ⟨hx, hb, hml, hown, htb⟩ (c_Md_in l p_0 1 10000) (cwS 3 htb (gd_S tw_480 tw_481 tw_479 tw_478) rfl rfl rfl (by decide +kernel) ⟨Nat.le_of_ble_eq_true rfl, Nat.le_of_ble_eq_true rfl⟩) ⟨fun _ _ _ _ h => h, fun U _ _ => ⟨rfl, trivial⟩⟩ rfl rfl hl.1 rfl (lv_room (Nat.le_of_ble_eq_true rfl)) d_Md_isPension_5 ⟨Nat.le_of_ble_eq_true rfl, Nat.le_of_ble_eq_true rfl⟩)) (fun r er => ?_)
  subst er
  by_cases c_2 : p_0 < 1
  · refine hb_ti 0 (by unfold f_Md_in; rw [if_pos c_2]) ?_
    refine lv_if_eq (tgt := 26) hx hb d_Md_isPension_8 (by decide) (fun _ => ?_) (fun h => absurd (by decide +kernel) h)
    refine lv_iconst (v := 0) hx hb d_Md_isPension_26 (by decide +kernel) ?_
    exact W.zret (v := 0) hx hb hr (by decide +kernel) (fun t ht hW => ⟨0, rfl, (by unfold f_Md_isPension; rw [if_pos c_2]), ht⟩) t_nil d_Md_isPension_27
  · by_cases c_3 : 10000 < p_0
    · refine hb_ti 0 (by unfold f_Md_in; rw [if_neg c_2, if_pos c_3]) ?_
      refine lv_if_eq (tgt := 26) hx hb d_Md_isPension_8 (by decide) (fun _ => ?_) (fun h => absurd (by decide +kernel) h)
      refine lv_iconst (v := 0) hx hb d_Md_isPension_26 (by decide +kernel) ?_
      exact W.zret (v := 0) hx hb hr (by decide +kernel) (fun t ht hW => ⟨0, rfl, (by unfold f_Md_isPension; rw [if_neg c_2, if_pos c_3]), ht⟩) t_nil d_Md_isPension_27
    · refine hb_ti 1 (by unfold f_Md_in; rw [if_neg c_2, if_neg c_3]) ?_
      refine lv_if_eq (tgt := 26) hx hb d_Md_isPension_8 (by decide) (fun h => absurd h (by decide +kernel)) (fun _ => ?_)
      refine lv_iload_n hx hb d_Md_isPension_11 rfl (lv_at hl 1 rfl) ?_
      refine lv_iconst (v := 0) hx hb d_Md_isPension_12 (by decide +kernel) ?_
      refine lv_sipush (v := 9999) hx hb d_Md_isPension_13 (by decide +kernel) ?_
      refine vp_callSi (va_Run.run (va_runS (As := [.int p_1, .int 0, .int 9999]) (rest := []) ⟨hx, hb, hml, hown, htb⟩ (c_Md_in l p_1 0 9999) (cwS 3 htb (gd_S tw_480 tw_481 tw_479 tw_478) rfl rfl rfl (by decide +kernel) ⟨Nat.le_of_ble_eq_true rfl, Nat.le_of_ble_eq_true rfl⟩) ⟨fun _ _ _ _ h => h, fun U _ _ => ⟨rfl, trivial⟩⟩ rfl rfl hl.1 rfl (lv_room (Nat.le_of_ble_eq_true rfl)) d_Md_isPension_16 ⟨Nat.le_of_ble_eq_true rfl, Nat.le_of_ble_eq_true rfl⟩)) (fun r er => ?_)
      subst er
      by_cases c_5 : p_1 < 0
      · refine hb_ti 0 (by unfold f_Md_in; rw [if_pos c_5]) ?_
        refine lv_if_eq (tgt := 26) hx hb d_Md_isPension_19 (by decide) (fun _ => ?_) (fun h => absurd (by decide +kernel) h)
        refine lv_iconst (v := 0) hx hb d_Md_isPension_26 (by decide +kernel) ?_
        exact W.zret (v := 0) hx hb hr (by decide +kernel) (fun t ht hW => ⟨0, rfl, (by unfold f_Md_isPension; rw [if_neg c_2, if_neg c_3, if_pos c_5]), ht⟩) t_nil d_Md_isPension_27
      · by_cases c_6 : 9999 < p_1
        · refine hb_ti 0 (by unfold f_Md_in; rw [if_neg c_5, if_pos c_6]) ?_
          refine lv_if_eq (tgt := 26) hx hb d_Md_isPension_19 (by decide) (fun _ => ?_) (fun h => absurd (by decide +kernel) h)
          refine lv_iconst (v := 0) hx hb d_Md_isPension_26 (by decide +kernel) ?_
          exact W.zret (v := 0) hx hb hr (by decide +kernel) (fun t ht hW => ⟨0, rfl, (by unfold f_Md_isPension; rw [if_neg c_2, if_neg c_3, if_neg c_5, if_pos c_6]), ht⟩) t_nil d_Md_isPension_27
        · refine hb_ti 1 (by unfold f_Md_in; rw [if_neg c_5, if_neg c_6]) ?_
          refine lv_if_eq (tgt := 26) hx hb d_Md_isPension_19 (by decide) (fun h => absurd h (by decide +kernel)) (fun _ => ?_)
          refine lv_iconst (v := 1) hx hb d_Md_isPension_22 (by decide +kernel) ?_
          refine lv_goto (tgt := 27) hx hb d_Md_isPension_23 (by decide) ?_
          exact W.zret (v := 1) hx hb hr (by decide +kernel) (fun t ht hW => ⟨1, rfl, (by unfold f_Md_isPension; rw [if_neg c_2, if_neg c_3, if_neg c_5, if_neg c_6]), ht⟩) t_nil d_Md_isPension_27
def W_Md_newPensioner_t : List (Nat × Nat) := [(27, 60), (72, 1000), (73, 1000)]
set_option maxHeartbeats 4000000 in
set_option maxRecDepth 100000 in
theorem c_Md_newPensioner_t (l : Launch) (dC : Nat → ClassId) (dI : Nat → Nat → Nat) (ct : Nat → ClassId) (L : List Nat) (f : TF) (hO_0 : Ok L f) (q0 : Nat) (m0 : q0 ∈ L ∧ tk f q0 = 27) (sz : Nat) (p_0 : Int32) (p_1 : Int32)  (as_0 : ¬ (29 < (ti f q0 60))) : Met l y_Md_newPensioner (.code y_Md_newPensioner b_Md_newPensioner 3 (some .int) :: TB) ({ frames := 0, cells := 0, slots := 0, locals := 0 }) (va_Pc [.ref q0, .int p_0, .int p_1] (PC dC dI (TW ct L f) (TT ct) sz)) (va_Qi (fun r (u : TSt) => Ok u.1 u.2 ∧ Ext W_Md_newPensioner_t L f u.1 u.2 ∧ (True)) (fun (u : TSt) t => va_P (dC, dI) vwCl (TW ct u.1 u.2) t.heap ∧ va_K (dC, dI) vwCl (TT ct) t ∧ va_D (va_A (TW ct L f) sz) (TW ct u.1 u.2)) (va_A (TW ct L f) sz)) 0 0 (va_A (TW ct L f) sz) := by
  refine Met.ofW (cc := b_Md_newPensioner) (maxL := 3) (ret := (some .int)) (by decide) rfl ?_
  intro p e s m args below meth c s₁ B hml hv
  obtain ⟨rfl, hsz, hP, hK, hD0, hN⟩ := hv
  have hx := B.exec
  have hb := B.bytes
  have hr := B.returns
  have hts := atoms_spec (ws := (.code y_Md_newPensioner b_Md_newPensioner 3 (some .int) :: TB)) B.pre
  have htb := fun w (h : w ∈ TB) => hts w (List.mem_cons_of_mem _ h)
  have hown : s.vm.findClass R_Md = some m.cls := findClass_of_methodNamed B.named
  have hlocks := B.notSynchronized
  have hl := lv_entry ([.ref q0, .int p_0, .int p_1]) (n := 3) (Nat.le_of_ble_eq_true rfl)
  rw [lg_entry_eq]
  generalize (lg_sl ([.ref q0, .int p_0, .int p_1]) ++ List.replicate (3 - (lg_sl ([.ref q0, .int p_0, .int p_1])).length) Slot.unset).toArray = ls at hl ⊢
  have hl : lv_has ls 3 [(0, .ref q0), (1, .int p_0), (2, .int p_1)] := hl
  subst hsz
  have hD := hD0.self (sz := s.heap.size)
  obtain ⟨A, hAe⟩ : ∃ A, va_A (TW ct L f) s.heap.size = A := ⟨_, rfl⟩
  rw [hAe] at hD
  have hA : ∀ q : Nat, s.heap.size ≤ q → A q := fun q h => by rw [← hAe]; exact Or.inr h
  have hS : va_S A s.heap s.heap [] := va_S.rf
  have hA_0 : Ext [] L f L f := Ext.rf
  suffices hGo : ∀ (H : Heap) (locs : List Loc), va_P (dC, dI) vwCl (TW ct L f) H → va_S A s.heap H locs → W p l e (headSpec (.code y_Md_newPensioner b_Md_newPensioner 3 (some .int) :: TB) ({ frames := 0, cells := 0, slots := 0, locals := 0 })).room s m [.ref q0, .int p_0, .int p_1].toArray below meth c H locs 0 0 (MQ below (va_Qi (fun r (u : TSt) => Ok u.1 u.2 ∧ Ext W_Md_newPensioner_t L f u.1 u.2 ∧ (True)) (fun (u : TSt) t => va_P (dC, dI) vwCl (TW ct u.1 u.2) t.heap ∧ va_K (dC, dI) vwCl (TT ct) t ∧ va_D (va_A (TW ct L f) s.heap.size) (TW ct u.1 u.2)) (va_A (TW ct L f) s.heap.size)) [.ref q0, .int p_0, .int p_1].toArray s 0 0 (va_A (TW ct L f) s.heap.size)) (F0 m 0 ls []) from hGo _ _ hP hS
  clear hP hS
  intro H locs hP hS
  have bp_60 := hO_0.i m0 (show slotD 27 60 = some (.inl (0, 30)) from rfl)
  refine lv_aload_n hx hb d_Md_newPensioner_0 rfl (lv_at hl 0 rfl) ?_
  refine tw_getr (D := (dC, dI)) (C := R_Md) (T := F_Md) (N := 64) (ci := 7) (kd := 27) (ct := ct) hx hb htb i_Md hown hK hP hO_0 m0 rfl rfl 61 (by decide) (htb (.fieldLink R_Md 177 "WaterMenModel" "pensionOf" "[I") tw_655) (fun _ h9 => h9) rfl d_Md_newPensioner_1 (fun q_1 e_1 m_1 => ?_)
  refine lv_aload_n hx hb d_Md_newPensioner_4 rfl (lv_at hl 0 rfl) ?_
  refine tw_getI (x := (ti f q0 60)) (D := (dC, dI)) (C := R_Md) (T := F_Md) (N := 64) (ci := 7) (kd := 27) (ct := ct) hx hb htb i_Md hown hK hP m0 rfl rfl 60 rfl (by decide) (htb (.fieldLink R_Md 323 "WaterMenModel" "pensioners" "I") tw_653) (fun _ h9 => h9) rfl d_Md_newPensioner_5 ?_
  refine lv_iload_n hx hb d_Md_newPensioner_8 rfl (lv_at hl 1 rfl) ?_
  refine tw_astI (ct := ct) (x := p_0) hx hb hK hP hD hS hO_0 m_1 rfl (hb_inl bp_60.1 as_0 (by decide +kernel)) (i32_full _) d_Md_newPensioner_9 (fun f_1 H locs hP hD hS hO_1 hE_1 w_2 ow_2 hF_1 => ?_)
  have hA_1 := hA_0.trans hE_1
  refine lv_aload_n hx hb d_Md_newPensioner_10 rfl (lv_at hl 0 rfl) ?_
  refine tw_getr (D := (dC, dI)) (C := R_Md) (T := F_Md) (N := 64) (ci := 7) (kd := 27) (ct := ct) hx hb htb i_Md hown hK hP hO_1 (hA_1.m m0) rfl rfl 62 (by decide) (htb (.fieldLink R_Md 180 "WaterMenModel" "pensionEnd" "[I") tw_654) (fun _ h9 => h9) rfl d_Md_newPensioner_11 (fun q_3 e_3 m_3 => ?_)
  refine lv_aload_n hx hb d_Md_newPensioner_14 rfl (lv_at hl 0 rfl) ?_
  refine tw_getI (x := (ti f q0 60)) (D := (dC, dI)) (C := R_Md) (T := F_Md) (N := 64) (ci := 7) (kd := 27) (ct := ct) hx hb htb i_Md hown hK hP (hA_1.m m0) rfl rfl 60 ((hA_1.ei m0 rfl).trans rfl) (by decide) (htb (.fieldLink R_Md 323 "WaterMenModel" "pensioners" "I") tw_653) (fun _ h9 => h9) rfl d_Md_newPensioner_15 ?_
  refine lv_iload_n hx hb d_Md_newPensioner_18 rfl (lv_at hl 2 rfl) ?_
  refine tw_astI (ct := ct) (x := p_1) hx hb hK hP hD hS hO_1 m_3 rfl (hb_inl bp_60.1 as_0 (by decide +kernel)) (i32_full _) d_Md_newPensioner_19 (fun f_2 H locs hP hD hS hO_2 hE_2 w_4 ow_4 hF_2 => ?_)
  have hA_2 := hA_1.trans hE_2
  refine lv_aload_n hx hb d_Md_newPensioner_20 rfl (lv_at hl 0 rfl) ?_
  refine lv_dup hx hb d_Md_newPensioner_21 rfl ?_
  refine tw_getI (x := (ti f q0 60)) (D := (dC, dI)) (C := R_Md) (T := F_Md) (N := 64) (ci := 7) (kd := 27) (ct := ct) hx hb htb i_Md hown hK hP (hA_2.m m0) rfl rfl 60 ((hA_2.ei m0 rfl).trans rfl) (by decide) (htb (.fieldLink R_Md 323 "WaterMenModel" "pensioners" "I") tw_653) (fun _ h9 => h9) rfl d_Md_newPensioner_22 ?_
  refine lv_iconst (v := 1) hx hb d_Md_newPensioner_25 (by decide +kernel) ?_
  refine lv_iadd hx hb d_Md_newPensioner_26 ?_
  refine tw_puti (v := ((ti f q0 60) + 1)) (D := (dC, dI)) (C := R_Md) (T := F_Md) (N := 64) (ci := 7) (kd := 27) (ct := ct) (ty := .int) hx hb htb i_Md t_Md t_Md_ok n_Md hown hK hP hD hS hO_2 (hA_2.m m0) rfl rfl 60 (by decide) (htb (.fieldLink R_Md 323 "WaterMenModel" "pensioners" "I") tw_653) (fun _ h9 => h9) rfl (by decide +kernel) rfl rfl rfl ⟨(show ¬ (((ti f q0 60) + 1) < 0) from ((fun (a_0 : Int32) (k_0 : ¬ (a_0 < 0)) (k_1 : ¬ (30 < a_0)) => (show ¬ ((a_0 + 1) < 0) from by have z0 : (0 : Int32).toInt = 0 := (by decide +kernel); have z1 : (1 : Int32).toInt = 1 := (by decide +kernel); have z2 : (30 : Int32).toInt = 30 := (by decide +kernel); have r0 := fb_rng (a_0); have e0 := k_0; rw [Int32.lt_iff_toInt_lt, z0] at e0; have e1 := k_1; rw [Int32.lt_iff_toInt_lt, z2] at e1; obtain ⟨n_0, hn_0, s0⟩ := nd_add (x := a_0) (y := (1 : Int32)) (by (try rw [z1]); omega) (by (try rw [z1]); omega); rw [z1] at s0; rw [hn_0, Int32.lt_iff_toInt_lt, z0]; omega)) (ti f q0 60) bp_60.1 bp_60.2)), (show ¬ (30 < ((ti f q0 60) + 1)) from ((fun (a_0 : Int32) (k_0 : ¬ (29 < a_0)) => (show ¬ (30 < (a_0 + 1)) from by have z0 : (1 : Int32).toInt = 1 := (by decide +kernel); have z1 : (29 : Int32).toInt = 29 := (by decide +kernel); have z2 : (30 : Int32).toInt = 30 := (by decide +kernel); have r0 := fb_rng (a_0); have e0 := k_0; rw [Int32.lt_iff_toInt_lt, z1] at e0; obtain ⟨n_0, hn_0, s0⟩ := nd_add (x := a_0) (y := (1 : Int32)) (by (try rw [z0]); omega) (by (try rw [z0]); omega); rw [z0] at s0; rw [hn_0, Int32.lt_iff_toInt_lt, z2]; omega)) (ti f q0 60) as_0))⟩ d_Md_newPensioner_27 (fun f_3 H locs hP hD hS hO_3 hE_3 w_5 hF_3 => ?_)
  have hA_3 := hA_2.trans hE_3
  refine lv_aload_n hx hb d_Md_newPensioner_30 rfl (lv_at hl 0 rfl) ?_
  refine tw_getI (x := ((ti f q0 60) + 1)) (D := (dC, dI)) (C := R_Md) (T := F_Md) (N := 64) (ci := 7) (kd := 27) (ct := ct) hx hb htb i_Md hown hK hP (hA_3.m m0) rfl rfl 60 w_5 (by decide) (htb (.fieldLink R_Md 323 "WaterMenModel" "pensioners" "I") tw_653) (fun _ h9 => h9) rfl d_Md_newPensioner_31 ?_
  refine lv_iconst (v := 1) hx hb d_Md_newPensioner_34 (by decide +kernel) ?_
  refine lv_isub hx hb d_Md_newPensioner_35 ?_
  refine W.widen (k := 0) (n := 0) (Nat.le_of_ble_eq_true rfl) (Nat.le_of_ble_eq_true rfl) ?_
  exact W.iret (v := (((ti f q0 60) + 1) - 1)) hx hb hr (fun t ht hW => ⟨⟨(((ti f q0 60) + 1) - 1), (L, f_3), rfl, ⟨hO_3, hA_3.mono (by decide +kernel), trivial⟩, by rw [ht]; exact hP, va_K.moved hW.alike hK, by rw [hAe]; exact hD⟩, by rw [hAe]; exact hS.F ht⟩) (by rw [hAe]; exact hS.2.2) d_Md_newPensioner_36
def W_Md_sink_t : List (Nat × Nat) := [(27, 60), (33, 1000), (40, 1000), (48, 1000), (49, 1000), (70, 1000), (72, 1000), (73, 1000)]
set_option maxHeartbeats 4000000 in
set_option maxRecDepth 100000 in
theorem c_Md_sink_t (l : Launch) (dC : Nat → ClassId) (dI : Nat → Nat → Nat) (ct : Nat → ClassId) (L : List Nat) (f : TF) (hO_0 : Ok L f) (q0 : Nat) (m0 : q0 ∈ L ∧ tk f q0 = 27) (sz : Nat) (p_0 : Int32) (p_1 : Int32) (p_2 : Int32)   : Met l y_Md_sink (.code y_Md_sink b_Md_sink 5 (some .int) :: TB) ({ frames := 2, cells := 0, slots := 0, locals := 43 }) (va_Pc [.ref q0, .int p_0, .int p_1, .int p_2] (PC dC dI (TW ct L f) (TT ct) sz)) (va_Qi (fun r (u : TSt) => Ok u.1 u.2 ∧ Ext W_Md_sink_t L f u.1 u.2 ∧ (True)) (fun (u : TSt) t => va_P (dC, dI) vwCl (TW ct u.1 u.2) t.heap ∧ va_K (dC, dI) vwCl (TT ct) t ∧ va_D (va_A (TW ct L f) sz) (TW ct u.1 u.2)) (va_A (TW ct L f) sz)) 0 0 (va_A (TW ct L f) sz) := by
  refine Met.ofW (cc := b_Md_sink) (maxL := 5) (ret := (some .int)) (by decide) rfl ?_
  intro p e s m args below meth c s₁ B hml hv
  obtain ⟨rfl, hsz, hP, hK, hD0, hN⟩ := hv
  have hx := B.exec
  have hb := B.bytes
  have hr := B.returns
  have hts := atoms_spec (ws := (.code y_Md_sink b_Md_sink 5 (some .int) :: TB)) B.pre
  have htb := fun w (h : w ∈ TB) => hts w (List.mem_cons_of_mem _ h)
  have hown : s.vm.findClass R_Md = some m.cls := findClass_of_methodNamed B.named
  have hlocks := B.notSynchronized
  have hl := lv_entry ([.ref q0, .int p_0, .int p_1, .int p_2]) (n := 5) (Nat.le_of_ble_eq_true rfl)
  rw [lg_entry_eq]
  generalize (lg_sl ([.ref q0, .int p_0, .int p_1, .int p_2]) ++ List.replicate (5 - (lg_sl ([.ref q0, .int p_0, .int p_1, .int p_2])).length) Slot.unset).toArray = ls at hl ⊢
  have hl : lv_has ls 5 [(0, .ref q0), (1, .int p_0), (2, .int p_1), (3, .int p_2)] := hl
  subst hsz
  have hD := hD0.self (sz := s.heap.size)
  obtain ⟨A, hAe⟩ : ∃ A, va_A (TW ct L f) s.heap.size = A := ⟨_, rfl⟩
  rw [hAe] at hD
  have hA : ∀ q : Nat, s.heap.size ≤ q → A q := fun q h => by rw [← hAe]; exact Or.inr h
  have hS : va_S A s.heap s.heap [] := va_S.rf
  have hA_0 : Ext [] L f L f := Ext.rf
  suffices hGo : ∀ (H : Heap) (locs : List Loc), va_P (dC, dI) vwCl (TW ct L f) H → va_S A s.heap H locs → W p l e (headSpec (.code y_Md_sink b_Md_sink 5 (some .int) :: TB) ({ frames := 2, cells := 0, slots := 0, locals := 43 })).room s m [.ref q0, .int p_0, .int p_1, .int p_2].toArray below meth c H locs 0 0 (MQ below (va_Qi (fun r (u : TSt) => Ok u.1 u.2 ∧ Ext W_Md_sink_t L f u.1 u.2 ∧ (True)) (fun (u : TSt) t => va_P (dC, dI) vwCl (TW ct u.1 u.2) t.heap ∧ va_K (dC, dI) vwCl (TT ct) t ∧ va_D (va_A (TW ct L f) s.heap.size) (TW ct u.1 u.2)) (va_A (TW ct L f) s.heap.size)) [.ref q0, .int p_0, .int p_1, .int p_2].toArray s 0 0 (va_A (TW ct L f) s.heap.size)) (F0 m 0 ls []) from hGo _ _ hP hS
  clear hP hS
  intro H locs hP hS
  refine lv_aload_n hx hb d_Md_sink_0 rfl (lv_at hl 0 rfl) ?_
  refine lv_iload_n hx hb d_Md_sink_1 rfl (lv_at hl 1 rfl) ?_
  refine vp_callSi (va_Run.run (va_runV (As := [.int p_0]) (rest := []) ⟨hx, hb, hml, hown, htb⟩ (c_Md_isBoat_t l dC dI ct L f hO_0 q0 m0 p_0) (cwV 1 htb (gd_V tw_543 tw_544 tw_545 tw_479 tw_542) rfl rfl rfl (by decide +kernel) ⟨Nat.le_of_ble_eq_true rfl, Nat.le_of_ble_eq_true rfl⟩) ⟨pr_blind, tw_recv hK hP m0 rfl rfl, pr_pre hP hK hN⟩ rfl rfl hl.1 rfl (lv_room (Nat.le_of_ble_eq_true rfl)) d_Md_sink_2 ⟨Nat.le_of_ble_eq_true rfl, Nat.le_of_ble_eq_true rfl⟩)) (fun r_1 er_1 => ?_)
  rcases er_1 with ⟨rfl, -⟩ | ⟨rfl, po_2, po_3, -⟩
  · refine lv_if_eq (tgt := 16) hx hb d_Md_sink_5 (by decide) (fun _ => ?_) (fun h => absurd (by decide +kernel) h)
    refine lv_iconst (v := (-1)) hx hb d_Md_sink_16 (by decide +kernel) ?_
    refine W.widen (k := 0) (n := 0) (Nat.le_of_ble_eq_true rfl) (Nat.le_of_ble_eq_true rfl) ?_
    exact W.iret (v := (-1)) hx hb hr (fun t ht hW => ⟨⟨(-1), (L, f), rfl, ⟨hO_0, hA_0.mono (by decide +kernel), trivial⟩, by rw [ht]; exact hP, va_K.moved hW.alike hK, by rw [hAe]; exact hD⟩, by rw [hAe]; exact hS.F ht⟩) (by rw [hAe]; exact hS.2.2) d_Md_sink_17
  · refine lv_if_eq (tgt := 16) hx hb d_Md_sink_5 (by decide) (fun h => absurd h (by decide +kernel)) (fun _ => ?_)
    refine lv_iload_n hx hb d_Md_sink_8 rfl (lv_at hl 2 rfl) ?_
    refine lv_iload_n hx hb d_Md_sink_9 rfl (lv_at hl 3 rfl) ?_
    refine vp_callSi (va_Run.run (va_runS (As := [.int p_1, .int p_2]) (rest := []) ⟨hx, hb, hml, hown, htb⟩ (c_Md_isPension l p_1 p_2) (cwS 2 htb (gd_S tw_671 tw_672 tw_479 tw_670) rfl rfl rfl (by decide +kernel) ⟨Nat.le_of_ble_eq_true rfl, Nat.le_of_ble_eq_true rfl⟩) ⟨fun _ _ _ _ h => h, fun U _ _ => ⟨rfl, trivial⟩⟩ rfl rfl hl.1 rfl (lv_room (Nat.le_of_ble_eq_true rfl)) d_Md_sink_10 ⟨Nat.le_of_ble_eq_true rfl, Nat.le_of_ble_eq_true rfl⟩)) (fun r er => ?_)
    subst er
    by_cases c_5 : p_1 < 1
    · refine hb_ti 0 (by unfold f_Md_isPension; rw [if_pos c_5]; first | done | rfl) ?_
      refine lv_if_ne (tgt := 18) hx hb d_Md_sink_13 (by decide) (fun h => absurd (by decide +kernel) h) (fun _ => ?_)
      refine lv_iconst (v := (-1)) hx hb d_Md_sink_16 (by decide +kernel) ?_
      refine W.widen (k := 0) (n := 0) (Nat.le_of_ble_eq_true rfl) (Nat.le_of_ble_eq_true rfl) ?_
      exact W.iret (v := (-1)) hx hb hr (fun t ht hW => ⟨⟨(-1), (L, f), rfl, ⟨hO_0, hA_0.mono (by decide +kernel), trivial⟩, by rw [ht]; exact hP, va_K.moved hW.alike hK, by rw [hAe]; exact hD⟩, by rw [hAe]; exact hS.F ht⟩) (by rw [hAe]; exact hS.2.2) d_Md_sink_17
    · by_cases c_6 : 10000 < p_1
      · refine hb_ti 0 (by unfold f_Md_isPension; rw [if_neg c_5, if_pos c_6]; first | done | rfl) ?_
        refine lv_if_ne (tgt := 18) hx hb d_Md_sink_13 (by decide) (fun h => absurd (by decide +kernel) h) (fun _ => ?_)
        refine lv_iconst (v := (-1)) hx hb d_Md_sink_16 (by decide +kernel) ?_
        refine W.widen (k := 0) (n := 0) (Nat.le_of_ble_eq_true rfl) (Nat.le_of_ble_eq_true rfl) ?_
        exact W.iret (v := (-1)) hx hb hr (fun t ht hW => ⟨⟨(-1), (L, f), rfl, ⟨hO_0, hA_0.mono (by decide +kernel), trivial⟩, by rw [ht]; exact hP, va_K.moved hW.alike hK, by rw [hAe]; exact hD⟩, by rw [hAe]; exact hS.F ht⟩) (by rw [hAe]; exact hS.2.2) d_Md_sink_17
      · by_cases c_7 : p_2 < 0
        · refine hb_ti 0 (by unfold f_Md_isPension; rw [if_neg c_5, if_neg c_6, if_pos c_7]; first | done | rfl) ?_
          refine lv_if_ne (tgt := 18) hx hb d_Md_sink_13 (by decide) (fun h => absurd (by decide +kernel) h) (fun _ => ?_)
          refine lv_iconst (v := (-1)) hx hb d_Md_sink_16 (by decide +kernel) ?_
          refine W.widen (k := 0) (n := 0) (Nat.le_of_ble_eq_true rfl) (Nat.le_of_ble_eq_true rfl) ?_
          exact W.iret (v := (-1)) hx hb hr (fun t ht hW => ⟨⟨(-1), (L, f), rfl, ⟨hO_0, hA_0.mono (by decide +kernel), trivial⟩, by rw [ht]; exact hP, va_K.moved hW.alike hK, by rw [hAe]; exact hD⟩, by rw [hAe]; exact hS.F ht⟩) (by rw [hAe]; exact hS.2.2) d_Md_sink_17
        · by_cases c_8 : 9999 < p_2
          · refine hb_ti 0 (by unfold f_Md_isPension; rw [if_neg c_5, if_neg c_6, if_neg c_7, if_pos c_8]; first | done | rfl) ?_
            refine lv_if_ne (tgt := 18) hx hb d_Md_sink_13 (by decide) (fun h => absurd (by decide +kernel) h) (fun _ => ?_)
            refine lv_iconst (v := (-1)) hx hb d_Md_sink_16 (by decide +kernel) ?_
            refine W.widen (k := 0) (n := 0) (Nat.le_of_ble_eq_true rfl) (Nat.le_of_ble_eq_true rfl) ?_
            exact W.iret (v := (-1)) hx hb hr (fun t ht hW => ⟨⟨(-1), (L, f), rfl, ⟨hO_0, hA_0.mono (by decide +kernel), trivial⟩, by rw [ht]; exact hP, va_K.moved hW.alike hK, by rw [hAe]; exact hD⟩, by rw [hAe]; exact hS.F ht⟩) (by rw [hAe]; exact hS.2.2) d_Md_sink_17
          · refine hb_ti 1 (by unfold f_Md_isPension; rw [if_neg c_5, if_neg c_6, if_neg c_7, if_neg c_8]; first | done | rfl) ?_
            refine lv_if_ne (tgt := 18) hx hb d_Md_sink_13 (by decide) (fun _ => ?_) (fun h => absurd h (by decide +kernel))
            refine lv_aload_n hx hb d_Md_sink_18 rfl (lv_at hl 0 rfl) ?_
            refine tw_getr (D := (dC, dI)) (C := R_Md) (T := F_Md) (N := 64) (ci := 7) (kd := 27) (ct := ct) hx hb htb i_Md hown hK hP hO_0 m0 rfl rfl 25 (by decide) (htb (.fieldLink R_Md 103 "WaterMenModel" "boatTrip" "[I") tw_541) (fun _ h9 => h9) rfl d_Md_sink_19 (fun q_9 e_9 m_9 => ?_)
            refine lv_iload_n hx hb d_Md_sink_22 rfl (lv_at hl 1 rfl) ?_
            refine tw_aldI (ct := ct) hx hb hK hP hO_0 m_9 rfl (hb_inl po_2 po_3 (by decide +kernel)) d_Md_sink_23 (fun x_10 e_10 b_10 => ?_)
            refine lv_if_ge (tgt := 30) hx hb d_Md_sink_24 (by decide) (fun c_11 => ?_) (fun c_11 => ?_)
            · refine lv_aload_n hx hb d_Md_sink_30 rfl (lv_at hl 0 rfl) ?_
              refine tw_geti (D := (dC, dI)) (C := R_Md) (T := F_Md) (N := 64) (ci := 7) (kd := 27) (ct := ct) hx hb htb i_Md hown hK hP hO_0 m0 rfl rfl 60 (by decide) (htb (.fieldLink R_Md 323 "WaterMenModel" "pensioners" "I") tw_653) (fun _ h9 => h9) rfl d_Md_sink_31 (fun x_12 e_12 b_12 => ?_)
              refine lv_bipush (v := 30) hx hb d_Md_sink_34 (by decide +kernel) ?_
              refine lv_icmp_ne (tgt := 42) hx hb d_Md_sink_36 (by decide) (fun c_13 => ?_) (fun c_13 => ?_)
              · refine lv_aload_n hx hb d_Md_sink_42 rfl (lv_at hl 0 rfl) ?_
                refine tw_getR (D := (dC, dI)) (C := R_Md) (T := F_Md) (N := 64) (ci := 7) (kd := 27) (ct := ct) hx hb htb i_Md hown hK hP m0 rfl rfl 25 e_9 (by decide) (htb (.fieldLink R_Md 103 "WaterMenModel" "boatTrip" "[I") tw_541) (fun _ h9 => h9) rfl d_Md_sink_43 ?_
                refine hb_tv (.ref q_9) rfl ?_
                refine lv_iload_n hx hb d_Md_sink_46 rfl (lv_at hl 1 rfl) ?_
                refine tw_aldxI (ct := ct) (x := x_10) hx hb hK hP m_9 rfl (hb_inl po_2 po_3 (by decide +kernel)) e_10 d_Md_sink_47 ?_
                refine lv_istore (lv' := [(4, .int x_10), (0, .ref q0), (1, .int p_0), (2, .int p_1), (3, .int p_2)]) hx hb d_Md_sink_48 hl (by decide) rfl (fun ls hl => ?_)
                refine lv_aload_n hx hb d_Md_sink_50 rfl (lv_at hl 1 rfl) ?_
                refine tw_getr (D := (dC, dI)) (C := R_Md) (T := F_Md) (N := 64) (ci := 7) (kd := 27) (ct := ct) hx hb htb i_Md hown hK hP hO_0 m0 rfl rfl 55 (by decide) (htb (.fieldLink R_Md 170 "WaterMenModel" "sank" "[Z") tw_648) (fun _ h9 => h9) rfl d_Md_sink_51 (fun q_15 e_15 m_15 => ?_)
                refine lv_iload hx hb d_Md_sink_54 (lv_at hl 0 rfl) ?_
                refine lv_iconst (v := 1) hx hb d_Md_sink_56 (by decide +kernel) ?_
                refine tw_astZ (ct := ct) (x := 1) hx hb hK hP hD hS hO_0 m_15 rfl ((fun (a_0 : Int32) (k_0 : ¬ (599 < a_0)) (k_1 : 0 ≤ a_0) => (show vp_in (a_0) 600 from by have z0 : (0 : Int32).toInt = 0 := (by decide +kernel); have z1 : (599 : Int32).toInt = 599 := (by decide +kernel); have r0 := fb_rng (a_0); have e0 := k_0; rw [Int32.lt_iff_toInt_lt, z1] at e0; have e1 := k_1; rw [Int32.le_iff_toInt_le, z0] at e1; rw [vp_in_iff]; omega)) x_10 b_10.2 c_11) ⟨by decide +kernel, by decide +kernel⟩ d_Md_sink_57 (fun f_1 H locs hP hD hS hO_1 hE_1 w_16 ow_16 hF_1 => ?_)
                have hA_1 := hA_0.trans hE_1
                refine lv_aload_n hx hb d_Md_sink_58 rfl (lv_at hl 1 rfl) ?_
                refine tw_getr (D := (dC, dI)) (C := R_Md) (T := F_Md) (N := 64) (ci := 7) (kd := 27) (ct := ct) hx hb htb i_Md hown hK hP hO_1 (hA_1.m m0) rfl rfl 26 (by decide) (htb (.fieldLink R_Md 106 "WaterMenModel" "sunk" "[Z") tw_547) (fun _ h9 => h9) rfl d_Md_sink_59 (fun q_17 e_17 m_17 => ?_)
                refine lv_iload_n hx hb d_Md_sink_62 rfl (lv_at hl 2 rfl) ?_
                refine lv_iconst (v := 1) hx hb d_Md_sink_63 (by decide +kernel) ?_
                refine tw_astZ (ct := ct) (x := 1) hx hb hK hP hD hS hO_1 m_17 rfl (hb_inl po_2 po_3 (by decide +kernel)) ⟨by decide +kernel, by decide +kernel⟩ d_Md_sink_64 (fun f_2 H locs hP hD hS hO_2 hE_2 w_18 ow_18 hF_2 => ?_)
                have hA_2 := hA_1.trans hE_2
                refine lv_aload_n hx hb d_Md_sink_65 rfl (lv_at hl 1 rfl) ?_
                refine tw_getR (D := (dC, dI)) (C := R_Md) (T := F_Md) (N := 64) (ci := 7) (kd := 27) (ct := ct) hx hb htb i_Md hown hK hP (hA_2.m m0) rfl rfl 25 ((hA_2.er m0 rfl).trans e_9) (by decide) (htb (.fieldLink R_Md 103 "WaterMenModel" "boatTrip" "[I") tw_541) (fun _ h9 => h9) rfl d_Md_sink_66 ?_
                refine hb_tv (.ref q_9) rfl ?_
                refine lv_iload_n hx hb d_Md_sink_69 rfl (lv_at hl 2 rfl) ?_
                refine lv_iconst (v := (-1)) hx hb d_Md_sink_70 (by decide +kernel) ?_
                refine tw_astI (ct := ct) (x := (-1)) hx hb hK hP hD hS hO_2 (hA_2.m m_9) rfl (hb_inl po_2 po_3 (by decide +kernel)) ⟨by decide +kernel, by decide +kernel⟩ d_Md_sink_71 (fun f_3 H locs hP hD hS hO_3 hE_3 w_19 ow_19 hF_3 => ?_)
                have hA_3 := hA_2.trans hE_3
                refine lv_aload_n hx hb d_Md_sink_72 rfl (lv_at hl 1 rfl) ?_
                refine tw_getr (D := (dC, dI)) (C := R_Md) (T := F_Md) (N := 64) (ci := 7) (kd := 27) (ct := ct) hx hb htb i_Md hown hK hP hO_3 (hA_3.m m0) rfl rfl 9 (by decide) (htb (.fieldLink R_Md 58 "WaterMenModel" "state" "[I") tw_506) (fun _ h9 => h9) rfl d_Md_sink_73 (fun q_20 e_20 m_20 => ?_)
                refine lv_aload_n hx hb d_Md_sink_76 rfl (lv_at hl 1 rfl) ?_
                refine tw_getr (D := (dC, dI)) (C := R_Md) (T := F_Md) (N := 64) (ci := 7) (kd := 27) (ct := ct) hx hb htb i_Md hown hK hP hO_3 (hA_3.m m0) rfl rfl 49 (by decide) (htb (.fieldLink R_Md 152 "WaterMenModel" "tripMan" "[I") tw_546) (fun _ h9 => h9) rfl d_Md_sink_77 (fun q_21 e_21 m_21 => ?_)
                refine lv_iload hx hb d_Md_sink_80 (lv_at hl 0 rfl) ?_
                refine tw_aldI (ct := ct) hx hb hK hP hO_3 m_21 rfl ((fun (a_0 : Int32) (k_0 : ¬ (599 < a_0)) (k_1 : 0 ≤ a_0) => (show vp_in (a_0) 600 from by have z0 : (0 : Int32).toInt = 0 := (by decide +kernel); have z1 : (599 : Int32).toInt = 599 := (by decide +kernel); have r0 := fb_rng (a_0); have e0 := k_0; rw [Int32.lt_iff_toInt_lt, z1] at e0; have e1 := k_1; rw [Int32.le_iff_toInt_le, z0] at e1; rw [vp_in_iff]; omega)) x_10 b_10.2 c_11) d_Md_sink_82 (fun x_22 e_22 b_22 => ?_)
                refine lv_iconst (v := 3) hx hb d_Md_sink_83 (by decide +kernel) ?_
                refine tw_astI (ct := ct) (x := 3) hx hb hK hP hD hS hO_3 m_20 rfl (hb_inl b_22.1 b_22.2 (by decide +kernel)) (i32_full _) d_Md_sink_84 (fun f_4 H locs hP hD hS hO_4 hE_4 w_23 ow_23 hF_4 => ?_)
                have hA_4 := hA_3.trans hE_4
                refine lv_aload_n hx hb d_Md_sink_85 rfl (lv_at hl 1 rfl) ?_
                refine tw_getr (D := (dC, dI)) (C := R_Md) (T := F_Md) (N := 64) (ci := 7) (kd := 27) (ct := ct) hx hb htb i_Md hown hK hP hO_4 (hA_4.m m0) rfl rfl 16 (by decide) (htb (.fieldLink R_Md 79 "WaterMenModel" "wayOf" "[I") tw_527) (fun _ h9 => h9) rfl d_Md_sink_86 (fun q_24 e_24 m_24 => ?_)
                refine lv_aload_n hx hb d_Md_sink_89 rfl (lv_at hl 1 rfl) ?_
                refine tw_getR (D := (dC, dI)) (C := R_Md) (T := F_Md) (N := 64) (ci := 7) (kd := 27) (ct := ct) hx hb htb i_Md hown hK hP (hA_4.m m0) rfl rfl 49 ((hE_4.er (hA_3.m m0) rfl).trans e_21) (by decide) (htb (.fieldLink R_Md 152 "WaterMenModel" "tripMan" "[I") tw_546) (fun _ h9 => h9) rfl d_Md_sink_90 ?_
                refine hb_tv (.ref q_21) rfl ?_
                refine lv_iload hx hb d_Md_sink_93 (lv_at hl 0 rfl) ?_
                refine tw_aldxI (ct := ct) (x := x_22) hx hb hK hP (hE_4.m m_21) rfl ((fun (a_0 : Int32) (k_0 : ¬ (599 < a_0)) (k_1 : 0 ≤ a_0) => (show vp_in (a_0) 600 from by have z0 : (0 : Int32).toInt = 0 := (by decide +kernel); have z1 : (599 : Int32).toInt = 599 := (by decide +kernel); have r0 := fb_rng (a_0); have e0 := k_0; rw [Int32.lt_iff_toInt_lt, z1] at e0; have e1 := k_1; rw [Int32.le_iff_toInt_le, z0] at e1; rw [vp_in_iff]; omega)) x_10 b_10.2 c_11) ((hE_4.ei m_21 rfl).trans e_22) d_Md_sink_95 ?_
                refine lv_iconst (v := (-1)) hx hb d_Md_sink_96 (by decide +kernel) ?_
                refine tw_astI (ct := ct) (x := (-1)) hx hb hK hP hD hS hO_4 m_24 rfl (hb_inl b_22.1 b_22.2 (by decide +kernel)) (i32_full _) d_Md_sink_97 (fun f_5 H locs hP hD hS hO_5 hE_5 w_26 ow_26 hF_5 => ?_)
                have hA_5 := hA_4.trans hE_5
                refine lv_aload_n hx hb d_Md_sink_98 rfl (lv_at hl 1 rfl) ?_
                refine lv_iload_n hx hb d_Md_sink_99 rfl (lv_at hl 3 rfl) ?_
                refine lv_iload_n hx hb d_Md_sink_100 rfl (lv_at hl 4 rfl) ?_
                have hFc := hb_free hD hS hA
                refine va_calli (va_runV (As := [.int p_1, .int p_2]) (rest := []) ⟨hx, hb, hml, hown, htb⟩ (c_Md_newPensioner_t l dC dI ct L f_5 hO_5 q0 (hA_5.m m0) _ p_1 p_2 (by rw [show ti f_5 q0 60 = x_12 from ((hA_5.ei m0 rfl).trans e_12)]; first | done | exact (show ¬ (29 < x_12) from ((fun (a_0 : Int32) (k_0 : ¬ (30 < a_0)) (k_1 : ¬ (a_0 = 30)) => (show ¬ (29 < a_0) from by have z0 : (29 : Int32).toInt = 29 := (by decide +kernel); have z1 : (30 : Int32).toInt = 30 := (by decide +kernel); have r0 := fb_rng (a_0); have e0 := k_0; rw [Int32.lt_iff_toInt_lt, z1] at e0; have e1 := k_1; rw [← Int32.toInt_inj, z1] at e1; rw [Int32.lt_iff_toInt_lt, z0]; omega)) x_12 b_12.2 c_13)))) (cwV 2 htb (gd_V tw_674 tw_675 tw_676 tw_479 tw_673) rfl rfl rfl (by decide +kernel) ⟨Nat.le_of_ble_eq_true rfl, Nat.le_of_ble_eq_true rfl⟩) ⟨pc_blind, tw_recv hK hP (hA_5.m m0) rfl rfl, pc_pre hP hK hD hN⟩ rfl rfl hl.1 rfl (lv_room (Nat.le_of_ble_eq_true rfl)) d_Md_sink_101 ⟨Nat.le_of_ble_eq_true rfl, Nat.le_of_ble_eq_true rfl⟩) hS (fun q _ h => hFc q h) hFc (fun r_27 u t H locs ht hvm er hB hz1 hk1 hS => ?_)
                obtain ⟨L_6, f_6⟩ := u
                obtain ⟨hO_6, hE_6, er⟩ := er
                obtain ⟨hP, hK1, hD1⟩ := hB
                rw [ht] at hP
                have hP : va_P (dC, dI) vwCl (TW ct L_6 f_6) H := hP
                have hD : va_D A (TW ct L_6 f_6) := hD1.weaken (fun _ q _ h => hFc q.1 h)
                have hO_6 : Ok L_6 f_6 := hO_6
                have hE_6 : Ext W_Md_newPensioner_t L f_5 L_6 f_6 := hE_6
                clear hK1 hD1 ht hvm hz1 hk1
                have hA_6 := hA_5.trans hE_6
                clear er
                refine W.widen (k := 0) (n := 0) (Nat.le_of_ble_eq_true rfl) (Nat.le_of_ble_eq_true rfl) ?_
                exact W.iret (v := r_27) hx hb hr (fun t ht hW => ⟨⟨r_27, (L_6, f_6), rfl, ⟨hO_6, hA_6.mono (by decide +kernel), trivial⟩, by rw [ht]; exact hP, va_K.moved hW.alike hK, by rw [hAe]; exact hD⟩, by rw [hAe]; exact hS.F ht⟩) (by rw [hAe]; exact hS.2.2) d_Md_sink_104
              · refine lv_bipush (v := (-3)) hx hb d_Md_sink_39 (by decide +kernel) ?_
                refine W.widen (k := 0) (n := 0) (Nat.le_of_ble_eq_true rfl) (Nat.le_of_ble_eq_true rfl) ?_
                exact W.iret (v := (-3)) hx hb hr (fun t ht hW => ⟨⟨(-3), (L, f), rfl, ⟨hO_0, hA_0.mono (by decide +kernel), trivial⟩, by rw [ht]; exact hP, va_K.moved hW.alike hK, by rw [hAe]; exact hD⟩, by rw [hAe]; exact hS.F ht⟩) (by rw [hAe]; exact hS.2.2) d_Md_sink_41
            · refine lv_bipush (v := (-2)) hx hb d_Md_sink_27 (by decide +kernel) ?_
              refine W.widen (k := 0) (n := 0) (Nat.le_of_ble_eq_true rfl) (Nat.le_of_ble_eq_true rfl) ?_
              exact W.iret (v := (-2)) hx hb hr (fun t ht hW => ⟨⟨(-2), (L, f), rfl, ⟨hO_0, hA_0.mono (by decide +kernel), trivial⟩, by rw [ht]; exact hP, va_K.moved hW.alike hK, by rw [hAe]; exact hD⟩, by rw [hAe]; exact hS.F ht⟩) (by rw [hAe]; exact hS.2.2) d_Md_sink_29
set_option maxHeartbeats 4000000 in
set_option maxRecDepth 100000 in
theorem c_Md_trip_t (l : Launch) (dC : Nat → ClassId) (dI : Nat → Nat → Nat) (ct : Nat → ClassId) (L : List Nat) (f : TF) (hO_0 : Ok L f) (q0 : Nat) (m0 : q0 ∈ L ∧ tk f q0 = 27) (p_0 : Int32) (p_1 : Int32)   : Met l y_Md_trip (.code y_Md_trip b_Md_trip 3 (some .int) :: TB) ({ frames := 1, cells := 0, slots := 0, locals := 22 }) (va_Pc [.ref q0, .int p_0, .int p_1] (PR dC dI (TW ct L f) (TT ct))) (vp_Si (fun r => True)) 0 0 (fun _ => False) := by
  refine Met.ofW (cc := b_Md_trip) (maxL := 3) (ret := (some .int)) (by decide) rfl ?_
  intro p e s m args below meth c s₁ B hml hv
  obtain ⟨rfl, hP, hK, hN⟩ := hv
  have hx := B.exec
  have hb := B.bytes
  have hr := B.returns
  have hts := atoms_spec (ws := (.code y_Md_trip b_Md_trip 3 (some .int) :: TB)) B.pre
  have htb := fun w (h : w ∈ TB) => hts w (List.mem_cons_of_mem _ h)
  have hown : s.vm.findClass R_Md = some m.cls := findClass_of_methodNamed B.named
  have hlocks := B.notSynchronized
  have hl := lv_entry ([.ref q0, .int p_0, .int p_1]) (n := 3) (Nat.le_of_ble_eq_true rfl)
  rw [lg_entry_eq]
  generalize (lg_sl ([.ref q0, .int p_0, .int p_1]) ++ List.replicate (3 - (lg_sl ([.ref q0, .int p_0, .int p_1])).length) Slot.unset).toArray = ls at hl ⊢
  have hl : lv_has ls 3 [(0, .ref q0), (1, .int p_0), (2, .int p_1)] := hl
  refine lv_iload_n hx hb d_Md_trip_0 rfl (lv_at hl 1 rfl) ?_
  refine lv_iconst (v := 0) hx hb d_Md_trip_1 (by decide +kernel) ?_
  refine lv_aload_n hx hb d_Md_trip_2 rfl (lv_at hl 0 rfl) ?_
  refine tw_geti (D := (dC, dI)) (C := R_Md) (T := F_Md) (N := 64) (ci := 7) (kd := 27) (ct := ct) hx hb htb i_Md hown hK hP hO_0 m0 rfl rfl 47 (by decide) (htb (.fieldLink R_Md 313 "WaterMenModel" "trips" "I") tw_641) (fun _ h9 => h9) rfl d_Md_trip_3 (fun x_1 e_1 b_1 => ?_)
  refine lv_iconst (v := 1) hx hb d_Md_trip_6 (by decide +kernel) ?_
  refine lv_isub hx hb d_Md_trip_7 ?_
  refine vp_callSi (va_Run.run (va_runS (As := [.int p_0, .int 0, .int (x_1 - 1)]) (rest := []) ⟨hx, hb, hml, hown, htb⟩ (c_Md_in l p_0 0 (x_1 - 1)) (cwS 3 htb (gd_S tw_480 tw_481 tw_479 tw_478) rfl rfl rfl (by decide +kernel) ⟨Nat.le_of_ble_eq_true rfl, Nat.le_of_ble_eq_true rfl⟩) ⟨fun _ _ _ _ h => h, fun U _ _ => ⟨rfl, trivial⟩⟩ rfl rfl hl.1 rfl (lv_room (Nat.le_of_ble_eq_true rfl)) d_Md_trip_8 ⟨Nat.le_of_ble_eq_true rfl, Nat.le_of_ble_eq_true rfl⟩)) (fun r er => ?_)
  subst er
  by_cases c_3 : p_0 < 0
  · refine hb_ti 0 (by unfold f_Md_in; rw [if_pos c_3]; first | done | rfl) ?_
    refine lv_if_ne (tgt := 17) hx hb d_Md_trip_11 (by decide) (fun h => absurd (by decide +kernel) h) (fun _ => ?_)
    refine lv_bipush (v := (-2)) hx hb d_Md_trip_14 (by decide +kernel) ?_
    exact W.iret (v := (-2)) hx hb hr (fun t ht hW => ⟨(-2), rfl, trivial, ht⟩) t_nil d_Md_trip_16
  · by_cases c_4 : (x_1 - 1) < p_0
    · refine hb_ti 0 (by unfold f_Md_in; rw [if_neg c_3, if_pos c_4]; first | done | rfl) ?_
      refine lv_if_ne (tgt := 17) hx hb d_Md_trip_11 (by decide) (fun h => absurd (by decide +kernel) h) (fun _ => ?_)
      refine lv_bipush (v := (-2)) hx hb d_Md_trip_14 (by decide +kernel) ?_
      exact W.iret (v := (-2)) hx hb hr (fun t ht hW => ⟨(-2), rfl, trivial, ht⟩) t_nil d_Md_trip_16
    · refine hb_ti 1 (by unfold f_Md_in; rw [if_neg c_3, if_neg c_4]; first | done | rfl) ?_
      refine lv_if_ne (tgt := 17) hx hb d_Md_trip_11 (by decide) (fun _ => ?_) (fun h => absurd h (by decide +kernel))
      refine lv_iload_n hx hb d_Md_trip_17 rfl (lv_at hl 2 rfl) ?_
      by_cases c_5 : p_1 = 0
      · refine lv_tableIn (off := 46) (tgt := 64) hx hb d_Md_trip_18 (by rw [c_5]; decide +kernel) (by rw [c_5]; decide +kernel) (by rw [c_5]; decide +kernel) (by decide) ?_
        refine lv_aload_n hx hb d_Md_trip_64 rfl (lv_at hl 0 rfl) ?_
        refine tw_getr (D := (dC, dI)) (C := R_Md) (T := F_Md) (N := 64) (ci := 7) (kd := 27) (ct := ct) hx hb htb i_Md hown hK hP hO_0 m0 rfl rfl 48 (by decide) (htb (.fieldLink R_Md 149 "WaterMenModel" "tripBoat" "[I") tw_642) (fun _ h9 => h9) rfl d_Md_trip_65 (fun q_6 e_6 m_6 => ?_)
        refine lv_iload_n hx hb d_Md_trip_68 rfl (lv_at hl 1 rfl) ?_
        refine tw_aldI (ct := ct) hx hb hK hP hO_0 m_6 rfl ((fun (a_0 : Int32) (a_1 : Int32) (k_0 : ¬ (a_0 < 0)) (k_1 : ¬ (a_1 < 0)) (k_2 : ¬ (600 < a_1)) (k_3 : ¬ ((a_1 - 1) < a_0)) => (show vp_in (a_0) 600 from by have z0 : (0 : Int32).toInt = 0 := (by decide +kernel); have z1 : (1 : Int32).toInt = 1 := (by decide +kernel); have z2 : (600 : Int32).toInt = 600 := (by decide +kernel); have r0 := fb_rng (a_0); have r1 := fb_rng (a_1); have e0 := k_0; rw [Int32.lt_iff_toInt_lt, z0] at e0; have e1 := k_1; rw [Int32.lt_iff_toInt_lt, z0] at e1; have e2 := k_2; rw [Int32.lt_iff_toInt_lt, z2] at e2; obtain ⟨n_0, hn_0, s0⟩ := nd_sub (x := (a_1)) (y := (1 : Int32)) (by (try rw [z1]); omega) (by (try rw [z1]); omega); rw [z1] at s0; have e3 := k_3; rw [hn_0, Int32.lt_iff_toInt_lt] at e3; rw [vp_in_iff]; omega)) p_0 x_1 c_3 b_1.1 b_1.2 c_4) d_Md_trip_69 (fun x_7 e_7 b_7 => ?_)
        exact W.iret (v := x_7) hx hb hr (fun t ht hW => ⟨x_7, rfl, trivial, ht⟩) t_nil d_Md_trip_70
      · by_cases c_8 : p_1 = 1
        · refine lv_tableIn (off := 53) (tgt := 71) hx hb d_Md_trip_18 (by rw [c_8]; decide +kernel) (by rw [c_8]; decide +kernel) (by rw [c_8]; decide +kernel) (by decide) ?_
          refine lv_aload_n hx hb d_Md_trip_71 rfl (lv_at hl 0 rfl) ?_
          refine tw_getr (D := (dC, dI)) (C := R_Md) (T := F_Md) (N := 64) (ci := 7) (kd := 27) (ct := ct) hx hb htb i_Md hown hK hP hO_0 m0 rfl rfl 49 (by decide) (htb (.fieldLink R_Md 152 "WaterMenModel" "tripMan" "[I") tw_546) (fun _ h9 => h9) rfl d_Md_trip_72 (fun q_9 e_9 m_9 => ?_)
          refine lv_iload_n hx hb d_Md_trip_75 rfl (lv_at hl 1 rfl) ?_
          refine tw_aldI (ct := ct) hx hb hK hP hO_0 m_9 rfl ((fun (a_0 : Int32) (a_1 : Int32) (k_0 : ¬ (a_0 < 0)) (k_1 : ¬ (a_1 < 0)) (k_2 : ¬ (600 < a_1)) (k_3 : ¬ ((a_1 - 1) < a_0)) => (show vp_in (a_0) 600 from by have z0 : (0 : Int32).toInt = 0 := (by decide +kernel); have z1 : (1 : Int32).toInt = 1 := (by decide +kernel); have z2 : (600 : Int32).toInt = 600 := (by decide +kernel); have r0 := fb_rng (a_0); have r1 := fb_rng (a_1); have e0 := k_0; rw [Int32.lt_iff_toInt_lt, z0] at e0; have e1 := k_1; rw [Int32.lt_iff_toInt_lt, z0] at e1; have e2 := k_2; rw [Int32.lt_iff_toInt_lt, z2] at e2; obtain ⟨n_0, hn_0, s0⟩ := nd_sub (x := (a_1)) (y := (1 : Int32)) (by (try rw [z1]); omega) (by (try rw [z1]); omega); rw [z1] at s0; have e3 := k_3; rw [hn_0, Int32.lt_iff_toInt_lt] at e3; rw [vp_in_iff]; omega)) p_0 x_1 c_3 b_1.1 b_1.2 c_4) d_Md_trip_76 (fun x_10 e_10 b_10 => ?_)
          exact W.iret (v := x_10) hx hb hr (fun t ht hW => ⟨x_10, rfl, trivial, ht⟩) t_nil d_Md_trip_77
        · by_cases c_11 : p_1 = 2
          · refine lv_tableIn (off := 60) (tgt := 78) hx hb d_Md_trip_18 (by rw [c_11]; decide +kernel) (by rw [c_11]; decide +kernel) (by rw [c_11]; decide +kernel) (by decide) ?_
            refine lv_aload_n hx hb d_Md_trip_78 rfl (lv_at hl 0 rfl) ?_
            refine tw_getr (D := (dC, dI)) (C := R_Md) (T := F_Md) (N := 64) (ci := 7) (kd := 27) (ct := ct) hx hb htb i_Md hown hK hP hO_0 m0 rfl rfl 50 (by decide) (htb (.fieldLink R_Md 155 "WaterMenModel" "tripFrom" "[I") tw_643) (fun _ h9 => h9) rfl d_Md_trip_79 (fun q_12 e_12 m_12 => ?_)
            refine lv_iload_n hx hb d_Md_trip_82 rfl (lv_at hl 1 rfl) ?_
            refine tw_aldI (ct := ct) hx hb hK hP hO_0 m_12 rfl ((fun (a_0 : Int32) (a_1 : Int32) (k_0 : ¬ (a_0 < 0)) (k_1 : ¬ (a_1 < 0)) (k_2 : ¬ (600 < a_1)) (k_3 : ¬ ((a_1 - 1) < a_0)) => (show vp_in (a_0) 600 from by have z0 : (0 : Int32).toInt = 0 := (by decide +kernel); have z1 : (1 : Int32).toInt = 1 := (by decide +kernel); have z2 : (600 : Int32).toInt = 600 := (by decide +kernel); have r0 := fb_rng (a_0); have r1 := fb_rng (a_1); have e0 := k_0; rw [Int32.lt_iff_toInt_lt, z0] at e0; have e1 := k_1; rw [Int32.lt_iff_toInt_lt, z0] at e1; have e2 := k_2; rw [Int32.lt_iff_toInt_lt, z2] at e2; obtain ⟨n_0, hn_0, s0⟩ := nd_sub (x := (a_1)) (y := (1 : Int32)) (by (try rw [z1]); omega) (by (try rw [z1]); omega); rw [z1] at s0; have e3 := k_3; rw [hn_0, Int32.lt_iff_toInt_lt] at e3; rw [vp_in_iff]; omega)) p_0 x_1 c_3 b_1.1 b_1.2 c_4) d_Md_trip_83 (fun x_13 e_13 b_13 => ?_)
            exact W.iret (v := x_13) hx hb hr (fun t ht hW => ⟨x_13, rfl, trivial, ht⟩) t_nil d_Md_trip_84
          · by_cases c_14 : p_1 = 3
            · refine lv_tableIn (off := 67) (tgt := 85) hx hb d_Md_trip_18 (by rw [c_14]; decide +kernel) (by rw [c_14]; decide +kernel) (by rw [c_14]; decide +kernel) (by decide) ?_
              refine lv_aload_n hx hb d_Md_trip_85 rfl (lv_at hl 0 rfl) ?_
              refine tw_getr (D := (dC, dI)) (C := R_Md) (T := F_Md) (N := 64) (ci := 7) (kd := 27) (ct := ct) hx hb htb i_Md hown hK hP hO_0 m0 rfl rfl 51 (by decide) (htb (.fieldLink R_Md 158 "WaterMenModel" "tripTo" "[I") tw_644) (fun _ h9 => h9) rfl d_Md_trip_86 (fun q_15 e_15 m_15 => ?_)
              refine lv_iload_n hx hb d_Md_trip_89 rfl (lv_at hl 1 rfl) ?_
              refine tw_aldI (ct := ct) hx hb hK hP hO_0 m_15 rfl ((fun (a_0 : Int32) (a_1 : Int32) (k_0 : ¬ (a_0 < 0)) (k_1 : ¬ (a_1 < 0)) (k_2 : ¬ (600 < a_1)) (k_3 : ¬ ((a_1 - 1) < a_0)) => (show vp_in (a_0) 600 from by have z0 : (0 : Int32).toInt = 0 := (by decide +kernel); have z1 : (1 : Int32).toInt = 1 := (by decide +kernel); have z2 : (600 : Int32).toInt = 600 := (by decide +kernel); have r0 := fb_rng (a_0); have r1 := fb_rng (a_1); have e0 := k_0; rw [Int32.lt_iff_toInt_lt, z0] at e0; have e1 := k_1; rw [Int32.lt_iff_toInt_lt, z0] at e1; have e2 := k_2; rw [Int32.lt_iff_toInt_lt, z2] at e2; obtain ⟨n_0, hn_0, s0⟩ := nd_sub (x := (a_1)) (y := (1 : Int32)) (by (try rw [z1]); omega) (by (try rw [z1]); omega); rw [z1] at s0; have e3 := k_3; rw [hn_0, Int32.lt_iff_toInt_lt] at e3; rw [vp_in_iff]; omega)) p_0 x_1 c_3 b_1.1 b_1.2 c_4) d_Md_trip_90 (fun x_16 e_16 b_16 => ?_)
              exact W.iret (v := x_16) hx hb hr (fun t ht hW => ⟨x_16, rfl, trivial, ht⟩) t_nil d_Md_trip_91
            · by_cases c_17 : p_1 = 4
              · refine lv_tableIn (off := 74) (tgt := 92) hx hb d_Md_trip_18 (by rw [c_17]; decide +kernel) (by rw [c_17]; decide +kernel) (by rw [c_17]; decide +kernel) (by decide) ?_
                refine lv_aload_n hx hb d_Md_trip_92 rfl (lv_at hl 0 rfl) ?_
                refine tw_getr (D := (dC, dI)) (C := R_Md) (T := F_Md) (N := 64) (ci := 7) (kd := 27) (ct := ct) hx hb htb i_Md hown hK hP hO_0 m0 rfl rfl 52 (by decide) (htb (.fieldLink R_Md 161 "WaterMenModel" "tripBegin" "[I") tw_645) (fun _ h9 => h9) rfl d_Md_trip_93 (fun q_18 e_18 m_18 => ?_)
                refine lv_iload_n hx hb d_Md_trip_96 rfl (lv_at hl 1 rfl) ?_
                refine tw_aldI (ct := ct) hx hb hK hP hO_0 m_18 rfl ((fun (a_0 : Int32) (a_1 : Int32) (k_0 : ¬ (a_0 < 0)) (k_1 : ¬ (a_1 < 0)) (k_2 : ¬ (600 < a_1)) (k_3 : ¬ ((a_1 - 1) < a_0)) => (show vp_in (a_0) 600 from by have z0 : (0 : Int32).toInt = 0 := (by decide +kernel); have z1 : (1 : Int32).toInt = 1 := (by decide +kernel); have z2 : (600 : Int32).toInt = 600 := (by decide +kernel); have r0 := fb_rng (a_0); have r1 := fb_rng (a_1); have e0 := k_0; rw [Int32.lt_iff_toInt_lt, z0] at e0; have e1 := k_1; rw [Int32.lt_iff_toInt_lt, z0] at e1; have e2 := k_2; rw [Int32.lt_iff_toInt_lt, z2] at e2; obtain ⟨n_0, hn_0, s0⟩ := nd_sub (x := (a_1)) (y := (1 : Int32)) (by (try rw [z1]); omega) (by (try rw [z1]); omega); rw [z1] at s0; have e3 := k_3; rw [hn_0, Int32.lt_iff_toInt_lt] at e3; rw [vp_in_iff]; omega)) p_0 x_1 c_3 b_1.1 b_1.2 c_4) d_Md_trip_97 (fun x_19 e_19 b_19 => ?_)
                exact W.iret (v := x_19) hx hb hr (fun t ht hW => ⟨x_19, rfl, trivial, ht⟩) t_nil d_Md_trip_98
              · by_cases c_20 : p_1 = 5
                · refine lv_tableIn (off := 81) (tgt := 99) hx hb d_Md_trip_18 (by rw [c_20]; decide +kernel) (by rw [c_20]; decide +kernel) (by rw [c_20]; decide +kernel) (by decide) ?_
                  refine lv_aload_n hx hb d_Md_trip_99 rfl (lv_at hl 0 rfl) ?_
                  refine tw_getr (D := (dC, dI)) (C := R_Md) (T := F_Md) (N := 64) (ci := 7) (kd := 27) (ct := ct) hx hb htb i_Md hown hK hP hO_0 m0 rfl rfl 53 (by decide) (htb (.fieldLink R_Md 164 "WaterMenModel" "tripThere" "[I") tw_646) (fun _ h9 => h9) rfl d_Md_trip_100 (fun q_21 e_21 m_21 => ?_)
                  refine lv_iload_n hx hb d_Md_trip_103 rfl (lv_at hl 1 rfl) ?_
                  refine tw_aldI (ct := ct) hx hb hK hP hO_0 m_21 rfl ((fun (a_0 : Int32) (a_1 : Int32) (k_0 : ¬ (a_0 < 0)) (k_1 : ¬ (a_1 < 0)) (k_2 : ¬ (600 < a_1)) (k_3 : ¬ ((a_1 - 1) < a_0)) => (show vp_in (a_0) 600 from by have z0 : (0 : Int32).toInt = 0 := (by decide +kernel); have z1 : (1 : Int32).toInt = 1 := (by decide +kernel); have z2 : (600 : Int32).toInt = 600 := (by decide +kernel); have r0 := fb_rng (a_0); have r1 := fb_rng (a_1); have e0 := k_0; rw [Int32.lt_iff_toInt_lt, z0] at e0; have e1 := k_1; rw [Int32.lt_iff_toInt_lt, z0] at e1; have e2 := k_2; rw [Int32.lt_iff_toInt_lt, z2] at e2; obtain ⟨n_0, hn_0, s0⟩ := nd_sub (x := (a_1)) (y := (1 : Int32)) (by (try rw [z1]); omega) (by (try rw [z1]); omega); rw [z1] at s0; have e3 := k_3; rw [hn_0, Int32.lt_iff_toInt_lt] at e3; rw [vp_in_iff]; omega)) p_0 x_1 c_3 b_1.1 b_1.2 c_4) d_Md_trip_104 (fun x_22 e_22 b_22 => ?_)
                  exact W.iret (v := x_22) hx hb hr (fun t ht hW => ⟨x_22, rfl, trivial, ht⟩) t_nil d_Md_trip_105
                · by_cases c_23 : p_1 = 6
                  · refine lv_tableIn (off := 88) (tgt := 106) hx hb d_Md_trip_18 (by rw [c_23]; decide +kernel) (by rw [c_23]; decide +kernel) (by rw [c_23]; decide +kernel) (by decide) ?_
                    refine lv_aload_n hx hb d_Md_trip_106 rfl (lv_at hl 0 rfl) ?_
                    refine tw_getr (D := (dC, dI)) (C := R_Md) (T := F_Md) (N := 64) (ci := 7) (kd := 27) (ct := ct) hx hb htb i_Md hown hK hP hO_0 m0 rfl rfl 54 (by decide) (htb (.fieldLink R_Md 167 "WaterMenModel" "tripPaid" "[I") tw_647) (fun _ h9 => h9) rfl d_Md_trip_107 (fun q_24 e_24 m_24 => ?_)
                    refine lv_iload_n hx hb d_Md_trip_110 rfl (lv_at hl 1 rfl) ?_
                    refine tw_aldI (ct := ct) hx hb hK hP hO_0 m_24 rfl ((fun (a_0 : Int32) (a_1 : Int32) (k_0 : ¬ (a_0 < 0)) (k_1 : ¬ (a_1 < 0)) (k_2 : ¬ (600 < a_1)) (k_3 : ¬ ((a_1 - 1) < a_0)) => (show vp_in (a_0) 600 from by have z0 : (0 : Int32).toInt = 0 := (by decide +kernel); have z1 : (1 : Int32).toInt = 1 := (by decide +kernel); have z2 : (600 : Int32).toInt = 600 := (by decide +kernel); have r0 := fb_rng (a_0); have r1 := fb_rng (a_1); have e0 := k_0; rw [Int32.lt_iff_toInt_lt, z0] at e0; have e1 := k_1; rw [Int32.lt_iff_toInt_lt, z0] at e1; have e2 := k_2; rw [Int32.lt_iff_toInt_lt, z2] at e2; obtain ⟨n_0, hn_0, s0⟩ := nd_sub (x := (a_1)) (y := (1 : Int32)) (by (try rw [z1]); omega) (by (try rw [z1]); omega); rw [z1] at s0; have e3 := k_3; rw [hn_0, Int32.lt_iff_toInt_lt] at e3; rw [vp_in_iff]; omega)) p_0 x_1 c_3 b_1.1 b_1.2 c_4) d_Md_trip_111 (fun x_25 e_25 b_25 => ?_)
                    exact W.iret (v := x_25) hx hb hr (fun t ht hW => ⟨x_25, rfl, trivial, ht⟩) t_nil d_Md_trip_112
                  · by_cases c_26 : p_1 = 7
                    · refine lv_tableIn (off := 95) (tgt := 113) hx hb d_Md_trip_18 (by rw [c_26]; decide +kernel) (by rw [c_26]; decide +kernel) (by rw [c_26]; decide +kernel) (by decide) ?_
                      refine lv_aload_n hx hb d_Md_trip_113 rfl (lv_at hl 0 rfl) ?_
                      refine tw_getr (D := (dC, dI)) (C := R_Md) (T := F_Md) (N := 64) (ci := 7) (kd := 27) (ct := ct) hx hb htb i_Md hown hK hP hO_0 m0 rfl rfl 55 (by decide) (htb (.fieldLink R_Md 170 "WaterMenModel" "sank" "[Z") tw_648) (fun _ h9 => h9) rfl d_Md_trip_114 (fun q_27 e_27 m_27 => ?_)
                      refine lv_iload_n hx hb d_Md_trip_117 rfl (lv_at hl 1 rfl) ?_
                      refine tw_aldZ (ct := ct) hx hb hK hP hO_0 m_27 rfl ((fun (a_0 : Int32) (a_1 : Int32) (k_0 : ¬ (a_0 < 0)) (k_1 : ¬ (a_1 < 0)) (k_2 : ¬ (600 < a_1)) (k_3 : ¬ ((a_1 - 1) < a_0)) => (show vp_in (a_0) 600 from by have z0 : (0 : Int32).toInt = 0 := (by decide +kernel); have z1 : (1 : Int32).toInt = 1 := (by decide +kernel); have z2 : (600 : Int32).toInt = 600 := (by decide +kernel); have r0 := fb_rng (a_0); have r1 := fb_rng (a_1); have e0 := k_0; rw [Int32.lt_iff_toInt_lt, z0] at e0; have e1 := k_1; rw [Int32.lt_iff_toInt_lt, z0] at e1; have e2 := k_2; rw [Int32.lt_iff_toInt_lt, z2] at e2; obtain ⟨n_0, hn_0, s0⟩ := nd_sub (x := (a_1)) (y := (1 : Int32)) (by (try rw [z1]); omega) (by (try rw [z1]); omega); rw [z1] at s0; have e3 := k_3; rw [hn_0, Int32.lt_iff_toInt_lt] at e3; rw [vp_in_iff]; omega)) p_0 x_1 c_3 b_1.1 b_1.2 c_4) d_Md_trip_118 (fun x_28 e_28 b_28 => ?_)
                      refine lv_if_eq (tgt := 126) hx hb d_Md_trip_119 (by decide) (fun c_29 => ?_) (fun c_29 => ?_)
                      · refine lv_iconst (v := 0) hx hb d_Md_trip_126 (by decide +kernel) ?_
                        exact W.iret (v := 0) hx hb hr (fun t ht hW => ⟨0, rfl, trivial, ht⟩) t_nil d_Md_trip_127
                      · refine lv_iconst (v := 1) hx hb d_Md_trip_122 (by decide +kernel) ?_
                        refine lv_goto (tgt := 127) hx hb d_Md_trip_123 (by decide) ?_
                        exact W.iret (v := 1) hx hb hr (fun t ht hW => ⟨1, rfl, trivial, ht⟩) t_nil d_Md_trip_127
                    · refine lv_tableOut (tgt := 128) hx hb d_Md_trip_18 (by have h0 := lv_neT c_5 (show (0 : Int32).toInt = 0 by decide +kernel); have h1 := lv_neT c_8 (show (1 : Int32).toInt = 1 by decide +kernel); have h2 := lv_neT c_11 (show (2 : Int32).toInt = 2 by decide +kernel); have h3 := lv_neT c_14 (show (3 : Int32).toInt = 3 by decide +kernel); have h4 := lv_neT c_17 (show (4 : Int32).toInt = 4 by decide +kernel); have h5 := lv_neT c_20 (show (5 : Int32).toInt = 5 by decide +kernel); have h6 := lv_neT c_23 (show (6 : Int32).toInt = 6 by decide +kernel); have h7 := lv_neT c_26 (show (7 : Int32).toInt = 7 by decide +kernel); omega) (by decide) ?_
                      refine lv_bipush (v := (-2)) hx hb d_Md_trip_128 (by decide +kernel) ?_
                      exact W.iret (v := (-2)) hx hb hr (fun t ht hW => ⟨(-2), rfl, trivial, ht⟩) t_nil d_Md_trip_130
set_option maxHeartbeats 4000000 in
set_option maxRecDepth 100000 in
theorem c_Md_dueOf_t (l : Launch) (dC : Nat → ClassId) (dI : Nat → Nat → Nat) (ct : Nat → ClassId) (L : List Nat) (f : TF) (hO_0 : Ok L f) (q0 : Nat) (m0 : q0 ∈ L ∧ tk f q0 = 27) (p_0 : Int32) (p_1 : Int32)  (as_0 : ¬ (p_0 < 0)) (as_1 : ¬ (599 < p_0)) : Met l y_Md_dueOf (.code y_Md_dueOf b_Md_dueOf 6 (some .int) :: TB) ({ frames := 3, cells := 0, slots := 0, locals := 76 }) (va_Pc [.ref q0, .int p_0, .int p_1] (PR dC dI (TW ct L f) (TT ct))) (vp_Si (fun r => True)) 0 0 (fun _ => False) := by
  refine Met.ofW (cc := b_Md_dueOf) (maxL := 6) (ret := (some .int)) (by decide) rfl ?_
  intro p e s m args below meth c s₁ B hml hv
  obtain ⟨rfl, hP, hK, hN⟩ := hv
  have hx := B.exec
  have hb := B.bytes
  have hr := B.returns
  have hts := atoms_spec (ws := (.code y_Md_dueOf b_Md_dueOf 6 (some .int) :: TB)) B.pre
  have htb := fun w (h : w ∈ TB) => hts w (List.mem_cons_of_mem _ h)
  have hown : s.vm.findClass R_Md = some m.cls := findClass_of_methodNamed B.named
  have hlocks := B.notSynchronized
  have hl := lv_entry ([.ref q0, .int p_0, .int p_1]) (n := 6) (Nat.le_of_ble_eq_true rfl)
  rw [lg_entry_eq]
  generalize (lg_sl ([.ref q0, .int p_0, .int p_1]) ++ List.replicate (6 - (lg_sl ([.ref q0, .int p_0, .int p_1])).length) Slot.unset).toArray = ls at hl ⊢
  have hl : lv_has ls 6 [(0, .ref q0), (1, .int p_0), (2, .int p_1)] := hl
  refine lv_aload_n hx hb d_Md_dueOf_0 rfl (lv_at hl 0 rfl) ?_
  refine tw_getr (D := (dC, dI)) (C := R_Md) (T := F_Md) (N := 64) (ci := 7) (kd := 27) (ct := ct) hx hb htb i_Md hown hK hP hO_0 m0 rfl rfl 52 (by decide) (htb (.fieldLink R_Md 161 "WaterMenModel" "tripBegin" "[I") tw_645) (fun _ h9 => h9) rfl d_Md_dueOf_1 (fun q_1 e_1 m_1 => ?_)
  refine lv_iload_n hx hb d_Md_dueOf_4 rfl (lv_at hl 1 rfl) ?_
  refine tw_aldI (ct := ct) hx hb hK hP hO_0 m_1 rfl (hb_inl as_0 as_1 (by decide +kernel)) d_Md_dueOf_5 (fun x_2 e_2 b_2 => ?_)
  refine lv_sipush (v := 720) hx hb d_Md_dueOf_6 (by decide +kernel) ?_
  refine lv_idiv hx hb d_Md_dueOf_9 (by decide) ?_
  refine hb_divn (U := 359999) (Qm := 499) (c := 720) (C1 := 719) (K := 2147482927) (by decide +kernel) (by decide +kernel) (by decide +kernel) b_2.1 (show ¬ (2147482927 < x_2) from by have e0 := b_2.1; rw [Int32.lt_iff_toInt_lt] at e0; have e1 := b_2.2; rw [Int32.lt_iff_toInt_lt] at e1; have z0 : (0 : Int32).toInt = 0 := (by decide +kernel); have z1 : (359999 : Int32).toInt = 359999 := (by decide +kernel); have z2 : (2147482927 : Int32).toInt = 2147482927 := (by decide +kernel); rw [Int32.lt_iff_toInt_lt]; omega) b_2.2 (by decide +kernel) (fun y_3 g1_3 g2_3 g3_3 g4_3 g5_3 g9_3 => ?_)
  refine lv_istore_n (lv' := [(3, .int y_3), (0, .ref q0), (1, .int p_0), (2, .int p_1)]) hx hb d_Md_dueOf_10 rfl hl (by decide) rfl (fun ls hl => ?_)
  refine lv_aload_n hx hb d_Md_dueOf_11 rfl (lv_at hl 1 rfl) ?_
  refine lv_iload_n hx hb d_Md_dueOf_12 rfl (lv_at hl 0 rfl) ?_
  refine lv_iload_n hx hb d_Md_dueOf_13 rfl (lv_at hl 3 rfl) ?_
  refine vp_callSi (va_Run.run (va_runV (As := [.int y_3, .int p_1]) (rest := []) ⟨hx, hb, hml, hown, htb⟩ (c_Md_forceOn_t l dC dI ct L f hO_0 q0 m0 y_3 p_1) (cwV 2 htb (gd_V tw_607 tw_608 tw_609 tw_479 tw_606) rfl rfl rfl (by decide +kernel) ⟨Nat.le_of_ble_eq_true rfl, Nat.le_of_ble_eq_true rfl⟩) ⟨pr_blind, tw_recv hK hP m0 rfl rfl, pr_pre hP hK hN⟩ rfl rfl hl.1 rfl (lv_room (Nat.le_of_ble_eq_true rfl)) d_Md_dueOf_14 ⟨Nat.le_of_ble_eq_true rfl, Nat.le_of_ble_eq_true rfl⟩)) (fun r_4 er_4 => ?_)
  rcases er_4 with ⟨rfl, -⟩ | ⟨po_5, po_6, -⟩
  · refine lv_istore (lv' := [(4, .int (-2)), (3, .int y_3), (0, .ref q0), (1, .int p_0), (2, .int p_1)]) hx hb d_Md_dueOf_17 hl (by decide) rfl (fun ls hl => ?_)
    refine lv_iload hx hb d_Md_dueOf_19 (lv_at hl 0 rfl) ?_
    refine lv_if_ge (tgt := 28) hx hb d_Md_dueOf_21 (by decide) (fun h => absurd h (by decide +kernel)) (fun _ => ?_)
    refine lv_iconst (v := (-1)) hx hb d_Md_dueOf_24 (by decide +kernel) ?_
    refine lv_goto (tgt := 71) hx hb d_Md_dueOf_25 (by decide) ?_
    refine lv_istore (lv' := [(5, .int (-1)), (4, .int (-2)), (3, .int y_3), (0, .ref q0), (1, .int p_0), (2, .int p_1)]) hx hb d_Md_dueOf_71 hl (by decide) rfl (fun ls hl => ?_)
    refine lv_iload hx hb d_Md_dueOf_73 (lv_at hl 0 rfl) ?_
    refine lv_if_ge (tgt := 82) hx hb d_Md_dueOf_75 (by decide) (fun h => absurd h (by decide +kernel)) (fun _ => ?_)
    refine lv_iconst (v := (-1)) hx hb d_Md_dueOf_78 (by decide +kernel) ?_
    refine lv_goto (tgt := 84) hx hb d_Md_dueOf_79 (by decide) ?_
    exact W.iret (v := (-1)) hx hb hr (fun t ht hW => ⟨(-1), rfl, trivial, ht⟩) t_nil d_Md_dueOf_84
  · refine lv_istore (lv' := [(4, .int r_4), (3, .int y_3), (0, .ref q0), (1, .int p_0), (2, .int p_1)]) hx hb d_Md_dueOf_17 hl (by decide) rfl (fun ls hl => ?_)
    refine lv_iload hx hb d_Md_dueOf_19 (lv_at hl 0 rfl) ?_
    refine lv_if_ge (tgt := 28) hx hb d_Md_dueOf_21 (by decide) (fun _ => ?_) (fun h => absurd (show 0 ≤ r_4 from by have e0 := po_5; rw [Int32.lt_iff_toInt_lt] at e0; have e1 := po_6; rw [Int32.lt_iff_toInt_lt] at e1; have z0 : (0 : Int32).toInt = 0 := (by decide +kernel); have z1 : (19 : Int32).toInt = 19 := (by decide +kernel); rw [Int32.le_iff_toInt_le]; omega) h)
    refine lv_aload_n hx hb d_Md_dueOf_28 rfl (lv_at hl 2 rfl) ?_
    refine lv_iload hx hb d_Md_dueOf_29 (lv_at hl 0 rfl) ?_
    refine lv_aload_n hx hb d_Md_dueOf_31 rfl (lv_at hl 2 rfl) ?_
    refine tw_getr (D := (dC, dI)) (C := R_Md) (T := F_Md) (N := 64) (ci := 7) (kd := 27) (ct := ct) hx hb htb i_Md hown hK hP hO_0 m0 rfl rfl 50 (by decide) (htb (.fieldLink R_Md 155 "WaterMenModel" "tripFrom" "[I") tw_643) (fun _ h9 => h9) rfl d_Md_dueOf_32 (fun q_7 e_7 m_7 => ?_)
    refine lv_iload_n hx hb d_Md_dueOf_35 rfl (lv_at hl 3 rfl) ?_
    refine tw_aldI (ct := ct) hx hb hK hP hO_0 m_7 rfl (hb_inl as_0 as_1 (by decide +kernel)) d_Md_dueOf_36 (fun x_8 e_8 b_8 => ?_)
    refine lv_aload_n hx hb d_Md_dueOf_37 rfl (lv_at hl 2 rfl) ?_
    refine tw_getr (D := (dC, dI)) (C := R_Md) (T := F_Md) (N := 64) (ci := 7) (kd := 27) (ct := ct) hx hb htb i_Md hown hK hP hO_0 m0 rfl rfl 51 (by decide) (htb (.fieldLink R_Md 158 "WaterMenModel" "tripTo" "[I") tw_644) (fun _ h9 => h9) rfl d_Md_dueOf_38 (fun q_9 e_9 m_9 => ?_)
    refine lv_iload_n hx hb d_Md_dueOf_41 rfl (lv_at hl 3 rfl) ?_
    refine tw_aldI (ct := ct) hx hb hK hP hO_0 m_9 rfl (hb_inl as_0 as_1 (by decide +kernel)) d_Md_dueOf_42 (fun x_10 e_10 b_10 => ?_)
    refine lv_iload_n hx hb d_Md_dueOf_43 rfl (lv_at hl 1 rfl) ?_
    refine lv_aload_n hx hb d_Md_dueOf_44 rfl (lv_at hl 2 rfl) ?_
    refine tw_getR (D := (dC, dI)) (C := R_Md) (T := F_Md) (N := 64) (ci := 7) (kd := 27) (ct := ct) hx hb htb i_Md hown hK hP m0 rfl rfl 52 e_1 (by decide) (htb (.fieldLink R_Md 161 "WaterMenModel" "tripBegin" "[I") tw_645) (fun _ h9 => h9) rfl d_Md_dueOf_45 ?_
    refine hb_tv (.ref q_1) rfl ?_
    refine lv_iload_n hx hb d_Md_dueOf_48 rfl (lv_at hl 3 rfl) ?_
    refine tw_aldxI (ct := ct) (x := x_2) hx hb hK hP m_1 rfl (hb_inl as_0 as_1 (by decide +kernel)) e_2 d_Md_dueOf_49 ?_
    refine lv_sipush (v := 720) hx hb d_Md_dueOf_50 (by decide +kernel) ?_
    refine lv_irem hx hb d_Md_dueOf_53 (by decide) ?_
    refine hb_remn (c := 720) (C1 := 719) (K := 2147482927) (by decide +kernel) (by decide +kernel) (by decide +kernel) b_2.1 (show ¬ (2147482927 < x_2) from by have e0 := b_2.1; rw [Int32.lt_iff_toInt_lt] at e0; have e1 := b_2.2; rw [Int32.lt_iff_toInt_lt] at e1; have z0 : (0 : Int32).toInt = 0 := (by decide +kernel); have z1 : (359999 : Int32).toInt = 359999 := (by decide +kernel); have z2 : (2147482927 : Int32).toInt = 2147482927 := (by decide +kernel); rw [Int32.lt_iff_toInt_lt]; omega) (fun y_12 qu_12 g1_12 g2_12 g3_12 g4_12 g5_12 g9_12 => ?_)
    refine lv_bipush (v := 60) hx hb d_Md_dueOf_54 (by decide +kernel) ?_
    refine lv_idiv hx hb d_Md_dueOf_56 (by decide) ?_
    refine hb_divn (U := 719) (Qm := 11) (c := 60) (C1 := 59) (K := 2147483587) (by decide +kernel) (by decide +kernel) (by decide +kernel) g1_12 (show ¬ (2147483587 < y_12) from by have e0 := g1_12; rw [Int32.lt_iff_toInt_lt] at e0; have e1 := g2_12; rw [Int32.lt_iff_toInt_lt] at e1; have z0 : (0 : Int32).toInt = 0 := (by decide +kernel); have z1 : (719 : Int32).toInt = 719 := (by decide +kernel); have z2 : (2147483587 : Int32).toInt = 2147483587 := (by decide +kernel); rw [Int32.lt_iff_toInt_lt]; omega) g2_12 (by decide +kernel) (fun y_13 g1_13 g2_13 g3_13 g4_13 g5_13 g9_13 => ?_)
    refine lv_aload_n hx hb d_Md_dueOf_57 rfl (lv_at hl 2 rfl) ?_
    refine tw_getr (D := (dC, dI)) (C := R_Md) (T := F_Md) (N := 64) (ci := 7) (kd := 27) (ct := ct) hx hb htb i_Md hown hK hP hO_0 m0 rfl rfl 22 (by decide) (htb (.fieldLink R_Md 94 "WaterMenModel" "boatOars" "[I") tw_538) (fun _ h9 => h9) rfl d_Md_dueOf_58 (fun q_14 e_14 m_14 => ?_)
    refine lv_aload_n hx hb d_Md_dueOf_61 rfl (lv_at hl 2 rfl) ?_
    refine tw_getr (D := (dC, dI)) (C := R_Md) (T := F_Md) (N := 64) (ci := 7) (kd := 27) (ct := ct) hx hb htb i_Md hown hK hP hO_0 m0 rfl rfl 48 (by decide) (htb (.fieldLink R_Md 149 "WaterMenModel" "tripBoat" "[I") tw_642) (fun _ h9 => h9) rfl d_Md_dueOf_62 (fun q_15 e_15 m_15 => ?_)
    refine lv_iload_n hx hb d_Md_dueOf_65 rfl (lv_at hl 3 rfl) ?_
    refine tw_aldI (ct := ct) hx hb hK hP hO_0 m_15 rfl (hb_inl as_0 as_1 (by decide +kernel)) d_Md_dueOf_66 (fun x_16 e_16 b_16 => ?_)
    refine tw_aldI (ct := ct) hx hb hK hP hO_0 m_14 rfl (hb_inl b_16.1 b_16.2 (by decide +kernel)) d_Md_dueOf_67 (fun x_17 e_17 b_17 => ?_)
    refine vp_callSi (va_Run.run (va_runV (As := [.int r_4, .int x_8, .int x_10, .int y_3, .int y_13, .int x_17]) (rest := []) ⟨hx, hb, hml, hown, htb⟩ (c_Md_fareOf_t l dC dI ct L f hO_0 q0 m0 r_4 x_8 x_10 y_3 y_13 x_17 po_5 po_6 b_8.1 b_8.2 b_10.1 b_10.2 g1_3 g5_3 g1_13 g5_13) (cwV 6 htb (gd_V tw_621 tw_622 tw_623 tw_479 tw_620) rfl rfl rfl (by decide +kernel) ⟨Nat.le_of_ble_eq_true rfl, Nat.le_of_ble_eq_true rfl⟩) ⟨pr_blind, tw_recv hK hP m0 rfl rfl, pr_pre hP hK hN⟩ rfl rfl hl.1 rfl (lv_room (Nat.le_of_ble_eq_true rfl)) d_Md_dueOf_68 ⟨Nat.le_of_ble_eq_true rfl, Nat.le_of_ble_eq_true rfl⟩)) (fun r_18 er_18 => ?_)
    clear er_18
    refine lv_istore (lv' := [(5, .int r_18), (4, .int r_4), (3, .int y_3), (0, .ref q0), (1, .int p_0), (2, .int p_1)]) hx hb d_Md_dueOf_71 hl (by decide) rfl (fun ls hl => ?_)
    refine lv_iload hx hb d_Md_dueOf_73 (lv_at hl 0 rfl) ?_
    refine lv_if_ge (tgt := 82) hx hb d_Md_dueOf_75 (by decide) (fun c_19 => ?_) (fun c_19 => ?_)
    · refine lv_iload hx hb d_Md_dueOf_82 (lv_at hl 0 rfl) ?_
      exact W.iret (v := r_18) hx hb hr (fun t ht hW => ⟨r_18, rfl, trivial, ht⟩) t_nil d_Md_dueOf_84
    · refine lv_iconst (v := (-1)) hx hb d_Md_dueOf_78 (by decide +kernel) ?_
      refine lv_goto (tgt := 84) hx hb d_Md_dueOf_79 (by decide) ?_
      exact W.iret (v := (-1)) hx hb hr (fun t ht hW => ⟨(-1), rfl, trivial, ht⟩) t_nil d_Md_dueOf_84
set_option maxHeartbeats 4000000 in
set_option maxRecDepth 100000 in
theorem c_Md_due_t (l : Launch) (dC : Nat → ClassId) (dI : Nat → Nat → Nat) (ct : Nat → ClassId) (L : List Nat) (f : TF) (hO_0 : Ok L f) (q0 : Nat) (m0 : q0 ∈ L ∧ tk f q0 = 27) (p_0 : Int32) (p_1 : Int32)   : Met l y_Md_due (.code y_Md_due b_Md_due 3 (some .int) :: TB) ({ frames := 4, cells := 0, slots := 0, locals := 101 }) (va_Pc [.ref q0, .int p_0, .int p_1] (PR dC dI (TW ct L f) (TT ct))) (vp_Si (fun r => True)) 0 0 (fun _ => False) := by
  refine Met.ofW (cc := b_Md_due) (maxL := 3) (ret := (some .int)) (by decide) rfl ?_
  intro p e s m args below meth c s₁ B hml hv
  obtain ⟨rfl, hP, hK, hN⟩ := hv
  have hx := B.exec
  have hb := B.bytes
  have hr := B.returns
  have hts := atoms_spec (ws := (.code y_Md_due b_Md_due 3 (some .int) :: TB)) B.pre
  have htb := fun w (h : w ∈ TB) => hts w (List.mem_cons_of_mem _ h)
  have hown : s.vm.findClass R_Md = some m.cls := findClass_of_methodNamed B.named
  have hlocks := B.notSynchronized
  have hl := lv_entry ([.ref q0, .int p_0, .int p_1]) (n := 3) (Nat.le_of_ble_eq_true rfl)
  rw [lg_entry_eq]
  generalize (lg_sl ([.ref q0, .int p_0, .int p_1]) ++ List.replicate (3 - (lg_sl ([.ref q0, .int p_0, .int p_1])).length) Slot.unset).toArray = ls at hl ⊢
  have hl : lv_has ls 3 [(0, .ref q0), (1, .int p_0), (2, .int p_1)] := hl
  refine lv_iload_n hx hb d_Md_due_0 rfl (lv_at hl 1 rfl) ?_
  refine lv_iconst (v := 0) hx hb d_Md_due_1 (by decide +kernel) ?_
  refine lv_aload_n hx hb d_Md_due_2 rfl (lv_at hl 0 rfl) ?_
  refine tw_geti (D := (dC, dI)) (C := R_Md) (T := F_Md) (N := 64) (ci := 7) (kd := 27) (ct := ct) hx hb htb i_Md hown hK hP hO_0 m0 rfl rfl 47 (by decide) (htb (.fieldLink R_Md 313 "WaterMenModel" "trips" "I") tw_641) (fun _ h9 => h9) rfl d_Md_due_3 (fun x_1 e_1 b_1 => ?_)
  refine lv_iconst (v := 1) hx hb d_Md_due_6 (by decide +kernel) ?_
  refine lv_isub hx hb d_Md_due_7 ?_
  refine vp_callSi (va_Run.run (va_runS (As := [.int p_0, .int 0, .int (x_1 - 1)]) (rest := []) ⟨hx, hb, hml, hown, htb⟩ (c_Md_in l p_0 0 (x_1 - 1)) (cwS 3 htb (gd_S tw_480 tw_481 tw_479 tw_478) rfl rfl rfl (by decide +kernel) ⟨Nat.le_of_ble_eq_true rfl, Nat.le_of_ble_eq_true rfl⟩) ⟨fun _ _ _ _ h => h, fun U _ _ => ⟨rfl, trivial⟩⟩ rfl rfl hl.1 rfl (lv_room (Nat.le_of_ble_eq_true rfl)) d_Md_due_8 ⟨Nat.le_of_ble_eq_true rfl, Nat.le_of_ble_eq_true rfl⟩)) (fun r er => ?_)
  subst er
  by_cases c_3 : p_0 < 0
  · refine hb_ti 0 (by unfold f_Md_in; rw [if_pos c_3]; first | done | rfl) ?_
    refine lv_if_eq (tgt := 30) hx hb d_Md_due_11 (by decide) (fun _ => ?_) (fun h => absurd (by decide +kernel) h)
    refine lv_bipush (v := (-2)) hx hb d_Md_due_30 (by decide +kernel) ?_
    exact W.iret (v := (-2)) hx hb hr (fun t ht hW => ⟨(-2), rfl, trivial, ht⟩) t_nil d_Md_due_32
  · by_cases c_4 : (x_1 - 1) < p_0
    · refine hb_ti 0 (by unfold f_Md_in; rw [if_neg c_3, if_pos c_4]; first | done | rfl) ?_
      refine lv_if_eq (tgt := 30) hx hb d_Md_due_11 (by decide) (fun _ => ?_) (fun h => absurd (by decide +kernel) h)
      refine lv_bipush (v := (-2)) hx hb d_Md_due_30 (by decide +kernel) ?_
      exact W.iret (v := (-2)) hx hb hr (fun t ht hW => ⟨(-2), rfl, trivial, ht⟩) t_nil d_Md_due_32
    · refine hb_ti 1 (by unfold f_Md_in; rw [if_neg c_3, if_neg c_4]; first | done | rfl) ?_
      refine lv_if_eq (tgt := 30) hx hb d_Md_due_11 (by decide) (fun h => absurd h (by decide +kernel)) (fun _ => ?_)
      refine lv_iload_n hx hb d_Md_due_14 rfl (lv_at hl 2 rfl) ?_
      refine vp_callSi (va_Run.run (va_runS (As := [.int p_1]) (rest := []) ⟨hx, hb, hml, hown, htb⟩ (c_Md_isDay l p_1) (cwS 1 htb (gd_S tw_492 tw_493 tw_479 tw_491) rfl rfl rfl (by decide +kernel) ⟨Nat.le_of_ble_eq_true rfl, Nat.le_of_ble_eq_true rfl⟩) ⟨fun _ _ _ _ h => h, fun U _ _ => ⟨rfl, trivial⟩⟩ rfl rfl hl.1 rfl (lv_room (Nat.le_of_ble_eq_true rfl)) d_Md_due_15 ⟨Nat.le_of_ble_eq_true rfl, Nat.le_of_ble_eq_true rfl⟩)) (fun r er => ?_)
      subst er
      by_cases c_6 : p_1 < 0
      · refine hb_ti 0 (by unfold f_Md_isDay; rw [if_pos c_6]; first | done | rfl) ?_
        refine lv_if_eq (tgt := 30) hx hb d_Md_due_18 (by decide) (fun _ => ?_) (fun h => absurd (by decide +kernel) h)
        refine lv_bipush (v := (-2)) hx hb d_Md_due_30 (by decide +kernel) ?_
        exact W.iret (v := (-2)) hx hb hr (fun t ht hW => ⟨(-2), rfl, trivial, ht⟩) t_nil d_Md_due_32
      · by_cases c_7 : 499 < p_1
        · refine hb_ti 0 (by unfold f_Md_isDay; rw [if_neg c_6, if_pos c_7]; first | done | rfl) ?_
          refine lv_if_eq (tgt := 30) hx hb d_Md_due_18 (by decide) (fun _ => ?_) (fun h => absurd (by decide +kernel) h)
          refine lv_bipush (v := (-2)) hx hb d_Md_due_30 (by decide +kernel) ?_
          exact W.iret (v := (-2)) hx hb hr (fun t ht hW => ⟨(-2), rfl, trivial, ht⟩) t_nil d_Md_due_32
        · refine hb_ti 1 (by unfold f_Md_isDay; rw [if_neg c_6, if_neg c_7]; first | done | rfl) ?_
          refine lv_if_eq (tgt := 30) hx hb d_Md_due_18 (by decide) (fun h => absurd h (by decide +kernel)) (fun _ => ?_)
          refine lv_aload_n hx hb d_Md_due_21 rfl (lv_at hl 0 rfl) ?_
          refine lv_iload_n hx hb d_Md_due_22 rfl (lv_at hl 1 rfl) ?_
          refine lv_iload_n hx hb d_Md_due_23 rfl (lv_at hl 2 rfl) ?_
          refine vp_callSi (va_Run.run (va_runV (As := [.int p_0, .int p_1]) (rest := []) ⟨hx, hb, hml, hown, htb⟩ (c_Md_dueOf_t l dC dI ct L f hO_0 q0 m0 p_0 p_1 c_3 (show ¬ (599 < p_0) from ((fun (a_0 : Int32) (a_1 : Int32) (k_0 : ¬ (a_1 < 0)) (k_1 : ¬ (600 < a_1)) (k_2 : ¬ ((a_1 - 1) < a_0)) => (show ¬ (599 < a_0) from by have z0 : (0 : Int32).toInt = 0 := (by decide +kernel); have z1 : (1 : Int32).toInt = 1 := (by decide +kernel); have z2 : (599 : Int32).toInt = 599 := (by decide +kernel); have z3 : (600 : Int32).toInt = 600 := (by decide +kernel); have r0 := fb_rng (a_0); have r1 := fb_rng (a_1); have e0 := k_0; rw [Int32.lt_iff_toInt_lt, z0] at e0; have e1 := k_1; rw [Int32.lt_iff_toInt_lt, z3] at e1; obtain ⟨n_0, hn_0, s0⟩ := nd_sub (x := (a_1)) (y := (1 : Int32)) (by (try rw [z1]); omega) (by (try rw [z1]); omega); rw [z1] at s0; have e2 := k_2; rw [hn_0, Int32.lt_iff_toInt_lt] at e2; rw [Int32.lt_iff_toInt_lt, z2]; omega)) p_0 x_1 b_1.1 b_1.2 c_4))) (cwV 2 htb (gd_V tw_678 tw_679 tw_680 tw_479 tw_677) rfl rfl rfl (by decide +kernel) ⟨Nat.le_of_ble_eq_true rfl, Nat.le_of_ble_eq_true rfl⟩) ⟨pr_blind, tw_recv hK hP m0 rfl rfl, pr_pre hP hK hN⟩ rfl rfl hl.1 rfl (lv_room (Nat.le_of_ble_eq_true rfl)) d_Md_due_24 ⟨Nat.le_of_ble_eq_true rfl, Nat.le_of_ble_eq_true rfl⟩)) (fun r_8 er_8 => ?_)
          clear er_8
          refine lv_goto (tgt := 32) hx hb d_Md_due_27 (by decide) ?_
          exact W.iret (v := r_8) hx hb hr (fun t ht hW => ⟨r_8, rfl, trivial, ht⟩) t_nil d_Md_due_32
