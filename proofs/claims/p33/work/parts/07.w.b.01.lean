def W_WM_table_w : List (Nat × Nat) := [(3, 1000)]
def wp_WM_table_w (L : List Nat) (f : TF) (q0 : Nat) (p_0 : Int32) (p_1 : Int32) (Q : Int32 → List Nat → TF → Prop) : Prop := ((p_0 < 0 → Q (-1000) L f) ∧ (¬ (p_0 < 0) → ((12 ≤ p_0 → Q (-1000) L f) ∧ (¬ (12 ≤ p_0) → ((p_1 < (-90) → Q (-1000) L f) ∧ (¬ (p_1 < (-90)) → ((90 < p_1 → Q (-1000) L f) ∧ (¬ (90 < p_1) → ∀ q_7 : Nat, tr f q0 0 = some q_7 → ∀ q_8 : Nat, tr f q_7 1 = some q_8 → ∀ x_9 : Int32, ti f q_8 (p_0 : Int32).toNatClampNeg = x_9 → ∀ f_1 : TF, f_1 = sI f q_8 (p_0 : Int32).toNatClampNeg p_1 → Ok L f_1 → Q x_9 L f_1))))))))
set_option maxHeartbeats 4000000 in
set_option maxRecDepth 100000 in
theorem c_WM_table_w (l : Launch) (dC : Nat → ClassId) (dI : Nat → Nat → Nat) (ct : Nat → ClassId) (L : List Nat) (f : TF) (hO_0 : Ok L f) (q0 : Nat) (m0 : q0 ∈ L ∧ tk f q0 = 0) (sz : Nat) (p_0 : Int32) (p_1 : Int32)   (Q : Int32 → List Nat → TF → Prop) (hQ : wp_WM_table_w L f q0 p_0 p_1 Q) : Met l y_WM_table (.code y_WM_table b_WM_table 4 (some .int) :: TB) ({ frames := 1, cells := 0, slots := 0, locals := 20 }) (va_Pc [.ref q0, .int p_0, .int p_1] (PC dC dI (TW ct L f) (TT ct) sz)) (va_Qi (fun r (u : TSt) => Ok u.1 u.2 ∧ Ext W_WM_table_w L f u.1 u.2 ∧ (True) ∧ Q r u.1 u.2) (fun (u : TSt) t => va_P (dC, dI) vwCl (TW ct u.1 u.2) t.heap ∧ va_K (dC, dI) vwCl (TT ct) t ∧ va_D (va_A (TW ct L f) sz) (TW ct u.1 u.2)) (va_A (TW ct L f) sz)) 0 0 (va_A (TW ct L f) sz) := by
  refine Met.ofW (cc := b_WM_table) (maxL := 4) (ret := (some .int)) (by decide) rfl ?_
  intro p e s m args below meth c s₁ B hml hv
  obtain ⟨rfl, hsz, hP, hK, hD0, hN⟩ := hv
  have hx := B.exec
  have hb := B.bytes
  have hr := B.returns
  have hts := atoms_spec (ws := (.code y_WM_table b_WM_table 4 (some .int) :: TB)) B.pre
  have htb := fun w (h : w ∈ TB) => hts w (List.mem_cons_of_mem _ h)
  have hown : s.vm.findClass R_WM = some m.cls := findClass_of_methodNamed B.named
  have hlocks := B.notSynchronized
  have hl := lv_entry ([.ref q0, .int p_0, .int p_1]) (n := 4) (Nat.le_of_ble_eq_true rfl)
  rw [lg_entry_eq]
  generalize (lg_sl ([.ref q0, .int p_0, .int p_1]) ++ List.replicate (4 - (lg_sl ([.ref q0, .int p_0, .int p_1])).length) Slot.unset).toArray = ls at hl ⊢
  have hl : lv_has ls 4 [(0, .ref q0), (1, .int p_0), (2, .int p_1)] := hl
  subst hsz
  have hD := hD0.self (sz := s.heap.size)
  obtain ⟨A, hAe⟩ : ∃ A, va_A (TW ct L f) s.heap.size = A := ⟨_, rfl⟩
  rw [hAe] at hD
  have hA : ∀ q : Nat, s.heap.size ≤ q → A q := fun q h => by rw [← hAe]; exact Or.inr h
  have hS : va_S A s.heap s.heap [] := va_S.rf
  have hA_0 : Ext [] L f L f := Ext.rf
  suffices hGo : ∀ (H : Heap) (locs : List Loc), va_P (dC, dI) vwCl (TW ct L f) H → va_S A s.heap H locs → W p l e (headSpec (.code y_WM_table b_WM_table 4 (some .int) :: TB) ({ frames := 1, cells := 0, slots := 0, locals := 20 })).room s m [.ref q0, .int p_0, .int p_1].toArray below meth c H locs 0 0 (MQ below (va_Qi (fun r (u : TSt) => Ok u.1 u.2 ∧ Ext W_WM_table_w L f u.1 u.2 ∧ (True) ∧ Q r u.1 u.2) (fun (u : TSt) t => va_P (dC, dI) vwCl (TW ct u.1 u.2) t.heap ∧ va_K (dC, dI) vwCl (TT ct) t ∧ va_D (va_A (TW ct L f) s.heap.size) (TW ct u.1 u.2)) (va_A (TW ct L f) s.heap.size)) [.ref q0, .int p_0, .int p_1].toArray s 0 0 (va_A (TW ct L f) s.heap.size)) (F0 m 0 ls []) from hGo _ _ hP hS
  clear hP hS
  intro H locs hP hS
  unfold wp_WM_table_w at hQ
  refine lv_iload_n hx hb d_WM_table_0 rfl (lv_at hl 1 rfl) ?_
  refine vp_callSi (va_Run.run (va_runS (As := [.int p_0]) (rest := []) ⟨hx, hb, hml, hown, htb⟩ (c_WM_isHour l p_0) (cwS 1 htb (gd_S tw_130 tw_131 tw_26 tw_129) rfl rfl rfl (by decide +kernel) ⟨Nat.le_of_ble_eq_true rfl, Nat.le_of_ble_eq_true rfl⟩) ⟨fun _ _ _ _ h => h, fun U _ _ => ⟨rfl, trivial⟩⟩ rfl rfl hl.1 rfl (lv_room (Nat.le_of_ble_eq_true rfl)) d_WM_table_1 ⟨Nat.le_of_ble_eq_true rfl, Nat.le_of_ble_eq_true rfl⟩)) (fun r er => ?_)
  subst er
  by_cases c_2 : p_0 < 0
  · have hQ := hQ.1 c_2
    refine hb_ti 0 (by unfold f_WM_isHour; rw [if_pos c_2]; first | done | rfl) ?_
    refine lv_if_eq (tgt := 14) hx hb d_WM_table_4 (by decide) (fun _ => ?_) (fun h => absurd (by decide +kernel) h)
    refine lv_sipush (v := (-1000)) hx hb d_WM_table_14 (by decide +kernel) ?_
    refine W.widen (k := 0) (n := 0) (Nat.le_of_ble_eq_true rfl) (Nat.le_of_ble_eq_true rfl) ?_
    exact W.iret (v := (-1000)) hx hb hr (fun t ht hW => ⟨⟨(-1000), (L, f), rfl, ⟨hO_0, hA_0.mono (by decide +kernel), trivial, hQ⟩, by rw [ht]; exact hP, va_K.moved hW.alike hK, by rw [hAe]; exact hD⟩, by rw [hAe]; exact hS.F ht⟩) (by rw [hAe]; exact hS.2.2) d_WM_table_17
  · have hQ := hQ.2 c_2
    by_cases c_3 : 12 ≤ p_0
    · have hQ := hQ.1 c_3
      refine hb_ti 0 (by unfold f_WM_isHour; rw [if_neg c_2, if_pos c_3]; first | done | rfl) ?_
      refine lv_if_eq (tgt := 14) hx hb d_WM_table_4 (by decide) (fun _ => ?_) (fun h => absurd (by decide +kernel) h)
      refine lv_sipush (v := (-1000)) hx hb d_WM_table_14 (by decide +kernel) ?_
      refine W.widen (k := 0) (n := 0) (Nat.le_of_ble_eq_true rfl) (Nat.le_of_ble_eq_true rfl) ?_
      exact W.iret (v := (-1000)) hx hb hr (fun t ht hW => ⟨⟨(-1000), (L, f), rfl, ⟨hO_0, hA_0.mono (by decide +kernel), trivial, hQ⟩, by rw [ht]; exact hP, va_K.moved hW.alike hK, by rw [hAe]; exact hD⟩, by rw [hAe]; exact hS.F ht⟩) (by rw [hAe]; exact hS.2.2) d_WM_table_17
    · have hQ := hQ.2 c_3
      refine hb_ti 1 (by unfold f_WM_isHour; rw [if_neg c_2, if_neg c_3]; first | done | rfl) ?_
      refine lv_if_eq (tgt := 14) hx hb d_WM_table_4 (by decide) (fun h => absurd h (by decide +kernel)) (fun _ => ?_)
      refine lv_iload_n hx hb d_WM_table_7 rfl (lv_at hl 2 rfl) ?_
      refine vp_callSi (va_Run.run (va_runS (As := [.int p_1]) (rest := []) ⟨hx, hb, hml, hown, htb⟩ (c_WM_isLevel l p_1) (cwS 1 htb (gd_S tw_133 tw_134 tw_26 tw_132) rfl rfl rfl (by decide +kernel) ⟨Nat.le_of_ble_eq_true rfl, Nat.le_of_ble_eq_true rfl⟩) ⟨fun _ _ _ _ h => h, fun U _ _ => ⟨rfl, trivial⟩⟩ rfl rfl hl.1 rfl (lv_room (Nat.le_of_ble_eq_true rfl)) d_WM_table_8 ⟨Nat.le_of_ble_eq_true rfl, Nat.le_of_ble_eq_true rfl⟩)) (fun r er => ?_)
      subst er
      by_cases c_5 : p_1 < (-90)
      · have hQ := hQ.1 c_5
        refine hb_ti 0 (by unfold f_WM_isLevel; rw [if_pos c_5]; first | done | rfl) ?_
        refine lv_if_ne (tgt := 18) hx hb d_WM_table_11 (by decide) (fun h => absurd (by decide +kernel) h) (fun _ => ?_)
        refine lv_sipush (v := (-1000)) hx hb d_WM_table_14 (by decide +kernel) ?_
        refine W.widen (k := 0) (n := 0) (Nat.le_of_ble_eq_true rfl) (Nat.le_of_ble_eq_true rfl) ?_
        exact W.iret (v := (-1000)) hx hb hr (fun t ht hW => ⟨⟨(-1000), (L, f), rfl, ⟨hO_0, hA_0.mono (by decide +kernel), trivial, hQ⟩, by rw [ht]; exact hP, va_K.moved hW.alike hK, by rw [hAe]; exact hD⟩, by rw [hAe]; exact hS.F ht⟩) (by rw [hAe]; exact hS.2.2) d_WM_table_17
      · have hQ := hQ.2 c_5
        by_cases c_6 : 90 < p_1
        · have hQ := hQ.1 c_6
          refine hb_ti 0 (by unfold f_WM_isLevel; rw [if_neg c_5, if_pos c_6]; first | done | rfl) ?_
          refine lv_if_ne (tgt := 18) hx hb d_WM_table_11 (by decide) (fun h => absurd (by decide +kernel) h) (fun _ => ?_)
          refine lv_sipush (v := (-1000)) hx hb d_WM_table_14 (by decide +kernel) ?_
          refine W.widen (k := 0) (n := 0) (Nat.le_of_ble_eq_true rfl) (Nat.le_of_ble_eq_true rfl) ?_
          exact W.iret (v := (-1000)) hx hb hr (fun t ht hW => ⟨⟨(-1000), (L, f), rfl, ⟨hO_0, hA_0.mono (by decide +kernel), trivial, hQ⟩, by rw [ht]; exact hP, va_K.moved hW.alike hK, by rw [hAe]; exact hD⟩, by rw [hAe]; exact hS.F ht⟩) (by rw [hAe]; exact hS.2.2) d_WM_table_17
        · have hQ := hQ.2 c_6
          refine hb_ti 1 (by unfold f_WM_isLevel; rw [if_neg c_5, if_neg c_6]; first | done | rfl) ?_
          refine lv_if_ne (tgt := 18) hx hb d_WM_table_11 (by decide) (fun _ => ?_) (fun h => absurd h (by decide +kernel))
          refine lv_aload_n hx hb d_WM_table_18 rfl (lv_at hl 0 rfl) ?_
          refine tw_getr (D := (dC, dI)) (C := R_WM) (T := F_WM) (N := 13) (ci := 0) (kd := 0) (ct := ct) hx hb htb i_WM hown hK hP hO_0 m0 rfl rfl 0 (by decide) (htb (.fieldLink R_WM 12 "WaterMen" "river" "LWaterMen$River;") tw_135) (fun _ h9 => h9) rfl d_WM_table_19 (fun q_7 e_7 m_7 => ?_)
          have hQ := hQ q_7 e_7
          refine tw_getr (D := (dC, dI)) (C := R_Rv) (T := F_Rv) (N := 6) (ci := 1) (kd := 1) (ct := ct) hx hb htb i_Rv hown hK hP hO_0 m_7 rfl rfl 1 (by decide) (htb (.fieldLink R_WM 89 "WaterMen$River" "table" "[I") tw_150) (fun _ h9 => h9) rfl d_WM_table_22 (fun q_8 e_8 m_8 => ?_)
          have hQ := hQ q_8 e_8
          refine lv_iload_n hx hb d_WM_table_25 rfl (lv_at hl 1 rfl) ?_
          refine tw_aldI (ct := ct) hx hb hK hP hO_0 m_8 rfl (hb_in c_2 c_3 (by decide +kernel)) d_WM_table_26 (fun x_9 e_9 b_9 => ?_)
          have hQ := hQ x_9 e_9
          refine lv_istore_n (lv' := [(3, .int x_9), (0, .ref q0), (1, .int p_0), (2, .int p_1)]) hx hb d_WM_table_27 rfl hl (by decide) rfl (fun ls hl => ?_)
          refine lv_aload_n hx hb d_WM_table_28 rfl (lv_at hl 1 rfl) ?_
          refine tw_getR (D := (dC, dI)) (C := R_WM) (T := F_WM) (N := 13) (ci := 0) (kd := 0) (ct := ct) hx hb htb i_WM hown hK hP m0 rfl rfl 0 e_7 (by decide) (htb (.fieldLink R_WM 12 "WaterMen" "river" "LWaterMen$River;") tw_135) (fun _ h9 => h9) rfl d_WM_table_29 ?_
          refine hb_tv (.ref q_7) rfl ?_
          refine tw_getR (D := (dC, dI)) (C := R_Rv) (T := F_Rv) (N := 6) (ci := 1) (kd := 1) (ct := ct) hx hb htb i_Rv hown hK hP m_7 rfl rfl 1 e_8 (by decide) (htb (.fieldLink R_WM 89 "WaterMen$River" "table" "[I") tw_150) (fun _ h9 => h9) rfl d_WM_table_32 ?_
          refine hb_tv (.ref q_8) rfl ?_
          refine lv_iload_n hx hb d_WM_table_35 rfl (lv_at hl 2 rfl) ?_
          refine lv_iload_n hx hb d_WM_table_36 rfl (lv_at hl 3 rfl) ?_
          refine tw_astI (ct := ct) (x := p_1) hx hb hK hP hD hS hO_0 m_8 rfl (hb_in c_2 c_3 (by decide +kernel)) (i32_full _) d_WM_table_37 (fun f_1 H locs hP hD hS hO_1 hE_1 w_10 ow_10 hF_1 => ?_)
          have hA_1 := hA_0.trans hE_1
          have hQ := hQ f_1 hF_1
          have hQ := hQ hO_1
          refine lv_iload_n hx hb d_WM_table_38 rfl (lv_at hl 0 rfl) ?_
          refine W.widen (k := 0) (n := 0) (Nat.le_of_ble_eq_true rfl) (Nat.le_of_ble_eq_true rfl) ?_
          exact W.iret (v := x_9) hx hb hr (fun t ht hW => ⟨⟨x_9, (L, f_1), rfl, ⟨hO_1, hA_1.mono (by decide +kernel), trivial, hQ⟩, by rw [ht]; exact hP, va_K.moved hW.alike hK, by rw [hAe]; exact hD⟩, by rw [hAe]; exact hS.F ht⟩) (by rw [hAe]; exact hS.2.2) d_WM_table_39
def W_Md_table_w : List (Nat × Nat) := [(29, 1000)]
def wp_Md_table_w (L : List Nat) (f : TF) (q0 : Nat) (p_0 : Int32) (p_1 : Int32) (Q : Int32 → List Nat → TF → Prop) : Prop := ((p_0 < 0 → Q (-1000) L f) ∧ (¬ (p_0 < 0) → ((11 < p_0 → Q (-1000) L f) ∧ (¬ (11 < p_0) → ((p_1 < (-90) → Q (-1000) L f) ∧ (¬ (p_1 < (-90)) → ((90 < p_1 → Q (-1000) L f) ∧ (¬ (90 < p_1) → ∀ q_7 : Nat, tr f q0 5 = some q_7 → ∀ x_8 : Int32, ti f q_7 (p_0 : Int32).toNatClampNeg = x_8 → ∀ f_1 : TF, f_1 = sI f q_7 (p_0 : Int32).toNatClampNeg p_1 → Ok L f_1 → Q x_8 L f_1))))))))
set_option maxHeartbeats 4000000 in
set_option maxRecDepth 100000 in
theorem c_Md_table_w (l : Launch) (dC : Nat → ClassId) (dI : Nat → Nat → Nat) (ct : Nat → ClassId) (L : List Nat) (f : TF) (hO_0 : Ok L f) (q0 : Nat) (m0 : q0 ∈ L ∧ tk f q0 = 27) (sz : Nat) (p_0 : Int32) (p_1 : Int32)   (Q : Int32 → List Nat → TF → Prop) (hQ : wp_Md_table_w L f q0 p_0 p_1 Q) : Met l y_Md_table (.code y_Md_table b_Md_table 4 (some .int) :: TB) ({ frames := 1, cells := 0, slots := 0, locals := 22 }) (va_Pc [.ref q0, .int p_0, .int p_1] (PC dC dI (TW ct L f) (TT ct) sz)) (va_Qi (fun r (u : TSt) => Ok u.1 u.2 ∧ Ext W_Md_table_w L f u.1 u.2 ∧ (True) ∧ Q r u.1 u.2) (fun (u : TSt) t => va_P (dC, dI) vwCl (TW ct u.1 u.2) t.heap ∧ va_K (dC, dI) vwCl (TT ct) t ∧ va_D (va_A (TW ct L f) sz) (TW ct u.1 u.2)) (va_A (TW ct L f) sz)) 0 0 (va_A (TW ct L f) sz) := by
  refine Met.ofW (cc := b_Md_table) (maxL := 4) (ret := (some .int)) (by decide) rfl ?_
  intro p e s m args below meth c s₁ B hml hv
  obtain ⟨rfl, hsz, hP, hK, hD0, hN⟩ := hv
  have hx := B.exec
  have hb := B.bytes
  have hr := B.returns
  have hts := atoms_spec (ws := (.code y_Md_table b_Md_table 4 (some .int) :: TB)) B.pre
  have htb := fun w (h : w ∈ TB) => hts w (List.mem_cons_of_mem _ h)
  have hown : s.vm.findClass R_Md = some m.cls := findClass_of_methodNamed B.named
  have hlocks := B.notSynchronized
  have hl := lv_entry ([.ref q0, .int p_0, .int p_1]) (n := 4) (Nat.le_of_ble_eq_true rfl)
  rw [lg_entry_eq]
  generalize (lg_sl ([.ref q0, .int p_0, .int p_1]) ++ List.replicate (4 - (lg_sl ([.ref q0, .int p_0, .int p_1])).length) Slot.unset).toArray = ls at hl ⊢
  have hl : lv_has ls 4 [(0, .ref q0), (1, .int p_0), (2, .int p_1)] := hl
  subst hsz
  have hD := hD0.self (sz := s.heap.size)
  obtain ⟨A, hAe⟩ : ∃ A, va_A (TW ct L f) s.heap.size = A := ⟨_, rfl⟩
  rw [hAe] at hD
  have hA : ∀ q : Nat, s.heap.size ≤ q → A q := fun q h => by rw [← hAe]; exact Or.inr h
  have hS : va_S A s.heap s.heap [] := va_S.rf
  have hA_0 : Ext [] L f L f := Ext.rf
  suffices hGo : ∀ (H : Heap) (locs : List Loc), va_P (dC, dI) vwCl (TW ct L f) H → va_S A s.heap H locs → W p l e (headSpec (.code y_Md_table b_Md_table 4 (some .int) :: TB) ({ frames := 1, cells := 0, slots := 0, locals := 22 })).room s m [.ref q0, .int p_0, .int p_1].toArray below meth c H locs 0 0 (MQ below (va_Qi (fun r (u : TSt) => Ok u.1 u.2 ∧ Ext W_Md_table_w L f u.1 u.2 ∧ (True) ∧ Q r u.1 u.2) (fun (u : TSt) t => va_P (dC, dI) vwCl (TW ct u.1 u.2) t.heap ∧ va_K (dC, dI) vwCl (TT ct) t ∧ va_D (va_A (TW ct L f) s.heap.size) (TW ct u.1 u.2)) (va_A (TW ct L f) s.heap.size)) [.ref q0, .int p_0, .int p_1].toArray s 0 0 (va_A (TW ct L f) s.heap.size)) (F0 m 0 ls []) from hGo _ _ hP hS
  clear hP hS
  intro H locs hP hS
  unfold wp_Md_table_w at hQ
  refine lv_iload_n hx hb d_Md_table_0 rfl (lv_at hl 1 rfl) ?_
  refine lv_iconst (v := 0) hx hb d_Md_table_1 (by decide +kernel) ?_
  refine lv_bipush (v := 11) hx hb d_Md_table_2 (by decide +kernel) ?_
  refine vp_callSi (va_Run.run (va_runS (As := [.int p_0, .int 0, .int 11]) (rest := []) ⟨hx, hb, hml, hown, htb⟩ (c_Md_in l p_0 0 11) (cwS 3 htb (gd_S tw_90 tw_91 tw_89 tw_88) rfl rfl rfl (by decide +kernel) ⟨Nat.le_of_ble_eq_true rfl, Nat.le_of_ble_eq_true rfl⟩) ⟨fun _ _ _ _ h => h, fun U _ _ => ⟨rfl, trivial⟩⟩ rfl rfl hl.1 rfl (lv_room (Nat.le_of_ble_eq_true rfl)) d_Md_table_4 ⟨Nat.le_of_ble_eq_true rfl, Nat.le_of_ble_eq_true rfl⟩)) (fun r er => ?_)
  subst er
  by_cases c_2 : p_0 < 0
  · have hQ := hQ.1 c_2
    refine hb_ti 0 (by unfold f_Md_in; rw [if_pos c_2]; first | done | rfl) ?_
    refine lv_if_eq (tgt := 21) hx hb d_Md_table_7 (by decide) (fun _ => ?_) (fun h => absurd (by decide +kernel) h)
    refine lv_sipush (v := (-1000)) hx hb d_Md_table_21 (by decide +kernel) ?_
    refine W.widen (k := 0) (n := 0) (Nat.le_of_ble_eq_true rfl) (Nat.le_of_ble_eq_true rfl) ?_
    exact W.iret (v := (-1000)) hx hb hr (fun t ht hW => ⟨⟨(-1000), (L, f), rfl, ⟨hO_0, hA_0.mono (by decide +kernel), trivial, hQ⟩, by rw [ht]; exact hP, va_K.moved hW.alike hK, by rw [hAe]; exact hD⟩, by rw [hAe]; exact hS.F ht⟩) (by rw [hAe]; exact hS.2.2) d_Md_table_24
  · have hQ := hQ.2 c_2
    by_cases c_3 : 11 < p_0
    · have hQ := hQ.1 c_3
      refine hb_ti 0 (by unfold f_Md_in; rw [if_neg c_2, if_pos c_3]; first | done | rfl) ?_
      refine lv_if_eq (tgt := 21) hx hb d_Md_table_7 (by decide) (fun _ => ?_) (fun h => absurd (by decide +kernel) h)
      refine lv_sipush (v := (-1000)) hx hb d_Md_table_21 (by decide +kernel) ?_
      refine W.widen (k := 0) (n := 0) (Nat.le_of_ble_eq_true rfl) (Nat.le_of_ble_eq_true rfl) ?_
      exact W.iret (v := (-1000)) hx hb hr (fun t ht hW => ⟨⟨(-1000), (L, f), rfl, ⟨hO_0, hA_0.mono (by decide +kernel), trivial, hQ⟩, by rw [ht]; exact hP, va_K.moved hW.alike hK, by rw [hAe]; exact hD⟩, by rw [hAe]; exact hS.F ht⟩) (by rw [hAe]; exact hS.2.2) d_Md_table_24
    · have hQ := hQ.2 c_3
      refine hb_ti 1 (by unfold f_Md_in; rw [if_neg c_2, if_neg c_3]; first | done | rfl) ?_
      refine lv_if_eq (tgt := 21) hx hb d_Md_table_7 (by decide) (fun h => absurd h (by decide +kernel)) (fun _ => ?_)
      refine lv_iload_n hx hb d_Md_table_10 rfl (lv_at hl 2 rfl) ?_
      refine lv_bipush (v := (-90)) hx hb d_Md_table_11 (by decide +kernel) ?_
      refine lv_bipush (v := 90) hx hb d_Md_table_13 (by decide +kernel) ?_
      refine vp_callSi (va_Run.run (va_runS (As := [.int p_1, .int (-90), .int 90]) (rest := []) ⟨hx, hb, hml, hown, htb⟩ (c_Md_in l p_1 (-90) 90) (cwS 3 htb (gd_S tw_90 tw_91 tw_89 tw_88) rfl rfl rfl (by decide +kernel) ⟨Nat.le_of_ble_eq_true rfl, Nat.le_of_ble_eq_true rfl⟩) ⟨fun _ _ _ _ h => h, fun U _ _ => ⟨rfl, trivial⟩⟩ rfl rfl hl.1 rfl (lv_room (Nat.le_of_ble_eq_true rfl)) d_Md_table_15 ⟨Nat.le_of_ble_eq_true rfl, Nat.le_of_ble_eq_true rfl⟩)) (fun r er => ?_)
      subst er
      by_cases c_5 : p_1 < (-90)
      · have hQ := hQ.1 c_5
        refine hb_ti 0 (by unfold f_Md_in; rw [if_pos c_5]; first | done | rfl) ?_
        refine lv_if_ne (tgt := 25) hx hb d_Md_table_18 (by decide) (fun h => absurd (by decide +kernel) h) (fun _ => ?_)
        refine lv_sipush (v := (-1000)) hx hb d_Md_table_21 (by decide +kernel) ?_
        refine W.widen (k := 0) (n := 0) (Nat.le_of_ble_eq_true rfl) (Nat.le_of_ble_eq_true rfl) ?_
        exact W.iret (v := (-1000)) hx hb hr (fun t ht hW => ⟨⟨(-1000), (L, f), rfl, ⟨hO_0, hA_0.mono (by decide +kernel), trivial, hQ⟩, by rw [ht]; exact hP, va_K.moved hW.alike hK, by rw [hAe]; exact hD⟩, by rw [hAe]; exact hS.F ht⟩) (by rw [hAe]; exact hS.2.2) d_Md_table_24
      · have hQ := hQ.2 c_5
        by_cases c_6 : 90 < p_1
        · have hQ := hQ.1 c_6
          refine hb_ti 0 (by unfold f_Md_in; rw [if_neg c_5, if_pos c_6]; first | done | rfl) ?_
          refine lv_if_ne (tgt := 25) hx hb d_Md_table_18 (by decide) (fun h => absurd (by decide +kernel) h) (fun _ => ?_)
          refine lv_sipush (v := (-1000)) hx hb d_Md_table_21 (by decide +kernel) ?_
          refine W.widen (k := 0) (n := 0) (Nat.le_of_ble_eq_true rfl) (Nat.le_of_ble_eq_true rfl) ?_
          exact W.iret (v := (-1000)) hx hb hr (fun t ht hW => ⟨⟨(-1000), (L, f), rfl, ⟨hO_0, hA_0.mono (by decide +kernel), trivial, hQ⟩, by rw [ht]; exact hP, va_K.moved hW.alike hK, by rw [hAe]; exact hD⟩, by rw [hAe]; exact hS.F ht⟩) (by rw [hAe]; exact hS.2.2) d_Md_table_24
        · have hQ := hQ.2 c_6
          refine hb_ti 1 (by unfold f_Md_in; rw [if_neg c_5, if_neg c_6]; first | done | rfl) ?_
          refine lv_if_ne (tgt := 25) hx hb d_Md_table_18 (by decide) (fun _ => ?_) (fun h => absurd h (by decide +kernel))
          refine lv_aload_n hx hb d_Md_table_25 rfl (lv_at hl 0 rfl) ?_
          refine tw_getr (D := (dC, dI)) (C := R_Md) (T := F_Md) (N := 64) (ci := 7) (kd := 27) (ct := ct) hx hb htb i_Md hown hK hP hO_0 m0 rfl rfl 5 (by decide) (htb (.fieldLink R_Md 25 "WaterMenModel" "table" "[I") tw_149) (fun _ h9 => h9) rfl d_Md_table_26 (fun q_7 e_7 m_7 => ?_)
          have hQ := hQ q_7 e_7
          refine lv_iload_n hx hb d_Md_table_29 rfl (lv_at hl 1 rfl) ?_
          refine tw_aldI (ct := ct) hx hb hK hP hO_0 m_7 rfl (hb_inl c_2 c_3 (by decide +kernel)) d_Md_table_30 (fun x_8 e_8 b_8 => ?_)
          have hQ := hQ x_8 e_8
          refine lv_istore_n (lv' := [(3, .int x_8), (0, .ref q0), (1, .int p_0), (2, .int p_1)]) hx hb d_Md_table_31 rfl hl (by decide) rfl (fun ls hl => ?_)
          refine lv_aload_n hx hb d_Md_table_32 rfl (lv_at hl 1 rfl) ?_
          refine tw_getR (D := (dC, dI)) (C := R_Md) (T := F_Md) (N := 64) (ci := 7) (kd := 27) (ct := ct) hx hb htb i_Md hown hK hP m0 rfl rfl 5 e_7 (by decide) (htb (.fieldLink R_Md 25 "WaterMenModel" "table" "[I") tw_149) (fun _ h9 => h9) rfl d_Md_table_33 ?_
          refine hb_tv (.ref q_7) rfl ?_
          refine lv_iload_n hx hb d_Md_table_36 rfl (lv_at hl 2 rfl) ?_
          refine lv_iload_n hx hb d_Md_table_37 rfl (lv_at hl 3 rfl) ?_
          refine tw_astI (ct := ct) (x := p_1) hx hb hK hP hD hS hO_0 m_7 rfl (hb_inl c_2 c_3 (by decide +kernel)) (i32_full _) d_Md_table_38 (fun f_1 H locs hP hD hS hO_1 hE_1 w_9 ow_9 hF_1 => ?_)
          have hA_1 := hA_0.trans hE_1
          have hQ := hQ f_1 hF_1
          have hQ := hQ hO_1
          refine lv_iload_n hx hb d_Md_table_39 rfl (lv_at hl 0 rfl) ?_
          refine W.widen (k := 0) (n := 0) (Nat.le_of_ble_eq_true rfl) (Nat.le_of_ble_eq_true rfl) ?_
          exact W.iret (v := x_8) hx hb hr (fun t ht hW => ⟨⟨x_8, (L, f_1), rfl, ⟨hO_1, hA_1.mono (by decide +kernel), trivial, hQ⟩, by rw [ht]; exact hP, va_K.moved hW.alike hK, by rw [hAe]; exact hD⟩, by rw [hAe]; exact hS.F ht⟩) (by rw [hAe]; exact hS.2.2) d_Md_table_40
def wp_Rv_height_w (L : List Nat) (f : TF) (q0 : Nat) (p_0 : Int32) (p_1 : Int32) (Q : Int32 → Prop) : Prop := ((500 ≤ p_0 → ∀ q_2 : Nat, tr f q0 1 = some q_2 → ∀ y_3 : Int32, y_3 = (p_1 + p_0) - (p_1 + p_0) / 12 * 12 → ∀ x_4 : Int32, ti f q_2 (y_3 : Int32).toNatClampNeg = x_4 → Q x_4) ∧ (¬ (500 ≤ p_0) → ∀ q_5 : Nat, tr f q0 2 = some q_5 → ((tr f q_5 (p_0 : Int32).toNatClampNeg = none → ∀ q_7 : Nat, tr f q0 1 = some q_7 → ∀ y_8 : Int32, y_8 = (p_1 + p_0) - (p_1 + p_0) / 12 * 12 → ∀ x_9 : Int32, ti f q_7 (y_8 : Int32).toNatClampNeg = x_9 → Q x_9) ∧ (∀ q_6 : Nat, tr f q_5 (p_0 : Int32).toNatClampNeg = some q_6 → ∀ x_10 : Int32, ti f q_6 (p_1 : Int32).toNatClampNeg = x_10 → Q x_10))))
set_option maxHeartbeats 4000000 in
set_option maxRecDepth 100000 in
theorem c_Rv_height_w (l : Launch) (dC : Nat → ClassId) (dI : Nat → Nat → Nat) (ct : Nat → ClassId) (L : List Nat) (f : TF) (hO_0 : Ok L f) (q0 : Nat) (m0 : q0 ∈ L ∧ tk f q0 = 1) (p_0 : Int32) (p_1 : Int32)  (as_0 : ¬ (p_0 < 0)) (as_1 : ¬ (500 < p_0)) (as_2 : ¬ (p_1 < 0)) (as_3 : ¬ (11 < p_1)) (Q : Int32 → Prop) (hQ : wp_Rv_height_w L f q0 p_0 p_1 Q) : Met l y_Rv_height (.code y_Rv_height b_Rv_height 4 (some .int) :: TB) ({ frames := 0, cells := 0, slots := 0, locals := 0 }) (va_Pc [.ref q0, .int p_0, .int p_1] (PR dC dI (TW ct L f) (TT ct))) (vp_Si (fun r => (True) ∧ Q r)) 0 0 (fun _ => False) := by
  refine Met.ofW (cc := b_Rv_height) (maxL := 4) (ret := (some .int)) (by decide) rfl ?_
  intro p e s m args below meth c s₁ B hml hv
  obtain ⟨rfl, hP, hK, hN⟩ := hv
  have hx := B.exec
  have hb := B.bytes
  have hr := B.returns
  have hts := atoms_spec (ws := (.code y_Rv_height b_Rv_height 4 (some .int) :: TB)) B.pre
  have htb := fun w (h : w ∈ TB) => hts w (List.mem_cons_of_mem _ h)
  have hown : s.vm.findClass R_Rv = some m.cls := findClass_of_methodNamed B.named
  have hlocks := B.notSynchronized
  have hl := lv_entry ([.ref q0, .int p_0, .int p_1]) (n := 4) (Nat.le_of_ble_eq_true rfl)
  rw [lg_entry_eq]
  generalize (lg_sl ([.ref q0, .int p_0, .int p_1]) ++ List.replicate (4 - (lg_sl ([.ref q0, .int p_0, .int p_1])).length) Slot.unset).toArray = ls at hl ⊢
  have hl : lv_has ls 4 [(0, .ref q0), (1, .int p_0), (2, .int p_1)] := hl
  unfold wp_Rv_height_w at hQ
  refine lv_iload_n hx hb d_Rv_height_0 rfl (lv_at hl 1 rfl) ?_
  refine lv_sipush (v := 500) hx hb d_Rv_height_1 (by decide +kernel) ?_
  refine lv_icmp_ge (tgt := 16) hx hb d_Rv_height_4 (by decide) (fun c_1 => ?_) (fun c_1 => ?_)
  · have hQ := hQ.1 c_1
    refine lv_null hx hb d_Rv_height_16 ?_
    refine lv_astore_nN (lv' := [(3, .null), (0, .ref q0), (1, .int p_0), (2, .int p_1)]) hx hb d_Rv_height_17 rfl hl (by decide) rfl (fun ls hl => ?_)
    refine lv_aload_nN hx hb d_Rv_height_18 rfl (lv_at hl 0 rfl) ?_
    refine lv_ifnonnullN hx hb d_Rv_height_19 ?_
    refine lv_aload_n hx hb d_Rv_height_22 rfl (lv_at hl 1 rfl) ?_
    refine tw_getr (D := (dC, dI)) (C := R_Rv) (T := F_Rv) (N := 6) (ci := 1) (kd := 1) (ct := ct) hx hb htb i_Rv hown hK hP hO_0 m0 rfl rfl 1 (by decide) (htb (.fieldLink R_Rv 15 "WaterMen$River" "table" "[I") tw_138) (fun _ h9 => h9) rfl d_Rv_height_23 (fun q_2 e_2 m_2 => ?_)
    have hQ := hQ q_2 e_2
    refine lv_iload_n hx hb d_Rv_height_26 rfl (lv_at hl 3 rfl) ?_
    refine lv_iload_n hx hb d_Rv_height_27 rfl (lv_at hl 2 rfl) ?_
    refine lv_iadd hx hb d_Rv_height_28 ?_
    refine lv_bipush (v := 12) hx hb d_Rv_height_29 (by decide +kernel) ?_
    refine lv_irem hx hb d_Rv_height_31 (by decide) ?_
    refine hb_remn (c := 12) (C1 := 11) (K := 2147483635) (by decide +kernel) (by decide +kernel) (by decide +kernel) (show ¬ ((p_1 + p_0) < 0) from ((fun (a_0 : Int32) (a_1 : Int32) (k_0 : ¬ (500 < a_0)) (k_1 : ¬ (a_1 < 0)) (k_2 : ¬ (11 < a_1)) (k_3 : 500 ≤ a_0) => (show ¬ ((a_1 + a_0) < 0) from by have z0 : (0 : Int32).toInt = 0 := (by decide +kernel); have z1 : (11 : Int32).toInt = 11 := (by decide +kernel); have z2 : (500 : Int32).toInt = 500 := (by decide +kernel); have r0 := fb_rng (a_0); have r1 := fb_rng (a_1); have e0 := k_0; rw [Int32.lt_iff_toInt_lt, z2] at e0; have e1 := k_1; rw [Int32.lt_iff_toInt_lt, z0] at e1; have e2 := k_2; rw [Int32.lt_iff_toInt_lt, z1] at e2; have e3 := k_3; rw [Int32.le_iff_toInt_le, z2] at e3; obtain ⟨n_0, hn_0, s0⟩ := nd_add (x := (a_1)) (y := (a_0)) (by omega) (by omega); rw [hn_0, Int32.lt_iff_toInt_lt, z0]; omega)) p_0 p_1 as_1 as_2 as_3 c_1)) (show ¬ (2147483635 < (p_1 + p_0)) from ((fun (a_0 : Int32) (a_1 : Int32) (k_0 : ¬ (500 < a_0)) (k_1 : ¬ (11 < a_1)) (k_2 : 500 ≤ a_0) => (show ¬ (2147483635 < (a_1 + a_0)) from by have z0 : (11 : Int32).toInt = 11 := (by decide +kernel); have z1 : (500 : Int32).toInt = 500 := (by decide +kernel); have z2 : (2147483635 : Int32).toInt = 2147483635 := (by decide +kernel); have r0 := fb_rng (a_0); have r1 := fb_rng (a_1); have e0 := k_0; rw [Int32.lt_iff_toInt_lt, z1] at e0; have e1 := k_1; rw [Int32.lt_iff_toInt_lt, z0] at e1; have e2 := k_2; rw [Int32.le_iff_toInt_le, z1] at e2; obtain ⟨n_0, hn_0, s0⟩ := nd_add (x := (a_1)) (y := (a_0)) (by omega) (by omega); rw [hn_0, Int32.lt_iff_toInt_lt, z2]; omega)) p_0 p_1 as_1 as_3 c_1)) (fun y_3 qu_3 g1_3 g2_3 g3_3 g4_3 g5_3 g9_3 => ?_)
    have hQ := hQ y_3 g9_3
    refine tw_aldI (ct := ct) hx hb hK hP hO_0 m_2 rfl (hb_inl g1_3 g2_3 (by decide +kernel)) d_Rv_height_32 (fun x_4 e_4 b_4 => ?_)
    have hQ := hQ x_4 e_4
    refine lv_goto (tgt := 39) hx hb d_Rv_height_33 (by decide) ?_
    exact W.iret (v := x_4) hx hb hr (fun t ht hW => ⟨x_4, rfl, ⟨trivial, hQ⟩, ht⟩) t_nil d_Rv_height_39
  · have hQ := hQ.2 c_1
    refine lv_aload_n hx hb d_Rv_height_7 rfl (lv_at hl 0 rfl) ?_
    refine tw_getr (D := (dC, dI)) (C := R_Rv) (T := F_Rv) (N := 6) (ci := 1) (kd := 1) (ct := ct) hx hb htb i_Rv hown hK hP hO_0 m0 rfl rfl 2 (by decide) (htb (.fieldLink R_Rv 19 "WaterMen$River" "rows" "[[I") tw_136) (fun _ h9 => h9) rfl d_Rv_height_8 (fun q_5 e_5 m_5 => ?_)
    have hQ := hQ q_5 e_5
    refine lv_iload_n hx hb d_Rv_height_11 rfl (lv_at hl 1 rfl) ?_
    refine tw_aldA (ct := ct) hx hb hK hP hO_0 m_5 rfl rfl (hb_in as_0 c_1 (by decide +kernel)) d_Rv_height_12 (fun e_6 => ?_) (fun q_6 e_6 m_6 => ?_)
    · have hQ := hQ.1 e_6
      refine lv_goto (tgt := 17) hx hb d_Rv_height_13 (by decide) ?_
      refine lv_astore_nN (lv' := [(3, .null), (0, .ref q0), (1, .int p_0), (2, .int p_1)]) hx hb d_Rv_height_17 rfl hl (by decide) rfl (fun ls hl => ?_)
      refine lv_aload_nN hx hb d_Rv_height_18 rfl (lv_at hl 0 rfl) ?_
      refine lv_ifnonnullN hx hb d_Rv_height_19 ?_
      refine lv_aload_n hx hb d_Rv_height_22 rfl (lv_at hl 1 rfl) ?_
      refine tw_getr (D := (dC, dI)) (C := R_Rv) (T := F_Rv) (N := 6) (ci := 1) (kd := 1) (ct := ct) hx hb htb i_Rv hown hK hP hO_0 m0 rfl rfl 1 (by decide) (htb (.fieldLink R_Rv 15 "WaterMen$River" "table" "[I") tw_138) (fun _ h9 => h9) rfl d_Rv_height_23 (fun q_7 e_7 m_7 => ?_)
      have hQ := hQ q_7 e_7
      refine lv_iload_n hx hb d_Rv_height_26 rfl (lv_at hl 3 rfl) ?_
      refine lv_iload_n hx hb d_Rv_height_27 rfl (lv_at hl 2 rfl) ?_
      refine lv_iadd hx hb d_Rv_height_28 ?_
      refine lv_bipush (v := 12) hx hb d_Rv_height_29 (by decide +kernel) ?_
      refine lv_irem hx hb d_Rv_height_31 (by decide) ?_
      refine hb_remn (c := 12) (C1 := 11) (K := 2147483635) (by decide +kernel) (by decide +kernel) (by decide +kernel) (show ¬ ((p_1 + p_0) < 0) from ((fun (a_0 : Int32) (a_1 : Int32) (k_0 : ¬ (a_0 < 0)) (k_1 : ¬ (a_1 < 0)) (k_2 : ¬ (11 < a_1)) (k_3 : ¬ (500 ≤ a_0)) => (show ¬ ((a_1 + a_0) < 0) from by have z0 : (0 : Int32).toInt = 0 := (by decide +kernel); have z1 : (11 : Int32).toInt = 11 := (by decide +kernel); have z2 : (500 : Int32).toInt = 500 := (by decide +kernel); have r0 := fb_rng (a_0); have r1 := fb_rng (a_1); have e0 := k_0; rw [Int32.lt_iff_toInt_lt, z0] at e0; have e1 := k_1; rw [Int32.lt_iff_toInt_lt, z0] at e1; have e2 := k_2; rw [Int32.lt_iff_toInt_lt, z1] at e2; have e3 := k_3; rw [Int32.le_iff_toInt_le, z2] at e3; obtain ⟨n_0, hn_0, s0⟩ := nd_add (x := (a_1)) (y := (a_0)) (by omega) (by omega); rw [hn_0, Int32.lt_iff_toInt_lt, z0]; omega)) p_0 p_1 as_0 as_2 as_3 c_1)) (show ¬ (2147483635 < (p_1 + p_0)) from ((fun (a_0 : Int32) (a_1 : Int32) (k_0 : ¬ (a_1 < 0)) (k_1 : ¬ (11 < a_1)) (k_2 : ¬ (500 ≤ a_0)) => (show ¬ (2147483635 < (a_1 + a_0)) from by have z0 : (0 : Int32).toInt = 0 := (by decide +kernel); have z1 : (11 : Int32).toInt = 11 := (by decide +kernel); have z2 : (500 : Int32).toInt = 500 := (by decide +kernel); have z3 : (2147483635 : Int32).toInt = 2147483635 := (by decide +kernel); have r0 := fb_rng (a_0); have r1 := fb_rng (a_1); have e0 := k_0; rw [Int32.lt_iff_toInt_lt, z0] at e0; have e1 := k_1; rw [Int32.lt_iff_toInt_lt, z1] at e1; have e2 := k_2; rw [Int32.le_iff_toInt_le, z2] at e2; obtain ⟨n_0, hn_0, s0⟩ := nd_add (x := (a_1)) (y := (a_0)) (by omega) (by omega); rw [hn_0, Int32.lt_iff_toInt_lt, z3]; omega)) p_0 p_1 as_2 as_3 c_1)) (fun y_8 qu_8 g1_8 g2_8 g3_8 g4_8 g5_8 g9_8 => ?_)
      have hQ := hQ y_8 g9_8
      refine tw_aldI (ct := ct) hx hb hK hP hO_0 m_7 rfl (hb_inl g1_8 g2_8 (by decide +kernel)) d_Rv_height_32 (fun x_9 e_9 b_9 => ?_)
      have hQ := hQ x_9 e_9
      refine lv_goto (tgt := 39) hx hb d_Rv_height_33 (by decide) ?_
      exact W.iret (v := x_9) hx hb hr (fun t ht hW => ⟨x_9, rfl, ⟨trivial, hQ⟩, ht⟩) t_nil d_Rv_height_39
    · have hQ := hQ.2 q_6 e_6
      refine lv_goto (tgt := 17) hx hb d_Rv_height_13 (by decide) ?_
      refine lv_astore_n (lv' := [(3, .ref q_6), (0, .ref q0), (1, .int p_0), (2, .int p_1)]) hx hb d_Rv_height_17 rfl hl (by decide) rfl (fun ls hl => ?_)
      refine lv_aload_n hx hb d_Rv_height_18 rfl (lv_at hl 0 rfl) ?_
      refine lv_ifnonnull (tgt := 36) hx hb d_Rv_height_19 (by decide) ?_
      refine lv_aload_n hx hb d_Rv_height_36 rfl (lv_at hl 0 rfl) ?_
      refine lv_iload_n hx hb d_Rv_height_37 rfl (lv_at hl 3 rfl) ?_
      refine tw_aldI (ct := ct) hx hb hK hP hO_0 m_6 rfl (hb_inl as_2 as_3 (by decide +kernel)) d_Rv_height_38 (fun x_10 e_10 b_10 => ?_)
      have hQ := hQ x_10 e_10
      exact W.iret (v := x_10) hx hb hr (fun t ht hW => ⟨x_10, rfl, ⟨trivial, hQ⟩, ht⟩) t_nil d_Rv_height_39
def wp_Rv_flowIn_w (L : List Nat) (f : TF) (q0 : Nat) (p_0 : Int32) (p_1 : Int32) (Q : Int32 → Prop) : Prop := ((p_1 = 11 → wp_Rv_height_w L f q0 (p_0 + 1) (0 : Int32) (fun (r_4 : Int32) => wp_Rv_height_w L f q0 p_0 p_1 (fun (r_5 : Int32) => Q (r_4 - r_5)))) ∧ (¬ (p_1 = 11) → wp_Rv_height_w L f q0 p_0 (p_1 + 1) (fun (r_2 : Int32) => wp_Rv_height_w L f q0 p_0 p_1 (fun (r_3 : Int32) => Q (r_2 - r_3)))))
set_option maxHeartbeats 4000000 in
set_option maxRecDepth 100000 in
theorem c_Rv_flowIn_w (l : Launch) (dC : Nat → ClassId) (dI : Nat → Nat → Nat) (ct : Nat → ClassId) (L : List Nat) (f : TF) (hO_0 : Ok L f) (q0 : Nat) (m0 : q0 ∈ L ∧ tk f q0 = 1) (p_0 : Int32) (p_1 : Int32)  (as_0 : ¬ (p_0 < 0)) (as_1 : ¬ (499 < p_0)) (as_2 : ¬ (p_1 < 0)) (as_3 : ¬ (11 < p_1)) (Q : Int32 → Prop) (hQ : wp_Rv_flowIn_w L f q0 p_0 p_1 Q) : Met l y_Rv_flowIn (.code y_Rv_flowIn b_Rv_flowIn 4 (some .int) :: TB) ({ frames := 1, cells := 0, slots := 0, locals := 23 }) (va_Pc [.ref q0, .int p_0, .int p_1] (PR dC dI (TW ct L f) (TT ct))) (vp_Si (fun r => (True) ∧ Q r)) 0 0 (fun _ => False) := by
  refine Met.ofW (cc := b_Rv_flowIn) (maxL := 4) (ret := (some .int)) (by decide) rfl ?_
  intro p e s m args below meth c s₁ B hml hv
  obtain ⟨rfl, hP, hK, hN⟩ := hv
  have hx := B.exec
  have hb := B.bytes
  have hr := B.returns
  have hts := atoms_spec (ws := (.code y_Rv_flowIn b_Rv_flowIn 4 (some .int) :: TB)) B.pre
  have htb := fun w (h : w ∈ TB) => hts w (List.mem_cons_of_mem _ h)
  have hown : s.vm.findClass R_Rv = some m.cls := findClass_of_methodNamed B.named
  have hlocks := B.notSynchronized
  have hl := lv_entry ([.ref q0, .int p_0, .int p_1]) (n := 4) (Nat.le_of_ble_eq_true rfl)
  rw [lg_entry_eq]
  generalize (lg_sl ([.ref q0, .int p_0, .int p_1]) ++ List.replicate (4 - (lg_sl ([.ref q0, .int p_0, .int p_1])).length) Slot.unset).toArray = ls at hl ⊢
  have hl : lv_has ls 4 [(0, .ref q0), (1, .int p_0), (2, .int p_1)] := hl
  unfold wp_Rv_flowIn_w at hQ
  refine lv_iload_n hx hb d_Rv_flowIn_0 rfl (lv_at hl 2 rfl) ?_
  refine lv_bipush (v := 11) hx hb d_Rv_flowIn_1 (by decide +kernel) ?_
  refine lv_icmp_ne (tgt := 17) hx hb d_Rv_flowIn_3 (by decide) (fun c_1 => ?_) (fun c_1 => ?_)
  · have hQ := hQ.2 c_1
    refine lv_aload_n hx hb d_Rv_flowIn_17 rfl (lv_at hl 0 rfl) ?_
    refine lv_iload_n hx hb d_Rv_flowIn_18 rfl (lv_at hl 1 rfl) ?_
    refine lv_iload_n hx hb d_Rv_flowIn_19 rfl (lv_at hl 2 rfl) ?_
    refine lv_iconst (v := 1) hx hb d_Rv_flowIn_20 (by decide +kernel) ?_
    refine lv_iadd hx hb d_Rv_flowIn_21 ?_
    refine vp_callSi (va_Run.run (va_runV (As := [.int p_0, .int (p_1 + 1)]) (rest := []) ⟨hx, hb, hml, hown, htb⟩ (c_Rv_height_w l dC dI ct L f hO_0 q0 m0 p_0 (p_1 + 1) as_0 (show ¬ (500 < p_0) from by have e0 := as_0; rw [Int32.lt_iff_toInt_lt] at e0; have e1 := as_1; rw [Int32.lt_iff_toInt_lt] at e1; have z0 : (0 : Int32).toInt = 0 := (by decide +kernel); have z1 : (499 : Int32).toInt = 499 := (by decide +kernel); have z2 : (500 : Int32).toInt = 500 := (by decide +kernel); rw [Int32.lt_iff_toInt_lt]; omega) (show ¬ ((p_1 + 1) < 0) from by have e0 := as_2; rw [Int32.lt_iff_toInt_lt] at e0; have e1 := as_3; rw [Int32.lt_iff_toInt_lt] at e1; have e2 := c_1; rw [← Int32.toInt_inj] at e2; have z0 : (0 : Int32).toInt = 0 := (by decide +kernel); have z1 : (1 : Int32).toInt = 1 := (by decide +kernel); have z2 : (11 : Int32).toInt = 11 := (by decide +kernel); have ss := fb_addI (x := p_1) (y := 1) (by omega) (by omega); rw [Int32.lt_iff_toInt_lt]; omega) (show ¬ (11 < (p_1 + 1)) from by have e0 := as_2; rw [Int32.lt_iff_toInt_lt] at e0; have e1 := as_3; rw [Int32.lt_iff_toInt_lt] at e1; have e2 := c_1; rw [← Int32.toInt_inj] at e2; have z0 : (0 : Int32).toInt = 0 := (by decide +kernel); have z1 : (1 : Int32).toInt = 1 := (by decide +kernel); have z2 : (11 : Int32).toInt = 11 := (by decide +kernel); have ss := fb_addI (x := p_1) (y := 1) (by omega) (by omega); rw [Int32.lt_iff_toInt_lt]; omega) _ hQ) (cwV 2 htb (gd_V tw_152 tw_153 tw_154 tw_140 tw_151) rfl rfl rfl (by decide +kernel) ⟨Nat.le_of_ble_eq_true rfl, Nat.le_of_ble_eq_true rfl⟩) ⟨pr_blind, tw_recv hK hP m0 rfl rfl, pr_pre hP hK hN⟩ rfl rfl hl.1 rfl (lv_room (Nat.le_of_ble_eq_true rfl)) d_Rv_flowIn_22 ⟨Nat.le_of_ble_eq_true rfl, Nat.le_of_ble_eq_true rfl⟩)) (fun r_2 er_2 => ?_)
    obtain ⟨er_2, hQ⟩ := er_2
    clear er_2
    refine lv_istore_n (lv' := [(3, .int r_2), (0, .ref q0), (1, .int p_0), (2, .int p_1)]) hx hb d_Rv_flowIn_25 rfl hl (by decide) rfl (fun ls hl => ?_)
    refine lv_iload_n hx hb d_Rv_flowIn_26 rfl (lv_at hl 0 rfl) ?_
    refine lv_aload_n hx hb d_Rv_flowIn_27 rfl (lv_at hl 1 rfl) ?_
    refine lv_iload_n hx hb d_Rv_flowIn_28 rfl (lv_at hl 2 rfl) ?_
    refine lv_iload_n hx hb d_Rv_flowIn_29 rfl (lv_at hl 3 rfl) ?_
    refine vp_callSi (va_Run.run (va_runV (As := [.int p_0, .int p_1]) (rest := [.int r_2]) ⟨hx, hb, hml, hown, htb⟩ (c_Rv_height_w l dC dI ct L f hO_0 q0 m0 p_0 p_1 as_0 (show ¬ (500 < p_0) from by have e0 := as_0; rw [Int32.lt_iff_toInt_lt] at e0; have e1 := as_1; rw [Int32.lt_iff_toInt_lt] at e1; have z0 : (0 : Int32).toInt = 0 := (by decide +kernel); have z1 : (499 : Int32).toInt = 499 := (by decide +kernel); have z2 : (500 : Int32).toInt = 500 := (by decide +kernel); rw [Int32.lt_iff_toInt_lt]; omega) as_2 as_3 _ hQ) (cwV 2 htb (gd_V tw_152 tw_153 tw_154 tw_140 tw_151) rfl rfl rfl (by decide +kernel) ⟨Nat.le_of_ble_eq_true rfl, Nat.le_of_ble_eq_true rfl⟩) ⟨pr_blind, tw_recv hK hP m0 rfl rfl, pr_pre hP hK hN⟩ rfl rfl hl.1 rfl (lv_room (Nat.le_of_ble_eq_true rfl)) d_Rv_flowIn_30 ⟨Nat.le_of_ble_eq_true rfl, Nat.le_of_ble_eq_true rfl⟩)) (fun r_3 er_3 => ?_)
    obtain ⟨er_3, hQ⟩ := er_3
    clear er_3
    refine lv_isub hx hb d_Rv_flowIn_33 ?_
    exact W.iret (v := (r_2 - r_3)) hx hb hr (fun t ht hW => ⟨(r_2 - r_3), rfl, ⟨trivial, hQ⟩, ht⟩) t_nil d_Rv_flowIn_34
  · have hQ := hQ.1 c_1
    refine lv_aload_n hx hb d_Rv_flowIn_6 rfl (lv_at hl 0 rfl) ?_
    refine lv_iload_n hx hb d_Rv_flowIn_7 rfl (lv_at hl 1 rfl) ?_
    refine lv_iconst (v := 1) hx hb d_Rv_flowIn_8 (by decide +kernel) ?_
    refine lv_iadd hx hb d_Rv_flowIn_9 ?_
    refine lv_iconst (v := 0) hx hb d_Rv_flowIn_10 (by decide +kernel) ?_
    refine vp_callSi (va_Run.run (va_runV (As := [.int (p_0 + 1), .int 0]) (rest := []) ⟨hx, hb, hml, hown, htb⟩ (c_Rv_height_w l dC dI ct L f hO_0 q0 m0 (p_0 + 1) (0 : Int32) (show ¬ ((p_0 + 1) < 0) from by have e0 := as_0; rw [Int32.lt_iff_toInt_lt] at e0; have e1 := as_1; rw [Int32.lt_iff_toInt_lt] at e1; have z0 : (0 : Int32).toInt = 0 := (by decide +kernel); have z1 : (1 : Int32).toInt = 1 := (by decide +kernel); have z2 : (499 : Int32).toInt = 499 := (by decide +kernel); have ss := fb_addI (x := p_0) (y := 1) (by omega) (by omega); rw [Int32.lt_iff_toInt_lt]; omega) (show ¬ (500 < (p_0 + 1)) from by have e0 := as_0; rw [Int32.lt_iff_toInt_lt] at e0; have e1 := as_1; rw [Int32.lt_iff_toInt_lt] at e1; have z0 : (0 : Int32).toInt = 0 := (by decide +kernel); have z1 : (1 : Int32).toInt = 1 := (by decide +kernel); have z2 : (499 : Int32).toInt = 499 := (by decide +kernel); have z3 : (500 : Int32).toInt = 500 := (by decide +kernel); have ss := fb_addI (x := p_0) (y := 1) (by omega) (by omega); rw [Int32.lt_iff_toInt_lt]; omega) (by decide +kernel) (by decide +kernel) _ hQ) (cwV 2 htb (gd_V tw_152 tw_153 tw_154 tw_140 tw_151) rfl rfl rfl (by decide +kernel) ⟨Nat.le_of_ble_eq_true rfl, Nat.le_of_ble_eq_true rfl⟩) ⟨pr_blind, tw_recv hK hP m0 rfl rfl, pr_pre hP hK hN⟩ rfl rfl hl.1 rfl (lv_room (Nat.le_of_ble_eq_true rfl)) d_Rv_flowIn_11 ⟨Nat.le_of_ble_eq_true rfl, Nat.le_of_ble_eq_true rfl⟩)) (fun r_4 er_4 => ?_)
    obtain ⟨er_4, hQ⟩ := er_4
    clear er_4
    refine lv_goto (tgt := 25) hx hb d_Rv_flowIn_14 (by decide) ?_
    refine lv_istore_n (lv' := [(3, .int r_4), (0, .ref q0), (1, .int p_0), (2, .int p_1)]) hx hb d_Rv_flowIn_25 rfl hl (by decide) rfl (fun ls hl => ?_)
    refine lv_iload_n hx hb d_Rv_flowIn_26 rfl (lv_at hl 0 rfl) ?_
    refine lv_aload_n hx hb d_Rv_flowIn_27 rfl (lv_at hl 1 rfl) ?_
    refine lv_iload_n hx hb d_Rv_flowIn_28 rfl (lv_at hl 2 rfl) ?_
    refine lv_iload_n hx hb d_Rv_flowIn_29 rfl (lv_at hl 3 rfl) ?_
    refine vp_callSi (va_Run.run (va_runV (As := [.int p_0, .int p_1]) (rest := [.int r_4]) ⟨hx, hb, hml, hown, htb⟩ (c_Rv_height_w l dC dI ct L f hO_0 q0 m0 p_0 p_1 as_0 (show ¬ (500 < p_0) from by have e0 := as_0; rw [Int32.lt_iff_toInt_lt] at e0; have e1 := as_1; rw [Int32.lt_iff_toInt_lt] at e1; have z0 : (0 : Int32).toInt = 0 := (by decide +kernel); have z1 : (499 : Int32).toInt = 499 := (by decide +kernel); have z2 : (500 : Int32).toInt = 500 := (by decide +kernel); rw [Int32.lt_iff_toInt_lt]; omega) as_2 as_3 _ hQ) (cwV 2 htb (gd_V tw_152 tw_153 tw_154 tw_140 tw_151) rfl rfl rfl (by decide +kernel) ⟨Nat.le_of_ble_eq_true rfl, Nat.le_of_ble_eq_true rfl⟩) ⟨pr_blind, tw_recv hK hP m0 rfl rfl, pr_pre hP hK hN⟩ rfl rfl hl.1 rfl (lv_room (Nat.le_of_ble_eq_true rfl)) d_Rv_flowIn_30 ⟨Nat.le_of_ble_eq_true rfl, Nat.le_of_ble_eq_true rfl⟩)) (fun r_5 er_5 => ?_)
    obtain ⟨er_5, hQ⟩ := er_5
    clear er_5
    refine lv_isub hx hb d_Rv_flowIn_33 ?_
    exact W.iret (v := (r_4 - r_5)) hx hb hr (fun t ht hW => ⟨(r_4 - r_5), rfl, ⟨trivial, hQ⟩, ht⟩) t_nil d_Rv_flowIn_34
def wp_WM_flow_w (L : List Nat) (f : TF) (q0 : Nat) (p_0 : Int32) (p_1 : Int32) (Q : Int32 → Prop) : Prop := ((p_0 < 0 → Q (-1000)) ∧ (¬ (p_0 < 0) → ((500 ≤ p_0 → Q (-1000)) ∧ (¬ (500 ≤ p_0) → ((p_1 < 0 → Q (-1000)) ∧ (¬ (p_1 < 0) → ((12 ≤ p_1 → Q (-1000)) ∧ (¬ (12 ≤ p_1) → ∀ q_7 : Nat, tr f q0 0 = some q_7 → wp_Rv_flowIn_w L f q_7 p_0 p_1 (fun (r_8 : Int32) => Q r_8)))))))))
set_option maxHeartbeats 4000000 in
set_option maxRecDepth 100000 in
theorem c_WM_flow_w (l : Launch) (dC : Nat → ClassId) (dI : Nat → Nat → Nat) (ct : Nat → ClassId) (L : List Nat) (f : TF) (hO_0 : Ok L f) (q0 : Nat) (m0 : q0 ∈ L ∧ tk f q0 = 0) (p_0 : Int32) (p_1 : Int32)   (Q : Int32 → Prop) (hQ : wp_WM_flow_w L f q0 p_0 p_1 Q) : Met l y_WM_flow (.code y_WM_flow b_WM_flow 3 (some .int) :: TB) ({ frames := 2, cells := 0, slots := 0, locals := 46 }) (va_Pc [.ref q0, .int p_0, .int p_1] (PR dC dI (TW ct L f) (TT ct))) (vp_Si (fun r => (True) ∧ Q r)) 0 0 (fun _ => False) := by
  refine Met.ofW (cc := b_WM_flow) (maxL := 3) (ret := (some .int)) (by decide) rfl ?_
  intro p e s m args below meth c s₁ B hml hv
  obtain ⟨rfl, hP, hK, hN⟩ := hv
  have hx := B.exec
  have hb := B.bytes
  have hr := B.returns
  have hts := atoms_spec (ws := (.code y_WM_flow b_WM_flow 3 (some .int) :: TB)) B.pre
  have htb := fun w (h : w ∈ TB) => hts w (List.mem_cons_of_mem _ h)
  have hown : s.vm.findClass R_WM = some m.cls := findClass_of_methodNamed B.named
  have hlocks := B.notSynchronized
  have hl := lv_entry ([.ref q0, .int p_0, .int p_1]) (n := 3) (Nat.le_of_ble_eq_true rfl)
  rw [lg_entry_eq]
  generalize (lg_sl ([.ref q0, .int p_0, .int p_1]) ++ List.replicate (3 - (lg_sl ([.ref q0, .int p_0, .int p_1])).length) Slot.unset).toArray = ls at hl ⊢
  have hl : lv_has ls 3 [(0, .ref q0), (1, .int p_0), (2, .int p_1)] := hl
  unfold wp_WM_flow_w at hQ
  refine lv_iload_n hx hb d_WM_flow_0 rfl (lv_at hl 1 rfl) ?_
  refine vp_callSi (va_Run.run (va_runS (As := [.int p_0]) (rest := []) ⟨hx, hb, hml, hown, htb⟩ (c_WM_isDay l p_0) (cwS 1 htb (gd_S tw_127 tw_128 tw_26 tw_126) rfl rfl rfl (by decide +kernel) ⟨Nat.le_of_ble_eq_true rfl, Nat.le_of_ble_eq_true rfl⟩) ⟨fun _ _ _ _ h => h, fun U _ _ => ⟨rfl, trivial⟩⟩ rfl rfl hl.1 rfl (lv_room (Nat.le_of_ble_eq_true rfl)) d_WM_flow_1 ⟨Nat.le_of_ble_eq_true rfl, Nat.le_of_ble_eq_true rfl⟩)) (fun r er => ?_)
  subst er
  by_cases c_2 : p_0 < 0
  · have hQ := hQ.1 c_2
    refine hb_ti 0 (by unfold f_WM_isDay; rw [if_pos c_2]; first | done | rfl) ?_
    refine lv_if_eq (tgt := 26) hx hb d_WM_flow_4 (by decide) (fun _ => ?_) (fun h => absurd (by decide +kernel) h)
    refine lv_sipush (v := (-1000)) hx hb d_WM_flow_26 (by decide +kernel) ?_
    exact W.iret (v := (-1000)) hx hb hr (fun t ht hW => ⟨(-1000), rfl, ⟨trivial, hQ⟩, ht⟩) t_nil d_WM_flow_29
  · have hQ := hQ.2 c_2
    by_cases c_3 : 500 ≤ p_0
    · have hQ := hQ.1 c_3
      refine hb_ti 0 (by unfold f_WM_isDay; rw [if_neg c_2, if_pos c_3]; first | done | rfl) ?_
      refine lv_if_eq (tgt := 26) hx hb d_WM_flow_4 (by decide) (fun _ => ?_) (fun h => absurd (by decide +kernel) h)
      refine lv_sipush (v := (-1000)) hx hb d_WM_flow_26 (by decide +kernel) ?_
      exact W.iret (v := (-1000)) hx hb hr (fun t ht hW => ⟨(-1000), rfl, ⟨trivial, hQ⟩, ht⟩) t_nil d_WM_flow_29
    · have hQ := hQ.2 c_3
      refine hb_ti 1 (by unfold f_WM_isDay; rw [if_neg c_2, if_neg c_3]; first | done | rfl) ?_
      refine lv_if_eq (tgt := 26) hx hb d_WM_flow_4 (by decide) (fun h => absurd h (by decide +kernel)) (fun _ => ?_)
      refine lv_iload_n hx hb d_WM_flow_7 rfl (lv_at hl 2 rfl) ?_
      refine vp_callSi (va_Run.run (va_runS (As := [.int p_1]) (rest := []) ⟨hx, hb, hml, hown, htb⟩ (c_WM_isHour l p_1) (cwS 1 htb (gd_S tw_130 tw_131 tw_26 tw_129) rfl rfl rfl (by decide +kernel) ⟨Nat.le_of_ble_eq_true rfl, Nat.le_of_ble_eq_true rfl⟩) ⟨fun _ _ _ _ h => h, fun U _ _ => ⟨rfl, trivial⟩⟩ rfl rfl hl.1 rfl (lv_room (Nat.le_of_ble_eq_true rfl)) d_WM_flow_8 ⟨Nat.le_of_ble_eq_true rfl, Nat.le_of_ble_eq_true rfl⟩)) (fun r er => ?_)
      subst er
      by_cases c_5 : p_1 < 0
      · have hQ := hQ.1 c_5
        refine hb_ti 0 (by unfold f_WM_isHour; rw [if_pos c_5]; first | done | rfl) ?_
        refine lv_if_eq (tgt := 26) hx hb d_WM_flow_11 (by decide) (fun _ => ?_) (fun h => absurd (by decide +kernel) h)
        refine lv_sipush (v := (-1000)) hx hb d_WM_flow_26 (by decide +kernel) ?_
        exact W.iret (v := (-1000)) hx hb hr (fun t ht hW => ⟨(-1000), rfl, ⟨trivial, hQ⟩, ht⟩) t_nil d_WM_flow_29
      · have hQ := hQ.2 c_5
        by_cases c_6 : 12 ≤ p_1
        · have hQ := hQ.1 c_6
          refine hb_ti 0 (by unfold f_WM_isHour; rw [if_neg c_5, if_pos c_6]; first | done | rfl) ?_
          refine lv_if_eq (tgt := 26) hx hb d_WM_flow_11 (by decide) (fun _ => ?_) (fun h => absurd (by decide +kernel) h)
          refine lv_sipush (v := (-1000)) hx hb d_WM_flow_26 (by decide +kernel) ?_
          exact W.iret (v := (-1000)) hx hb hr (fun t ht hW => ⟨(-1000), rfl, ⟨trivial, hQ⟩, ht⟩) t_nil d_WM_flow_29
        · have hQ := hQ.2 c_6
          refine hb_ti 1 (by unfold f_WM_isHour; rw [if_neg c_5, if_neg c_6]; first | done | rfl) ?_
          refine lv_if_eq (tgt := 26) hx hb d_WM_flow_11 (by decide) (fun h => absurd h (by decide +kernel)) (fun _ => ?_)
          refine lv_aload_n hx hb d_WM_flow_14 rfl (lv_at hl 0 rfl) ?_
          refine tw_getr (D := (dC, dI)) (C := R_WM) (T := F_WM) (N := 13) (ci := 0) (kd := 0) (ct := ct) hx hb htb i_WM hown hK hP hO_0 m0 rfl rfl 0 (by decide) (htb (.fieldLink R_WM 12 "WaterMen" "river" "LWaterMen$River;") tw_135) (fun _ h9 => h9) rfl d_WM_flow_15 (fun q_7 e_7 m_7 => ?_)
          have hQ := hQ q_7 e_7
          refine lv_iload_n hx hb d_WM_flow_18 rfl (lv_at hl 1 rfl) ?_
          refine lv_iload_n hx hb d_WM_flow_19 rfl (lv_at hl 2 rfl) ?_
          refine vp_callSi (va_Run.run (va_runV (As := [.int p_0, .int p_1]) (rest := []) ⟨hx, hb, hml, hown, htb⟩ (c_Rv_flowIn_w l dC dI ct L f hO_0 q_7 m_7 p_0 p_1 c_2 (show ¬ (499 < p_0) from by have e0 := c_2; rw [Int32.lt_iff_toInt_lt] at e0; have e1 := c_3; rw [Int32.le_iff_toInt_le] at e1; have z0 : (0 : Int32).toInt = 0 := (by decide +kernel); have z1 : (499 : Int32).toInt = 499 := (by decide +kernel); have z2 : (500 : Int32).toInt = 500 := (by decide +kernel); rw [Int32.lt_iff_toInt_lt]; omega) c_5 (show ¬ (11 < p_1) from by have e0 := c_5; rw [Int32.lt_iff_toInt_lt] at e0; have e1 := c_6; rw [Int32.le_iff_toInt_le] at e1; have z0 : (0 : Int32).toInt = 0 := (by decide +kernel); have z1 : (11 : Int32).toInt = 11 := (by decide +kernel); have z2 : (12 : Int32).toInt = 12 := (by decide +kernel); rw [Int32.lt_iff_toInt_lt]; omega) _ hQ) (cwV 2 htb (gd_V tw_156 tw_157 tw_158 tw_140 tw_155) rfl rfl rfl (by decide +kernel) ⟨Nat.le_of_ble_eq_true rfl, Nat.le_of_ble_eq_true rfl⟩) ⟨pr_blind, tw_recv hK hP m_7 rfl rfl, pr_pre hP hK hN⟩ rfl rfl hl.1 rfl (lv_room (Nat.le_of_ble_eq_true rfl)) d_WM_flow_20 ⟨Nat.le_of_ble_eq_true rfl, Nat.le_of_ble_eq_true rfl⟩)) (fun r_8 er_8 => ?_)
          obtain ⟨er_8, hQ⟩ := er_8
          clear er_8
          refine lv_goto (tgt := 29) hx hb d_WM_flow_23 (by decide) ?_
          exact W.iret (v := r_8) hx hb hr (fun t ht hW => ⟨r_8, rfl, ⟨trivial, hQ⟩, ht⟩) t_nil d_WM_flow_29
def wp_Md_levelOf_w (L : List Nat) (f : TF) (q0 : Nat) (p_0 : Int32) (p_1 : Int32) (Q : Int32 → Prop) : Prop := ((500 ≤ p_0 → ∀ q_2 : Nat, tr f q0 5 = some q_2 → ∀ y_3 : Int32, y_3 = (p_1 + p_0) - (p_1 + p_0) / 12 * 12 → ∀ x_4 : Int32, ti f q_2 (y_3 : Int32).toNatClampNeg = x_4 → Q x_4) ∧ (¬ (500 ≤ p_0) → ∀ q_5 : Nat, tr f q0 6 = some q_5 → ∀ x_6 : Int32, ti f q_5 (p_0 : Int32).toNatClampNeg = x_6 → ((x_6 = 0 → ∀ q_8 : Nat, tr f q0 5 = some q_8 → ∀ y_9 : Int32, y_9 = (p_1 + p_0) - (p_1 + p_0) / 12 * 12 → ∀ x_10 : Int32, ti f q_8 (y_9 : Int32).toNatClampNeg = x_10 → Q x_10) ∧ (¬ (x_6 = 0) → ∀ q_11 : Nat, tr f q0 7 = some q_11 → ∀ x_12 : Int32, ti f q_11 (((12 * p_0) + p_1) : Int32).toNatClampNeg = x_12 → Q x_12))))
set_option maxHeartbeats 4000000 in
set_option maxRecDepth 100000 in
theorem c_Md_levelOf_w (l : Launch) (dC : Nat → ClassId) (dI : Nat → Nat → Nat) (ct : Nat → ClassId) (L : List Nat) (f : TF) (hO_0 : Ok L f) (q0 : Nat) (m0 : q0 ∈ L ∧ tk f q0 = 27) (p_0 : Int32) (p_1 : Int32)  (as_0 : ¬ (p_0 < 0)) (as_1 : ¬ (500 < p_0)) (as_2 : ¬ (p_1 < 0)) (as_3 : ¬ (11 < p_1)) (Q : Int32 → Prop) (hQ : wp_Md_levelOf_w L f q0 p_0 p_1 Q) : Met l y_Md_levelOf (.code y_Md_levelOf b_Md_levelOf 3 (some .int) :: TB) ({ frames := 0, cells := 0, slots := 0, locals := 0 }) (va_Pc [.ref q0, .int p_0, .int p_1] (PR dC dI (TW ct L f) (TT ct))) (vp_Si (fun r => (True) ∧ Q r)) 0 0 (fun _ => False) := by
  refine Met.ofW (cc := b_Md_levelOf) (maxL := 3) (ret := (some .int)) (by decide) rfl ?_
  intro p e s m args below meth c s₁ B hml hv
  obtain ⟨rfl, hP, hK, hN⟩ := hv
  have hx := B.exec
  have hb := B.bytes
  have hr := B.returns
  have hts := atoms_spec (ws := (.code y_Md_levelOf b_Md_levelOf 3 (some .int) :: TB)) B.pre
  have htb := fun w (h : w ∈ TB) => hts w (List.mem_cons_of_mem _ h)
  have hown : s.vm.findClass R_Md = some m.cls := findClass_of_methodNamed B.named
  have hlocks := B.notSynchronized
  have hl := lv_entry ([.ref q0, .int p_0, .int p_1]) (n := 3) (Nat.le_of_ble_eq_true rfl)
  rw [lg_entry_eq]
  generalize (lg_sl ([.ref q0, .int p_0, .int p_1]) ++ List.replicate (3 - (lg_sl ([.ref q0, .int p_0, .int p_1])).length) Slot.unset).toArray = ls at hl ⊢
  have hl : lv_has ls 3 [(0, .ref q0), (1, .int p_0), (2, .int p_1)] := hl
  unfold wp_Md_levelOf_w at hQ
  refine lv_iload_n hx hb d_Md_levelOf_0 rfl (lv_at hl 1 rfl) ?_
  refine lv_sipush (v := 500) hx hb d_Md_levelOf_1 (by decide +kernel) ?_
  refine lv_icmp_ge (tgt := 30) hx hb d_Md_levelOf_4 (by decide) (fun c_1 => ?_) (fun c_1 => ?_)
  · have hQ := hQ.1 c_1
    refine lv_aload_n hx hb d_Md_levelOf_30 rfl (lv_at hl 0 rfl) ?_
    refine tw_getr (D := (dC, dI)) (C := R_Md) (T := F_Md) (N := 64) (ci := 7) (kd := 27) (ct := ct) hx hb htb i_Md hown hK hP hO_0 m0 rfl rfl 5 (by decide) (htb (.fieldLink R_Md 25 "WaterMenModel" "table" "[I") tw_149) (fun _ h9 => h9) rfl d_Md_levelOf_31 (fun q_2 e_2 m_2 => ?_)
    have hQ := hQ q_2 e_2
    refine lv_iload_n hx hb d_Md_levelOf_34 rfl (lv_at hl 2 rfl) ?_
    refine lv_iload_n hx hb d_Md_levelOf_35 rfl (lv_at hl 1 rfl) ?_
    refine lv_iadd hx hb d_Md_levelOf_36 ?_
    refine lv_bipush (v := 12) hx hb d_Md_levelOf_37 (by decide +kernel) ?_
    refine lv_irem hx hb d_Md_levelOf_39 (by decide) ?_
    refine hb_remn (c := 12) (C1 := 11) (K := 2147483635) (by decide +kernel) (by decide +kernel) (by decide +kernel) (show ¬ ((p_1 + p_0) < 0) from ((fun (a_0 : Int32) (a_1 : Int32) (k_0 : ¬ (500 < a_0)) (k_1 : ¬ (a_1 < 0)) (k_2 : ¬ (11 < a_1)) (k_3 : 500 ≤ a_0) => (show ¬ ((a_1 + a_0) < 0) from by have z0 : (0 : Int32).toInt = 0 := (by decide +kernel); have z1 : (11 : Int32).toInt = 11 := (by decide +kernel); have z2 : (500 : Int32).toInt = 500 := (by decide +kernel); have r0 := fb_rng (a_0); have r1 := fb_rng (a_1); have e0 := k_0; rw [Int32.lt_iff_toInt_lt, z2] at e0; have e1 := k_1; rw [Int32.lt_iff_toInt_lt, z0] at e1; have e2 := k_2; rw [Int32.lt_iff_toInt_lt, z1] at e2; have e3 := k_3; rw [Int32.le_iff_toInt_le, z2] at e3; obtain ⟨n_0, hn_0, s0⟩ := nd_add (x := (a_1)) (y := (a_0)) (by omega) (by omega); rw [hn_0, Int32.lt_iff_toInt_lt, z0]; omega)) p_0 p_1 as_1 as_2 as_3 c_1)) (show ¬ (2147483635 < (p_1 + p_0)) from ((fun (a_0 : Int32) (a_1 : Int32) (k_0 : ¬ (500 < a_0)) (k_1 : ¬ (11 < a_1)) (k_2 : 500 ≤ a_0) => (show ¬ (2147483635 < (a_1 + a_0)) from by have z0 : (11 : Int32).toInt = 11 := (by decide +kernel); have z1 : (500 : Int32).toInt = 500 := (by decide +kernel); have z2 : (2147483635 : Int32).toInt = 2147483635 := (by decide +kernel); have r0 := fb_rng (a_0); have r1 := fb_rng (a_1); have e0 := k_0; rw [Int32.lt_iff_toInt_lt, z1] at e0; have e1 := k_1; rw [Int32.lt_iff_toInt_lt, z0] at e1; have e2 := k_2; rw [Int32.le_iff_toInt_le, z1] at e2; obtain ⟨n_0, hn_0, s0⟩ := nd_add (x := (a_1)) (y := (a_0)) (by omega) (by omega); rw [hn_0, Int32.lt_iff_toInt_lt, z2]; omega)) p_0 p_1 as_1 as_3 c_1)) (fun y_3 qu_3 g1_3 g2_3 g3_3 g4_3 g5_3 g9_3 => ?_)
    have hQ := hQ y_3 g9_3
    refine tw_aldI (ct := ct) hx hb hK hP hO_0 m_2 rfl (hb_inl g1_3 g2_3 (by decide +kernel)) d_Md_levelOf_40 (fun x_4 e_4 b_4 => ?_)
    have hQ := hQ x_4 e_4
    exact W.iret (v := x_4) hx hb hr (fun t ht hW => ⟨x_4, rfl, ⟨trivial, hQ⟩, ht⟩) t_nil d_Md_levelOf_41
  · have hQ := hQ.2 c_1
    refine lv_aload_n hx hb d_Md_levelOf_7 rfl (lv_at hl 0 rfl) ?_
    refine tw_getr (D := (dC, dI)) (C := R_Md) (T := F_Md) (N := 64) (ci := 7) (kd := 27) (ct := ct) hx hb htb i_Md hown hK hP hO_0 m0 rfl rfl 6 (by decide) (htb (.fieldLink R_Md 17 "WaterMenModel" "hasRow" "[Z") tw_147) (fun _ h9 => h9) rfl d_Md_levelOf_8 (fun q_5 e_5 m_5 => ?_)
    have hQ := hQ q_5 e_5
    refine lv_iload_n hx hb d_Md_levelOf_11 rfl (lv_at hl 1 rfl) ?_
    refine tw_aldZ (ct := ct) hx hb hK hP hO_0 m_5 rfl (hb_in as_0 c_1 (by decide +kernel)) d_Md_levelOf_12 (fun x_6 e_6 b_6 => ?_)
    have hQ := hQ x_6 e_6
    refine lv_if_eq (tgt := 30) hx hb d_Md_levelOf_13 (by decide) (fun c_7 => ?_) (fun c_7 => ?_)
    · have hQ := hQ.1 c_7
      refine lv_aload_n hx hb d_Md_levelOf_30 rfl (lv_at hl 0 rfl) ?_
      refine tw_getr (D := (dC, dI)) (C := R_Md) (T := F_Md) (N := 64) (ci := 7) (kd := 27) (ct := ct) hx hb htb i_Md hown hK hP hO_0 m0 rfl rfl 5 (by decide) (htb (.fieldLink R_Md 25 "WaterMenModel" "table" "[I") tw_149) (fun _ h9 => h9) rfl d_Md_levelOf_31 (fun q_8 e_8 m_8 => ?_)
      have hQ := hQ q_8 e_8
      refine lv_iload_n hx hb d_Md_levelOf_34 rfl (lv_at hl 2 rfl) ?_
      refine lv_iload_n hx hb d_Md_levelOf_35 rfl (lv_at hl 1 rfl) ?_
      refine lv_iadd hx hb d_Md_levelOf_36 ?_
      refine lv_bipush (v := 12) hx hb d_Md_levelOf_37 (by decide +kernel) ?_
      refine lv_irem hx hb d_Md_levelOf_39 (by decide) ?_
      refine hb_remn (c := 12) (C1 := 11) (K := 2147483635) (by decide +kernel) (by decide +kernel) (by decide +kernel) (show ¬ ((p_1 + p_0) < 0) from ((fun (a_0 : Int32) (a_1 : Int32) (k_0 : ¬ (a_0 < 0)) (k_1 : ¬ (a_1 < 0)) (k_2 : ¬ (11 < a_1)) (k_3 : ¬ (500 ≤ a_0)) => (show ¬ ((a_1 + a_0) < 0) from by have z0 : (0 : Int32).toInt = 0 := (by decide +kernel); have z1 : (11 : Int32).toInt = 11 := (by decide +kernel); have z2 : (500 : Int32).toInt = 500 := (by decide +kernel); have r0 := fb_rng (a_0); have r1 := fb_rng (a_1); have e0 := k_0; rw [Int32.lt_iff_toInt_lt, z0] at e0; have e1 := k_1; rw [Int32.lt_iff_toInt_lt, z0] at e1; have e2 := k_2; rw [Int32.lt_iff_toInt_lt, z1] at e2; have e3 := k_3; rw [Int32.le_iff_toInt_le, z2] at e3; obtain ⟨n_0, hn_0, s0⟩ := nd_add (x := (a_1)) (y := (a_0)) (by omega) (by omega); rw [hn_0, Int32.lt_iff_toInt_lt, z0]; omega)) p_0 p_1 as_0 as_2 as_3 c_1)) (show ¬ (2147483635 < (p_1 + p_0)) from ((fun (a_0 : Int32) (a_1 : Int32) (k_0 : ¬ (a_1 < 0)) (k_1 : ¬ (11 < a_1)) (k_2 : ¬ (500 ≤ a_0)) => (show ¬ (2147483635 < (a_1 + a_0)) from by have z0 : (0 : Int32).toInt = 0 := (by decide +kernel); have z1 : (11 : Int32).toInt = 11 := (by decide +kernel); have z2 : (500 : Int32).toInt = 500 := (by decide +kernel); have z3 : (2147483635 : Int32).toInt = 2147483635 := (by decide +kernel); have r0 := fb_rng (a_0); have r1 := fb_rng (a_1); have e0 := k_0; rw [Int32.lt_iff_toInt_lt, z0] at e0; have e1 := k_1; rw [Int32.lt_iff_toInt_lt, z1] at e1; have e2 := k_2; rw [Int32.le_iff_toInt_le, z2] at e2; obtain ⟨n_0, hn_0, s0⟩ := nd_add (x := (a_1)) (y := (a_0)) (by omega) (by omega); rw [hn_0, Int32.lt_iff_toInt_lt, z3]; omega)) p_0 p_1 as_2 as_3 c_1)) (fun y_9 qu_9 g1_9 g2_9 g3_9 g4_9 g5_9 g9_9 => ?_)
      have hQ := hQ y_9 g9_9
      refine tw_aldI (ct := ct) hx hb hK hP hO_0 m_8 rfl (hb_inl g1_9 g2_9 (by decide +kernel)) d_Md_levelOf_40 (fun x_10 e_10 b_10 => ?_)
      have hQ := hQ x_10 e_10
      exact W.iret (v := x_10) hx hb hr (fun t ht hW => ⟨x_10, rfl, ⟨trivial, hQ⟩, ht⟩) t_nil d_Md_levelOf_41
    · have hQ := hQ.2 c_7
      refine lv_aload_n hx hb d_Md_levelOf_16 rfl (lv_at hl 0 rfl) ?_
      refine tw_getr (D := (dC, dI)) (C := R_Md) (T := F_Md) (N := 64) (ci := 7) (kd := 27) (ct := ct) hx hb htb i_Md hown hK hP hO_0 m0 rfl rfl 7 (by decide) (htb (.fieldLink R_Md 21 "WaterMenModel" "rows" "[I") tw_148) (fun _ h9 => h9) rfl d_Md_levelOf_17 (fun q_11 e_11 m_11 => ?_)
      have hQ := hQ q_11 e_11
      refine lv_bipush (v := 12) hx hb d_Md_levelOf_20 (by decide +kernel) ?_
      refine lv_iload_n hx hb d_Md_levelOf_22 rfl (lv_at hl 1 rfl) ?_
      refine lv_imul hx hb d_Md_levelOf_23 ?_
      refine lv_iload_n hx hb d_Md_levelOf_24 rfl (lv_at hl 2 rfl) ?_
      refine lv_iadd hx hb d_Md_levelOf_25 ?_
      refine tw_aldI (ct := ct) hx hb hK hP hO_0 m_11 rfl ((fun (a_0 : Int32) (a_1 : Int32) (k_0 : ¬ (a_0 < 0)) (k_1 : ¬ (a_1 < 0)) (k_2 : ¬ (11 < a_1)) (k_3 : ¬ (500 ≤ a_0)) => (show vp_in (((12 * a_0) + a_1)) 6000 from by have z0 : (0 : Int32).toInt = 0 := (by decide +kernel); have z1 : (11 : Int32).toInt = 11 := (by decide +kernel); have z2 : (12 : Int32).toInt = 12 := (by decide +kernel); have z3 : (500 : Int32).toInt = 500 := (by decide +kernel); have r0 := fb_rng (a_0); have r1 := fb_rng (a_1); have e0 := k_0; rw [Int32.lt_iff_toInt_lt, z0] at e0; have e1 := k_1; rw [Int32.lt_iff_toInt_lt, z0] at e1; have e2 := k_2; rw [Int32.lt_iff_toInt_lt, z1] at e2; have e3 := k_3; rw [Int32.le_iff_toInt_le, z3] at e3; obtain ⟨n_0, hn_0, s0⟩ := nd_mul (x := (12 : Int32)) (y := (a_0)) (by (try rw [z2]); omega) (by (try rw [z2]); omega); rw [z2] at s0; obtain ⟨n_1, hn_1, s1⟩ := nd_add (x := n_0) (y := (a_1)) (by omega) (by omega); rw [hn_0, hn_1, vp_in_iff]; omega)) p_0 p_1 as_0 as_2 as_3 c_1) d_Md_levelOf_26 (fun x_12 e_12 b_12 => ?_)
      have hQ := hQ x_12 e_12
      refine lv_goto (tgt := 41) hx hb d_Md_levelOf_27 (by decide) ?_
      exact W.iret (v := x_12) hx hb hr (fun t ht hW => ⟨x_12, rfl, ⟨trivial, hQ⟩, ht⟩) t_nil d_Md_levelOf_41
