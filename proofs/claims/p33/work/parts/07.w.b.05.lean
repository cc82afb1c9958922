def W_Md_bridge_w : List (Nat × Nat) := [(27, 4)]
def wp_Md_bridge_w (L : List Nat) (f : TF) (q0 : Nat) (p_0 : Int32) (Q : Int32 → List Nat → TF → Prop) : Prop := ((p_0 = (-1) → ∀ f_1 : TF, f_1 = sI f q0 4 p_0 → Ok L f_1 → Q 1 L f_1) ∧ (¬ (p_0 = (-1)) → ∀ x_3 : Int32, ti f q0 2 = x_3 → ((p_0 < 0 → Q (-1) L f) ∧ (¬ (p_0 < 0) → (((x_3 - 2) < p_0 → Q (-1) L f) ∧ (¬ ((x_3 - 2) < p_0) → ∀ f_1 : TF, f_1 = sI f q0 4 p_0 → Ok L f_1 → Q 1 L f_1))))))
set_option maxHeartbeats 4000000 in
set_option maxRecDepth 100000 in
theorem c_Md_bridge_w (l : Launch) (dC : Nat → ClassId) (dI : Nat → Nat → Nat) (ct : Nat → ClassId) (L : List Nat) (f : TF) (hO_0 : Ok L f) (q0 : Nat) (m0 : q0 ∈ L ∧ tk f q0 = 27) (sz : Nat) (p_0 : Int32)   (Q : Int32 → List Nat → TF → Prop) (hQ : wp_Md_bridge_w L f q0 p_0 Q) : Met l y_Md_bridge (.code y_Md_bridge b_Md_bridge 2 (some .int) :: TB) ({ frames := 1, cells := 0, slots := 0, locals := 22 }) (va_Pc [.ref q0, .int p_0] (PC dC dI (TW ct L f) (TT ct) sz)) (va_Qi (fun r (u : TSt) => Ok u.1 u.2 ∧ Ext W_Md_bridge_w L f u.1 u.2 ∧ (True) ∧ Q r u.1 u.2) (fun (u : TSt) t => va_P (dC, dI) vwCl (TW ct u.1 u.2) t.heap ∧ va_K (dC, dI) vwCl (TT ct) t ∧ va_D (va_A (TW ct L f) sz) (TW ct u.1 u.2)) (va_A (TW ct L f) sz)) 0 0 (va_A (TW ct L f) sz) := by
  refine Met.ofW (cc := b_Md_bridge) (maxL := 2) (ret := (some .int)) (by decide) rfl ?_
  intro p e s m args below meth c s₁ B hml hv
  obtain ⟨rfl, hsz, hP, hK, hD0, hN⟩ := hv
  have hx := B.exec
  have hb := B.bytes
  have hr := B.returns
  have hts := atoms_spec (ws := (.code y_Md_bridge b_Md_bridge 2 (some .int) :: TB)) B.pre
  have htb := fun w (h : w ∈ TB) => hts w (List.mem_cons_of_mem _ h)
  have hown : s.vm.findClass R_Md = some m.cls := findClass_of_methodNamed B.named
  have hlocks := B.notSynchronized
  have hl := lv_entry ([.ref q0, .int p_0]) (n := 2) (Nat.le_of_ble_eq_true rfl)
  rw [lg_entry_eq]
  generalize (lg_sl ([.ref q0, .int p_0]) ++ List.replicate (2 - (lg_sl ([.ref q0, .int p_0])).length) Slot.unset).toArray = ls at hl ⊢
  have hl : lv_has ls 2 [(0, .ref q0), (1, .int p_0)] := hl
  subst hsz
  have hD := hD0.self (sz := s.heap.size)
  obtain ⟨A, hAe⟩ : ∃ A, va_A (TW ct L f) s.heap.size = A := ⟨_, rfl⟩
  rw [hAe] at hD
  have hA : ∀ q : Nat, s.heap.size ≤ q → A q := fun q h => by rw [← hAe]; exact Or.inr h
  have hS : va_S A s.heap s.heap [] := va_S.rf
  have hA_0 : Ext [] L f L f := Ext.rf
  suffices hGo : ∀ (H : Heap) (locs : List Loc), va_P (dC, dI) vwCl (TW ct L f) H → va_S A s.heap H locs → W p l e (headSpec (.code y_Md_bridge b_Md_bridge 2 (some .int) :: TB) ({ frames := 1, cells := 0, slots := 0, locals := 22 })).room s m [.ref q0, .int p_0].toArray below meth c H locs 0 0 (MQ below (va_Qi (fun r (u : TSt) => Ok u.1 u.2 ∧ Ext W_Md_bridge_w L f u.1 u.2 ∧ (True) ∧ Q r u.1 u.2) (fun (u : TSt) t => va_P (dC, dI) vwCl (TW ct u.1 u.2) t.heap ∧ va_K (dC, dI) vwCl (TT ct) t ∧ va_D (va_A (TW ct L f) s.heap.size) (TW ct u.1 u.2)) (va_A (TW ct L f) s.heap.size)) [.ref q0, .int p_0].toArray s 0 0 (va_A (TW ct L f) s.heap.size)) (F0 m 0 ls []) from hGo _ _ hP hS
  clear hP hS
  intro H locs hP hS
  unfold wp_Md_bridge_w at hQ
  refine lv_iload_n hx hb d_Md_bridge_0 rfl (lv_at hl 1 rfl) ?_
  refine lv_iconst (v := (-1)) hx hb d_Md_bridge_1 (by decide +kernel) ?_
  refine lv_icmp_eq (tgt := 21) hx hb d_Md_bridge_2 (by decide) (fun c_1 => ?_) (fun c_1 => ?_)
  · have hQ := hQ.1 c_1
    refine lv_aload_n hx hb d_Md_bridge_21 rfl (lv_at hl 0 rfl) ?_
    refine lv_iload_n hx hb d_Md_bridge_22 rfl (lv_at hl 1 rfl) ?_
    refine tw_puti (v := p_0) (D := (dC, dI)) (C := R_Md) (T := F_Md) (N := 64) (ci := 7) (kd := 27) (ct := ct) (ty := .int) hx hb htb i_Md t_Md t_Md_ok n_Md hown hK hP hD hS hO_0 m0 rfl rfl 4 (by decide) (htb (.fieldLink R_Md 35 "WaterMenModel" "bridge" "I") tw_206) (fun _ h9 => h9) rfl (by decide +kernel) rfl rfl rfl (i32_full _) d_Md_bridge_23 (fun f_1 H locs hP hD hS hO_1 hE_1 w_2 hF_1 => ?_)
    have hA_1 := hA_0.trans hE_1
    have hQ := hQ f_1 hF_1
    have hQ := hQ hO_1
    refine lv_iconst (v := 1) hx hb d_Md_bridge_26 (by decide +kernel) ?_
    refine W.widen (k := 0) (n := 0) (Nat.le_of_ble_eq_true rfl) (Nat.le_of_ble_eq_true rfl) ?_
    exact W.iret (v := 1) hx hb hr (fun t ht hW => ⟨⟨1, (L, f_1), rfl, ⟨hO_1, hA_1.mono (by decide +kernel), trivial, hQ⟩, by rw [ht]; exact hP, va_K.moved hW.alike hK, by rw [hAe]; exact hD⟩, by rw [hAe]; exact hS.F ht⟩) (by rw [hAe]; exact hS.2.2) d_Md_bridge_27
  · have hQ := hQ.2 c_1
    refine lv_iload_n hx hb d_Md_bridge_5 rfl (lv_at hl 1 rfl) ?_
    refine lv_iconst (v := 0) hx hb d_Md_bridge_6 (by decide +kernel) ?_
    refine lv_aload_n hx hb d_Md_bridge_7 rfl (lv_at hl 0 rfl) ?_
    refine tw_geti (D := (dC, dI)) (C := R_Md) (T := F_Md) (N := 64) (ci := 7) (kd := 27) (ct := ct) hx hb htb i_Md hown hK hP hO_0 m0 rfl rfl 2 (by decide) (htb (.fieldLink R_Md 14 "WaterMenModel" "stairs" "I") tw_97) (fun _ h9 => h9) rfl d_Md_bridge_8 (fun x_3 e_3 b_3 => ?_)
    have hQ := hQ x_3 e_3
    refine lv_iconst (v := 2) hx hb d_Md_bridge_11 (by decide +kernel) ?_
    refine lv_isub hx hb d_Md_bridge_12 ?_
    refine vp_callSi (va_Run.run (va_runS (As := [.int p_0, .int 0, .int (x_3 - 2)]) (rest := []) ⟨hx, hb, hml, hown, htb⟩ (c_Md_in l p_0 0 (x_3 - 2)) (cwS 3 htb (gd_S tw_90 tw_91 tw_89 tw_88) rfl rfl rfl (by decide +kernel) ⟨Nat.le_of_ble_eq_true rfl, Nat.le_of_ble_eq_true rfl⟩) ⟨fun _ _ _ _ h => h, fun U _ _ => ⟨rfl, trivial⟩⟩ rfl rfl hl.1 rfl (lv_room (Nat.le_of_ble_eq_true rfl)) d_Md_bridge_13 ⟨Nat.le_of_ble_eq_true rfl, Nat.le_of_ble_eq_true rfl⟩)) (fun r er => ?_)
    subst er
    by_cases c_5 : p_0 < 0
    · have hQ := hQ.1 c_5
      refine hb_ti 0 (by unfold f_Md_in; rw [if_pos c_5]; first | done | rfl) ?_
      refine lv_if_ne (tgt := 21) hx hb d_Md_bridge_16 (by decide) (fun h => absurd (by decide +kernel) h) (fun _ => ?_)
      refine lv_iconst (v := (-1)) hx hb d_Md_bridge_19 (by decide +kernel) ?_
      refine W.widen (k := 0) (n := 0) (Nat.le_of_ble_eq_true rfl) (Nat.le_of_ble_eq_true rfl) ?_
      exact W.iret (v := (-1)) hx hb hr (fun t ht hW => ⟨⟨(-1), (L, f), rfl, ⟨hO_0, hA_0.mono (by decide +kernel), trivial, hQ⟩, by rw [ht]; exact hP, va_K.moved hW.alike hK, by rw [hAe]; exact hD⟩, by rw [hAe]; exact hS.F ht⟩) (by rw [hAe]; exact hS.2.2) d_Md_bridge_20
    · have hQ := hQ.2 c_5
      by_cases c_6 : (x_3 - 2) < p_0
      · have hQ := hQ.1 c_6
        refine hb_ti 0 (by unfold f_Md_in; rw [if_neg c_5, if_pos c_6]; first | done | rfl) ?_
        refine lv_if_ne (tgt := 21) hx hb d_Md_bridge_16 (by decide) (fun h => absurd (by decide +kernel) h) (fun _ => ?_)
        refine lv_iconst (v := (-1)) hx hb d_Md_bridge_19 (by decide +kernel) ?_
        refine W.widen (k := 0) (n := 0) (Nat.le_of_ble_eq_true rfl) (Nat.le_of_ble_eq_true rfl) ?_
        exact W.iret (v := (-1)) hx hb hr (fun t ht hW => ⟨⟨(-1), (L, f), rfl, ⟨hO_0, hA_0.mono (by decide +kernel), trivial, hQ⟩, by rw [ht]; exact hP, va_K.moved hW.alike hK, by rw [hAe]; exact hD⟩, by rw [hAe]; exact hS.F ht⟩) (by rw [hAe]; exact hS.2.2) d_Md_bridge_20
      · have hQ := hQ.2 c_6
        refine hb_ti 1 (by unfold f_Md_in; rw [if_neg c_5, if_neg c_6]; first | done | rfl) ?_
        refine lv_if_ne (tgt := 21) hx hb d_Md_bridge_16 (by decide) (fun _ => ?_) (fun h => absurd h (by decide +kernel))
        refine lv_aload_n hx hb d_Md_bridge_21 rfl (lv_at hl 0 rfl) ?_
        refine lv_iload_n hx hb d_Md_bridge_22 rfl (lv_at hl 1 rfl) ?_
        refine tw_puti (v := p_0) (D := (dC, dI)) (C := R_Md) (T := F_Md) (N := 64) (ci := 7) (kd := 27) (ct := ct) (ty := .int) hx hb htb i_Md t_Md t_Md_ok n_Md hown hK hP hD hS hO_0 m0 rfl rfl 4 (by decide) (htb (.fieldLink R_Md 35 "WaterMenModel" "bridge" "I") tw_206) (fun _ h9 => h9) rfl (by decide +kernel) rfl rfl rfl (i32_full _) d_Md_bridge_23 (fun f_1 H locs hP hD hS hO_1 hE_1 w_7 hF_1 => ?_)
        have hA_1 := hA_0.trans hE_1
        have hQ := hQ f_1 hF_1
        have hQ := hQ hO_1
        refine lv_iconst (v := 1) hx hb d_Md_bridge_26 (by decide +kernel) ?_
        refine W.widen (k := 0) (n := 0) (Nat.le_of_ble_eq_true rfl) (Nat.le_of_ble_eq_true rfl) ?_
        exact W.iret (v := 1) hx hb hr (fun t ht hW => ⟨⟨1, (L, f_1), rfl, ⟨hO_1, hA_1.mono (by decide +kernel), trivial, hQ⟩, by rw [ht]; exact hP, va_K.moved hW.alike hK, by rw [hAe]; exact hD⟩, by rw [hAe]; exact hS.F ht⟩) (by rw [hAe]; exact hS.2.2) d_Md_bridge_27
def f_WM_isSunday  (p_0 : Int32) : Int32 := if (p_0 - p_0 / 7 * 7) = 0 then (1) else (0)
set_option maxHeartbeats 4000000 in
set_option maxRecDepth 100000 in
theorem c_WM_isSunday (l : Launch)  (p_0 : Int32)  : Met l y_WM_isSunday (.code y_WM_isSunday b_WM_isSunday 1 (some .boolean) :: TB) ({ frames := 0, cells := 0, slots := 0, locals := 0 }) (va_Pc [.int p_0] (fun _ => True)) (vp_Si (fun r => r = f_WM_isSunday p_0)) 0 0 (fun _ => False) := by
  refine Met.ofW (cc := b_WM_isSunday) (maxL := 1) (ret := (some .boolean)) (by decide) rfl ?_
  intro p e s m args below meth c s₁ B hml hv
  obtain ⟨rfl, -⟩ := hv
  have hx := B.exec
  have hb := B.bytes
  have hr := B.returns
  have hts := atoms_spec (ws := (.code y_WM_isSunday b_WM_isSunday 1 (some .boolean) :: TB)) B.pre
  have htb := fun w (h : w ∈ TB) => hts w (List.mem_cons_of_mem _ h)
  have hown : s.vm.findClass R_WM = some m.cls := findClass_of_methodNamed B.named
  have hlocks := B.notSynchronized
  have hl := lv_entry ([.int p_0]) (n := 1) (Nat.le_of_ble_eq_true rfl)
  rw [lg_entry_eq]
  generalize (lg_sl ([.int p_0]) ++ List.replicate (1 - (lg_sl ([.int p_0])).length) Slot.unset).toArray = ls at hl ⊢
  have hl : lv_has ls 1 [(0, .int p_0)] := hl
  refine lv_iload_n hx hb d_WM_isSunday_0 rfl (lv_at hl 0 rfl) ?_
  refine lv_bipush (v := 7) hx hb d_WM_isSunday_1 (by decide +kernel) ?_
  refine lv_irem hx hb d_WM_isSunday_3 (by decide) ?_
  refine lv_if_ne (tgt := 11) hx hb d_WM_isSunday_4 (by decide) (fun c_1 => ?_) (fun c_1 => ?_)
  · refine lv_iconst (v := 0) hx hb d_WM_isSunday_11 (by decide +kernel) ?_
    exact W.zret (v := 0) hx hb hr (by decide +kernel) (fun t ht hW => ⟨0, rfl, (by unfold f_WM_isSunday; rw [if_neg c_1]), ht⟩) t_nil d_WM_isSunday_12
  · refine lv_iconst (v := 1) hx hb d_WM_isSunday_7 (by decide +kernel) ?_
    refine lv_goto (tgt := 12) hx hb d_WM_isSunday_8 (by decide) ?_
    exact W.zret (v := 1) hx hb hr (by decide +kernel) (fun t ht hW => ⟨1, rfl, (by unfold f_WM_isSunday; rw [if_pos c_1]), ht⟩) t_nil d_WM_isSunday_12
def W_Bx_receive_t : List (Nat × Nat) := [(12, 0), (13, 1000)]
set_option maxHeartbeats 4000000 in
set_option maxRecDepth 100000 in
theorem c_Bx_receive_t (l : Launch) (dC : Nat → ClassId) (dI : Nat → Nat → Nat) (ct : Nat → ClassId) (L : List Nat) (f : TF) (hO_0 : Ok L f) (q0 : Nat) (m0 : q0 ∈ L ∧ tk f q0 = 12) (sz : Nat) (p_0 : Int32) (p_1 : Int32)   : Met l y_Bx_receive (.code y_Bx_receive b_Bx_receive 3 none :: TB) ({ frames := 1, cells := 0, slots := 0, locals := 20 }) (va_Pc [.ref q0, .int p_0, .int p_1] (PC dC dI (TW ct L f) (TT ct) sz)) (va_Qv (fun (u : TSt) => Ok u.1 u.2 ∧ Ext W_Bx_receive_t L f u.1 u.2 ∧ (True)) (fun (u : TSt) t => va_P (dC, dI) vwCl (TW ct u.1 u.2) t.heap ∧ va_K (dC, dI) vwCl (TT ct) t ∧ va_D (va_A (TW ct L f) sz) (TW ct u.1 u.2)) (va_A (TW ct L f) sz)) 0 0 (va_A (TW ct L f) sz) := by
  refine Met.ofW (cc := b_Bx_receive) (maxL := 3) (ret := none) (by decide) rfl ?_
  intro p e s m args below meth c s₁ B hml hv
  obtain ⟨rfl, hsz, hP, hK, hD0, hN⟩ := hv
  have hx := B.exec
  have hb := B.bytes
  have hr := B.returns
  have hts := atoms_spec (ws := (.code y_Bx_receive b_Bx_receive 3 none :: TB)) B.pre
  have htb := fun w (h : w ∈ TB) => hts w (List.mem_cons_of_mem _ h)
  have hown : s.vm.findClass R_Bx = some m.cls := findClass_of_methodNamed B.named
  have hlocks := B.notSynchronized
  have hl := lv_entry ([.ref q0, .int p_0, .int p_1]) (n := 3) (Nat.le_of_ble_eq_true rfl)
  rw [lg_entry_eq]
  generalize (lg_sl ([.ref q0, .int p_0, .int p_1]) ++ List.replicate (3 - (lg_sl ([.ref q0, .int p_0, .int p_1])).length) Slot.unset).toArray = ls at hl ⊢
  have hl : lv_has ls 3 [(0, .ref q0), (1, .int p_0), (2, .int p_1)] := hl
  subst hsz
  have hD := hD0.self (sz := s.heap.size)
  obtain ⟨A, hAe⟩ : ∃ A, va_A (TW ct L f) s.heap.size = A := ⟨_, rfl⟩
  rw [hAe] at hD
  have hA : ∀ q : Nat, s.heap.size ≤ q → A q := fun q h => by rw [← hAe]; exact Or.inr h
  have hS : va_S A s.heap s.heap [] := va_S.rf
  have hA_0 : Ext [] L f L f := Ext.rf
  suffices hGo : ∀ (H : Heap) (locs : List Loc), va_P (dC, dI) vwCl (TW ct L f) H → va_S A s.heap H locs → W p l e (headSpec (.code y_Bx_receive b_Bx_receive 3 none :: TB) ({ frames := 1, cells := 0, slots := 0, locals := 20 })).room s m [.ref q0, .int p_0, .int p_1].toArray below meth c H locs 0 0 (MQ below (va_Qv (fun (u : TSt) => Ok u.1 u.2 ∧ Ext W_Bx_receive_t L f u.1 u.2 ∧ (True)) (fun (u : TSt) t => va_P (dC, dI) vwCl (TW ct u.1 u.2) t.heap ∧ va_K (dC, dI) vwCl (TT ct) t ∧ va_D (va_A (TW ct L f) s.heap.size) (TW ct u.1 u.2)) (va_A (TW ct L f) s.heap.size)) [.ref q0, .int p_0, .int p_1].toArray s 0 0 (va_A (TW ct L f) s.heap.size)) (F0 m 0 ls []) from hGo _ _ hP hS
  clear hP hS
  intro H locs hP hS
  refine lv_aload_n hx hb d_Bx_receive_0 rfl (lv_at hl 0 rfl) ?_
  refine lv_dup hx hb d_Bx_receive_1 rfl ?_
  refine tw_geti (D := (dC, dI)) (C := R_Bx) (T := F_Bx) (N := 7) (ci := 5) (kd := 12) (ct := ct) hx hb htb i_Bx hown hK hP hO_0 m0 rfl rfl 0 (by decide) (htb (.fieldLink R_Bx 21 "WaterMen$Box" "coins" "I") tw_57) (fun _ h9 => h9) rfl d_Bx_receive_2 (fun x_1 e_1 b_1 => ?_)
  refine lv_iload_n hx hb d_Bx_receive_5 rfl (lv_at hl 2 rfl) ?_
  refine lv_iadd hx hb d_Bx_receive_6 ?_
  refine tw_puti (v := (x_1 + p_1)) (D := (dC, dI)) (C := R_Bx) (T := F_Bx) (N := 7) (ci := 5) (kd := 12) (ct := ct) (ty := .int) hx hb htb i_Bx t_Bx t_Bx_ok n_Bx hown hK hP hD hS hO_0 m0 rfl rfl 0 (by decide) (htb (.fieldLink R_Bx 21 "WaterMen$Box" "coins" "I") tw_57) (fun _ h9 => h9) rfl (by decide +kernel) rfl rfl rfl (i32_full _) d_Bx_receive_7 (fun f_1 H locs hP hD hS hO_1 hE_1 w_2 hF_1 => ?_)
  have hA_1 := hA_0.trans hE_1
  refine lv_iload_n hx hb d_Bx_receive_10 rfl (lv_at hl 1 rfl) ?_
  refine vp_callSi (va_Run.run (va_runSN (As := [.int p_0]) (rest := []) ⟨hx, hb, hml, hown, htb⟩ (c_WM_isDay l p_0) ⟨va_cnB 1 htb (gd_I tw_126) rfl rfl rfl (hN.1 _ nw_7) (htb (.initialized R_WM) tw_26) (by decide +kernel) ⟨Nat.le_of_ble_eq_true rfl, Nat.le_of_ble_eq_true rfl⟩, (htb (.static y_WM_isDay) tw_128), trivial⟩ ⟨fun _ _ _ _ h => h, fun U _ _ => ⟨rfl, trivial⟩⟩ rfl rfl hl.1 rfl (lv_room (Nat.le_of_ble_eq_true rfl)) d_Bx_receive_11 ⟨Nat.le_of_ble_eq_true rfl, Nat.le_of_ble_eq_true rfl⟩)) (fun r er => ?_)
  subst er
  by_cases c_4 : p_0 < 0
  · refine hb_ti 0 (by unfold f_WM_isDay; rw [if_pos c_4]; first | done | rfl) ?_
    refine lv_if_eq (tgt := 27) hx hb d_Bx_receive_14 (by decide) (fun _ => ?_) (fun h => absurd (by decide +kernel) h)
    refine W.widen (k := 0) (n := 0) (Nat.le_of_ble_eq_true rfl) (Nat.le_of_ble_eq_true rfl) ?_
    exact W.vret hx hb hr (fun t ht hW => ⟨⟨(L, f_1), rfl, ⟨hO_1, hA_1.mono (by decide +kernel), trivial⟩, by rw [ht]; exact hP, va_K.moved hW.alike hK, by rw [hAe]; exact hD⟩, by rw [hAe]; exact hS.F ht⟩) (by rw [hAe]; exact hS.2.2) d_Bx_receive_27
  · by_cases c_5 : 500 ≤ p_0
    · refine hb_ti 0 (by unfold f_WM_isDay; rw [if_neg c_4, if_pos c_5]; first | done | rfl) ?_
      refine lv_if_eq (tgt := 27) hx hb d_Bx_receive_14 (by decide) (fun _ => ?_) (fun h => absurd (by decide +kernel) h)
      refine W.widen (k := 0) (n := 0) (Nat.le_of_ble_eq_true rfl) (Nat.le_of_ble_eq_true rfl) ?_
      exact W.vret hx hb hr (fun t ht hW => ⟨⟨(L, f_1), rfl, ⟨hO_1, hA_1.mono (by decide +kernel), trivial⟩, by rw [ht]; exact hP, va_K.moved hW.alike hK, by rw [hAe]; exact hD⟩, by rw [hAe]; exact hS.F ht⟩) (by rw [hAe]; exact hS.2.2) d_Bx_receive_27
    · refine hb_ti 1 (by unfold f_WM_isDay; rw [if_neg c_4, if_neg c_5]; first | done | rfl) ?_
      refine lv_if_eq (tgt := 27) hx hb d_Bx_receive_14 (by decide) (fun h => absurd h (by decide +kernel)) (fun _ => ?_)
      refine lv_aload_n hx hb d_Bx_receive_17 rfl (lv_at hl 0 rfl) ?_
      refine tw_getr (D := (dC, dI)) (C := R_Bx) (T := F_Bx) (N := 7) (ci := 5) (kd := 12) (ct := ct) hx hb htb i_Bx hown hK hP hO_1 (hA_1.m m0) rfl rfl 4 (by decide) (htb (.fieldLink R_Bx 9 "WaterMen$Box" "income" "[I") tw_71) (fun _ h9 => h9) rfl d_Bx_receive_18 (fun q_6 e_6 m_6 => ?_)
      refine lv_iload_n hx hb d_Bx_receive_21 rfl (lv_at hl 1 rfl) ?_
      refine lv_dup2_11 hx hb d_Bx_receive_22 rfl rfl ?_
      refine tw_aldI (ct := ct) hx hb hK hP hO_1 m_6 rfl (hb_in c_4 c_5 (by decide +kernel)) d_Bx_receive_23 (fun x_7 e_7 b_7 => ?_)
      refine lv_iload_n hx hb d_Bx_receive_24 rfl (lv_at hl 2 rfl) ?_
      refine lv_iadd hx hb d_Bx_receive_25 ?_
      refine tw_astI (ct := ct) (x := (x_7 + p_1)) hx hb hK hP hD hS hO_1 m_6 rfl (hb_in c_4 c_5 (by decide +kernel)) (i32_full _) d_Bx_receive_26 (fun f_2 H locs hP hD hS hO_2 hE_2 w_8 ow_8 hF_2 => ?_)
      have hA_2 := hA_1.trans hE_2
      refine W.widen (k := 0) (n := 0) (Nat.le_of_ble_eq_true rfl) (Nat.le_of_ble_eq_true rfl) ?_
      exact W.vret hx hb hr (fun t ht hW => ⟨⟨(L, f_2), rfl, ⟨hO_2, hA_2.mono (by decide +kernel), trivial⟩, by rw [ht]; exact hP, va_K.moved hW.alike hK, by rw [hAe]; exact hD⟩, by rw [hAe]; exact hS.F ht⟩) (by rw [hAe]; exact hS.2.2) d_Bx_receive_27
def WL_WM_partPot_t_67_9 : List (Nat × Nat) := [(20, 4)]
def W_WM_partPot_t : List (Nat × Nat) := [(12, 0), (12, 1), (13, 1000), (20, 4)]
set_option maxHeartbeats 4000000 in
set_option maxRecDepth 100000 in
theorem c_WM_partPot_t (l : Launch) (dC : Nat → ClassId) (dI : Nat → Nat → Nat) (ct : Nat → ClassId) (L : List Nat) (f : TF) (hO_0 : Ok L f) (q0 : Nat) (m0 : q0 ∈ L ∧ tk f q0 = 0) (sz : Nat) (p_0 : Int32)   : Met l y_WM_partPot (.code y_WM_partPot b_WM_partPot 6 none :: TB) ({ frames := 2, cells := 0, slots := 0, locals := 42 }) (va_Pc [.ref q0, .int p_0] (PC dC dI (TW ct L f) (TT ct) sz)) (va_Qv (fun (u : TSt) => Ok u.1 u.2 ∧ Ext W_WM_partPot_t L f u.1 u.2 ∧ (True)) (fun (u : TSt) t => va_P (dC, dI) vwCl (TW ct u.1 u.2) t.heap ∧ va_K (dC, dI) vwCl (TT ct) t ∧ va_D (va_A (TW ct L f) sz) (TW ct u.1 u.2)) (va_A (TW ct L f) sz)) 0 0 (va_A (TW ct L f) sz) := by
  refine Met.ofW (cc := b_WM_partPot) (maxL := 6) (ret := none) (by decide) rfl ?_
  intro p e s m args below meth c s₁ B hml hv
  obtain ⟨rfl, hsz, hP, hK, hD0, hN⟩ := hv
  have hx := B.exec
  have hb := B.bytes
  have hr := B.returns
  have hts := atoms_spec (ws := (.code y_WM_partPot b_WM_partPot 6 none :: TB)) B.pre
  have htb := fun w (h : w ∈ TB) => hts w (List.mem_cons_of_mem _ h)
  have hown : s.vm.findClass R_WM = some m.cls := findClass_of_methodNamed B.named
  have hlocks := B.notSynchronized
  have hl := lv_entry ([.ref q0, .int p_0]) (n := 6) (Nat.le_of_ble_eq_true rfl)
  rw [lg_entry_eq]
  generalize (lg_sl ([.ref q0, .int p_0]) ++ List.replicate (6 - (lg_sl ([.ref q0, .int p_0])).length) Slot.unset).toArray = ls at hl ⊢
  have hl : lv_has ls 6 [(0, .ref q0), (1, .int p_0)] := hl
  subst hsz
  have hD := hD0.self (sz := s.heap.size)
  obtain ⟨A, hAe⟩ : ∃ A, va_A (TW ct L f) s.heap.size = A := ⟨_, rfl⟩
  rw [hAe] at hD
  have hA : ∀ q : Nat, s.heap.size ≤ q → A q := fun q h => by rw [← hAe]; exact Or.inr h
  have hS : va_S A s.heap s.heap [] := va_S.rf
  have hA_0 : Ext [] L f L f := Ext.rf
  suffices hGo : ∀ (H : Heap) (locs : List Loc), va_P (dC, dI) vwCl (TW ct L f) H → va_S A s.heap H locs → W p l e (headSpec (.code y_WM_partPot b_WM_partPot 6 none :: TB) ({ frames := 2, cells := 0, slots := 0, locals := 42 })).room s m [.ref q0, .int p_0].toArray below meth c H locs 0 0 (MQ below (va_Qv (fun (u : TSt) => Ok u.1 u.2 ∧ Ext W_WM_partPot_t L f u.1 u.2 ∧ (True)) (fun (u : TSt) t => va_P (dC, dI) vwCl (TW ct u.1 u.2) t.heap ∧ va_K (dC, dI) vwCl (TT ct) t ∧ va_D (va_A (TW ct L f) s.heap.size) (TW ct u.1 u.2)) (va_A (TW ct L f) s.heap.size)) [.ref q0, .int p_0].toArray s 0 0 (va_A (TW ct L f) s.heap.size)) (F0 m 0 ls []) from hGo _ _ hP hS
  clear hP hS
  intro H locs hP hS
  refine lv_iload_n hx hb d_WM_partPot_0 rfl (lv_at hl 1 rfl) ?_
  refine vp_callSi (va_Run.run (va_runS (As := [.int p_0]) (rest := []) ⟨hx, hb, hml, hown, htb⟩ (c_WM_isSunday l p_0) (cwS 1 htb (gd_S tw_209 tw_210 tw_26 tw_208) rfl rfl rfl (by decide +kernel) ⟨Nat.le_of_ble_eq_true rfl, Nat.le_of_ble_eq_true rfl⟩) ⟨fun _ _ _ _ h => h, fun U _ _ => ⟨rfl, trivial⟩⟩ rfl rfl hl.1 rfl (lv_room (Nat.le_of_ble_eq_true rfl)) d_WM_partPot_1 ⟨Nat.le_of_ble_eq_true rfl, Nat.le_of_ble_eq_true rfl⟩)) (fun r er => ?_)
  subst er
  by_cases c_2 : (p_0 - p_0 / 7 * 7) = 0
  · refine hb_ti 1 (by unfold f_WM_isSunday; rw [if_pos c_2]; first | done | rfl) ?_
    refine lv_if_ne (tgt := 8) hx hb d_WM_partPot_4 (by decide) (fun _ => ?_) (fun h => absurd h (by decide +kernel))
    refine lv_iconst (v := 0) hx hb d_WM_partPot_8 (by decide +kernel) ?_
    refine lv_istore_n (lv' := [(2, .int 0), (0, .ref q0), (1, .int p_0)]) hx hb d_WM_partPot_9 rfl hl (by decide) rfl (fun ls hl => ?_)
    refine lv_iconst (v := 0) hx hb d_WM_partPot_10 (by decide +kernel) ?_
    refine lv_istore_n (lv' := [(3, .int 0), (2, .int 0), (0, .ref q0), (1, .int p_0)]) hx hb d_WM_partPot_11 rfl hl (by decide) rfl (fun ls hl => ?_)
    have cut_3 : ∀ (n_3 : Nat) (v2_3 v3_3 : Int32) (ls : Array Slot), ¬ (v3_3 < 0) → ¬ (40 < v3_3) → (40 : Int32).toInt - (v3_3 : Int32).toInt ≤ (n_3 : Int) → lv_has ls 6 [(0, .ref q0), (1, .int p_0), (2, .int v2_3), (3, .int v3_3)] → W p l e (headSpec (.code y_WM_partPot b_WM_partPot 6 none :: TB) ({ frames := 2, cells := 0, slots := 0, locals := 42 })).room s m [.ref q0, .int p_0].toArray below meth c H locs 0 0 (MQ below (va_Qv (fun (u : TSt) => Ok u.1 u.2 ∧ Ext W_WM_partPot_t L f u.1 u.2 ∧ (True)) (fun (u : TSt) t => va_P (dC, dI) vwCl (TW ct u.1 u.2) t.heap ∧ va_K (dC, dI) vwCl (TT ct) t ∧ va_D (va_A (TW ct L f) s.heap.size) (TW ct u.1 u.2)) (va_A (TW ct L f) s.heap.size)) [.ref q0, .int p_0].toArray s 0 0 (va_A (TW ct L f) s.heap.size)) (F0 m 12 ls []) := by
      intro n_3
      induction n_3 using Nat.strongRecOn with
      | _ n_3 ih_3 =>
        intro v2_3 v3_3 ls iv0_3 iv1_3 hm_3 hl
        refine lv_iload_n hx hb d_WM_partPot_12 rfl (lv_at hl 3 rfl) ?_
        refine lv_bipush (v := 40) hx hb d_WM_partPot_13 (by decide +kernel) ?_
        refine lv_icmp_ge (tgt := 49) hx hb d_WM_partPot_15 (by decide) (fun c_4 => ?_) (fun c_4 => ?_)
        · refine lv_iload_n hx hb d_WM_partPot_49 rfl (lv_at hl 2 rfl) ?_
          refine lv_if_ne (tgt := 54) hx hb d_WM_partPot_50 (by decide) (fun c_5 => ?_) (fun c_5 => ?_)
          · refine lv_aload_n hx hb d_WM_partPot_54 rfl (lv_at hl 0 rfl) ?_
            refine tw_getr (D := (dC, dI)) (C := R_WM) (T := F_WM) (N := 13) (ci := 0) (kd := 0) (ct := ct) hx hb htb i_WM hown hK hP hO_0 m0 rfl rfl 6 (by decide) (htb (.fieldLink R_WM 50 "WaterMen" "box" "LWaterMen$Box;") tw_48) (fun _ h9 => h9) rfl d_WM_partPot_55 (fun q_6 e_6 m_6 => ?_)
            refine tw_geti (D := (dC, dI)) (C := R_Bx) (T := F_Bx) (N := 7) (ci := 5) (kd := 12) (ct := ct) hx hb htb i_Bx hown hK hP hO_0 m_6 rfl rfl 1 (by decide) (htb (.fieldLink R_WM 344 "WaterMen$Box" "pot" "I") tw_81) (fun _ h9 => h9) rfl d_WM_partPot_58 (fun x_7 e_7 b_7 => ?_)
            refine lv_iload_n hx hb d_WM_partPot_61 rfl (lv_at hl 2 rfl) ?_
            refine lv_idiv hx hb d_WM_partPot_62 c_5 ?_
            refine hb_anyi (fun y_8 => ?_)
            refine lv_istore_n (lv' := [(3, .int y_8), (0, .ref q0), (1, .int p_0), (2, .int v2_3)]) hx hb d_WM_partPot_63 rfl hl (by decide) rfl (fun ls hl => ?_)
            refine lv_iconst (v := 0) hx hb d_WM_partPot_64 (by decide +kernel) ?_
            refine lv_istore (lv' := [(4, .int 0), (3, .int y_8), (0, .ref q0), (1, .int p_0), (2, .int v2_3)]) hx hb d_WM_partPot_65 hl (by decide) rfl (fun ls hl => ?_)
            have cut_9 : ∀ (n_9 : Nat) (v4_9 : Int32) (L_1 : List Nat) (f_1 : TF) (H : Heap) (locs : List Loc) (ls : Array Slot), va_P (dC, dI) vwCl (TW ct L_1 f_1) H → va_D A (TW ct L_1 f_1) → va_S A s.heap H locs → Ok L_1 f_1 → Ext WL_WM_partPot_t_67_9 L f L_1 f_1 → ¬ (v4_9 < 0) → ¬ (40 < v4_9) → (40 : Int32).toInt - (v4_9 : Int32).toInt ≤ (n_9 : Int) → lv_has ls 6 [(0, .ref q0), (1, .int p_0), (2, .int v2_3), (3, .int y_8), (4, .int v4_9)] → W p l e (headSpec (.code y_WM_partPot b_WM_partPot 6 none :: TB) ({ frames := 2, cells := 0, slots := 0, locals := 42 })).room s m [.ref q0, .int p_0].toArray below meth c H locs 0 0 (MQ below (va_Qv (fun (u : TSt) => Ok u.1 u.2 ∧ Ext W_WM_partPot_t L f u.1 u.2 ∧ (True)) (fun (u : TSt) t => va_P (dC, dI) vwCl (TW ct u.1 u.2) t.heap ∧ va_K (dC, dI) vwCl (TT ct) t ∧ va_D (va_A (TW ct L f) s.heap.size) (TW ct u.1 u.2)) (va_A (TW ct L f) s.heap.size)) [.ref q0, .int p_0].toArray s 0 0 (va_A (TW ct L f) s.heap.size)) (F0 m 67 ls []) := by
              intro n_9
              induction n_9 using Nat.strongRecOn with
              | _ n_9 ih_9 =>
                intro v4_9 L_1 f_1 H locs ls hP hD hS hO_1 hE_1 iv0_9 iv1_9 hm_9 hl
                have hA_1 := hA_0.trans hE_1
                refine lv_iload hx hb d_WM_partPot_67 (lv_at hl 4 rfl) ?_
                refine lv_bipush (v := 40) hx hb d_WM_partPot_69 (by decide +kernel) ?_
                refine lv_icmp_ge (tgt := 114) hx hb d_WM_partPot_71 (by decide) (fun c_10 => ?_) (fun c_10 => ?_)
                · refine lv_aload_n hx hb d_WM_partPot_114 rfl (lv_at hl 0 rfl) ?_
                  refine tw_getR (D := (dC, dI)) (C := R_WM) (T := F_WM) (N := 13) (ci := 0) (kd := 0) (ct := ct) hx hb htb i_WM hown hK hP (hA_1.m m0) rfl rfl 6 ((hA_1.er m0 rfl).trans e_6) (by decide) (htb (.fieldLink R_WM 50 "WaterMen" "box" "LWaterMen$Box;") tw_48) (fun _ h9 => h9) rfl d_WM_partPot_115 ?_
                  refine hb_tv (.ref q_6) rfl ?_
                  refine lv_iload_n hx hb d_WM_partPot_118 rfl (lv_at hl 1 rfl) ?_
                  refine lv_aload_n hx hb d_WM_partPot_119 rfl (lv_at hl 0 rfl) ?_
                  refine tw_getR (D := (dC, dI)) (C := R_WM) (T := F_WM) (N := 13) (ci := 0) (kd := 0) (ct := ct) hx hb htb i_WM hown hK hP (hA_1.m m0) rfl rfl 6 ((hA_1.er m0 rfl).trans e_6) (by decide) (htb (.fieldLink R_WM 50 "WaterMen" "box" "LWaterMen$Box;") tw_48) (fun _ h9 => h9) rfl d_WM_partPot_120 ?_
                  refine hb_tv (.ref q_6) rfl ?_
                  refine tw_getI (x := x_7) (D := (dC, dI)) (C := R_Bx) (T := F_Bx) (N := 7) (ci := 5) (kd := 12) (ct := ct) hx hb htb i_Bx hown hK hP (hA_1.m m_6) rfl rfl 1 ((hA_1.ei m_6 rfl).trans e_7) (by decide) (htb (.fieldLink R_WM 344 "WaterMen$Box" "pot" "I") tw_81) (fun _ h9 => h9) rfl d_WM_partPot_123 ?_
                  refine lv_iload_n hx hb d_WM_partPot_126 rfl (lv_at hl 3 rfl) ?_
                  refine lv_iload_n hx hb d_WM_partPot_127 rfl (lv_at hl 2 rfl) ?_
                  refine lv_imul hx hb d_WM_partPot_128 ?_
                  refine lv_isub hx hb d_WM_partPot_129 ?_
                  have hFc := hb_free hD hS hA
                  refine va_callv (va_runV (As := [.int p_0, .int (x_7 - (y_8 * v2_3))]) (rest := []) ⟨hx, hb, hml, hown, htb⟩ (c_Bx_receive_t l dC dI ct L_1 f_1 hO_1 q_6 (hA_1.m m_6) _ p_0 (x_7 - (y_8 * v2_3))) (cwV 2 htb (gd_V tw_212 tw_213 tw_214 tw_61 tw_211) rfl rfl rfl (by decide +kernel) ⟨Nat.le_of_ble_eq_true rfl, Nat.le_of_ble_eq_true rfl⟩) ⟨pc_blind, tw_recv hK hP (hA_1.m m_6) rfl rfl, pc_pre hP hK hD hN⟩ rfl rfl hl.1 rfl (lv_room (Nat.le_of_ble_eq_true rfl)) d_WM_partPot_130 ⟨Nat.le_of_ble_eq_true rfl, Nat.le_of_ble_eq_true rfl⟩) hS (fun q _ h => hFc q h) hFc (fun u t H locs ht hvm er hB hz1 hk1 hS => ?_)
                  obtain ⟨L_2, f_2⟩ := u
                  obtain ⟨hO_2, hE_2, er⟩ := er
                  obtain ⟨hP, hK1, hD1⟩ := hB
                  rw [ht] at hP
                  have hP : va_P (dC, dI) vwCl (TW ct L_2 f_2) H := hP
                  have hD : va_D A (TW ct L_2 f_2) := hD1.weaken (fun _ q _ h => hFc q.1 h)
                  have hO_2 : Ok L_2 f_2 := hO_2
                  have hE_2 : Ext W_Bx_receive_t L_1 f_1 L_2 f_2 := hE_2
                  clear hK1 hD1 ht hvm hz1 hk1
                  have hA_2 := hA_1.trans hE_2
                  clear er
                  refine lv_aload_n hx hb d_WM_partPot_133 rfl (lv_at hl 0 rfl) ?_
                  refine tw_getR (D := (dC, dI)) (C := R_WM) (T := F_WM) (N := 13) (ci := 0) (kd := 0) (ct := ct) hx hb htb i_WM hown hK hP (hA_2.m m0) rfl rfl 6 ((hA_2.er m0 rfl).trans e_6) (by decide) (htb (.fieldLink R_WM 50 "WaterMen" "box" "LWaterMen$Box;") tw_48) (fun _ h9 => h9) rfl d_WM_partPot_134 ?_
                  refine hb_tv (.ref q_6) rfl ?_
                  refine lv_iconst (v := 0) hx hb d_WM_partPot_137 (by decide +kernel) ?_
                  refine tw_puti (v := 0) (D := (dC, dI)) (C := R_Bx) (T := F_Bx) (N := 7) (ci := 5) (kd := 12) (ct := ct) (ty := .int) hx hb htb i_Bx t_Bx t_Bx_ok n_Bx hown hK hP hD hS hO_2 (hA_2.m m_6) rfl rfl 1 (by decide) (htb (.fieldLink R_WM 344 "WaterMen$Box" "pot" "I") tw_81) (fun _ h9 => h9) rfl (by decide +kernel) rfl rfl rfl (i32_full _) d_WM_partPot_138 (fun f_3 H locs hP hD hS hO_3 hE_3 w_12 hF_3 => ?_)
                  have hA_3 := hA_2.trans hE_3
                  refine W.widen (k := 0) (n := 0) (Nat.le_of_ble_eq_true rfl) (Nat.le_of_ble_eq_true rfl) ?_
                  exact W.vret hx hb hr (fun t ht hW => ⟨⟨(L_2, f_3), rfl, ⟨hO_3, hA_3.mono (by decide +kernel), trivial⟩, by rw [ht]; exact hP, va_K.moved hW.alike hK, by rw [hAe]; exact hD⟩, by rw [hAe]; exact hS.F ht⟩) (by rw [hAe]; exact hS.2.2) d_WM_partPot_141
                · refine lv_aload_n hx hb d_WM_partPot_74 rfl (lv_at hl 0 rfl) ?_
                  refine tw_getr (D := (dC, dI)) (C := R_WM) (T := F_WM) (N := 13) (ci := 0) (kd := 0) (ct := ct) hx hb htb i_WM hown hK hP hO_1 (hA_1.m m0) rfl rfl 1 (by decide) (htb (.fieldLink R_WM 18 "WaterMen" "men" "[LWaterMen$Man;") tw_24) (fun _ h9 => h9) rfl d_WM_partPot_75 (fun q_13 e_13 m_13 => ?_)
                  refine lv_iload hx hb d_WM_partPot_78 (lv_at hl 4 rfl) ?_
                  refine tw_aldq (ct := ct) hx hb hK hP hO_1 m_13 rfl rfl (hb_in iv0_9 c_10 (by decide +kernel)) d_WM_partPot_80 (fun e_14 => ?_) (fun q_14 e_14 m_14 => ?_)
                  · refine lv_astoreN (lv' := [(5, .null), (0, .ref q0), (1, .int p_0), (2, .int v2_3), (3, .int y_8), (4, .int v4_9)]) hx hb d_WM_partPot_81 hl (by decide) rfl (fun ls hl => ?_)
                    refine lv_aloadN hx hb d_WM_partPot_83 (lv_at hl 0 rfl) ?_
                    refine lv_ifnullN (tgt := 108) hx hb d_WM_partPot_85 (by decide) ?_
                    refine lv_iinc (v := (v4_9 + 1)) (lv' := [(4, .int (v4_9 + 1)), (5, .null), (0, .ref q0), (1, .int p_0), (2, .int v2_3), (3, .int y_8)]) hx hb d_WM_partPot_108 hl (k := 5) rfl rfl (by decide) rfl (fun ls hl => ?_)
                    refine lv_goto (tgt := 67) hx hb d_WM_partPot_111 (by decide) ?_
                    exact ih_9 (n_9 - 1) (ms_1 ((fun (a_0 : Int32) (k_0 : ¬ (40 ≤ a_0)) => (show 1 ≤ (40 : Int32).toInt - (a_0).toInt ∧ (40 : Int32).toInt - ((a_0) + (1 : Int32)).toInt + 1 ≤ (40 : Int32).toInt - (a_0).toInt from by have z0 : (1 : Int32).toInt = 1 := (by decide +kernel); have z1 : (40 : Int32).toInt = 40 := (by decide +kernel); have r0 := fb_rng (a_0); have e0 := k_0; rw [Int32.le_iff_toInt_le, z1] at e0; obtain ⟨n_0, hn_0, s0⟩ := nd_add (x := (a_0)) (y := (1 : Int32)) (by (try rw [z0]); omega) (by (try rw [z0]); omega); rw [z0] at s0; rw [hn_0]; (try rw [z1]); omega)) v4_9 c_10) hm_9) (v4_9 + 1) _ _ _ _ _ hP hD hS hO_1 (hE_1.mono (by decide +kernel)) (show ¬ ((v4_9 + 1) < 0) from by have e0 := iv0_9; rw [Int32.lt_iff_toInt_lt] at e0; have e1 := c_10; rw [Int32.le_iff_toInt_le] at e1; have z0 : (0 : Int32).toInt = 0 := (by decide +kernel); have z1 : (1 : Int32).toInt = 1 := (by decide +kernel); have z2 : (40 : Int32).toInt = 40 := (by decide +kernel); have ss := fb_addI (x := v4_9) (y := 1) (by omega) (by omega); rw [Int32.lt_iff_toInt_lt]; omega) (show ¬ (40 < (v4_9 + 1)) from by have e0 := iv0_9; rw [Int32.lt_iff_toInt_lt] at e0; have e1 := c_10; rw [Int32.le_iff_toInt_le] at e1; have z0 : (0 : Int32).toInt = 0 := (by decide +kernel); have z1 : (1 : Int32).toInt = 1 := (by decide +kernel); have z2 : (40 : Int32).toInt = 40 := (by decide +kernel); have ss := fb_addI (x := v4_9) (y := 1) (by omega) (by omega); rw [Int32.lt_iff_toInt_lt]; omega) (by exact ms_2 ((fun (a_0 : Int32) (k_0 : ¬ (40 ≤ a_0)) => (show 1 ≤ (40 : Int32).toInt - (a_0).toInt ∧ (40 : Int32).toInt - ((a_0) + (1 : Int32)).toInt + 1 ≤ (40 : Int32).toInt - (a_0).toInt from by have z0 : (1 : Int32).toInt = 1 := (by decide +kernel); have z1 : (40 : Int32).toInt = 40 := (by decide +kernel); have r0 := fb_rng (a_0); have e0 := k_0; rw [Int32.le_iff_toInt_le, z1] at e0; obtain ⟨n_0, hn_0, s0⟩ := nd_add (x := (a_0)) (y := (1 : Int32)) (by (try rw [z0]); omega) (by (try rw [z0]); omega); rw [z0] at s0; rw [hn_0]; (try rw [z1]); omega)) v4_9 c_10) hm_9) (lv_sub hl [2, 3, 4, 5, 0] rfl)
                  · refine lv_astore (lv' := [(5, .ref q_14), (0, .ref q0), (1, .int p_0), (2, .int v2_3), (3, .int y_8), (4, .int v4_9)]) hx hb d_WM_partPot_81 hl (by decide) rfl (fun ls hl => ?_)
                    refine lv_aload hx hb d_WM_partPot_83 (lv_at hl 0 rfl) ?_
                    refine lv_ifnull hx hb d_WM_partPot_85 ?_
                    refine lv_aload hx hb d_WM_partPot_88 (lv_at hl 0 rfl) ?_
                    refine tw_geti (D := (dC, dI)) (C := R_Mn) (T := F_Mn) (N := 8) (ci := 2) (kd := 20) (ct := ct) hx hb htb i_Mn hown hK hP hO_1 m_14 rfl rfl 7 (by decide) (htb (.fieldLink R_WM 394 "WaterMen$Man" "lastSunday" "I") tw_215) (fun _ h9 => h9) rfl d_WM_partPot_90 (fun x_15 e_15 b_15 => ?_)
                    refine lv_iload_n hx hb d_WM_partPot_93 rfl (lv_at hl 2 rfl) ?_
                    refine lv_icmp_ne (tgt := 108) hx hb d_WM_partPot_94 (by decide) (fun c_16 => ?_) (fun c_16 => ?_)
                    · refine lv_iinc (v := (v4_9 + 1)) (lv' := [(4, .int (v4_9 + 1)), (5, .ref q_14), (0, .ref q0), (1, .int p_0), (2, .int v2_3), (3, .int y_8)]) hx hb d_WM_partPot_108 hl (k := 5) rfl rfl (by decide) rfl (fun ls hl => ?_)
                      refine lv_goto (tgt := 67) hx hb d_WM_partPot_111 (by decide) ?_
                      exact ih_9 (n_9 - 1) (ms_1 ((fun (a_0 : Int32) (k_0 : ¬ (40 ≤ a_0)) => (show 1 ≤ (40 : Int32).toInt - (a_0).toInt ∧ (40 : Int32).toInt - ((a_0) + (1 : Int32)).toInt + 1 ≤ (40 : Int32).toInt - (a_0).toInt from by have z0 : (1 : Int32).toInt = 1 := (by decide +kernel); have z1 : (40 : Int32).toInt = 40 := (by decide +kernel); have r0 := fb_rng (a_0); have e0 := k_0; rw [Int32.le_iff_toInt_le, z1] at e0; obtain ⟨n_0, hn_0, s0⟩ := nd_add (x := (a_0)) (y := (1 : Int32)) (by (try rw [z0]); omega) (by (try rw [z0]); omega); rw [z0] at s0; rw [hn_0]; (try rw [z1]); omega)) v4_9 c_10) hm_9) (v4_9 + 1) _ _ _ _ _ hP hD hS hO_1 (hE_1.mono (by decide +kernel)) (show ¬ ((v4_9 + 1) < 0) from by have e0 := iv0_9; rw [Int32.lt_iff_toInt_lt] at e0; have e1 := c_10; rw [Int32.le_iff_toInt_le] at e1; have z0 : (0 : Int32).toInt = 0 := (by decide +kernel); have z1 : (1 : Int32).toInt = 1 := (by decide +kernel); have z2 : (40 : Int32).toInt = 40 := (by decide +kernel); have ss := fb_addI (x := v4_9) (y := 1) (by omega) (by omega); rw [Int32.lt_iff_toInt_lt]; omega) (show ¬ (40 < (v4_9 + 1)) from by have e0 := iv0_9; rw [Int32.lt_iff_toInt_lt] at e0; have e1 := c_10; rw [Int32.le_iff_toInt_le] at e1; have z0 : (0 : Int32).toInt = 0 := (by decide +kernel); have z1 : (1 : Int32).toInt = 1 := (by decide +kernel); have z2 : (40 : Int32).toInt = 40 := (by decide +kernel); have ss := fb_addI (x := v4_9) (y := 1) (by omega) (by omega); rw [Int32.lt_iff_toInt_lt]; omega) (by exact ms_2 ((fun (a_0 : Int32) (k_0 : ¬ (40 ≤ a_0)) => (show 1 ≤ (40 : Int32).toInt - (a_0).toInt ∧ (40 : Int32).toInt - ((a_0) + (1 : Int32)).toInt + 1 ≤ (40 : Int32).toInt - (a_0).toInt from by have z0 : (1 : Int32).toInt = 1 := (by decide +kernel); have z1 : (40 : Int32).toInt = 40 := (by decide +kernel); have r0 := fb_rng (a_0); have e0 := k_0; rw [Int32.le_iff_toInt_le, z1] at e0; obtain ⟨n_0, hn_0, s0⟩ := nd_add (x := (a_0)) (y := (1 : Int32)) (by (try rw [z0]); omega) (by (try rw [z0]); omega); rw [z0] at s0; rw [hn_0]; (try rw [z1]); omega)) v4_9 c_10) hm_9) (lv_sub hl [2, 3, 4, 5, 0] rfl)
                    · refine lv_aload hx hb d_WM_partPot_97 (lv_at hl 0 rfl) ?_
                      refine lv_dup hx hb d_WM_partPot_99 rfl ?_
                      refine tw_geti (D := (dC, dI)) (C := R_Mn) (T := F_Mn) (N := 8) (ci := 2) (kd := 20) (ct := ct) hx hb htb i_Mn hown hK hP hO_1 m_14 rfl rfl 4 (by decide) (htb (.fieldLink R_WM 152 "WaterMen$Man" "coins" "I") tw_39) (fun _ h9 => h9) rfl d_WM_partPot_100 (fun x_17 e_17 b_17 => ?_)
                      refine lv_iload_n hx hb d_WM_partPot_103 rfl (lv_at hl 4 rfl) ?_
                      refine lv_iadd hx hb d_WM_partPot_104 ?_
                      refine tw_puti (v := (x_17 + y_8)) (D := (dC, dI)) (C := R_Mn) (T := F_Mn) (N := 8) (ci := 2) (kd := 20) (ct := ct) (ty := .int) hx hb htb i_Mn t_Mn t_Mn_ok n_Mn hown hK hP hD hS hO_1 m_14 rfl rfl 4 (by decide) (htb (.fieldLink R_WM 152 "WaterMen$Man" "coins" "I") tw_39) (fun _ h9 => h9) rfl (by decide +kernel) rfl rfl rfl (i32_full _) d_WM_partPot_105 (fun f_2 H locs hP hD hS hO_2 hE_2 w_18 hF_2 => ?_)
                      have hA_2 := hA_1.trans hE_2
                      refine lv_iinc (v := (v4_9 + 1)) (lv' := [(4, .int (v4_9 + 1)), (5, .ref q_14), (0, .ref q0), (1, .int p_0), (2, .int v2_3), (3, .int y_8)]) hx hb d_WM_partPot_108 hl (k := 5) rfl rfl (by decide) rfl (fun ls hl => ?_)
                      refine lv_goto (tgt := 67) hx hb d_WM_partPot_111 (by decide) ?_
                      exact ih_9 (n_9 - 1) (ms_1 ((fun (a_0 : Int32) (k_0 : ¬ (40 ≤ a_0)) => (show 1 ≤ (40 : Int32).toInt - (a_0).toInt ∧ (40 : Int32).toInt - ((a_0) + (1 : Int32)).toInt + 1 ≤ (40 : Int32).toInt - (a_0).toInt from by have z0 : (1 : Int32).toInt = 1 := (by decide +kernel); have z1 : (40 : Int32).toInt = 40 := (by decide +kernel); have r0 := fb_rng (a_0); have e0 := k_0; rw [Int32.le_iff_toInt_le, z1] at e0; obtain ⟨n_0, hn_0, s0⟩ := nd_add (x := (a_0)) (y := (1 : Int32)) (by (try rw [z0]); omega) (by (try rw [z0]); omega); rw [z0] at s0; rw [hn_0]; (try rw [z1]); omega)) v4_9 c_10) hm_9) (v4_9 + 1) _ _ _ _ _ hP hD hS hO_2 ((hE_1.trans hE_2).mono (by decide +kernel)) (show ¬ ((v4_9 + 1) < 0) from by have e0 := iv0_9; rw [Int32.lt_iff_toInt_lt] at e0; have e1 := c_10; rw [Int32.le_iff_toInt_le] at e1; have z0 : (0 : Int32).toInt = 0 := (by decide +kernel); have z1 : (1 : Int32).toInt = 1 := (by decide +kernel); have z2 : (40 : Int32).toInt = 40 := (by decide +kernel); have ss := fb_addI (x := v4_9) (y := 1) (by omega) (by omega); rw [Int32.lt_iff_toInt_lt]; omega) (show ¬ (40 < (v4_9 + 1)) from by have e0 := iv0_9; rw [Int32.lt_iff_toInt_lt] at e0; have e1 := c_10; rw [Int32.le_iff_toInt_le] at e1; have z0 : (0 : Int32).toInt = 0 := (by decide +kernel); have z1 : (1 : Int32).toInt = 1 := (by decide +kernel); have z2 : (40 : Int32).toInt = 40 := (by decide +kernel); have ss := fb_addI (x := v4_9) (y := 1) (by omega) (by omega); rw [Int32.lt_iff_toInt_lt]; omega) (by exact ms_2 ((fun (a_0 : Int32) (k_0 : ¬ (40 ≤ a_0)) => (show 1 ≤ (40 : Int32).toInt - (a_0).toInt ∧ (40 : Int32).toInt - ((a_0) + (1 : Int32)).toInt + 1 ≤ (40 : Int32).toInt - (a_0).toInt from by have z0 : (1 : Int32).toInt = 1 := (by decide +kernel); have z1 : (40 : Int32).toInt = 40 := (by decide +kernel); have r0 := fb_rng (a_0); have e0 := k_0; rw [Int32.le_iff_toInt_le, z1] at e0; obtain ⟨n_0, hn_0, s0⟩ := nd_add (x := (a_0)) (y := (1 : Int32)) (by (try rw [z0]); omega) (by (try rw [z0]); omega); rw [z0] at s0; rw [hn_0]; (try rw [z1]); omega)) v4_9 c_10) hm_9) (lv_sub hl [2, 3, 4, 5, 0] rfl)
            exact cut_9 4294967296 (0 : Int32) _ _ _ _ _ hP hD hS hO_0 Ext.rf (by decide +kernel) (by decide +kernel) (by exact ms_0 _ _) (lv_sub hl [2, 3, 4, 1, 0] rfl)
          · refine W.widen (k := 0) (n := 0) (Nat.le_of_ble_eq_true rfl) (Nat.le_of_ble_eq_true rfl) ?_
            exact W.vret hx hb hr (fun t ht hW => ⟨⟨(L, f), rfl, ⟨hO_0, hA_0.mono (by decide +kernel), trivial⟩, by rw [ht]; exact hP, va_K.moved hW.alike hK, by rw [hAe]; exact hD⟩, by rw [hAe]; exact hS.F ht⟩) (by rw [hAe]; exact hS.2.2) d_WM_partPot_53
        · refine lv_aload_n hx hb d_WM_partPot_18 rfl (lv_at hl 0 rfl) ?_
          refine tw_getr (D := (dC, dI)) (C := R_WM) (T := F_WM) (N := 13) (ci := 0) (kd := 0) (ct := ct) hx hb htb i_WM hown hK hP hO_0 m0 rfl rfl 1 (by decide) (htb (.fieldLink R_WM 18 "WaterMen" "men" "[LWaterMen$Man;") tw_24) (fun _ h9 => h9) rfl d_WM_partPot_19 (fun q_19 e_19 m_19 => ?_)
          refine lv_iload_n hx hb d_WM_partPot_22 rfl (lv_at hl 3 rfl) ?_
          refine tw_aldq (ct := ct) hx hb hK hP hO_0 m_19 rfl rfl (hb_in iv0_3 c_4 (by decide +kernel)) d_WM_partPot_23 (fun e_20 => ?_) (fun q_20 e_20 m_20 => ?_)
          · refine lv_astoreN (lv' := [(4, .null), (0, .ref q0), (1, .int p_0), (2, .int v2_3), (3, .int v3_3)]) hx hb d_WM_partPot_24 hl (by decide) rfl (fun ls hl => ?_)
            refine lv_aloadN hx hb d_WM_partPot_26 (lv_at hl 0 rfl) ?_
            refine lv_ifnullN (tgt := 43) hx hb d_WM_partPot_28 (by decide) ?_
            refine lv_iinc (v := (v3_3 + 1)) (lv' := [(3, .int (v3_3 + 1)), (4, .null), (0, .ref q0), (1, .int p_0), (2, .int v2_3)]) hx hb d_WM_partPot_43 hl (k := 4) rfl rfl (by decide) rfl (fun ls hl => ?_)
            refine lv_goto (tgt := 12) hx hb d_WM_partPot_46 (by decide) ?_
            exact ih_3 (n_3 - 1) (ms_1 ((fun (a_0 : Int32) (k_0 : ¬ (40 ≤ a_0)) => (show 1 ≤ (40 : Int32).toInt - (a_0).toInt ∧ (40 : Int32).toInt - ((a_0) + (1 : Int32)).toInt + 1 ≤ (40 : Int32).toInt - (a_0).toInt from by have z0 : (1 : Int32).toInt = 1 := (by decide +kernel); have z1 : (40 : Int32).toInt = 40 := (by decide +kernel); have r0 := fb_rng (a_0); have e0 := k_0; rw [Int32.le_iff_toInt_le, z1] at e0; obtain ⟨n_0, hn_0, s0⟩ := nd_add (x := (a_0)) (y := (1 : Int32)) (by (try rw [z0]); omega) (by (try rw [z0]); omega); rw [z0] at s0; rw [hn_0]; (try rw [z1]); omega)) v3_3 c_4) hm_3) v2_3 (v3_3 + 1) _ (show ¬ ((v3_3 + 1) < 0) from by have e0 := iv0_3; rw [Int32.lt_iff_toInt_lt] at e0; have e1 := c_4; rw [Int32.le_iff_toInt_le] at e1; have z0 : (0 : Int32).toInt = 0 := (by decide +kernel); have z1 : (1 : Int32).toInt = 1 := (by decide +kernel); have z2 : (40 : Int32).toInt = 40 := (by decide +kernel); have ss := fb_addI (x := v3_3) (y := 1) (by omega) (by omega); rw [Int32.lt_iff_toInt_lt]; omega) (show ¬ (40 < (v3_3 + 1)) from by have e0 := iv0_3; rw [Int32.lt_iff_toInt_lt] at e0; have e1 := c_4; rw [Int32.le_iff_toInt_le] at e1; have z0 : (0 : Int32).toInt = 0 := (by decide +kernel); have z1 : (1 : Int32).toInt = 1 := (by decide +kernel); have z2 : (40 : Int32).toInt = 40 := (by decide +kernel); have ss := fb_addI (x := v3_3) (y := 1) (by omega) (by omega); rw [Int32.lt_iff_toInt_lt]; omega) (by exact ms_2 ((fun (a_0 : Int32) (k_0 : ¬ (40 ≤ a_0)) => (show 1 ≤ (40 : Int32).toInt - (a_0).toInt ∧ (40 : Int32).toInt - ((a_0) + (1 : Int32)).toInt + 1 ≤ (40 : Int32).toInt - (a_0).toInt from by have z0 : (1 : Int32).toInt = 1 := (by decide +kernel); have z1 : (40 : Int32).toInt = 40 := (by decide +kernel); have r0 := fb_rng (a_0); have e0 := k_0; rw [Int32.le_iff_toInt_le, z1] at e0; obtain ⟨n_0, hn_0, s0⟩ := nd_add (x := (a_0)) (y := (1 : Int32)) (by (try rw [z0]); omega) (by (try rw [z0]); omega); rw [z0] at s0; rw [hn_0]; (try rw [z1]); omega)) v3_3 c_4) hm_3) (lv_sub hl [2, 3, 4, 0] rfl)
          · refine lv_astore (lv' := [(4, .ref q_20), (0, .ref q0), (1, .int p_0), (2, .int v2_3), (3, .int v3_3)]) hx hb d_WM_partPot_24 hl (by decide) rfl (fun ls hl => ?_)
            refine lv_aload hx hb d_WM_partPot_26 (lv_at hl 0 rfl) ?_
            refine lv_ifnull hx hb d_WM_partPot_28 ?_
            refine lv_aload hx hb d_WM_partPot_31 (lv_at hl 0 rfl) ?_
            refine tw_geti (D := (dC, dI)) (C := R_Mn) (T := F_Mn) (N := 8) (ci := 2) (kd := 20) (ct := ct) hx hb htb i_Mn hown hK hP hO_0 m_20 rfl rfl 7 (by decide) (htb (.fieldLink R_WM 394 "WaterMen$Man" "lastSunday" "I") tw_215) (fun _ h9 => h9) rfl d_WM_partPot_33 (fun x_21 e_21 b_21 => ?_)
            refine lv_iload_n hx hb d_WM_partPot_36 rfl (lv_at hl 2 rfl) ?_
            refine lv_icmp_ne (tgt := 43) hx hb d_WM_partPot_37 (by decide) (fun c_22 => ?_) (fun c_22 => ?_)
            · refine lv_iinc (v := (v3_3 + 1)) (lv' := [(3, .int (v3_3 + 1)), (4, .ref q_20), (0, .ref q0), (1, .int p_0), (2, .int v2_3)]) hx hb d_WM_partPot_43 hl (k := 4) rfl rfl (by decide) rfl (fun ls hl => ?_)
              refine lv_goto (tgt := 12) hx hb d_WM_partPot_46 (by decide) ?_
              exact ih_3 (n_3 - 1) (ms_1 ((fun (a_0 : Int32) (k_0 : ¬ (40 ≤ a_0)) => (show 1 ≤ (40 : Int32).toInt - (a_0).toInt ∧ (40 : Int32).toInt - ((a_0) + (1 : Int32)).toInt + 1 ≤ (40 : Int32).toInt - (a_0).toInt from by have z0 : (1 : Int32).toInt = 1 := (by decide +kernel); have z1 : (40 : Int32).toInt = 40 := (by decide +kernel); have r0 := fb_rng (a_0); have e0 := k_0; rw [Int32.le_iff_toInt_le, z1] at e0; obtain ⟨n_0, hn_0, s0⟩ := nd_add (x := (a_0)) (y := (1 : Int32)) (by (try rw [z0]); omega) (by (try rw [z0]); omega); rw [z0] at s0; rw [hn_0]; (try rw [z1]); omega)) v3_3 c_4) hm_3) v2_3 (v3_3 + 1) _ (show ¬ ((v3_3 + 1) < 0) from by have e0 := iv0_3; rw [Int32.lt_iff_toInt_lt] at e0; have e1 := c_4; rw [Int32.le_iff_toInt_le] at e1; have z0 : (0 : Int32).toInt = 0 := (by decide +kernel); have z1 : (1 : Int32).toInt = 1 := (by decide +kernel); have z2 : (40 : Int32).toInt = 40 := (by decide +kernel); have ss := fb_addI (x := v3_3) (y := 1) (by omega) (by omega); rw [Int32.lt_iff_toInt_lt]; omega) (show ¬ (40 < (v3_3 + 1)) from by have e0 := iv0_3; rw [Int32.lt_iff_toInt_lt] at e0; have e1 := c_4; rw [Int32.le_iff_toInt_le] at e1; have z0 : (0 : Int32).toInt = 0 := (by decide +kernel); have z1 : (1 : Int32).toInt = 1 := (by decide +kernel); have z2 : (40 : Int32).toInt = 40 := (by decide +kernel); have ss := fb_addI (x := v3_3) (y := 1) (by omega) (by omega); rw [Int32.lt_iff_toInt_lt]; omega) (by exact ms_2 ((fun (a_0 : Int32) (k_0 : ¬ (40 ≤ a_0)) => (show 1 ≤ (40 : Int32).toInt - (a_0).toInt ∧ (40 : Int32).toInt - ((a_0) + (1 : Int32)).toInt + 1 ≤ (40 : Int32).toInt - (a_0).toInt from by have z0 : (1 : Int32).toInt = 1 := (by decide +kernel); have z1 : (40 : Int32).toInt = 40 := (by decide +kernel); have r0 := fb_rng (a_0); have e0 := k_0; rw [Int32.le_iff_toInt_le, z1] at e0; obtain ⟨n_0, hn_0, s0⟩ := nd_add (x := (a_0)) (y := (1 : Int32)) (by (try rw [z0]); omega) (by (try rw [z0]); omega); rw [z0] at s0; rw [hn_0]; (try rw [z1]); omega)) v3_3 c_4) hm_3) (lv_sub hl [2, 3, 4, 0] rfl)
            · refine lv_iinc (v := (v2_3 + 1)) (lv' := [(2, .int (v2_3 + 1)), (4, .ref q_20), (0, .ref q0), (1, .int p_0), (3, .int v3_3)]) hx hb d_WM_partPot_40 hl (k := 3) rfl rfl (by decide) rfl (fun ls hl => ?_)
              refine lv_iinc (v := (v3_3 + 1)) (lv' := [(3, .int (v3_3 + 1)), (2, .int (v2_3 + 1)), (4, .ref q_20), (0, .ref q0), (1, .int p_0)]) hx hb d_WM_partPot_43 hl (k := 4) rfl rfl (by decide) rfl (fun ls hl => ?_)
              refine lv_goto (tgt := 12) hx hb d_WM_partPot_46 (by decide) ?_
              exact ih_3 (n_3 - 1) (ms_1 ((fun (a_0 : Int32) (k_0 : ¬ (40 ≤ a_0)) => (show 1 ≤ (40 : Int32).toInt - (a_0).toInt ∧ (40 : Int32).toInt - ((a_0) + (1 : Int32)).toInt + 1 ≤ (40 : Int32).toInt - (a_0).toInt from by have z0 : (1 : Int32).toInt = 1 := (by decide +kernel); have z1 : (40 : Int32).toInt = 40 := (by decide +kernel); have r0 := fb_rng (a_0); have e0 := k_0; rw [Int32.le_iff_toInt_le, z1] at e0; obtain ⟨n_0, hn_0, s0⟩ := nd_add (x := (a_0)) (y := (1 : Int32)) (by (try rw [z0]); omega) (by (try rw [z0]); omega); rw [z0] at s0; rw [hn_0]; (try rw [z1]); omega)) v3_3 c_4) hm_3) (v2_3 + 1) (v3_3 + 1) _ (show ¬ ((v3_3 + 1) < 0) from by have e0 := iv0_3; rw [Int32.lt_iff_toInt_lt] at e0; have e1 := c_4; rw [Int32.le_iff_toInt_le] at e1; have z0 : (0 : Int32).toInt = 0 := (by decide +kernel); have z1 : (1 : Int32).toInt = 1 := (by decide +kernel); have z2 : (40 : Int32).toInt = 40 := (by decide +kernel); have ss := fb_addI (x := v3_3) (y := 1) (by omega) (by omega); rw [Int32.lt_iff_toInt_lt]; omega) (show ¬ (40 < (v3_3 + 1)) from by have e0 := iv0_3; rw [Int32.lt_iff_toInt_lt] at e0; have e1 := c_4; rw [Int32.le_iff_toInt_le] at e1; have z0 : (0 : Int32).toInt = 0 := (by decide +kernel); have z1 : (1 : Int32).toInt = 1 := (by decide +kernel); have z2 : (40 : Int32).toInt = 40 := (by decide +kernel); have ss := fb_addI (x := v3_3) (y := 1) (by omega) (by omega); rw [Int32.lt_iff_toInt_lt]; omega) (by exact ms_2 ((fun (a_0 : Int32) (k_0 : ¬ (40 ≤ a_0)) => (show 1 ≤ (40 : Int32).toInt - (a_0).toInt ∧ (40 : Int32).toInt - ((a_0) + (1 : Int32)).toInt + 1 ≤ (40 : Int32).toInt - (a_0).toInt from by have z0 : (1 : Int32).toInt = 1 := (by decide +kernel); have z1 : (40 : Int32).toInt = 40 := (by decide +kernel); have r0 := fb_rng (a_0); have e0 := k_0; rw [Int32.le_iff_toInt_le, z1] at e0; obtain ⟨n_0, hn_0, s0⟩ := nd_add (x := (a_0)) (y := (1 : Int32)) (by (try rw [z0]); omega) (by (try rw [z0]); omega); rw [z0] at s0; rw [hn_0]; (try rw [z1]); omega)) v3_3 c_4) hm_3) (lv_sub hl [3, 4, 1, 0] rfl)
    exact cut_3 4294967296 (0 : Int32) (0 : Int32) _ (by decide +kernel) (by decide +kernel) (by exact ms_0 _ _) (lv_sub hl [2, 3, 1, 0] rfl)
  · refine hb_ti 0 (by unfold f_WM_isSunday; rw [if_neg c_2]; first | done | rfl) ?_
    refine lv_if_ne (tgt := 8) hx hb d_WM_partPot_4 (by decide) (fun h => absurd (by decide +kernel) h) (fun _ => ?_)
    refine W.widen (k := 0) (n := 0) (Nat.le_of_ble_eq_true rfl) (Nat.le_of_ble_eq_true rfl) ?_
    exact W.vret hx hb hr (fun t ht hW => ⟨⟨(L, f), rfl, ⟨hO_0, hA_0.mono (by decide +kernel), trivial⟩, by rw [ht]; exact hP, va_K.moved hW.alike hK, by rw [hAe]; exact hD⟩, by rw [hAe]; exact hS.F ht⟩) (by rw [hAe]; exact hS.2.2) d_WM_partPot_7
def WL_Bx_payPensions_t_10_2 : List (Nat × Nat) := [(12, 0), (12, 3), (26, 2)]
def W_Bx_payPensions_t : List (Nat × Nat) := [(12, 0), (12, 3), (26, 2)]
set_option maxHeartbeats 4000000 in
set_option maxRecDepth 100000 in
theorem c_Bx_payPensions_t (l : Launch) (dC : Nat → ClassId) (dI : Nat → Nat → Nat) (ct : Nat → ClassId) (L : List Nat) (f : TF) (hO_0 : Ok L f) (q0 : Nat) (m0 : q0 ∈ L ∧ tk f q0 = 12) (sz : Nat) (p_0 : Int32)   : Met l y_Bx_payPensions (.code y_Bx_payPensions b_Bx_payPensions 4 none :: TB) ({ frames := 1, cells := 0, slots := 0, locals := 21 }) (va_Pc [.ref q0, .int p_0] (PC dC dI (TW ct L f) (TT ct) sz)) (va_Qv (fun (u : TSt) => Ok u.1 u.2 ∧ Ext W_Bx_payPensions_t L f u.1 u.2 ∧ (True)) (fun (u : TSt) t => va_P (dC, dI) vwCl (TW ct u.1 u.2) t.heap ∧ va_K (dC, dI) vwCl (TT ct) t ∧ va_D (va_A (TW ct L f) sz) (TW ct u.1 u.2)) (va_A (TW ct L f) sz)) 0 0 (va_A (TW ct L f) sz) := by
  refine Met.ofW (cc := b_Bx_payPensions) (maxL := 4) (ret := none) (by decide) rfl ?_
  intro p e s m args below meth c s₁ B hml hv
  obtain ⟨rfl, hsz, hP, hK, hD0, hN⟩ := hv
  have hx := B.exec
  have hb := B.bytes
  have hr := B.returns
  have hts := atoms_spec (ws := (.code y_Bx_payPensions b_Bx_payPensions 4 none :: TB)) B.pre
  have htb := fun w (h : w ∈ TB) => hts w (List.mem_cons_of_mem _ h)
  have hown : s.vm.findClass R_Bx = some m.cls := findClass_of_methodNamed B.named
  have hlocks := B.notSynchronized
  have hl := lv_entry ([.ref q0, .int p_0]) (n := 4) (Nat.le_of_ble_eq_true rfl)
  rw [lg_entry_eq]
  generalize (lg_sl ([.ref q0, .int p_0]) ++ List.replicate (4 - (lg_sl ([.ref q0, .int p_0])).length) Slot.unset).toArray = ls at hl ⊢
  have hl : lv_has ls 4 [(0, .ref q0), (1, .int p_0)] := hl
  subst hsz
  have hD := hD0.self (sz := s.heap.size)
  obtain ⟨A, hAe⟩ : ∃ A, va_A (TW ct L f) s.heap.size = A := ⟨_, rfl⟩
  rw [hAe] at hD
  have hA : ∀ q : Nat, s.heap.size ≤ q → A q := fun q h => by rw [← hAe]; exact Or.inr h
  have hS : va_S A s.heap s.heap [] := va_S.rf
  have hA_0 : Ext [] L f L f := Ext.rf
  suffices hGo : ∀ (H : Heap) (locs : List Loc), va_P (dC, dI) vwCl (TW ct L f) H → va_S A s.heap H locs → W p l e (headSpec (.code y_Bx_payPensions b_Bx_payPensions 4 none :: TB) ({ frames := 1, cells := 0, slots := 0, locals := 21 })).room s m [.ref q0, .int p_0].toArray below meth c H locs 0 0 (MQ below (va_Qv (fun (u : TSt) => Ok u.1 u.2 ∧ Ext W_Bx_payPensions_t L f u.1 u.2 ∧ (True)) (fun (u : TSt) t => va_P (dC, dI) vwCl (TW ct u.1 u.2) t.heap ∧ va_K (dC, dI) vwCl (TT ct) t ∧ va_D (va_A (TW ct L f) s.heap.size) (TW ct u.1 u.2)) (va_A (TW ct L f) s.heap.size)) [.ref q0, .int p_0].toArray s 0 0 (va_A (TW ct L f) s.heap.size)) (F0 m 0 ls []) from hGo _ _ hP hS
  clear hP hS
  intro H locs hP hS
  refine lv_iload_n hx hb d_Bx_payPensions_0 rfl (lv_at hl 1 rfl) ?_
  refine lv_bipush (v := 100) hx hb d_Bx_payPensions_1 (by decide +kernel) ?_
  refine lv_irem hx hb d_Bx_payPensions_3 (by decide) ?_
  refine lv_if_eq (tgt := 8) hx hb d_Bx_payPensions_4 (by decide) (fun c_1 => ?_) (fun c_1 => ?_)
  · refine lv_iconst (v := 0) hx hb d_Bx_payPensions_8 (by decide +kernel) ?_
    refine lv_istore_n (lv' := [(2, .int 0), (0, .ref q0), (1, .int p_0)]) hx hb d_Bx_payPensions_9 rfl hl (by decide) rfl (fun ls hl => ?_)
    have cut_2 : ∀ (n_2 : Nat) (v2_2 : Int32) (L_1 : List Nat) (f_1 : TF) (H : Heap) (locs : List Loc) (ls : Array Slot), va_P (dC, dI) vwCl (TW ct L_1 f_1) H → va_D A (TW ct L_1 f_1) → va_S A s.heap H locs → Ok L_1 f_1 → Ext WL_Bx_payPensions_t_10_2 L f L_1 f_1 → ¬ (v2_2 < 0) → ¬ (30 < v2_2) → (30 : Int32).toInt - (v2_2 : Int32).toInt ≤ (n_2 : Int) → lv_has ls 4 [(0, .ref q0), (1, .int p_0), (2, .int v2_2)] → W p l e (headSpec (.code y_Bx_payPensions b_Bx_payPensions 4 none :: TB) ({ frames := 1, cells := 0, slots := 0, locals := 21 })).room s m [.ref q0, .int p_0].toArray below meth c H locs 0 0 (MQ below (va_Qv (fun (u : TSt) => Ok u.1 u.2 ∧ Ext W_Bx_payPensions_t L f u.1 u.2 ∧ (True)) (fun (u : TSt) t => va_P (dC, dI) vwCl (TW ct u.1 u.2) t.heap ∧ va_K (dC, dI) vwCl (TT ct) t ∧ va_D (va_A (TW ct L f) s.heap.size) (TW ct u.1 u.2)) (va_A (TW ct L f) s.heap.size)) [.ref q0, .int p_0].toArray s 0 0 (va_A (TW ct L f) s.heap.size)) (F0 m 10 ls []) := by
      intro n_2
      induction n_2 using Nat.strongRecOn with
      | _ n_2 ih_2 =>
        intro v2_2 L_1 f_1 H locs ls hP hD hS hO_1 hE_1 iv0_2 iv1_2 hm_2 hl
        have hA_1 := hA_0.trans hE_1
        refine lv_iload_n hx hb d_Bx_payPensions_10 rfl (lv_at hl 2 rfl) ?_
        refine lv_aload_n hx hb d_Bx_payPensions_11 rfl (lv_at hl 0 rfl) ?_
        refine tw_geti (D := (dC, dI)) (C := R_Bx) (T := F_Bx) (N := 7) (ci := 5) (kd := 12) (ct := ct) hx hb htb i_Bx hown hK hP hO_1 (hA_1.m m0) rfl rfl 6 (by decide) (htb (.fieldLink R_Bx 29 "WaterMen$Box" "pensionerCount" "I") tw_58) (fun _ h9 => h9) rfl d_Bx_payPensions_12 (fun x_3 e_3 b_3 => ?_)
        refine lv_icmp_ge (tgt := 92) hx hb d_Bx_payPensions_15 (by decide) (fun c_4 => ?_) (fun c_4 => ?_)
        · refine W.widen (k := 0) (n := 0) (Nat.le_of_ble_eq_true rfl) (Nat.le_of_ble_eq_true rfl) ?_
          exact W.vret hx hb hr (fun t ht hW => ⟨⟨(L_1, f_1), rfl, ⟨hO_1, hA_1.mono (by decide +kernel), trivial⟩, by rw [ht]; exact hP, va_K.moved hW.alike hK, by rw [hAe]; exact hD⟩, by rw [hAe]; exact hS.F ht⟩) (by rw [hAe]; exact hS.2.2) d_Bx_payPensions_92
        · refine lv_aload_n hx hb d_Bx_payPensions_18 rfl (lv_at hl 0 rfl) ?_
          refine lv_iload_n hx hb d_Bx_payPensions_19 rfl (lv_at hl 2 rfl) ?_
          refine va_csq (va_Run.run (va_runV (As := [.int v2_2]) (rest := []) ⟨hx, hb, hml, hown, htb⟩ (c_Bx_pensionerAt_t l dC dI ct L_1 f_1 hO_1 q0 (hA_1.m m0) v2_2) (cwV 1 htb (gd_V tw_62 tw_63 tw_64 tw_61 tw_60) rfl rfl rfl (by decide +kernel) ⟨Nat.le_of_ble_eq_true rfl, Nat.le_of_ble_eq_true rfl⟩) ⟨pr_blind, tw_recv hK hP (hA_1.m m0) rfl rfl, pr_pre hP hK hN⟩ rfl rfl hl.1 rfl (lv_room (Nat.le_of_ble_eq_true rfl)) d_Bx_payPensions_20 ⟨Nat.le_of_ble_eq_true rfl, Nat.le_of_ble_eq_true rfl⟩)) (fun r_5 er_5 => ?_)
          rcases er_5 with rfl | ⟨q_5, rfl, m_5⟩
          · refine hb_tv .null rfl ?_
            refine lv_astore_nN (lv' := [(3, .null), (0, .ref q0), (1, .int p_0), (2, .int v2_2)]) hx hb d_Bx_payPensions_23 rfl hl (by decide) rfl (fun ls hl => ?_)
            refine lv_aload_nN hx hb d_Bx_payPensions_24 rfl (lv_at hl 0 rfl) ?_
            refine lv_ifnullN (tgt := 86) hx hb d_Bx_payPensions_25 (by decide) ?_
            refine lv_iinc (v := (v2_2 + 1)) (lv' := [(2, .int (v2_2 + 1)), (3, .null), (0, .ref q0), (1, .int p_0)]) hx hb d_Bx_payPensions_86 hl (k := 3) rfl rfl (by decide) rfl (fun ls hl => ?_)
            refine lv_goto (tgt := 10) hx hb d_Bx_payPensions_89 (by decide) ?_
            exact ih_2 (n_2 - 1) (ms_1 ((fun (a_0 : Int32) (a_1 : Int32) (k_0 : ¬ (a_1 ≤ a_0)) (k_1 : ¬ (30 < a_1)) => (show 1 ≤ (30 : Int32).toInt - (a_0).toInt ∧ (30 : Int32).toInt - ((a_0) + (1 : Int32)).toInt + 1 ≤ (30 : Int32).toInt - (a_0).toInt from by have z0 : (1 : Int32).toInt = 1 := (by decide +kernel); have z1 : (30 : Int32).toInt = 30 := (by decide +kernel); have r0 := fb_rng (a_0); have r1 := fb_rng (a_1); have e0 := k_0; rw [Int32.le_iff_toInt_le] at e0; have e1 := k_1; rw [Int32.lt_iff_toInt_lt, z1] at e1; obtain ⟨n_0, hn_0, s0⟩ := nd_add (x := (a_0)) (y := (1 : Int32)) (by (try rw [z0]); omega) (by (try rw [z0]); omega); rw [z0] at s0; rw [hn_0]; (try rw [z1]); omega)) v2_2 x_3 c_4 b_3.2) hm_2) (v2_2 + 1) _ _ _ _ _ hP hD hS hO_1 (hE_1.mono (by decide +kernel)) (show ¬ ((v2_2 + 1) < 0) from by have e0 := iv0_2; rw [Int32.lt_iff_toInt_lt] at e0; have e1 := iv1_2; rw [Int32.lt_iff_toInt_lt] at e1; have z0 : (0 : Int32).toInt = 0 := (by decide +kernel); have z1 : (1 : Int32).toInt = 1 := (by decide +kernel); have z2 : (30 : Int32).toInt = 30 := (by decide +kernel); have ss := fb_addI (x := v2_2) (y := 1) (by omega) (by omega); rw [Int32.lt_iff_toInt_lt]; omega) (show ¬ (30 < (v2_2 + 1)) from ((fun (a_0 : Int32) (a_1 : Int32) (k_0 : ¬ (a_1 ≤ a_0)) (k_1 : ¬ (30 < a_1)) => (show ¬ (30 < (a_0 + 1)) from by have z0 : (1 : Int32).toInt = 1 := (by decide +kernel); have z1 : (30 : Int32).toInt = 30 := (by decide +kernel); have r0 := fb_rng (a_0); have r1 := fb_rng (a_1); have e0 := k_0; rw [Int32.le_iff_toInt_le] at e0; have e1 := k_1; rw [Int32.lt_iff_toInt_lt, z1] at e1; obtain ⟨n_0, hn_0, s0⟩ := nd_add (x := (a_0)) (y := (1 : Int32)) (by (try rw [z0]); omega) (by (try rw [z0]); omega); rw [z0] at s0; rw [hn_0, Int32.lt_iff_toInt_lt, z1]; omega)) v2_2 x_3 c_4 b_3.2)) (by exact ms_2 ((fun (a_0 : Int32) (a_1 : Int32) (k_0 : ¬ (a_1 ≤ a_0)) (k_1 : ¬ (30 < a_1)) => (show 1 ≤ (30 : Int32).toInt - (a_0).toInt ∧ (30 : Int32).toInt - ((a_0) + (1 : Int32)).toInt + 1 ≤ (30 : Int32).toInt - (a_0).toInt from by have z0 : (1 : Int32).toInt = 1 := (by decide +kernel); have z1 : (30 : Int32).toInt = 30 := (by decide +kernel); have r0 := fb_rng (a_0); have r1 := fb_rng (a_1); have e0 := k_0; rw [Int32.le_iff_toInt_le] at e0; have e1 := k_1; rw [Int32.lt_iff_toInt_lt, z1] at e1; obtain ⟨n_0, hn_0, s0⟩ := nd_add (x := (a_0)) (y := (1 : Int32)) (by (try rw [z0]); omega) (by (try rw [z0]); omega); rw [z0] at s0; rw [hn_0]; (try rw [z1]); omega)) v2_2 x_3 c_4 b_3.2) hm_2) (lv_sub hl [2, 3, 0] rfl)
          · refine hb_tv (.ref q_5) rfl ?_
            refine lv_astore_n (lv' := [(3, .ref q_5), (0, .ref q0), (1, .int p_0), (2, .int v2_2)]) hx hb d_Bx_payPensions_23 rfl hl (by decide) rfl (fun ls hl => ?_)
            refine lv_aload_n hx hb d_Bx_payPensions_24 rfl (lv_at hl 0 rfl) ?_
            refine lv_ifnull hx hb d_Bx_payPensions_25 ?_
            refine lv_iload_n hx hb d_Bx_payPensions_28 rfl (lv_at hl 2 rfl) ?_
            refine lv_aload_n hx hb d_Bx_payPensions_29 rfl (lv_at hl 0 rfl) ?_
            refine tw_geti (D := (dC, dI)) (C := R_Pn) (T := F_Pn) (N := 3) (ci := 6) (kd := 26) (ct := ct) hx hb htb i_Pn hown hK hP hO_1 m_5 rfl rfl 1 (by decide) (htb (.fieldLink R_Bx 39 "WaterMen$Pensioner" "end" "I") tw_65) (fun _ h9 => h9) rfl d_Bx_payPensions_30 (fun x_6 e_6 b_6 => ?_)
            refine lv_icmp_ge (tgt := 86) hx hb d_Bx_payPensions_33 (by decide) (fun c_7 => ?_) (fun c_7 => ?_)
            · refine lv_iinc (v := (v2_2 + 1)) (lv' := [(2, .int (v2_2 + 1)), (3, .ref q_5), (0, .ref q0), (1, .int p_0)]) hx hb d_Bx_payPensions_86 hl (k := 3) rfl rfl (by decide) rfl (fun ls hl => ?_)
              refine lv_goto (tgt := 10) hx hb d_Bx_payPensions_89 (by decide) ?_
              exact ih_2 (n_2 - 1) (ms_1 ((fun (a_0 : Int32) (a_1 : Int32) (k_0 : ¬ (a_1 ≤ a_0)) (k_1 : ¬ (30 < a_1)) => (show 1 ≤ (30 : Int32).toInt - (a_0).toInt ∧ (30 : Int32).toInt - ((a_0) + (1 : Int32)).toInt + 1 ≤ (30 : Int32).toInt - (a_0).toInt from by have z0 : (1 : Int32).toInt = 1 := (by decide +kernel); have z1 : (30 : Int32).toInt = 30 := (by decide +kernel); have r0 := fb_rng (a_0); have r1 := fb_rng (a_1); have e0 := k_0; rw [Int32.le_iff_toInt_le] at e0; have e1 := k_1; rw [Int32.lt_iff_toInt_lt, z1] at e1; obtain ⟨n_0, hn_0, s0⟩ := nd_add (x := (a_0)) (y := (1 : Int32)) (by (try rw [z0]); omega) (by (try rw [z0]); omega); rw [z0] at s0; rw [hn_0]; (try rw [z1]); omega)) v2_2 x_3 c_4 b_3.2) hm_2) (v2_2 + 1) _ _ _ _ _ hP hD hS hO_1 (hE_1.mono (by decide +kernel)) (show ¬ ((v2_2 + 1) < 0) from by have e0 := iv0_2; rw [Int32.lt_iff_toInt_lt] at e0; have e1 := iv1_2; rw [Int32.lt_iff_toInt_lt] at e1; have z0 : (0 : Int32).toInt = 0 := (by decide +kernel); have z1 : (1 : Int32).toInt = 1 := (by decide +kernel); have z2 : (30 : Int32).toInt = 30 := (by decide +kernel); have ss := fb_addI (x := v2_2) (y := 1) (by omega) (by omega); rw [Int32.lt_iff_toInt_lt]; omega) (show ¬ (30 < (v2_2 + 1)) from ((fun (a_0 : Int32) (a_1 : Int32) (k_0 : ¬ (a_1 ≤ a_0)) (k_1 : ¬ (30 < a_1)) => (show ¬ (30 < (a_0 + 1)) from by have z0 : (1 : Int32).toInt = 1 := (by decide +kernel); have z1 : (30 : Int32).toInt = 30 := (by decide +kernel); have r0 := fb_rng (a_0); have r1 := fb_rng (a_1); have e0 := k_0; rw [Int32.le_iff_toInt_le] at e0; have e1 := k_1; rw [Int32.lt_iff_toInt_lt, z1] at e1; obtain ⟨n_0, hn_0, s0⟩ := nd_add (x := (a_0)) (y := (1 : Int32)) (by (try rw [z0]); omega) (by (try rw [z0]); omega); rw [z0] at s0; rw [hn_0, Int32.lt_iff_toInt_lt, z1]; omega)) v2_2 x_3 c_4 b_3.2)) (by exact ms_2 ((fun (a_0 : Int32) (a_1 : Int32) (k_0 : ¬ (a_1 ≤ a_0)) (k_1 : ¬ (30 < a_1)) => (show 1 ≤ (30 : Int32).toInt - (a_0).toInt ∧ (30 : Int32).toInt - ((a_0) + (1 : Int32)).toInt + 1 ≤ (30 : Int32).toInt - (a_0).toInt from by have z0 : (1 : Int32).toInt = 1 := (by decide +kernel); have z1 : (30 : Int32).toInt = 30 := (by decide +kernel); have r0 := fb_rng (a_0); have r1 := fb_rng (a_1); have e0 := k_0; rw [Int32.le_iff_toInt_le] at e0; have e1 := k_1; rw [Int32.lt_iff_toInt_lt, z1] at e1; obtain ⟨n_0, hn_0, s0⟩ := nd_add (x := (a_0)) (y := (1 : Int32)) (by (try rw [z0]); omega) (by (try rw [z0]); omega); rw [z0] at s0; rw [hn_0]; (try rw [z1]); omega)) v2_2 x_3 c_4 b_3.2) hm_2) (lv_sub hl [2, 3, 0] rfl)
            · refine lv_aload_n hx hb d_Bx_payPensions_36 rfl (lv_at hl 0 rfl) ?_
              refine tw_geti (D := (dC, dI)) (C := R_Pn) (T := F_Pn) (N := 3) (ci := 6) (kd := 26) (ct := ct) hx hb htb i_Pn hown hK hP hO_1 m_5 rfl rfl 0 (by decide) (htb (.fieldLink R_Bx 42 "WaterMen$Pensioner" "pension" "I") tw_66) (fun _ h9 => h9) rfl d_Bx_payPensions_37 (fun x_8 e_8 b_8 => ?_)
              refine lv_aload_n hx hb d_Bx_payPensions_40 rfl (lv_at hl 1 rfl) ?_
              refine tw_geti (D := (dC, dI)) (C := R_Bx) (T := F_Bx) (N := 7) (ci := 5) (kd := 12) (ct := ct) hx hb htb i_Bx hown hK hP hO_1 (hA_1.m m0) rfl rfl 0 (by decide) (htb (.fieldLink R_Bx 21 "WaterMen$Box" "coins" "I") tw_57) (fun _ h9 => h9) rfl d_Bx_payPensions_41 (fun x_9 e_9 b_9 => ?_)
              refine lv_icmp_gt (tgt := 86) hx hb d_Bx_payPensions_44 (by decide) (fun c_10 => ?_) (fun c_10 => ?_)
              · refine lv_iinc (v := (v2_2 + 1)) (lv' := [(2, .int (v2_2 + 1)), (3, .ref q_5), (0, .ref q0), (1, .int p_0)]) hx hb d_Bx_payPensions_86 hl (k := 3) rfl rfl (by decide) rfl (fun ls hl => ?_)
                refine lv_goto (tgt := 10) hx hb d_Bx_payPensions_89 (by decide) ?_
                exact ih_2 (n_2 - 1) (ms_1 ((fun (a_0 : Int32) (a_1 : Int32) (k_0 : ¬ (a_1 ≤ a_0)) (k_1 : ¬ (30 < a_1)) => (show 1 ≤ (30 : Int32).toInt - (a_0).toInt ∧ (30 : Int32).toInt - ((a_0) + (1 : Int32)).toInt + 1 ≤ (30 : Int32).toInt - (a_0).toInt from by have z0 : (1 : Int32).toInt = 1 := (by decide +kernel); have z1 : (30 : Int32).toInt = 30 := (by decide +kernel); have r0 := fb_rng (a_0); have r1 := fb_rng (a_1); have e0 := k_0; rw [Int32.le_iff_toInt_le] at e0; have e1 := k_1; rw [Int32.lt_iff_toInt_lt, z1] at e1; obtain ⟨n_0, hn_0, s0⟩ := nd_add (x := (a_0)) (y := (1 : Int32)) (by (try rw [z0]); omega) (by (try rw [z0]); omega); rw [z0] at s0; rw [hn_0]; (try rw [z1]); omega)) v2_2 x_3 c_4 b_3.2) hm_2) (v2_2 + 1) _ _ _ _ _ hP hD hS hO_1 (hE_1.mono (by decide +kernel)) (show ¬ ((v2_2 + 1) < 0) from by have e0 := iv0_2; rw [Int32.lt_iff_toInt_lt] at e0; have e1 := iv1_2; rw [Int32.lt_iff_toInt_lt] at e1; have z0 : (0 : Int32).toInt = 0 := (by decide +kernel); have z1 : (1 : Int32).toInt = 1 := (by decide +kernel); have z2 : (30 : Int32).toInt = 30 := (by decide +kernel); have ss := fb_addI (x := v2_2) (y := 1) (by omega) (by omega); rw [Int32.lt_iff_toInt_lt]; omega) (show ¬ (30 < (v2_2 + 1)) from ((fun (a_0 : Int32) (a_1 : Int32) (k_0 : ¬ (a_1 ≤ a_0)) (k_1 : ¬ (30 < a_1)) => (show ¬ (30 < (a_0 + 1)) from by have z0 : (1 : Int32).toInt = 1 := (by decide +kernel); have z1 : (30 : Int32).toInt = 30 := (by decide +kernel); have r0 := fb_rng (a_0); have r1 := fb_rng (a_1); have e0 := k_0; rw [Int32.le_iff_toInt_le] at e0; have e1 := k_1; rw [Int32.lt_iff_toInt_lt, z1] at e1; obtain ⟨n_0, hn_0, s0⟩ := nd_add (x := (a_0)) (y := (1 : Int32)) (by (try rw [z0]); omega) (by (try rw [z0]); omega); rw [z0] at s0; rw [hn_0, Int32.lt_iff_toInt_lt, z1]; omega)) v2_2 x_3 c_4 b_3.2)) (by exact ms_2 ((fun (a_0 : Int32) (a_1 : Int32) (k_0 : ¬ (a_1 ≤ a_0)) (k_1 : ¬ (30 < a_1)) => (show 1 ≤ (30 : Int32).toInt - (a_0).toInt ∧ (30 : Int32).toInt - ((a_0) + (1 : Int32)).toInt + 1 ≤ (30 : Int32).toInt - (a_0).toInt from by have z0 : (1 : Int32).toInt = 1 := (by decide +kernel); have z1 : (30 : Int32).toInt = 30 := (by decide +kernel); have r0 := fb_rng (a_0); have r1 := fb_rng (a_1); have e0 := k_0; rw [Int32.le_iff_toInt_le] at e0; have e1 := k_1; rw [Int32.lt_iff_toInt_lt, z1] at e1; obtain ⟨n_0, hn_0, s0⟩ := nd_add (x := (a_0)) (y := (1 : Int32)) (by (try rw [z0]); omega) (by (try rw [z0]); omega); rw [z0] at s0; rw [hn_0]; (try rw [z1]); omega)) v2_2 x_3 c_4 b_3.2) hm_2) (lv_sub hl [2, 3, 0] rfl)
              · refine lv_aload_n hx hb d_Bx_payPensions_47 rfl (lv_at hl 1 rfl) ?_
                refine lv_dup hx hb d_Bx_payPensions_48 rfl ?_
                refine tw_getI (x := x_9) (D := (dC, dI)) (C := R_Bx) (T := F_Bx) (N := 7) (ci := 5) (kd := 12) (ct := ct) hx hb htb i_Bx hown hK hP (hA_1.m m0) rfl rfl 0 e_9 (by decide) (htb (.fieldLink R_Bx 21 "WaterMen$Box" "coins" "I") tw_57) (fun _ h9 => h9) rfl d_Bx_payPensions_49 ?_
                refine lv_aload_n hx hb d_Bx_payPensions_52 rfl (lv_at hl 0 rfl) ?_
                refine tw_getI (x := x_8) (D := (dC, dI)) (C := R_Pn) (T := F_Pn) (N := 3) (ci := 6) (kd := 26) (ct := ct) hx hb htb i_Pn hown hK hP m_5 rfl rfl 0 e_8 (by decide) (htb (.fieldLink R_Bx 42 "WaterMen$Pensioner" "pension" "I") tw_66) (fun _ h9 => h9) rfl d_Bx_payPensions_53 ?_
                refine lv_isub hx hb d_Bx_payPensions_56 ?_
                refine tw_puti (v := (x_9 - x_8)) (D := (dC, dI)) (C := R_Bx) (T := F_Bx) (N := 7) (ci := 5) (kd := 12) (ct := ct) (ty := .int) hx hb htb i_Bx t_Bx t_Bx_ok n_Bx hown hK hP hD hS hO_1 (hA_1.m m0) rfl rfl 0 (by decide) (htb (.fieldLink R_Bx 21 "WaterMen$Box" "coins" "I") tw_57) (fun _ h9 => h9) rfl (by decide +kernel) rfl rfl rfl (i32_full _) d_Bx_payPensions_57 (fun f_2 H locs hP hD hS hO_2 hE_2 w_11 hF_2 => ?_)
                have hA_2 := hA_1.trans hE_2
                refine lv_aload_n hx hb d_Bx_payPensions_60 rfl (lv_at hl 0 rfl) ?_
                refine lv_dup hx hb d_Bx_payPensions_61 rfl ?_
                refine tw_geti (D := (dC, dI)) (C := R_Pn) (T := F_Pn) (N := 3) (ci := 6) (kd := 26) (ct := ct) hx hb htb i_Pn hown hK hP hO_2 (hE_2.m m_5) rfl rfl 2 (by decide) (htb (.fieldLink R_Bx 45 "WaterMen$Pensioner" "got" "I") tw_220) (fun _ h9 => h9) rfl d_Bx_payPensions_62 (fun x_12 e_12 b_12 => ?_)
                refine lv_aload_n hx hb d_Bx_payPensions_65 rfl (lv_at hl 0 rfl) ?_
                refine tw_getI (x := x_8) (D := (dC, dI)) (C := R_Pn) (T := F_Pn) (N := 3) (ci := 6) (kd := 26) (ct := ct) hx hb htb i_Pn hown hK hP (hE_2.m m_5) rfl rfl 0 ((hE_2.ei m_5 rfl).trans e_8) (by decide) (htb (.fieldLink R_Bx 42 "WaterMen$Pensioner" "pension" "I") tw_66) (fun _ h9 => h9) rfl d_Bx_payPensions_66 ?_
                refine lv_iadd hx hb d_Bx_payPensions_69 ?_
                refine tw_puti (v := (x_12 + x_8)) (D := (dC, dI)) (C := R_Pn) (T := F_Pn) (N := 3) (ci := 6) (kd := 26) (ct := ct) (ty := .int) hx hb htb i_Pn t_Pn t_Pn_ok n_Pn hown hK hP hD hS hO_2 (hE_2.m m_5) rfl rfl 2 (by decide) (htb (.fieldLink R_Bx 45 "WaterMen$Pensioner" "got" "I") tw_220) (fun _ h9 => h9) rfl (by decide +kernel) rfl rfl rfl (i32_full _) d_Bx_payPensions_70 (fun f_3 H locs hP hD hS hO_3 hE_3 w_13 hF_3 => ?_)
                have hA_3 := hA_2.trans hE_3
                refine lv_aload_n hx hb d_Bx_payPensions_73 rfl (lv_at hl 1 rfl) ?_
                refine lv_dup hx hb d_Bx_payPensions_74 rfl ?_
                refine tw_geti (D := (dC, dI)) (C := R_Bx) (T := F_Bx) (N := 7) (ci := 5) (kd := 12) (ct := ct) hx hb htb i_Bx hown hK hP hO_3 (hA_3.m m0) rfl rfl 3 (by decide) (htb (.fieldLink R_Bx 48 "WaterMen$Box" "allPensions" "I") tw_221) (fun _ h9 => h9) rfl d_Bx_payPensions_75 (fun x_14 e_14 b_14 => ?_)
                refine lv_aload_n hx hb d_Bx_payPensions_78 rfl (lv_at hl 0 rfl) ?_
                refine tw_getI (x := x_8) (D := (dC, dI)) (C := R_Pn) (T := F_Pn) (N := 3) (ci := 6) (kd := 26) (ct := ct) hx hb htb i_Pn hown hK hP (hE_3.m (hE_2.m m_5)) rfl rfl 0 ((hE_3.ei (hE_2.m m_5) rfl).trans ((hE_2.ei m_5 rfl).trans e_8)) (by decide) (htb (.fieldLink R_Bx 42 "WaterMen$Pensioner" "pension" "I") tw_66) (fun _ h9 => h9) rfl d_Bx_payPensions_79 ?_
                refine lv_iadd hx hb d_Bx_payPensions_82 ?_
                refine tw_puti (v := (x_14 + x_8)) (D := (dC, dI)) (C := R_Bx) (T := F_Bx) (N := 7) (ci := 5) (kd := 12) (ct := ct) (ty := .int) hx hb htb i_Bx t_Bx t_Bx_ok n_Bx hown hK hP hD hS hO_3 (hA_3.m m0) rfl rfl 3 (by decide) (htb (.fieldLink R_Bx 48 "WaterMen$Box" "allPensions" "I") tw_221) (fun _ h9 => h9) rfl (by decide +kernel) rfl rfl rfl (i32_full _) d_Bx_payPensions_83 (fun f_4 H locs hP hD hS hO_4 hE_4 w_15 hF_4 => ?_)
                have hA_4 := hA_3.trans hE_4
                refine lv_iinc (v := (v2_2 + 1)) (lv' := [(2, .int (v2_2 + 1)), (3, .ref q_5), (0, .ref q0), (1, .int p_0)]) hx hb d_Bx_payPensions_86 hl (k := 3) rfl rfl (by decide) rfl (fun ls hl => ?_)
                refine lv_goto (tgt := 10) hx hb d_Bx_payPensions_89 (by decide) ?_
                exact ih_2 (n_2 - 1) (ms_1 ((fun (a_0 : Int32) (a_1 : Int32) (k_0 : ¬ (a_1 ≤ a_0)) (k_1 : ¬ (30 < a_1)) => (show 1 ≤ (30 : Int32).toInt - (a_0).toInt ∧ (30 : Int32).toInt - ((a_0) + (1 : Int32)).toInt + 1 ≤ (30 : Int32).toInt - (a_0).toInt from by have z0 : (1 : Int32).toInt = 1 := (by decide +kernel); have z1 : (30 : Int32).toInt = 30 := (by decide +kernel); have r0 := fb_rng (a_0); have r1 := fb_rng (a_1); have e0 := k_0; rw [Int32.le_iff_toInt_le] at e0; have e1 := k_1; rw [Int32.lt_iff_toInt_lt, z1] at e1; obtain ⟨n_0, hn_0, s0⟩ := nd_add (x := (a_0)) (y := (1 : Int32)) (by (try rw [z0]); omega) (by (try rw [z0]); omega); rw [z0] at s0; rw [hn_0]; (try rw [z1]); omega)) v2_2 x_3 c_4 b_3.2) hm_2) (v2_2 + 1) _ _ _ _ _ hP hD hS hO_4 ((((hE_1.trans hE_2).trans hE_3).trans hE_4).mono (by decide +kernel)) (show ¬ ((v2_2 + 1) < 0) from by have e0 := iv0_2; rw [Int32.lt_iff_toInt_lt] at e0; have e1 := iv1_2; rw [Int32.lt_iff_toInt_lt] at e1; have z0 : (0 : Int32).toInt = 0 := (by decide +kernel); have z1 : (1 : Int32).toInt = 1 := (by decide +kernel); have z2 : (30 : Int32).toInt = 30 := (by decide +kernel); have ss := fb_addI (x := v2_2) (y := 1) (by omega) (by omega); rw [Int32.lt_iff_toInt_lt]; omega) (show ¬ (30 < (v2_2 + 1)) from ((fun (a_0 : Int32) (a_1 : Int32) (k_0 : ¬ (a_1 ≤ a_0)) (k_1 : ¬ (30 < a_1)) => (show ¬ (30 < (a_0 + 1)) from by have z0 : (1 : Int32).toInt = 1 := (by decide +kernel); have z1 : (30 : Int32).toInt = 30 := (by decide +kernel); have r0 := fb_rng (a_0); have r1 := fb_rng (a_1); have e0 := k_0; rw [Int32.le_iff_toInt_le] at e0; have e1 := k_1; rw [Int32.lt_iff_toInt_lt, z1] at e1; obtain ⟨n_0, hn_0, s0⟩ := nd_add (x := (a_0)) (y := (1 : Int32)) (by (try rw [z0]); omega) (by (try rw [z0]); omega); rw [z0] at s0; rw [hn_0, Int32.lt_iff_toInt_lt, z1]; omega)) v2_2 x_3 c_4 b_3.2)) (by exact ms_2 ((fun (a_0 : Int32) (a_1 : Int32) (k_0 : ¬ (a_1 ≤ a_0)) (k_1 : ¬ (30 < a_1)) => (show 1 ≤ (30 : Int32).toInt - (a_0).toInt ∧ (30 : Int32).toInt - ((a_0) + (1 : Int32)).toInt + 1 ≤ (30 : Int32).toInt - (a_0).toInt from by have z0 : (1 : Int32).toInt = 1 := (by decide +kernel); have z1 : (30 : Int32).toInt = 30 := (by decide +kernel); have r0 := fb_rng (a_0); have r1 := fb_rng (a_1); have e0 := k_0; rw [Int32.le_iff_toInt_le] at e0; have e1 := k_1; rw [Int32.lt_iff_toInt_lt, z1] at e1; obtain ⟨n_0, hn_0, s0⟩ := nd_add (x := (a_0)) (y := (1 : Int32)) (by (try rw [z0]); omega) (by (try rw [z0]); omega); rw [z0] at s0; rw [hn_0]; (try rw [z1]); omega)) v2_2 x_3 c_4 b_3.2) hm_2) (lv_sub hl [2, 3, 0] rfl)
    exact cut_2 4294967296 (0 : Int32) _ _ _ _ _ hP hD hS hO_0 Ext.rf (by decide +kernel) (by decide +kernel) (by exact ms_0 _ _) (lv_sub hl [1, 2, 0] rfl)
  · refine W.widen (k := 0) (n := 0) (Nat.le_of_ble_eq_true rfl) (Nat.le_of_ble_eq_true rfl) ?_
    exact W.vret hx hb hr (fun t ht hW => ⟨⟨(L, f), rfl, ⟨hO_0, hA_0.mono (by decide +kernel), trivial⟩, by rw [ht]; exact hP, va_K.moved hW.alike hK, by rw [hAe]; exact hD⟩, by rw [hAe]; exact hS.F ht⟩) (by rw [hAe]; exact hS.2.2) d_Bx_payPensions_7
def WL_WM_minutes_w_44_9 : List (Nat × Nat) := [(12, 0), (12, 1), (12, 3), (13, 1000), (20, 4), (26, 2)]
def W_WM_minutes_w : List (Nat × Nat) := [(0, 10), (12, 0), (12, 1), (12, 3), (13, 1000), (20, 4), (26, 2)]
def wpB_WM_minutes_w_44_9 (L : List Nat) (f : TF) (q0 : Nat) (p_0 : Int32) (x_3 : Int32) (y_5 : Int32) (r_6 : Int32) (Q : Int32 → List Nat → TF → Prop) (rec_9 : Int32 → List Nat → TF → Prop) (v3_9 : Int32) (L_1 : List Nat) (f_1 : TF) : Prop := Ok L_1 f_1 → Ext WL_WM_minutes_w_44_9 L f L_1 f_1 → ((y_5 < v3_9 → ∀ f_2 : TF, f_2 = sI f_1 q0 10 (x_3 + p_0) → Ok L_1 f_2 → Q (x_3 + p_0) L_1 f_2) ∧ (¬ (y_5 < v3_9) → ∀ (L_2 : List Nat) (f_2 : TF), Ok L_2 f_2 → Ext W_WM_partPot_t L_1 f_1 L_2 f_2 → ∀ q_13 : Nat, tr f_2 q0 6 = some q_13 → ∀ (L_3 : List Nat) (f_3 : TF), Ok L_3 f_3 → Ext W_Bx_payPensions_t L_2 f_2 L_3 f_3 → rec_9 (v3_9 + 1) L_3 f_3))
def wpL_WM_minutes_w_44_9 (L : List Nat) (f : TF) (q0 : Nat) (p_0 : Int32) (x_3 : Int32) (y_5 : Int32) (r_6 : Int32) (Q : Int32 → List Nat → TF → Prop) : Nat → Int32 → List Nat → TF → Prop
  | 0 => fun v3_9 L_1 f_1 => wpB_WM_minutes_w_44_9 L f q0 p_0 x_3 y_5 r_6 Q (fun _ _ _ => True) v3_9 L_1 f_1
  | n + 1 => fun v3_9 L_1 f_1 => wpB_WM_minutes_w_44_9 L f q0 p_0 x_3 y_5 r_6 Q (wpL_WM_minutes_w_44_9 L f q0 p_0 x_3 y_5 r_6 Q n) v3_9 L_1 f_1
def wpR_WM_minutes_w_44_9 (L : List Nat) (f : TF) (q0 : Nat) (p_0 : Int32) (x_3 : Int32) (y_5 : Int32) (r_6 : Int32) (Q : Int32 → List Nat → TF → Prop) : Nat → Int32 → List Nat → TF → Prop
  | 0 => fun _ _ _ => True
  | n + 1 => wpL_WM_minutes_w_44_9 L f q0 p_0 x_3 y_5 r_6 Q n
theorem wpL_WM_minutes_w_44_9_eq {L : List Nat} {f : TF} {q0 : Nat} {p_0 : Int32} {x_3 : Int32} {y_5 : Int32} {r_6 : Int32} {Q : Int32 → List Nat → TF → Prop} {n : Nat} : wpL_WM_minutes_w_44_9 L f q0 p_0 x_3 y_5 r_6 Q n = wpB_WM_minutes_w_44_9 L f q0 p_0 x_3 y_5 r_6 Q (wpR_WM_minutes_w_44_9 L f q0 p_0 x_3 y_5 r_6 Q n) := by cases n <;> rfl
theorem wpR_WM_minutes_w_44_9_pos {L : List Nat} {f : TF} {q0 : Nat} {p_0 : Int32} {x_3 : Int32} {y_5 : Int32} {r_6 : Int32} {Q : Int32 → List Nat → TF → Prop} {n : Nat} (h : 0 < n) : wpR_WM_minutes_w_44_9 L f q0 p_0 x_3 y_5 r_6 Q n = wpL_WM_minutes_w_44_9 L f q0 p_0 x_3 y_5 r_6 Q (n - 1) := by
  cases n with
  | zero => omega
  | succ n => rfl
def wp_WM_minutes_w (L : List Nat) (f : TF) (q0 : Nat) (p_0 : Int32) (Q : Int32 → List Nat → TF → Prop) : Prop := ((p_0 < 1 → Q (-1) L f) ∧ (¬ (p_0 < 1) → ((1440 < p_0 → Q (-1) L f) ∧ (¬ (1440 < p_0) → ∀ x_3 : Int32, ti f q0 10 = x_3 → ((p_0 ≤ (359999 - x_3) → ∀ y_5 : Int32, y_5 = (x_3 + p_0) / 720 → wp_WM_today_w L f q0 (fun (r_6 : Int32) => (wpL_WM_minutes_w_44_9 L f q0 p_0 x_3 y_5 r_6 Q (((500 : Int32).toInt - ((r_6 + 1) : Int32).toInt).toNat) (r_6 + 1) L f))) ∧ (¬ (p_0 ≤ (359999 - x_3)) → Q (-1) L f))))))
set_option maxHeartbeats 4000000 in
set_option maxRecDepth 100000 in
theorem c_WM_minutes_w (l : Launch) (dC : Nat → ClassId) (dI : Nat → Nat → Nat) (ct : Nat → ClassId) (L : List Nat) (f : TF) (hO_0 : Ok L f) (q0 : Nat) (m0 : q0 ∈ L ∧ tk f q0 = 0) (sz : Nat) (p_0 : Int32)   (Q : Int32 → List Nat → TF → Prop) (hQ : wp_WM_minutes_w L f q0 p_0 Q) : Met l y_WM_minutes (.code y_WM_minutes b_WM_minutes 4 (some .int) :: TB) ({ frames := 3, cells := 0, slots := 0, locals := 67 }) (va_Pc [.ref q0, .int p_0] (PC dC dI (TW ct L f) (TT ct) sz)) (va_Qi (fun r (u : TSt) => Ok u.1 u.2 ∧ Ext W_WM_minutes_w L f u.1 u.2 ∧ (True) ∧ Q r u.1 u.2) (fun (u : TSt) t => va_P (dC, dI) vwCl (TW ct u.1 u.2) t.heap ∧ va_K (dC, dI) vwCl (TT ct) t ∧ va_D (va_A (TW ct L f) sz) (TW ct u.1 u.2)) (va_A (TW ct L f) sz)) 0 0 (va_A (TW ct L f) sz) := by
  refine Met.ofW (cc := b_WM_minutes) (maxL := 4) (ret := (some .int)) (by decide) rfl ?_
  intro p e s m args below meth c s₁ B hml hv
  obtain ⟨rfl, hsz, hP, hK, hD0, hN⟩ := hv
  have hx := B.exec
  have hb := B.bytes
  have hr := B.returns
  have hts := atoms_spec (ws := (.code y_WM_minutes b_WM_minutes 4 (some .int) :: TB)) B.pre
  have htb := fun w (h : w ∈ TB) => hts w (List.mem_cons_of_mem _ h)
  have hown : s.vm.findClass R_WM = some m.cls := findClass_of_methodNamed B.named
  have hlocks := B.notSynchronized
  have hl := lv_entry ([.ref q0, .int p_0]) (n := 4) (Nat.le_of_ble_eq_true rfl)
  rw [lg_entry_eq]
  generalize (lg_sl ([.ref q0, .int p_0]) ++ List.replicate (4 - (lg_sl ([.ref q0, .int p_0])).length) Slot.unset).toArray = ls at hl ⊢
  have hl : lv_has ls 4 [(0, .ref q0), (1, .int p_0)] := hl
  subst hsz
  have hD := hD0.self (sz := s.heap.size)
  obtain ⟨A, hAe⟩ : ∃ A, va_A (TW ct L f) s.heap.size = A := ⟨_, rfl⟩
  rw [hAe] at hD
  have hA : ∀ q : Nat, s.heap.size ≤ q → A q := fun q h => by rw [← hAe]; exact Or.inr h
  have hS : va_S A s.heap s.heap [] := va_S.rf
  have hA_0 : Ext [] L f L f := Ext.rf
  suffices hGo : ∀ (H : Heap) (locs : List Loc), va_P (dC, dI) vwCl (TW ct L f) H → va_S A s.heap H locs → W p l e (headSpec (.code y_WM_minutes b_WM_minutes 4 (some .int) :: TB) ({ frames := 3, cells := 0, slots := 0, locals := 67 })).room s m [.ref q0, .int p_0].toArray below meth c H locs 0 0 (MQ below (va_Qi (fun r (u : TSt) => Ok u.1 u.2 ∧ Ext W_WM_minutes_w L f u.1 u.2 ∧ (True) ∧ Q r u.1 u.2) (fun (u : TSt) t => va_P (dC, dI) vwCl (TW ct u.1 u.2) t.heap ∧ va_K (dC, dI) vwCl (TT ct) t ∧ va_D (va_A (TW ct L f) s.heap.size) (TW ct u.1 u.2)) (va_A (TW ct L f) s.heap.size)) [.ref q0, .int p_0].toArray s 0 0 (va_A (TW ct L f) s.heap.size)) (F0 m 0 ls []) from hGo _ _ hP hS
  clear hP hS
  intro H locs hP hS
  unfold wp_WM_minutes_w at hQ
  refine lv_iload_n hx hb d_WM_minutes_0 rfl (lv_at hl 1 rfl) ?_
  refine lv_iconst (v := 1) hx hb d_WM_minutes_1 (by decide +kernel) ?_
  refine lv_icmp_lt (tgt := 24) hx hb d_WM_minutes_2 (by decide) (fun c_1 => ?_) (fun c_1 => ?_)
  · have hQ := hQ.1 c_1
    refine lv_iconst (v := (-1)) hx hb d_WM_minutes_24 (by decide +kernel) ?_
    refine W.widen (k := 0) (n := 0) (Nat.le_of_ble_eq_true rfl) (Nat.le_of_ble_eq_true rfl) ?_
    exact W.iret (v := (-1)) hx hb hr (fun t ht hW => ⟨⟨(-1), (L, f), rfl, ⟨hO_0, hA_0.mono (by decide +kernel), trivial, hQ⟩, by rw [ht]; exact hP, va_K.moved hW.alike hK, by rw [hAe]; exact hD⟩, by rw [hAe]; exact hS.F ht⟩) (by rw [hAe]; exact hS.2.2) d_WM_minutes_25
  · have hQ := hQ.2 c_1
    refine lv_iload_n hx hb d_WM_minutes_5 rfl (lv_at hl 1 rfl) ?_
    refine lv_sipush (v := 1440) hx hb d_WM_minutes_6 (by decide +kernel) ?_
    refine lv_icmp_gt (tgt := 24) hx hb d_WM_minutes_9 (by decide) (fun c_2 => ?_) (fun c_2 => ?_)
    · have hQ := hQ.1 c_2
      refine lv_iconst (v := (-1)) hx hb d_WM_minutes_24 (by decide +kernel) ?_
      refine W.widen (k := 0) (n := 0) (Nat.le_of_ble_eq_true rfl) (Nat.le_of_ble_eq_true rfl) ?_
      exact W.iret (v := (-1)) hx hb hr (fun t ht hW => ⟨⟨(-1), (L, f), rfl, ⟨hO_0, hA_0.mono (by decide +kernel), trivial, hQ⟩, by rw [ht]; exact hP, va_K.moved hW.alike hK, by rw [hAe]; exact hD⟩, by rw [hAe]; exact hS.F ht⟩) (by rw [hAe]; exact hS.2.2) d_WM_minutes_25
    · have hQ := hQ.2 c_2
      refine lv_iload_n hx hb d_WM_minutes_12 rfl (lv_at hl 1 rfl) ?_
      refine lv_ldcw (v := 359999) hx hb hown (htb (.constant R_WM 270 359999) tw_207) d_WM_minutes_13 ?_
      refine lv_aload_n hx hb d_WM_minutes_16 rfl (lv_at hl 0 rfl) ?_
      refine tw_geti (D := (dC, dI)) (C := R_WM) (T := F_WM) (N := 13) (ci := 0) (kd := 0) (ct := ct) hx hb htb i_WM hown hK hP hO_0 m0 rfl rfl 10 (by decide) (htb (.fieldLink R_WM 155 "WaterMen" "now" "I") tw_40) (fun _ h9 => h9) rfl d_WM_minutes_17 (fun x_3 e_3 b_3 => ?_)
      have hQ := hQ x_3 e_3
      refine lv_isub hx hb d_WM_minutes_20 ?_
      refine lv_icmp_le (tgt := 26) hx hb d_WM_minutes_21 (by decide) (fun c_4 => ?_) (fun c_4 => ?_)
      · have hQ := hQ.1 c_4
        refine lv_aload_n hx hb d_WM_minutes_26 rfl (lv_at hl 0 rfl) ?_
        refine tw_getI (x := x_3) (D := (dC, dI)) (C := R_WM) (T := F_WM) (N := 13) (ci := 0) (kd := 0) (ct := ct) hx hb htb i_WM hown hK hP m0 rfl rfl 10 e_3 (by decide) (htb (.fieldLink R_WM 155 "WaterMen" "now" "I") tw_40) (fun _ h9 => h9) rfl d_WM_minutes_27 ?_
        refine lv_iload_n hx hb d_WM_minutes_30 rfl (lv_at hl 1 rfl) ?_
        refine lv_iadd hx hb d_WM_minutes_31 ?_
        refine lv_sipush (v := 720) hx hb d_WM_minutes_32 (by decide +kernel) ?_
        refine lv_idiv hx hb d_WM_minutes_35 (by decide) ?_
        refine hb_divn (U := 359999) (Qm := 499) (c := 720) (C1 := 719) (K := 2147482927) (by decide +kernel) (by decide +kernel) (by decide +kernel) (show ¬ ((x_3 + p_0) < 0) from ((fun (a_0 : Int32) (a_1 : Int32) (k_0 : ¬ (a_0 < 1)) (k_1 : ¬ (a_1 < 0)) (k_2 : a_0 ≤ (359999 - a_1)) => (show ¬ ((a_1 + a_0) < 0) from by have z0 : (0 : Int32).toInt = 0 := (by decide +kernel); have z1 : (1 : Int32).toInt = 1 := (by decide +kernel); have z2 : (359999 : Int32).toInt = 359999 := (by decide +kernel); have r0 := fb_rng (a_0); have r1 := fb_rng (a_1); have e0 := k_0; rw [Int32.lt_iff_toInt_lt, z1] at e0; have e1 := k_1; rw [Int32.lt_iff_toInt_lt, z0] at e1; obtain ⟨n_0, hn_0, s0⟩ := nd_sub (x := (359999 : Int32)) (y := (a_1)) (by (try rw [z2]); omega) (by (try rw [z2]); omega); rw [z2] at s0; have e2 := k_2; rw [hn_0, Int32.le_iff_toInt_le] at e2; obtain ⟨n_1, hn_1, s1⟩ := nd_add (x := (a_1)) (y := (a_0)) (by omega) (by omega); rw [hn_1, Int32.lt_iff_toInt_lt, z0]; omega)) p_0 x_3 c_1 b_3.1 c_4)) (show ¬ (2147482927 < (x_3 + p_0)) from ((fun (a_0 : Int32) (a_1 : Int32) (k_0 : ¬ (a_1 < 0)) (k_1 : a_0 ≤ (359999 - a_1)) => (show ¬ (2147482927 < (a_1 + a_0)) from by have z0 : (0 : Int32).toInt = 0 := (by decide +kernel); have z1 : (359999 : Int32).toInt = 359999 := (by decide +kernel); have z2 : (2147482927 : Int32).toInt = 2147482927 := (by decide +kernel); have r0 := fb_rng (a_0); have r1 := fb_rng (a_1); have e0 := k_0; rw [Int32.lt_iff_toInt_lt, z0] at e0; obtain ⟨n_0, hn_0, s0⟩ := nd_sub (x := (359999 : Int32)) (y := (a_1)) (by (try rw [z1]); omega) (by (try rw [z1]); omega); rw [z1] at s0; have e1 := k_1; rw [hn_0, Int32.le_iff_toInt_le] at e1; obtain ⟨n_1, hn_1, s1⟩ := nd_add (x := (a_1)) (y := (a_0)) (by omega) (by omega); rw [hn_1, Int32.lt_iff_toInt_lt, z2]; omega)) p_0 x_3 b_3.1 c_4)) (show ¬ (359999 < (x_3 + p_0)) from ((fun (a_0 : Int32) (a_1 : Int32) (k_0 : ¬ (a_1 < 0)) (k_1 : a_0 ≤ (359999 - a_1)) => (show ¬ (359999 < (a_1 + a_0)) from by have z0 : (0 : Int32).toInt = 0 := (by decide +kernel); have z1 : (359999 : Int32).toInt = 359999 := (by decide +kernel); have r0 := fb_rng (a_0); have r1 := fb_rng (a_1); have e0 := k_0; rw [Int32.lt_iff_toInt_lt, z0] at e0; obtain ⟨n_0, hn_0, s0⟩ := nd_sub (x := (359999 : Int32)) (y := (a_1)) (by (try rw [z1]); omega) (by (try rw [z1]); omega); rw [z1] at s0; have e1 := k_1; rw [hn_0, Int32.le_iff_toInt_le] at e1; obtain ⟨n_1, hn_1, s1⟩ := nd_add (x := (a_1)) (y := (a_0)) (by omega) (by omega); rw [hn_1, Int32.lt_iff_toInt_lt, z1]; omega)) p_0 x_3 b_3.1 c_4)) (by decide +kernel) (fun y_5 g1_5 g2_5 g3_5 g4_5 g5_5 g9_5 => ?_)
        have hQ := hQ y_5 g9_5
        refine lv_istore_n (lv' := [(2, .int y_5), (0, .ref q0), (1, .int p_0)]) hx hb d_WM_minutes_36 rfl hl (by decide) rfl (fun ls hl => ?_)
        refine lv_aload_n hx hb d_WM_minutes_37 rfl (lv_at hl 1 rfl) ?_
        refine vp_callSi (va_Run.run (va_runV (As := []) (rest := []) ⟨hx, hb, hml, hown, htb⟩ (c_WM_today_w l dC dI ct L f hO_0 q0 m0 _ hQ) (cwV 0 htb (gd_V tw_50 tw_51 tw_52 tw_26 tw_49) rfl rfl rfl (by decide +kernel) ⟨Nat.le_of_ble_eq_true rfl, Nat.le_of_ble_eq_true rfl⟩) ⟨pr_blind, tw_recv hK hP m0 rfl rfl, pr_pre hP hK hN⟩ rfl rfl hl.1 rfl (lv_room (Nat.le_of_ble_eq_true rfl)) d_WM_minutes_38 ⟨Nat.le_of_ble_eq_true rfl, Nat.le_of_ble_eq_true rfl⟩)) (fun r_6 er_6 => ?_)
        obtain ⟨er_6, hQ⟩ := er_6
        obtain ⟨po_7, po_8, -⟩ := er_6
        refine lv_iconst (v := 1) hx hb d_WM_minutes_41 (by decide +kernel) ?_
        refine lv_iadd hx hb d_WM_minutes_42 ?_
        refine lv_istore_n (lv' := [(3, .int (r_6 + 1)), (2, .int y_5), (0, .ref q0), (1, .int p_0)]) hx hb d_WM_minutes_43 rfl hl (by decide) rfl (fun ls hl => ?_)
        have cut_9 : ∀ (n_9 : Nat) (v3_9 : Int32) (L_1 : List Nat) (f_1 : TF) (H : Heap) (locs : List Loc) (ls : Array Slot), va_P (dC, dI) vwCl (TW ct L_1 f_1) H → va_D A (TW ct L_1 f_1) → va_S A s.heap H locs → Ok L_1 f_1 → Ext WL_WM_minutes_w_44_9 L f L_1 f_1 → ¬ (v3_9 < 1) → ¬ (500 < v3_9) → (500 : Int32).toInt - (v3_9 : Int32).toInt ≤ (n_9 : Int) → wpL_WM_minutes_w_44_9 L f q0 p_0 x_3 y_5 r_6 Q n_9 v3_9 L_1 f_1 → lv_has ls 4 [(0, .ref q0), (1, .int p_0), (2, .int y_5), (3, .int v3_9)] → W p l e (headSpec (.code y_WM_minutes b_WM_minutes 4 (some .int) :: TB) ({ frames := 3, cells := 0, slots := 0, locals := 67 })).room s m [.ref q0, .int p_0].toArray below meth c H locs 0 0 (MQ below (va_Qi (fun r (u : TSt) => Ok u.1 u.2 ∧ Ext W_WM_minutes_w L f u.1 u.2 ∧ (True) ∧ Q r u.1 u.2) (fun (u : TSt) t => va_P (dC, dI) vwCl (TW ct u.1 u.2) t.heap ∧ va_K (dC, dI) vwCl (TT ct) t ∧ va_D (va_A (TW ct L f) s.heap.size) (TW ct u.1 u.2)) (va_A (TW ct L f) s.heap.size)) [.ref q0, .int p_0].toArray s 0 0 (va_A (TW ct L f) s.heap.size)) (F0 m 44 ls []) := by
          intro n_9
          induction n_9 using Nat.strongRecOn with
          | _ n_9 ih_9 =>
            intro v3_9 L_1 f_1 H locs ls hP hD hS hO_1 hE_1 iv0_9 iv1_9 hm_9 hQ hl
            have hA_1 := hA_0.trans hE_1
            rw [wpL_WM_minutes_w_44_9_eq] at hQ
            obtain ⟨rec_9, hrec_9⟩ : ∃ g, wpR_WM_minutes_w_44_9 L f q0 p_0 x_3 y_5 r_6 Q n_9 = g := ⟨_, rfl⟩
            rw [hrec_9] at hQ
            unfold wpB_WM_minutes_w_44_9 at hQ
            have hQ := hQ hO_1 hE_1
            refine lv_iload_n hx hb d_WM_minutes_44 rfl (lv_at hl 3 rfl) ?_
            refine lv_iload_n hx hb d_WM_minutes_45 rfl (lv_at hl 2 rfl) ?_
            refine lv_icmp_gt (tgt := 70) hx hb d_WM_minutes_46 (by decide) (fun c_10 => ?_) (fun c_10 => ?_)
            · have hQ := hQ.1 c_10
              refine lv_aload_n hx hb d_WM_minutes_70 rfl (lv_at hl 0 rfl) ?_
              refine lv_dup hx hb d_WM_minutes_71 rfl ?_
              refine tw_getI (x := x_3) (D := (dC, dI)) (C := R_WM) (T := F_WM) (N := 13) (ci := 0) (kd := 0) (ct := ct) hx hb htb i_WM hown hK hP (hA_1.m m0) rfl rfl 10 ((hA_1.ei m0 rfl).trans e_3) (by decide) (htb (.fieldLink R_WM 155 "WaterMen" "now" "I") tw_40) (fun _ h9 => h9) rfl d_WM_minutes_72 ?_
              refine lv_iload_n hx hb d_WM_minutes_75 rfl (lv_at hl 1 rfl) ?_
              refine lv_iadd hx hb d_WM_minutes_76 ?_
              refine tw_puti (v := (x_3 + p_0)) (D := (dC, dI)) (C := R_WM) (T := F_WM) (N := 13) (ci := 0) (kd := 0) (ct := ct) (ty := .int) hx hb htb i_WM t_WM t_WM_ok n_WM hown hK hP hD hS hO_1 (hA_1.m m0) rfl rfl 10 (by decide) (htb (.fieldLink R_WM 155 "WaterMen" "now" "I") tw_40) (fun _ h9 => h9) rfl (by decide +kernel) rfl rfl rfl ⟨(show ¬ ((x_3 + p_0) < 0) from ((fun (a_0 : Int32) (a_1 : Int32) (a_2 : Int32) (a_3 : Int32) (k_0 : ¬ (a_2 < 0)) (k_1 : a_0 ≤ (359999 - a_2)) (k_2 : a_3 < a_1) (k_3 : ¬ (a_3 < 0)) (k_4 : ¬ (500 < a_1)) (k_5 : ¬ ((a_2 + a_0) < (a_3 * 720))) => (show ¬ ((a_2 + a_0) < 0) from by have z0 : (0 : Int32).toInt = 0 := (by decide +kernel); have z1 : (500 : Int32).toInt = 500 := (by decide +kernel); have z2 : (720 : Int32).toInt = 720 := (by decide +kernel); have z3 : (359999 : Int32).toInt = 359999 := (by decide +kernel); have r0 := fb_rng (a_0); have r1 := fb_rng (a_1); have r2 := fb_rng (a_2); have r3 := fb_rng (a_3); have e0 := k_0; rw [Int32.lt_iff_toInt_lt, z0] at e0; obtain ⟨n_0, hn_0, s0⟩ := nd_sub (x := (359999 : Int32)) (y := (a_2)) (by (try rw [z3]); omega) (by (try rw [z3]); omega); rw [z3] at s0; have e1 := k_1; rw [hn_0, Int32.le_iff_toInt_le] at e1; obtain ⟨n_1, hn_1, s1⟩ := nd_add (x := (a_2)) (y := (a_0)) (by omega) (by omega); have e2 := k_2; rw [Int32.lt_iff_toInt_lt] at e2; have e3 := k_3; rw [Int32.lt_iff_toInt_lt, z0] at e3; have e4 := k_4; rw [Int32.lt_iff_toInt_lt, z1] at e4; obtain ⟨n_2, hn_2, s2⟩ := nd_mul (x := (a_3)) (y := (720 : Int32)) (by (try rw [z2]); omega) (by (try rw [z2]); omega); rw [z2] at s2; have e5 := k_5; rw [hn_1, hn_2, Int32.lt_iff_toInt_lt] at e5; rw [hn_1, Int32.lt_iff_toInt_lt, z0]; omega)) p_0 v3_9 x_3 y_5 b_3.1 c_4 c_10 g1_5 iv1_9 g3_5)), (show ¬ (359999 < (x_3 + p_0)) from ((fun (a_0 : Int32) (a_1 : Int32) (k_0 : ¬ (a_1 < 0)) (k_1 : a_0 ≤ (359999 - a_1)) => (show ¬ (359999 < (a_1 + a_0)) from by have z0 : (0 : Int32).toInt = 0 := (by decide +kernel); have z1 : (359999 : Int32).toInt = 359999 := (by decide +kernel); have r0 := fb_rng (a_0); have r1 := fb_rng (a_1); have e0 := k_0; rw [Int32.lt_iff_toInt_lt, z0] at e0; obtain ⟨n_0, hn_0, s0⟩ := nd_sub (x := (359999 : Int32)) (y := (a_1)) (by (try rw [z1]); omega) (by (try rw [z1]); omega); rw [z1] at s0; have e1 := k_1; rw [hn_0, Int32.le_iff_toInt_le] at e1; obtain ⟨n_1, hn_1, s1⟩ := nd_add (x := (a_1)) (y := (a_0)) (by omega) (by omega); rw [hn_1, Int32.lt_iff_toInt_lt, z1]; omega)) p_0 x_3 b_3.1 c_4))⟩ d_WM_minutes_77 (fun f_2 H locs hP hD hS hO_2 hE_2 w_11 hF_2 => ?_)
              have hA_2 := hA_1.trans hE_2
              have hQ := hQ f_2 hF_2
              have hQ := hQ hO_2
              refine lv_aload_n hx hb d_WM_minutes_80 rfl (lv_at hl 0 rfl) ?_
              refine tw_getI (x := (x_3 + p_0)) (D := (dC, dI)) (C := R_WM) (T := F_WM) (N := 13) (ci := 0) (kd := 0) (ct := ct) hx hb htb i_WM hown hK hP (hA_2.m m0) rfl rfl 10 w_11 (by decide) (htb (.fieldLink R_WM 155 "WaterMen" "now" "I") tw_40) (fun _ h9 => h9) rfl d_WM_minutes_81 ?_
              refine W.widen (k := 0) (n := 0) (Nat.le_of_ble_eq_true rfl) (Nat.le_of_ble_eq_true rfl) ?_
              exact W.iret (v := (x_3 + p_0)) hx hb hr (fun t ht hW => ⟨⟨(x_3 + p_0), (L_1, f_2), rfl, ⟨hO_2, hA_2.mono (by decide +kernel), trivial, hQ⟩, by rw [ht]; exact hP, va_K.moved hW.alike hK, by rw [hAe]; exact hD⟩, by rw [hAe]; exact hS.F ht⟩) (by rw [hAe]; exact hS.2.2) d_WM_minutes_84
            · have hQ := hQ.2 c_10
              refine lv_aload_n hx hb d_WM_minutes_49 rfl (lv_at hl 0 rfl) ?_
              refine lv_iload_n hx hb d_WM_minutes_50 rfl (lv_at hl 3 rfl) ?_
              refine lv_iconst (v := 1) hx hb d_WM_minutes_51 (by decide +kernel) ?_
              refine lv_isub hx hb d_WM_minutes_52 ?_
              have hFc := hb_free hD hS hA
              refine va_callv (va_runV (As := [.int (v3_9 - 1)]) (rest := []) ⟨hx, hb, hml, hown, htb⟩ (c_WM_partPot_t l dC dI ct L_1 f_1 hO_1 q0 (hA_1.m m0) _ (v3_9 - 1)) (cwV 1 htb (gd_V tw_217 tw_218 tw_219 tw_26 tw_216) rfl rfl rfl (by decide +kernel) ⟨Nat.le_of_ble_eq_true rfl, Nat.le_of_ble_eq_true rfl⟩) ⟨pc_blind, tw_recv hK hP (hA_1.m m0) rfl rfl, pc_pre hP hK hD hN⟩ rfl rfl hl.1 rfl (lv_room (Nat.le_of_ble_eq_true rfl)) d_WM_minutes_53 ⟨Nat.le_of_ble_eq_true rfl, Nat.le_of_ble_eq_true rfl⟩) hS (fun q _ h => hFc q h) hFc (fun u t H locs ht hvm er hB hz1 hk1 hS => ?_)
              obtain ⟨L_2, f_2⟩ := u
              obtain ⟨hO_2, hE_2, er⟩ := er
              obtain ⟨hP, hK1, hD1⟩ := hB
              rw [ht] at hP
              have hP : va_P (dC, dI) vwCl (TW ct L_2 f_2) H := hP
              have hD : va_D A (TW ct L_2 f_2) := hD1.weaken (fun _ q _ h => hFc q.1 h)
              have hO_2 : Ok L_2 f_2 := hO_2
              have hE_2 : Ext W_WM_partPot_t L_1 f_1 L_2 f_2 := hE_2
              clear hK1 hD1 ht hvm hz1 hk1
              have hA_2 := hA_1.trans hE_2
              have hQ := hQ L_2 f_2 hO_2 hE_2
              clear er
              refine lv_aload_n hx hb d_WM_minutes_56 rfl (lv_at hl 0 rfl) ?_
              refine tw_getr (D := (dC, dI)) (C := R_WM) (T := F_WM) (N := 13) (ci := 0) (kd := 0) (ct := ct) hx hb htb i_WM hown hK hP hO_2 (hA_2.m m0) rfl rfl 6 (by decide) (htb (.fieldLink R_WM 50 "WaterMen" "box" "LWaterMen$Box;") tw_48) (fun _ h9 => h9) rfl d_WM_minutes_57 (fun q_13 e_13 m_13 => ?_)
              have hQ := hQ q_13 e_13
              refine lv_iload_n hx hb d_WM_minutes_60 rfl (lv_at hl 3 rfl) ?_
              have hFc := hb_free hD hS hA
              refine va_callv (va_runV (As := [.int v3_9]) (rest := []) ⟨hx, hb, hml, hown, htb⟩ (c_Bx_payPensions_t l dC dI ct L_2 f_2 hO_2 q_13 m_13 _ v3_9) (cwV 1 htb (gd_V tw_223 tw_224 tw_225 tw_61 tw_222) rfl rfl rfl (by decide +kernel) ⟨Nat.le_of_ble_eq_true rfl, Nat.le_of_ble_eq_true rfl⟩) ⟨pc_blind, tw_recv hK hP m_13 rfl rfl, pc_pre hP hK hD hN⟩ rfl rfl hl.1 rfl (lv_room (Nat.le_of_ble_eq_true rfl)) d_WM_minutes_61 ⟨Nat.le_of_ble_eq_true rfl, Nat.le_of_ble_eq_true rfl⟩) hS (fun q _ h => hFc q h) hFc (fun u t H locs ht hvm er hB hz1 hk1 hS => ?_)
              obtain ⟨L_3, f_3⟩ := u
              obtain ⟨hO_3, hE_3, er⟩ := er
              obtain ⟨hP, hK1, hD1⟩ := hB
              rw [ht] at hP
              have hP : va_P (dC, dI) vwCl (TW ct L_3 f_3) H := hP
              have hD : va_D A (TW ct L_3 f_3) := hD1.weaken (fun _ q _ h => hFc q.1 h)
              have hO_3 : Ok L_3 f_3 := hO_3
              have hE_3 : Ext W_Bx_payPensions_t L_2 f_2 L_3 f_3 := hE_3
              clear hK1 hD1 ht hvm hz1 hk1
              have hA_3 := hA_2.trans hE_3
              have hQ := hQ L_3 f_3 hO_3 hE_3
              clear er
              refine lv_iinc (v := (v3_9 + 1)) (lv' := [(3, .int (v3_9 + 1)), (0, .ref q0), (1, .int p_0), (2, .int y_5)]) hx hb d_WM_minutes_64 hl (k := 3) rfl rfl (by decide) rfl (fun ls hl => ?_)
              refine lv_goto (tgt := 44) hx hb d_WM_minutes_67 (by decide) ?_
              exact ih_9 (n_9 - 1) (ms_1 ((fun (a_0 : Int32) (a_1 : Int32) (k_0 : ¬ (a_1 < a_0)) (k_1 : ¬ (499 < a_1)) => (show 1 ≤ (500 : Int32).toInt - (a_0).toInt ∧ (500 : Int32).toInt - ((a_0) + (1 : Int32)).toInt + 1 ≤ (500 : Int32).toInt - (a_0).toInt from by have z0 : (1 : Int32).toInt = 1 := (by decide +kernel); have z1 : (499 : Int32).toInt = 499 := (by decide +kernel); have z2 : (500 : Int32).toInt = 500 := (by decide +kernel); have r0 := fb_rng (a_0); have r1 := fb_rng (a_1); have e0 := k_0; rw [Int32.lt_iff_toInt_lt] at e0; have e1 := k_1; rw [Int32.lt_iff_toInt_lt, z1] at e1; obtain ⟨n_0, hn_0, s0⟩ := nd_add (x := (a_0)) (y := (1 : Int32)) (by (try rw [z0]); omega) (by (try rw [z0]); omega); rw [z0] at s0; rw [hn_0]; (try rw [z2]); omega)) v3_9 y_5 c_10 g5_5) hm_9) (v3_9 + 1) _ _ _ _ _ hP hD hS hO_3 (((hE_1.trans hE_2).trans hE_3).mono (by decide +kernel)) (show ¬ ((v3_9 + 1) < 1) from by have e0 := iv0_9; rw [Int32.lt_iff_toInt_lt] at e0; have e1 := iv1_9; rw [Int32.lt_iff_toInt_lt] at e1; have z0 : (1 : Int32).toInt = 1 := (by decide +kernel); have z1 : (500 : Int32).toInt = 500 := (by decide +kernel); have ss := fb_addI (x := v3_9) (y := 1) (by omega) (by omega); rw [Int32.lt_iff_toInt_lt]; omega) (show ¬ (500 < (v3_9 + 1)) from ((fun (a_0 : Int32) (a_1 : Int32) (k_0 : ¬ (a_1 < a_0)) (k_1 : ¬ (499 < a_1)) => (show ¬ (500 < (a_0 + 1)) from by have z0 : (1 : Int32).toInt = 1 := (by decide +kernel); have z1 : (499 : Int32).toInt = 499 := (by decide +kernel); have z2 : (500 : Int32).toInt = 500 := (by decide +kernel); have r0 := fb_rng (a_0); have r1 := fb_rng (a_1); have e0 := k_0; rw [Int32.lt_iff_toInt_lt] at e0; have e1 := k_1; rw [Int32.lt_iff_toInt_lt, z1] at e1; obtain ⟨n_0, hn_0, s0⟩ := nd_add (x := (a_0)) (y := (1 : Int32)) (by (try rw [z0]); omega) (by (try rw [z0]); omega); rw [z0] at s0; rw [hn_0, Int32.lt_iff_toInt_lt, z2]; omega)) v3_9 y_5 c_10 g5_5)) (by exact ms_2 ((fun (a_0 : Int32) (a_1 : Int32) (k_0 : ¬ (a_1 < a_0)) (k_1 : ¬ (499 < a_1)) => (show 1 ≤ (500 : Int32).toInt - (a_0).toInt ∧ (500 : Int32).toInt - ((a_0) + (1 : Int32)).toInt + 1 ≤ (500 : Int32).toInt - (a_0).toInt from by have z0 : (1 : Int32).toInt = 1 := (by decide +kernel); have z1 : (499 : Int32).toInt = 499 := (by decide +kernel); have z2 : (500 : Int32).toInt = 500 := (by decide +kernel); have r0 := fb_rng (a_0); have r1 := fb_rng (a_1); have e0 := k_0; rw [Int32.lt_iff_toInt_lt] at e0; have e1 := k_1; rw [Int32.lt_iff_toInt_lt, z1] at e1; obtain ⟨n_0, hn_0, s0⟩ := nd_add (x := (a_0)) (y := (1 : Int32)) (by (try rw [z0]); omega) (by (try rw [z0]); omega); rw [z0] at s0; rw [hn_0]; (try rw [z2]); omega)) v3_9 y_5 c_10 g5_5) hm_9) (by rw [← hrec_9, wpR_WM_minutes_w_44_9_pos (ms_3 ((fun (a_0 : Int32) (a_1 : Int32) (k_0 : ¬ (a_1 < a_0)) (k_1 : ¬ (499 < a_1)) => (show 1 ≤ (500 : Int32).toInt - (a_0).toInt ∧ (500 : Int32).toInt - ((a_0) + (1 : Int32)).toInt + 1 ≤ (500 : Int32).toInt - (a_0).toInt from by have z0 : (1 : Int32).toInt = 1 := (by decide +kernel); have z1 : (499 : Int32).toInt = 499 := (by decide +kernel); have z2 : (500 : Int32).toInt = 500 := (by decide +kernel); have r0 := fb_rng (a_0); have r1 := fb_rng (a_1); have e0 := k_0; rw [Int32.lt_iff_toInt_lt] at e0; have e1 := k_1; rw [Int32.lt_iff_toInt_lt, z1] at e1; obtain ⟨n_0, hn_0, s0⟩ := nd_add (x := (a_0)) (y := (1 : Int32)) (by (try rw [z0]); omega) (by (try rw [z0]); omega); rw [z0] at s0; rw [hn_0]; (try rw [z2]); omega)) v3_9 y_5 c_10 g5_5) hm_9)] at hQ; exact hQ) (lv_sub hl [1, 2, 3, 0] rfl)
        exact cut_9 ((500 : Int32).toInt - ((r_6 + 1) : Int32).toInt).toNat (r_6 + 1) _ _ _ _ _ hP hD hS hO_0 Ext.rf (show ¬ ((r_6 + 1) < 1) from by have e0 := po_7; rw [Int32.lt_iff_toInt_lt] at e0; have e1 := po_8; rw [Int32.lt_iff_toInt_lt] at e1; have z0 : (0 : Int32).toInt = 0 := (by decide +kernel); have z1 : (1 : Int32).toInt = 1 := (by decide +kernel); have z2 : (499 : Int32).toInt = 499 := (by decide +kernel); have ss := fb_addI (x := r_6) (y := 1) (by omega) (by omega); rw [Int32.lt_iff_toInt_lt]; omega) (show ¬ (500 < (r_6 + 1)) from by have e0 := po_7; rw [Int32.lt_iff_toInt_lt] at e0; have e1 := po_8; rw [Int32.lt_iff_toInt_lt] at e1; have z0 : (0 : Int32).toInt = 0 := (by decide +kernel); have z1 : (1 : Int32).toInt = 1 := (by decide +kernel); have z2 : (499 : Int32).toInt = 499 := (by decide +kernel); have z3 : (500 : Int32).toInt = 500 := (by decide +kernel); have ss := fb_addI (x := r_6) (y := 1) (by omega) (by omega); rw [Int32.lt_iff_toInt_lt]; omega) (by exact ms_e _ _) hQ (lv_sub hl [2, 3, 1, 0] rfl)
      · have hQ := hQ.2 c_4
        refine lv_iconst (v := (-1)) hx hb d_WM_minutes_24 (by decide +kernel) ?_
        refine W.widen (k := 0) (n := 0) (Nat.le_of_ble_eq_true rfl) (Nat.le_of_ble_eq_true rfl) ?_
        exact W.iret (v := (-1)) hx hb hr (fun t ht hW => ⟨⟨(-1), (L, f), rfl, ⟨hO_0, hA_0.mono (by decide +kernel), trivial, hQ⟩, by rw [ht]; exact hP, va_K.moved hW.alike hK, by rw [hAe]; exact hD⟩, by rw [hAe]; exact hS.F ht⟩) (by rw [hAe]; exact hS.2.2) d_WM_minutes_25
