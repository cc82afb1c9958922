set_option maxHeartbeats 4000000 in
set_option maxRecDepth 100000 in
theorem c_Rv_drift_t (l : Launch) (dC : Nat → ClassId) (dI : Nat → Nat → Nat) (ct : Nat → ClassId) (L : List Nat) (f : TF) (hO_0 : Ok L f) (q0 : Nat) (m0 : q0 ∈ L ∧ tk f q0 = 1) (p_0 : Int32) (p_1 : Int32) (p_2 : Int32) (p_3 : Int32)  (as_0 : ¬ (p_2 < 0)) (as_1 : ¬ (499 < p_2)) (as_2 : ¬ (p_3 < 0)) (as_3 : ¬ (11 < p_3)) : Met l y_Rv_drift (.code y_Rv_drift b_Rv_drift 6 (some .int) :: TB) ({ frames := 2, cells := 0, slots := 0, locals := 46 }) (va_Pc [.ref q0, .int p_0, .int p_1, .int p_2, .int p_3] (PR dC dI (TW ct L f) (TT ct))) (vp_Si (fun r => True)) 0 0 (fun _ => False) := by
  refine Met.ofW (cc := b_Rv_drift) (maxL := 6) (ret := (some .int)) (by decide) rfl ?_
  intro p e s m args below meth c s₁ B hml hv
  obtain ⟨rfl, hP, hK, hN⟩ := hv
  have hx := B.exec
  have hb := B.bytes
  have hr := B.returns
  have hts := atoms_spec (ws := (.code y_Rv_drift b_Rv_drift 6 (some .int) :: TB)) B.pre
  have htb := fun w (h : w ∈ TB) => hts w (List.mem_cons_of_mem _ h)
  have hown : s.vm.findClass R_Rv = some m.cls := findClass_of_methodNamed B.named
  have hlocks := B.notSynchronized
  have hl := lv_entry ([.ref q0, .int p_0, .int p_1, .int p_2, .int p_3]) (n := 6) (Nat.le_of_ble_eq_true rfl)
  rw [lg_entry_eq]
  generalize (lg_sl ([.ref q0, .int p_0, .int p_1, .int p_2, .int p_3]) ++ List.replicate (6 - (lg_sl ([.ref q0, .int p_0, .int p_1, .int p_2, .int p_3])).length) Slot.unset).toArray = ls at hl ⊢
  have hl : lv_has ls 6 [(0, .ref q0), (1, .int p_0), (2, .int p_1), (3, .int p_2), (4, .int p_3)] := hl
  refine lv_aload_n hx hb d_Rv_drift_0 rfl (lv_at hl 0 rfl) ?_
  refine lv_iload_n hx hb d_Rv_drift_1 rfl (lv_at hl 3 rfl) ?_
  refine lv_iload hx hb d_Rv_drift_2 (lv_at hl 4 rfl) ?_
  refine vp_callSi (va_Run.run (va_runV (As := [.int p_2, .int p_3]) (rest := []) ⟨hx, hb, hml, hown, htb⟩ (c_Rv_flowIn_t l dC dI ct L f hO_0 q0 m0 p_2 p_3 as_0 as_1 as_2 as_3) (cwV 2 htb (gd_V tw_50 tw_51 tw_52 tw_45 tw_49) rfl rfl rfl (by decide +kernel) ⟨Nat.le_of_ble_eq_true rfl, Nat.le_of_ble_eq_true rfl⟩) ⟨pr_blind, tw_recv hK hP m0 rfl rfl, pr_pre hP hK hN⟩ rfl rfl hl.1 rfl (lv_room (Nat.le_of_ble_eq_true rfl)) d_Rv_drift_4 ⟨Nat.le_of_ble_eq_true rfl, Nat.le_of_ble_eq_true rfl⟩)) (fun r_1 er_1 => ?_)
  clear er_1
  refine lv_istore (lv' := [(5, .int r_1), (0, .ref q0), (1, .int p_0), (2, .int p_1), (3, .int p_2), (4, .int p_3)]) hx hb d_Rv_drift_7 hl (by decide) rfl (fun ls hl => ?_)
  refine lv_iload hx hb d_Rv_drift_9 (lv_at hl 0 rfl) ?_
  refine lv_if_ne (tgt := 16) hx hb d_Rv_drift_11 (by decide) (fun c_2 => ?_) (fun c_2 => ?_)
  · refine lv_iload hx hb d_Rv_drift_16 (lv_at hl 0 rfl) ?_
    refine lv_if_le (tgt := 25) hx hb d_Rv_drift_18 (by decide) (fun c_3 => ?_) (fun c_3 => ?_)
    · refine lv_iconst (v := 0) hx hb d_Rv_drift_25 (by decide +kernel) ?_
      refine lv_iload_n hx hb d_Rv_drift_26 rfl (lv_at hl 3 rfl) ?_
      refine lv_iload_n hx hb d_Rv_drift_27 rfl (lv_at hl 2 rfl) ?_
      refine lv_icmp_le (tgt := 35) hx hb d_Rv_drift_28 (by decide) (fun c_4 => ?_) (fun c_4 => ?_)
      · refine lv_iconst (v := 0) hx hb d_Rv_drift_35 (by decide +kernel) ?_
        refine lv_icmp_ne (tgt := 43) hx hb d_Rv_drift_36 (by decide) (fun h => absurd (by decide +kernel) h) (fun _ => ?_)
        refine lv_iconst (v := 1) hx hb d_Rv_drift_39 (by decide +kernel) ?_
        refine lv_goto (tgt := 44) hx hb d_Rv_drift_40 (by decide) ?_
        exact W.iret (v := 1) hx hb hr (fun t ht hW => ⟨1, rfl, trivial, ht⟩) t_nil d_Rv_drift_44
      · refine lv_iconst (v := 1) hx hb d_Rv_drift_31 (by decide +kernel) ?_
        refine lv_goto (tgt := 36) hx hb d_Rv_drift_32 (by decide) ?_
        refine lv_icmp_ne (tgt := 43) hx hb d_Rv_drift_36 (by decide) (fun _ => ?_) (fun h => absurd h (by decide +kernel))
        refine lv_iconst (v := (-1)) hx hb d_Rv_drift_43 (by decide +kernel) ?_
        exact W.iret (v := (-1)) hx hb hr (fun t ht hW => ⟨(-1), rfl, trivial, ht⟩) t_nil d_Rv_drift_44
    · refine lv_iconst (v := 1) hx hb d_Rv_drift_21 (by decide +kernel) ?_
      refine lv_goto (tgt := 26) hx hb d_Rv_drift_22 (by decide) ?_
      refine lv_iload_n hx hb d_Rv_drift_26 rfl (lv_at hl 3 rfl) ?_
      refine lv_iload_n hx hb d_Rv_drift_27 rfl (lv_at hl 2 rfl) ?_
      refine lv_icmp_le (tgt := 35) hx hb d_Rv_drift_28 (by decide) (fun c_5 => ?_) (fun c_5 => ?_)
      · refine lv_iconst (v := 0) hx hb d_Rv_drift_35 (by decide +kernel) ?_
        refine lv_icmp_ne (tgt := 43) hx hb d_Rv_drift_36 (by decide) (fun _ => ?_) (fun h => absurd h (by decide +kernel))
        refine lv_iconst (v := (-1)) hx hb d_Rv_drift_43 (by decide +kernel) ?_
        exact W.iret (v := (-1)) hx hb hr (fun t ht hW => ⟨(-1), rfl, trivial, ht⟩) t_nil d_Rv_drift_44
      · refine lv_iconst (v := 1) hx hb d_Rv_drift_31 (by decide +kernel) ?_
        refine lv_goto (tgt := 36) hx hb d_Rv_drift_32 (by decide) ?_
        refine lv_icmp_ne (tgt := 43) hx hb d_Rv_drift_36 (by decide) (fun h => absurd (by decide +kernel) h) (fun _ => ?_)
        refine lv_iconst (v := 1) hx hb d_Rv_drift_39 (by decide +kernel) ?_
        refine lv_goto (tgt := 44) hx hb d_Rv_drift_40 (by decide) ?_
        exact W.iret (v := 1) hx hb hr (fun t ht hW => ⟨1, rfl, trivial, ht⟩) t_nil d_Rv_drift_44
  · refine lv_iconst (v := 0) hx hb d_Rv_drift_14 (by decide +kernel) ?_
    exact W.iret (v := 0) hx hb hr (fun t ht hW => ⟨0, rfl, trivial, ht⟩) t_nil d_Rv_drift_15
set_option maxHeartbeats 4000000 in
set_option maxRecDepth 100000 in
theorem c_Mn_isOnWay_t (l : Launch) (dC : Nat → ClassId) (dI : Nat → Nat → Nat) (ct : Nat → ClassId) (L : List Nat) (f : TF) (hO_0 : Ok L f) (q0 : Nat) (m0 : q0 ∈ L ∧ tk f q0 = 20) (p_0 : Int32)   : Met l y_Mn_isOnWay (.code y_Mn_isOnWay b_Mn_isOnWay 2 (some .boolean) :: TB) ({ frames := 0, cells := 0, slots := 0, locals := 0 }) (va_Pc [.ref q0, .int p_0] (PR dC dI (TW ct L f) (TT ct))) (vp_Si (fun r => (r = 0 ∧ True) ∨ (r = 1 ∧ True))) 0 0 (fun _ => False) := by
  refine Met.ofW (cc := b_Mn_isOnWay) (maxL := 2) (ret := (some .boolean)) (by decide) rfl ?_
  intro p e s m args below meth c s₁ B hml hv
  obtain ⟨rfl, hP, hK, hN⟩ := hv
  have hx := B.exec
  have hb := B.bytes
  have hr := B.returns
  have hts := atoms_spec (ws := (.code y_Mn_isOnWay b_Mn_isOnWay 2 (some .boolean) :: TB)) B.pre
  have htb := fun w (h : w ∈ TB) => hts w (List.mem_cons_of_mem _ h)
  have hown : s.vm.findClass R_Mn = some m.cls := findClass_of_methodNamed B.named
  have hlocks := B.notSynchronized
  have hl := lv_entry ([.ref q0, .int p_0]) (n := 2) (Nat.le_of_ble_eq_true rfl)
  rw [lg_entry_eq]
  generalize (lg_sl ([.ref q0, .int p_0]) ++ List.replicate (2 - (lg_sl ([.ref q0, .int p_0])).length) Slot.unset).toArray = ls at hl ⊢
  have hl : lv_has ls 2 [(0, .ref q0), (1, .int p_0)] := hl
  refine lv_iload_n hx hb d_Mn_isOnWay_0 rfl (lv_at hl 1 rfl) ?_
  refine lv_aload_n hx hb d_Mn_isOnWay_1 rfl (lv_at hl 0 rfl) ?_
  refine tw_geti (D := (dC, dI)) (C := R_Mn) (T := F_Mn) (N := 8) (ci := 2) (kd := 20) (ct := ct) hx hb htb i_Mn hown hK hP hO_0 m0 rfl rfl 5 (by decide) (htb (.fieldLink R_Mn 21 "WaterMen$Man" "busyUntil" "I") tw_53) (fun _ h9 => h9) rfl d_Mn_isOnWay_2 (fun x_1 e_1 b_1 => ?_)
  refine lv_icmp_ge (tgt := 12) hx hb d_Mn_isOnWay_5 (by decide) (fun c_2 => ?_) (fun c_2 => ?_)
  · refine lv_iconst (v := 0) hx hb d_Mn_isOnWay_12 (by decide +kernel) ?_
    exact W.zret (v := 0) hx hb hr (by decide +kernel) (fun t ht hW => ⟨0, rfl, (Or.inl ⟨rfl, trivial⟩), ht⟩) t_nil d_Mn_isOnWay_13
  · refine lv_iconst (v := 1) hx hb d_Mn_isOnWay_8 (by decide +kernel) ?_
    refine lv_goto (tgt := 13) hx hb d_Mn_isOnWay_9 (by decide) ?_
    exact W.zret (v := 1) hx hb hr (by decide +kernel) (fun t ht hW => ⟨1, rfl, (Or.inr ⟨rfl, trivial⟩), ht⟩) t_nil d_Mn_isOnWay_13
def W_Mn_setOut_t : List (Nat × Nat) := [(20, 2), (20, 5), (20, 6)]
set_option maxHeartbeats 4000000 in
set_option maxRecDepth 100000 in
theorem c_Mn_setOut_t (l : Launch) (dC : Nat → ClassId) (dI : Nat → Nat → Nat) (ct : Nat → ClassId) (L : List Nat) (f : TF) (hO_0 : Ok L f) (q0 : Nat) (m0 : q0 ∈ L ∧ tk f q0 = 20) (sz : Nat) (p_0 : Int32)   : Met l y_Mn_setOut (.code y_Mn_setOut b_Mn_setOut 2 none :: TB) ({ frames := 0, cells := 0, slots := 0, locals := 0 }) (va_Pc [.ref q0, .int p_0] (PC dC dI (TW ct L f) (TT ct) sz)) (va_Qv (fun (u : TSt) => Ok u.1 u.2 ∧ Ext W_Mn_setOut_t L f u.1 u.2 ∧ (True)) (fun (u : TSt) t => va_P (dC, dI) vwCl (TW ct u.1 u.2) t.heap ∧ va_K (dC, dI) vwCl (TT ct) t ∧ va_D (va_A (TW ct L f) sz) (TW ct u.1 u.2)) (va_A (TW ct L f) sz)) 0 0 (va_A (TW ct L f) sz) := by
  refine Met.ofW (cc := b_Mn_setOut) (maxL := 2) (ret := none) (by decide) rfl ?_
  intro p e s m args below meth c s₁ B hml hv
  obtain ⟨rfl, hsz, hP, hK, hD0, hN⟩ := hv
  have hx := B.exec
  have hb := B.bytes
  have hr := B.returns
  have hts := atoms_spec (ws := (.code y_Mn_setOut b_Mn_setOut 2 none :: TB)) B.pre
  have htb := fun w (h : w ∈ TB) => hts w (List.mem_cons_of_mem _ h)
  have hown : s.vm.findClass R_Mn = some m.cls := findClass_of_methodNamed B.named
  have hlocks := B.notSynchronized
  have hl := lv_entry ([.ref q0, .int p_0]) (n := 2) (Nat.le_of_ble_eq_true rfl)
  rw [lg_entry_eq]
  generalize (lg_sl ([.ref q0, .int p_0]) ++ List.replicate (2 - (lg_sl ([.ref q0, .int p_0])).length) Slot.unset).toArray = ls at hl ⊢
  have hl : lv_has ls 2 [(0, .ref q0), (1, .int p_0)] := hl
  subst hsz
  have hD := hD0.self (sz := s.heap.size)
  obtain ⟨A, hAe⟩ : ∃ A, va_A (TW ct L f) s.heap.size = A := ⟨_, rfl⟩
  rw [hAe] at hD
  have hA : ∀ q : Nat, s.heap.size ≤ q → A q := fun q h => by rw [← hAe]; exact Or.inr h
  have hS : va_S A s.heap s.heap [] := va_S.rf
  have hA_0 : Ext [] L f L f := Ext.rf
  suffices hGo : ∀ (H : Heap) (locs : List Loc), va_P (dC, dI) vwCl (TW ct L f) H → va_S A s.heap H locs → W p l e (headSpec (.code y_Mn_setOut b_Mn_setOut 2 none :: TB) ({ frames := 0, cells := 0, slots := 0, locals := 0 })).room s m [.ref q0, .int p_0].toArray below meth c H locs 0 0 (MQ below (va_Qv (fun (u : TSt) => Ok u.1 u.2 ∧ Ext W_Mn_setOut_t L f u.1 u.2 ∧ (True)) (fun (u : TSt) t => va_P (dC, dI) vwCl (TW ct u.1 u.2) t.heap ∧ va_K (dC, dI) vwCl (TT ct) t ∧ va_D (va_A (TW ct L f) s.heap.size) (TW ct u.1 u.2)) (va_A (TW ct L f) s.heap.size)) [.ref q0, .int p_0].toArray s 0 0 (va_A (TW ct L f) s.heap.size)) (F0 m 0 ls []) from hGo _ _ hP hS
  clear hP hS
  intro H locs hP hS
  refine lv_aload_n hx hb d_Mn_setOut_0 rfl (lv_at hl 0 rfl) ?_
  refine lv_iload_n hx hb d_Mn_setOut_1 rfl (lv_at hl 1 rfl) ?_
  refine tw_puti (v := p_0) (D := (dC, dI)) (C := R_Mn) (T := F_Mn) (N := 8) (ci := 2) (kd := 20) (ct := ct) (ty := .int) hx hb htb i_Mn t_Mn t_Mn_ok n_Mn hown hK hP hD hS hO_0 m0 rfl rfl 5 (by decide) (htb (.fieldLink R_Mn 21 "WaterMen$Man" "busyUntil" "I") tw_53) (fun _ h9 => h9) rfl (by decide +kernel) rfl rfl rfl (i32_full _) d_Mn_setOut_2 (fun f_1 H locs hP hD hS hO_1 hE_1 w_1 hF_1 => ?_)
  have hA_1 := hA_0.trans hE_1
  refine lv_aload_n hx hb d_Mn_setOut_5 rfl (lv_at hl 0 rfl) ?_
  refine lv_iconst (v := (-1)) hx hb d_Mn_setOut_6 (by decide +kernel) ?_
  refine tw_puti (v := (-1)) (D := (dC, dI)) (C := R_Mn) (T := F_Mn) (N := 8) (ci := 2) (kd := 20) (ct := ct) (ty := .int) hx hb htb i_Mn t_Mn t_Mn_ok n_Mn hown hK hP hD hS hO_1 (hA_1.m m0) rfl rfl 2 (by decide) (htb (.fieldLink R_Mn 15 "WaterMen$Man" "turnStairs" "I") tw_54) (fun _ h9 => h9) rfl (by decide +kernel) rfl rfl rfl (i32_full _) d_Mn_setOut_7 (fun f_2 H locs hP hD hS hO_2 hE_2 w_2 hF_2 => ?_)
  have hA_2 := hA_1.trans hE_2
  refine lv_aload_n hx hb d_Mn_setOut_10 rfl (lv_at hl 0 rfl) ?_
  refine lv_dup hx hb d_Mn_setOut_11 rfl ?_
  refine tw_geti (D := (dC, dI)) (C := R_Mn) (T := F_Mn) (N := 8) (ci := 2) (kd := 20) (ct := ct) hx hb htb i_Mn hown hK hP hO_2 (hA_2.m m0) rfl rfl 6 (by decide) (htb (.fieldLink R_Mn 24 "WaterMen$Man" "tripCount" "I") tw_55) (fun _ h9 => h9) rfl d_Mn_setOut_12 (fun x_3 e_3 b_3 => ?_)
  refine lv_iconst (v := 1) hx hb d_Mn_setOut_15 (by decide +kernel) ?_
  refine lv_iadd hx hb d_Mn_setOut_16 ?_
  refine tw_puti (v := (x_3 + 1)) (D := (dC, dI)) (C := R_Mn) (T := F_Mn) (N := 8) (ci := 2) (kd := 20) (ct := ct) (ty := .int) hx hb htb i_Mn t_Mn t_Mn_ok n_Mn hown hK hP hD hS hO_2 (hA_2.m m0) rfl rfl 6 (by decide) (htb (.fieldLink R_Mn 24 "WaterMen$Man" "tripCount" "I") tw_55) (fun _ h9 => h9) rfl (by decide +kernel) rfl rfl rfl (i32_full _) d_Mn_setOut_17 (fun f_3 H locs hP hD hS hO_3 hE_3 w_4 hF_3 => ?_)
  have hA_3 := hA_2.trans hE_3
  refine W.widen (k := 0) (n := 0) (Nat.le_of_ble_eq_true rfl) (Nat.le_of_ble_eq_true rfl) ?_
  exact W.vret hx hb hr (fun t ht hW => ⟨⟨(L, f_3), rfl, ⟨hO_3, hA_3.mono (by decide +kernel), trivial⟩, by rw [ht]; exact hP, va_K.moved hW.alike hK, by rw [hAe]; exact hD⟩, by rw [hAe]; exact hS.F ht⟩) (by rw [hAe]; exact hS.2.2) d_Mn_setOut_20
set_option maxHeartbeats 4000000 in
set_option maxRecDepth 100000 in
theorem c_Bd_meetsGap_t (l : Launch) (dC : Nat → ClassId) (dI : Nat → Nat → Nat) (ct : Nat → ClassId) (L : List Nat) (f : TF) (hO_0 : Ok L f) (q0 : Nat) (m0 : q0 ∈ L ∧ tk f q0 = 21) (p_0 : Int32) (p_1 : Int32)   : Met l y_Bd_meetsGap (.code y_Bd_meetsGap b_Bd_meetsGap 4 (some .boolean) :: TB) ({ frames := 0, cells := 0, slots := 0, locals := 0 }) (va_Pc [.ref q0, .int p_0, .int p_1] (PR dC dI (TW ct L f) (TT ct))) (vp_Si (fun r => (r = 0 ∧ True) ∨ (r = 1 ∧ True))) 0 0 (fun _ => False) := by
  refine Met.ofW (cc := b_Bd_meetsGap) (maxL := 4) (ret := (some .boolean)) (by decide) rfl ?_
  intro p e s m args below meth c s₁ B hml hv
  obtain ⟨rfl, hP, hK, hN⟩ := hv
  have hx := B.exec
  have hb := B.bytes
  have hr := B.returns
  have hts := atoms_spec (ws := (.code y_Bd_meetsGap b_Bd_meetsGap 4 (some .boolean) :: TB)) B.pre
  have htb := fun w (h : w ∈ TB) => hts w (List.mem_cons_of_mem _ h)
  have hown : s.vm.findClass R_Bd = some m.cls := findClass_of_methodNamed B.named
  have hlocks := B.notSynchronized
  have hl := lv_entry ([.ref q0, .int p_0, .int p_1]) (n := 4) (Nat.le_of_ble_eq_true rfl)
  rw [lg_entry_eq]
  generalize (lg_sl ([.ref q0, .int p_0, .int p_1]) ++ List.replicate (4 - (lg_sl ([.ref q0, .int p_0, .int p_1])).length) Slot.unset).toArray = ls at hl ⊢
  have hl : lv_has ls 4 [(0, .ref q0), (1, .int p_0), (2, .int p_1)] := hl
  refine lv_iconst (v := 0) hx hb d_Bd_meetsGap_0 (by decide +kernel) ?_
  refine lv_istore_n (lv' := [(3, .int 0), (0, .ref q0), (1, .int p_0), (2, .int p_1)]) hx hb d_Bd_meetsGap_1 rfl hl (by decide) rfl (fun ls hl => ?_)
  have cut_1 : ∀ (n_1 : Nat) (v3_1 : Int32) (ls : Array Slot), ¬ (v3_1 < 0) → ¬ (6 < v3_1) → (6 : Int32).toInt - (v3_1 : Int32).toInt ≤ (n_1 : Int) → lv_has ls 4 [(0, .ref q0), (1, .int p_0), (2, .int p_1), (3, .int v3_1)] → W p l e (headSpec (.code y_Bd_meetsGap b_Bd_meetsGap 4 (some .boolean) :: TB) ({ frames := 0, cells := 0, slots := 0, locals := 0 })).room s m [.ref q0, .int p_0, .int p_1].toArray below meth c s.heap [] 0 0 (MQ below (vp_Si (fun r => (r = 0 ∧ True) ∨ (r = 1 ∧ True))) [.ref q0, .int p_0, .int p_1].toArray s 0 0 (fun _ => False)) (F0 m 2 ls []) := by
    intro n_1
    induction n_1 using Nat.strongRecOn with
    | _ n_1 ih_1 =>
      intro v3_1 ls iv0_1 iv1_1 hm_1 hl
      refine lv_iload_n hx hb d_Bd_meetsGap_2 rfl (lv_at hl 3 rfl) ?_
      refine lv_aload_n hx hb d_Bd_meetsGap_3 rfl (lv_at hl 0 rfl) ?_
      refine tw_geti (D := (dC, dI)) (C := R_Bd) (T := F_Bd) (N := 5) (ci := 8) (kd := 21) (ct := ct) hx hb htb i_Bd hown hK hP hO_0 m0 rfl rfl 4 (by decide) (htb (.fieldLink R_Bd 25 "WaterMen$Bond" "gapCount" "I") tw_56) (fun _ h9 => h9) rfl d_Bd_meetsGap_4 (fun x_2 e_2 b_2 => ?_)
      refine lv_icmp_ge (tgt := 42) hx hb d_Bd_meetsGap_7 (by decide) (fun c_3 => ?_) (fun c_3 => ?_)
      · refine lv_iconst (v := 0) hx hb d_Bd_meetsGap_42 (by decide +kernel) ?_
        exact W.zret (v := 0) hx hb hr (by decide +kernel) (fun t ht hW => ⟨0, rfl, (Or.inl ⟨rfl, trivial⟩), ht⟩) t_nil d_Bd_meetsGap_43
      · refine lv_iload_n hx hb d_Bd_meetsGap_10 rfl (lv_at hl 1 rfl) ?_
        refine lv_aload_n hx hb d_Bd_meetsGap_11 rfl (lv_at hl 0 rfl) ?_
        refine tw_getr (D := (dC, dI)) (C := R_Bd) (T := F_Bd) (N := 5) (ci := 8) (kd := 21) (ct := ct) hx hb htb i_Bd hown hK hP hO_0 m0 rfl rfl 3 (by decide) (htb (.fieldLink R_Bd 15 "WaterMen$Bond" "gapTo" "[I") tw_57) (fun _ h9 => h9) rfl d_Bd_meetsGap_12 (fun q_4 e_4 m_4 => ?_)
        refine lv_iload_n hx hb d_Bd_meetsGap_15 rfl (lv_at hl 3 rfl) ?_
        refine tw_aldI (ct := ct) hx hb hK hP hO_0 m_4 rfl ((fun (a_0 : Int32) (a_1 : Int32) (k_0 : ¬ (a_0 < 0)) (k_1 : ¬ (a_1 ≤ a_0)) (k_2 : ¬ (6 < a_1)) => (show vp_in (a_0) 6 from by have z0 : (0 : Int32).toInt = 0 := (by decide +kernel); have z1 : (6 : Int32).toInt = 6 := (by decide +kernel); have r0 := fb_rng (a_0); have r1 := fb_rng (a_1); have e0 := k_0; rw [Int32.lt_iff_toInt_lt, z0] at e0; have e1 := k_1; rw [Int32.le_iff_toInt_le] at e1; have e2 := k_2; rw [Int32.lt_iff_toInt_lt, z1] at e2; rw [vp_in_iff]; omega)) v3_1 x_2 iv0_1 c_3 b_2.2) d_Bd_meetsGap_16 (fun x_5 e_5 b_5 => ?_)
        refine lv_iconst (v := 1) hx hb d_Bd_meetsGap_17 (by decide +kernel) ?_
        refine lv_iadd hx hb d_Bd_meetsGap_18 ?_
        refine lv_icmp_gt (tgt := 36) hx hb d_Bd_meetsGap_19 (by decide) (fun c_6 => ?_) (fun c_6 => ?_)
        · refine lv_iinc (v := (v3_1 + 1)) (lv' := [(3, .int (v3_1 + 1)), (0, .ref q0), (1, .int p_0), (2, .int p_1)]) hx hb d_Bd_meetsGap_36 hl (k := 3) rfl rfl (by decide) rfl (fun ls hl => ?_)
          refine lv_goto (tgt := 2) hx hb d_Bd_meetsGap_39 (by decide) ?_
          exact ih_1 (n_1 - 1) (ms_1 ((fun (a_0 : Int32) (a_1 : Int32) (k_0 : ¬ (a_1 ≤ a_0)) (k_1 : ¬ (6 < a_1)) => (show 1 ≤ (6 : Int32).toInt - (a_0).toInt ∧ (6 : Int32).toInt - ((a_0) + (1 : Int32)).toInt + 1 ≤ (6 : Int32).toInt - (a_0).toInt from by have z0 : (1 : Int32).toInt = 1 := (by decide +kernel); have z1 : (6 : Int32).toInt = 6 := (by decide +kernel); have r0 := fb_rng (a_0); have r1 := fb_rng (a_1); have e0 := k_0; rw [Int32.le_iff_toInt_le] at e0; have e1 := k_1; rw [Int32.lt_iff_toInt_lt, z1] at e1; obtain ⟨n_0, hn_0, s0⟩ := nd_add (x := (a_0)) (y := (1 : Int32)) (by (try rw [z0]); omega) (by (try rw [z0]); omega); rw [z0] at s0; rw [hn_0]; (try rw [z1]); omega)) v3_1 x_2 c_3 b_2.2) hm_1) (v3_1 + 1) _ (show ¬ ((v3_1 + 1) < 0) from by have e0 := iv0_1; rw [Int32.lt_iff_toInt_lt] at e0; have e1 := iv1_1; rw [Int32.lt_iff_toInt_lt] at e1; have z0 : (0 : Int32).toInt = 0 := (by decide +kernel); have z1 : (1 : Int32).toInt = 1 := (by decide +kernel); have z2 : (6 : Int32).toInt = 6 := (by decide +kernel); have ss := fb_addI (x := v3_1) (y := 1) (by omega) (by omega); rw [Int32.lt_iff_toInt_lt]; omega) (show ¬ (6 < (v3_1 + 1)) from ((fun (a_0 : Int32) (a_1 : Int32) (k_0 : ¬ (a_1 ≤ a_0)) (k_1 : ¬ (6 < a_1)) => (show ¬ (6 < (a_0 + 1)) from by have z0 : (1 : Int32).toInt = 1 := (by decide +kernel); have z1 : (6 : Int32).toInt = 6 := (by decide +kernel); have r0 := fb_rng (a_0); have r1 := fb_rng (a_1); have e0 := k_0; rw [Int32.le_iff_toInt_le] at e0; have e1 := k_1; rw [Int32.lt_iff_toInt_lt, z1] at e1; obtain ⟨n_0, hn_0, s0⟩ := nd_add (x := (a_0)) (y := (1 : Int32)) (by (try rw [z0]); omega) (by (try rw [z0]); omega); rw [z0] at s0; rw [hn_0, Int32.lt_iff_toInt_lt, z1]; omega)) v3_1 x_2 c_3 b_2.2)) (by exact ms_2 ((fun (a_0 : Int32) (a_1 : Int32) (k_0 : ¬ (a_1 ≤ a_0)) (k_1 : ¬ (6 < a_1)) => (show 1 ≤ (6 : Int32).toInt - (a_0).toInt ∧ (6 : Int32).toInt - ((a_0) + (1 : Int32)).toInt + 1 ≤ (6 : Int32).toInt - (a_0).toInt from by have z0 : (1 : Int32).toInt = 1 := (by decide +kernel); have z1 : (6 : Int32).toInt = 6 := (by decide +kernel); have r0 := fb_rng (a_0); have r1 := fb_rng (a_1); have e0 := k_0; rw [Int32.le_iff_toInt_le] at e0; have e1 := k_1; rw [Int32.lt_iff_toInt_lt, z1] at e1; obtain ⟨n_0, hn_0, s0⟩ := nd_add (x := (a_0)) (y := (1 : Int32)) (by (try rw [z0]); omega) (by (try rw [z0]); omega); rw [z0] at s0; rw [hn_0]; (try rw [z1]); omega)) v3_1 x_2 c_3 b_2.2) hm_1) (lv_sub hl [1, 2, 3, 0] rfl)
        · refine lv_iload_n hx hb d_Bd_meetsGap_22 rfl (lv_at hl 2 rfl) ?_
          refine lv_aload_n hx hb d_Bd_meetsGap_23 rfl (lv_at hl 0 rfl) ?_
          refine tw_getr (D := (dC, dI)) (C := R_Bd) (T := F_Bd) (N := 5) (ci := 8) (kd := 21) (ct := ct) hx hb htb i_Bd hown hK hP hO_0 m0 rfl rfl 2 (by decide) (htb (.fieldLink R_Bd 9 "WaterMen$Bond" "gapFrom" "[I") tw_58) (fun _ h9 => h9) rfl d_Bd_meetsGap_24 (fun q_7 e_7 m_7 => ?_)
          refine lv_iload_n hx hb d_Bd_meetsGap_27 rfl (lv_at hl 3 rfl) ?_
          refine tw_aldI (ct := ct) hx hb hK hP hO_0 m_7 rfl ((fun (a_0 : Int32) (a_1 : Int32) (k_0 : ¬ (a_0 < 0)) (k_1 : ¬ (a_1 ≤ a_0)) (k_2 : ¬ (6 < a_1)) => (show vp_in (a_0) 6 from by have z0 : (0 : Int32).toInt = 0 := (by decide +kernel); have z1 : (6 : Int32).toInt = 6 := (by decide +kernel); have r0 := fb_rng (a_0); have r1 := fb_rng (a_1); have e0 := k_0; rw [Int32.lt_iff_toInt_lt, z0] at e0; have e1 := k_1; rw [Int32.le_iff_toInt_le] at e1; have e2 := k_2; rw [Int32.lt_iff_toInt_lt, z1] at e2; rw [vp_in_iff]; omega)) v3_1 x_2 iv0_1 c_3 b_2.2) d_Bd_meetsGap_28 (fun x_8 e_8 b_8 => ?_)
          refine lv_iconst (v := 1) hx hb d_Bd_meetsGap_29 (by decide +kernel) ?_
          refine lv_isub hx hb d_Bd_meetsGap_30 ?_
          refine lv_icmp_lt (tgt := 36) hx hb d_Bd_meetsGap_31 (by decide) (fun c_9 => ?_) (fun c_9 => ?_)
          · refine lv_iinc (v := (v3_1 + 1)) (lv' := [(3, .int (v3_1 + 1)), (0, .ref q0), (1, .int p_0), (2, .int p_1)]) hx hb d_Bd_meetsGap_36 hl (k := 3) rfl rfl (by decide) rfl (fun ls hl => ?_)
            refine lv_goto (tgt := 2) hx hb d_Bd_meetsGap_39 (by decide) ?_
            exact ih_1 (n_1 - 1) (ms_1 ((fun (a_0 : Int32) (a_1 : Int32) (k_0 : ¬ (a_1 ≤ a_0)) (k_1 : ¬ (6 < a_1)) => (show 1 ≤ (6 : Int32).toInt - (a_0).toInt ∧ (6 : Int32).toInt - ((a_0) + (1 : Int32)).toInt + 1 ≤ (6 : Int32).toInt - (a_0).toInt from by have z0 : (1 : Int32).toInt = 1 := (by decide +kernel); have z1 : (6 : Int32).toInt = 6 := (by decide +kernel); have r0 := fb_rng (a_0); have r1 := fb_rng (a_1); have e0 := k_0; rw [Int32.le_iff_toInt_le] at e0; have e1 := k_1; rw [Int32.lt_iff_toInt_lt, z1] at e1; obtain ⟨n_0, hn_0, s0⟩ := nd_add (x := (a_0)) (y := (1 : Int32)) (by (try rw [z0]); omega) (by (try rw [z0]); omega); rw [z0] at s0; rw [hn_0]; (try rw [z1]); omega)) v3_1 x_2 c_3 b_2.2) hm_1) (v3_1 + 1) _ (show ¬ ((v3_1 + 1) < 0) from by have e0 := iv0_1; rw [Int32.lt_iff_toInt_lt] at e0; have e1 := iv1_1; rw [Int32.lt_iff_toInt_lt] at e1; have z0 : (0 : Int32).toInt = 0 := (by decide +kernel); have z1 : (1 : Int32).toInt = 1 := (by decide +kernel); have z2 : (6 : Int32).toInt = 6 := (by decide +kernel); have ss := fb_addI (x := v3_1) (y := 1) (by omega) (by omega); rw [Int32.lt_iff_toInt_lt]; omega) (show ¬ (6 < (v3_1 + 1)) from ((fun (a_0 : Int32) (a_1 : Int32) (k_0 : ¬ (a_1 ≤ a_0)) (k_1 : ¬ (6 < a_1)) => (show ¬ (6 < (a_0 + 1)) from by have z0 : (1 : Int32).toInt = 1 := (by decide +kernel); have z1 : (6 : Int32).toInt = 6 := (by decide +kernel); have r0 := fb_rng (a_0); have r1 := fb_rng (a_1); have e0 := k_0; rw [Int32.le_iff_toInt_le] at e0; have e1 := k_1; rw [Int32.lt_iff_toInt_lt, z1] at e1; obtain ⟨n_0, hn_0, s0⟩ := nd_add (x := (a_0)) (y := (1 : Int32)) (by (try rw [z0]); omega) (by (try rw [z0]); omega); rw [z0] at s0; rw [hn_0, Int32.lt_iff_toInt_lt, z1]; omega)) v3_1 x_2 c_3 b_2.2)) (by exact ms_2 ((fun (a_0 : Int32) (a_1 : Int32) (k_0 : ¬ (a_1 ≤ a_0)) (k_1 : ¬ (6 < a_1)) => (show 1 ≤ (6 : Int32).toInt - (a_0).toInt ∧ (6 : Int32).toInt - ((a_0) + (1 : Int32)).toInt + 1 ≤ (6 : Int32).toInt - (a_0).toInt from by have z0 : (1 : Int32).toInt = 1 := (by decide +kernel); have z1 : (6 : Int32).toInt = 6 := (by decide +kernel); have r0 := fb_rng (a_0); have r1 := fb_rng (a_1); have e0 := k_0; rw [Int32.le_iff_toInt_le] at e0; have e1 := k_1; rw [Int32.lt_iff_toInt_lt, z1] at e1; obtain ⟨n_0, hn_0, s0⟩ := nd_add (x := (a_0)) (y := (1 : Int32)) (by (try rw [z0]); omega) (by (try rw [z0]); omega); rw [z0] at s0; rw [hn_0]; (try rw [z1]); omega)) v3_1 x_2 c_3 b_2.2) hm_1) (lv_sub hl [1, 2, 3, 0] rfl)
          · refine lv_iconst (v := 1) hx hb d_Bd_meetsGap_34 (by decide +kernel) ?_
            exact W.zret (v := 1) hx hb hr (by decide +kernel) (fun t ht hW => ⟨1, rfl, (Or.inr ⟨rfl, trivial⟩), ht⟩) t_nil d_Bd_meetsGap_35
  exact cut_1 4294967296 (0 : Int32) _ (by decide +kernel) (by decide +kernel) (by exact ms_0 _ _) (lv_sub hl [1, 2, 3, 0] rfl)
def W_Bd_addGap_t : List (Nat × Nat) := [(21, 4), (22, 1000), (23, 1000)]
set_option maxHeartbeats 4000000 in
set_option maxRecDepth 100000 in
theorem c_Bd_addGap_t (l : Launch) (dC : Nat → ClassId) (dI : Nat → Nat → Nat) (ct : Nat → ClassId) (L : List Nat) (f : TF) (hO_0 : Ok L f) (q0 : Nat) (m0 : q0 ∈ L ∧ tk f q0 = 21) (sz : Nat) (p_0 : Int32) (p_1 : Int32)  (as_0 : ¬ (5 < (ti f q0 4))) : Met l y_Bd_addGap (.code y_Bd_addGap b_Bd_addGap 3 (some .int) :: TB) ({ frames := 0, cells := 0, slots := 0, locals := 0 }) (va_Pc [.ref q0, .int p_0, .int p_1] (PC dC dI (TW ct L f) (TT ct) sz)) (va_Qi (fun r (u : TSt) => Ok u.1 u.2 ∧ Ext W_Bd_addGap_t L f u.1 u.2 ∧ (True)) (fun (u : TSt) t => va_P (dC, dI) vwCl (TW ct u.1 u.2) t.heap ∧ va_K (dC, dI) vwCl (TT ct) t ∧ va_D (va_A (TW ct L f) sz) (TW ct u.1 u.2)) (va_A (TW ct L f) sz)) 0 0 (va_A (TW ct L f) sz) := by
  refine Met.ofW (cc := b_Bd_addGap) (maxL := 3) (ret := (some .int)) (by decide) rfl ?_
  intro p e s m args below meth c s₁ B hml hv
  obtain ⟨rfl, hsz, hP, hK, hD0, hN⟩ := hv
  have hx := B.exec
  have hb := B.bytes
  have hr := B.returns
  have hts := atoms_spec (ws := (.code y_Bd_addGap b_Bd_addGap 3 (some .int) :: TB)) B.pre
  have htb := fun w (h : w ∈ TB) => hts w (List.mem_cons_of_mem _ h)
  have hown : s.vm.findClass R_Bd = some m.cls := findClass_of_methodNamed B.named
  have hlocks := B.notSynchronized
  have hl := lv_entry ([.ref q0, .int p_0, .int p_1]) (n := 3) (Nat.le_of_ble_eq_true rfl)
  rw [lg_entry_eq]
  generalize (lg_sl ([.ref q0, .int p_0, .int p_1]) ++ List.replicate (3 - (lg_sl ([.ref q0, .int p_0, .int p_1])).length) Slot.unset).toArray = ls at hl ⊢
  have hl : lv_has ls 3 [(0, .ref q0), (1, .int p_0), (2, .int p_1)] := hl
  subst hsz
  have hD := hD0.self (sz := s.heap.size)
  obtain ⟨A, hAe⟩ : ∃ A, va_A (TW ct L f) s.heap.size = A := ⟨_, rfl⟩
  rw [hAe] at hD
  have hA : ∀ q : Nat, s.heap.size ≤ q → A q := fun q h => by rw [← hAe]; exact Or.inr h
  have hS : va_S A s.heap s.heap [] := va_S.rf
  have hA_0 : Ext [] L f L f := Ext.rf
  suffices hGo : ∀ (H : Heap) (locs : List Loc), va_P (dC, dI) vwCl (TW ct L f) H → va_S A s.heap H locs → W p l e (headSpec (.code y_Bd_addGap b_Bd_addGap 3 (some .int) :: TB) ({ frames := 0, cells := 0, slots := 0, locals := 0 })).room s m [.ref q0, .int p_0, .int p_1].toArray below meth c H locs 0 0 (MQ below (va_Qi (fun r (u : TSt) => Ok u.1 u.2 ∧ Ext W_Bd_addGap_t L f u.1 u.2 ∧ (True)) (fun (u : TSt) t => va_P (dC, dI) vwCl (TW ct u.1 u.2) t.heap ∧ va_K (dC, dI) vwCl (TT ct) t ∧ va_D (va_A (TW ct L f) s.heap.size) (TW ct u.1 u.2)) (va_A (TW ct L f) s.heap.size)) [.ref q0, .int p_0, .int p_1].toArray s 0 0 (va_A (TW ct L f) s.heap.size)) (F0 m 0 ls []) from hGo _ _ hP hS
  clear hP hS
  intro H locs hP hS
  have bp_4 := hO_0.i m0 (show slotD 21 4 = some (.inl (0, 6)) from rfl)
  refine lv_aload_n hx hb d_Bd_addGap_0 rfl (lv_at hl 0 rfl) ?_
  refine tw_getr (D := (dC, dI)) (C := R_Bd) (T := F_Bd) (N := 5) (ci := 8) (kd := 21) (ct := ct) hx hb htb i_Bd hown hK hP hO_0 m0 rfl rfl 2 (by decide) (htb (.fieldLink R_Bd 9 "WaterMen$Bond" "gapFrom" "[I") tw_58) (fun _ h9 => h9) rfl d_Bd_addGap_1 (fun q_1 e_1 m_1 => ?_)
  refine lv_aload_n hx hb d_Bd_addGap_4 rfl (lv_at hl 0 rfl) ?_
  refine tw_getI (x := (ti f q0 4)) (D := (dC, dI)) (C := R_Bd) (T := F_Bd) (N := 5) (ci := 8) (kd := 21) (ct := ct) hx hb htb i_Bd hown hK hP m0 rfl rfl 4 rfl (by decide) (htb (.fieldLink R_Bd 25 "WaterMen$Bond" "gapCount" "I") tw_56) (fun _ h9 => h9) rfl d_Bd_addGap_5 ?_
  refine lv_iload_n hx hb d_Bd_addGap_8 rfl (lv_at hl 1 rfl) ?_
  refine tw_astI (ct := ct) (x := p_0) hx hb hK hP hD hS hO_0 m_1 rfl (hb_inl bp_4.1 as_0 (by decide +kernel)) (i32_full _) d_Bd_addGap_9 (fun f_1 H locs hP hD hS hO_1 hE_1 w_2 ow_2 hF_1 => ?_)
  have hA_1 := hA_0.trans hE_1
  refine lv_aload_n hx hb d_Bd_addGap_10 rfl (lv_at hl 0 rfl) ?_
  refine tw_getr (D := (dC, dI)) (C := R_Bd) (T := F_Bd) (N := 5) (ci := 8) (kd := 21) (ct := ct) hx hb htb i_Bd hown hK hP hO_1 (hA_1.m m0) rfl rfl 3 (by decide) (htb (.fieldLink R_Bd 15 "WaterMen$Bond" "gapTo" "[I") tw_57) (fun _ h9 => h9) rfl d_Bd_addGap_11 (fun q_3 e_3 m_3 => ?_)
  refine lv_aload_n hx hb d_Bd_addGap_14 rfl (lv_at hl 0 rfl) ?_
  refine tw_getI (x := (ti f q0 4)) (D := (dC, dI)) (C := R_Bd) (T := F_Bd) (N := 5) (ci := 8) (kd := 21) (ct := ct) hx hb htb i_Bd hown hK hP (hA_1.m m0) rfl rfl 4 ((hA_1.ei m0 rfl).trans rfl) (by decide) (htb (.fieldLink R_Bd 25 "WaterMen$Bond" "gapCount" "I") tw_56) (fun _ h9 => h9) rfl d_Bd_addGap_15 ?_
  refine lv_iload_n hx hb d_Bd_addGap_18 rfl (lv_at hl 2 rfl) ?_
  refine tw_astI (ct := ct) (x := p_1) hx hb hK hP hD hS hO_1 m_3 rfl (hb_inl bp_4.1 as_0 (by decide +kernel)) (i32_full _) d_Bd_addGap_19 (fun f_2 H locs hP hD hS hO_2 hE_2 w_4 ow_4 hF_2 => ?_)
  have hA_2 := hA_1.trans hE_2
  refine lv_aload_n hx hb d_Bd_addGap_20 rfl (lv_at hl 0 rfl) ?_
  refine lv_dup hx hb d_Bd_addGap_21 rfl ?_
  refine tw_getI (x := (ti f q0 4)) (D := (dC, dI)) (C := R_Bd) (T := F_Bd) (N := 5) (ci := 8) (kd := 21) (ct := ct) hx hb htb i_Bd hown hK hP (hA_2.m m0) rfl rfl 4 ((hA_2.ei m0 rfl).trans rfl) (by decide) (htb (.fieldLink R_Bd 25 "WaterMen$Bond" "gapCount" "I") tw_56) (fun _ h9 => h9) rfl d_Bd_addGap_22 ?_
  refine lv_iconst (v := 1) hx hb d_Bd_addGap_25 (by decide +kernel) ?_
  refine lv_iadd hx hb d_Bd_addGap_26 ?_
  refine tw_puti (v := ((ti f q0 4) + 1)) (D := (dC, dI)) (C := R_Bd) (T := F_Bd) (N := 5) (ci := 8) (kd := 21) (ct := ct) (ty := .int) hx hb htb i_Bd t_Bd t_Bd_ok n_Bd hown hK hP hD hS hO_2 (hA_2.m m0) rfl rfl 4 (by decide) (htb (.fieldLink R_Bd 25 "WaterMen$Bond" "gapCount" "I") tw_56) (fun _ h9 => h9) rfl (by decide +kernel) rfl rfl rfl ⟨(show ¬ (((ti f q0 4) + 1) < 0) from ((fun (a_0 : Int32) (k_0 : ¬ (a_0 < 0)) (k_1 : ¬ (6 < a_0)) => (show ¬ ((a_0 + 1) < 0) from by have z0 : (0 : Int32).toInt = 0 := (by decide +kernel); have z1 : (1 : Int32).toInt = 1 := (by decide +kernel); have z2 : (6 : Int32).toInt = 6 := (by decide +kernel); have r0 := fb_rng (a_0); have e0 := k_0; rw [Int32.lt_iff_toInt_lt, z0] at e0; have e1 := k_1; rw [Int32.lt_iff_toInt_lt, z2] at e1; obtain ⟨n_0, hn_0, s0⟩ := nd_add (x := a_0) (y := (1 : Int32)) (by (try rw [z1]); omega) (by (try rw [z1]); omega); rw [z1] at s0; rw [hn_0, Int32.lt_iff_toInt_lt, z0]; omega)) (ti f q0 4) bp_4.1 bp_4.2)), (show ¬ (6 < ((ti f q0 4) + 1)) from ((fun (a_0 : Int32) (k_0 : ¬ (5 < a_0)) => (show ¬ (6 < (a_0 + 1)) from by have z0 : (1 : Int32).toInt = 1 := (by decide +kernel); have z1 : (5 : Int32).toInt = 5 := (by decide +kernel); have z2 : (6 : Int32).toInt = 6 := (by decide +kernel); have r0 := fb_rng (a_0); have e0 := k_0; rw [Int32.lt_iff_toInt_lt, z1] at e0; obtain ⟨n_0, hn_0, s0⟩ := nd_add (x := a_0) (y := (1 : Int32)) (by (try rw [z0]); omega) (by (try rw [z0]); omega); rw [z0] at s0; rw [hn_0, Int32.lt_iff_toInt_lt, z2]; omega)) (ti f q0 4) as_0))⟩ d_Bd_addGap_27 (fun f_3 H locs hP hD hS hO_3 hE_3 w_5 hF_3 => ?_)
  have hA_3 := hA_2.trans hE_3
  refine lv_aload_n hx hb d_Bd_addGap_30 rfl (lv_at hl 0 rfl) ?_
  refine tw_getI (x := ((ti f q0 4) + 1)) (D := (dC, dI)) (C := R_Bd) (T := F_Bd) (N := 5) (ci := 8) (kd := 21) (ct := ct) hx hb htb i_Bd hown hK hP (hA_3.m m0) rfl rfl 4 w_5 (by decide) (htb (.fieldLink R_Bd 25 "WaterMen$Bond" "gapCount" "I") tw_56) (fun _ h9 => h9) rfl d_Bd_addGap_31 ?_
  refine W.widen (k := 0) (n := 0) (Nat.le_of_ble_eq_true rfl) (Nat.le_of_ble_eq_true rfl) ?_
  exact W.iret (v := ((ti f q0 4) + 1)) hx hb hr (fun t ht hW => ⟨⟨((ti f q0 4) + 1), (L, f_3), rfl, ⟨hO_3, hA_3.mono (by decide +kernel), trivial⟩, by rw [ht]; exact hP, va_K.moved hW.alike hK, by rw [hAe]; exact hD⟩, by rw [hAe]; exact hS.F ht⟩) (by rw [hAe]; exact hS.2.2) d_Bd_addGap_34
set_option maxHeartbeats 4000000 in
set_option maxRecDepth 100000 in
theorem c_Bd_daysServed_t (l : Launch) (dC : Nat → ClassId) (dI : Nat → Nat → Nat) (ct : Nat → ClassId) (L : List Nat) (f : TF) (hO_0 : Ok L f) (q0 : Nat) (m0 : q0 ∈ L ∧ tk f q0 = 21) (p_0 : Int32)   : Met l y_Bd_daysServed (.code y_Bd_daysServed b_Bd_daysServed 4 (some .int) :: TB) ({ frames := 1, cells := 0, slots := 0, locals := 21 }) (va_Pc [.ref q0, .int p_0] (PR dC dI (TW ct L f) (TT ct))) (vp_Si (fun r => True)) 0 0 (fun _ => False) := by
  refine Met.ofW (cc := b_Bd_daysServed) (maxL := 4) (ret := (some .int)) (by decide) rfl ?_
  intro p e s m args below meth c s₁ B hml hv
  obtain ⟨rfl, hP, hK, hN⟩ := hv
  have hx := B.exec
  have hb := B.bytes
  have hr := B.returns
  have hts := atoms_spec (ws := (.code y_Bd_daysServed b_Bd_daysServed 4 (some .int) :: TB)) B.pre
  have htb := fun w (h : w ∈ TB) => hts w (List.mem_cons_of_mem _ h)
  have hown : s.vm.findClass R_Bd = some m.cls := findClass_of_methodNamed B.named
  have hlocks := B.notSynchronized
  have hl := lv_entry ([.ref q0, .int p_0]) (n := 4) (Nat.le_of_ble_eq_true rfl)
  rw [lg_entry_eq]
  generalize (lg_sl ([.ref q0, .int p_0]) ++ List.replicate (4 - (lg_sl ([.ref q0, .int p_0])).length) Slot.unset).toArray = ls at hl ⊢
  have hl : lv_has ls 4 [(0, .ref q0), (1, .int p_0)] := hl
  refine lv_iload_n hx hb d_Bd_daysServed_0 rfl (lv_at hl 1 rfl) ?_
  refine lv_aload_n hx hb d_Bd_daysServed_1 rfl (lv_at hl 0 rfl) ?_
  refine tw_geti (D := (dC, dI)) (C := R_Bd) (T := F_Bd) (N := 5) (ci := 8) (kd := 21) (ct := ct) hx hb htb i_Bd hown hK hP hO_0 m0 rfl rfl 1 (by decide) (htb (.fieldLink R_Bd 22 "WaterMen$Bond" "since" "I") tw_59) (fun _ h9 => h9) rfl d_Bd_daysServed_2 (fun x_1 e_1 b_1 => ?_)
  refine lv_isub hx hb d_Bd_daysServed_5 ?_
  refine lv_istore_n (lv' := [(2, .int (p_0 - x_1)), (0, .ref q0), (1, .int p_0)]) hx hb d_Bd_daysServed_6 rfl hl (by decide) rfl (fun ls hl => ?_)
  refine lv_iconst (v := 0) hx hb d_Bd_daysServed_7 (by decide +kernel) ?_
  refine lv_istore_n (lv' := [(3, .int 0), (2, .int (p_0 - x_1)), (0, .ref q0), (1, .int p_0)]) hx hb d_Bd_daysServed_8 rfl hl (by decide) rfl (fun ls hl => ?_)
  have cut_2 : ∀ (n_2 : Nat) (v2_2 v3_2 : Int32) (ls : Array Slot), ¬ (v3_2 < 0) → ¬ (6 < v3_2) → (6 : Int32).toInt - (v3_2 : Int32).toInt ≤ (n_2 : Int) → lv_has ls 4 [(0, .ref q0), (1, .int p_0), (2, .int v2_2), (3, .int v3_2)] → W p l e (headSpec (.code y_Bd_daysServed b_Bd_daysServed 4 (some .int) :: TB) ({ frames := 1, cells := 0, slots := 0, locals := 21 })).room s m [.ref q0, .int p_0].toArray below meth c s.heap [] 0 0 (MQ below (vp_Si (fun r => True)) [.ref q0, .int p_0].toArray s 0 0 (fun _ => False)) (F0 m 9 ls []) := by
    intro n_2
    induction n_2 using Nat.strongRecOn with
    | _ n_2 ih_2 =>
      intro v2_2 v3_2 ls iv0_2 iv1_2 hm_2 hl
      refine lv_iload_n hx hb d_Bd_daysServed_9 rfl (lv_at hl 3 rfl) ?_
      refine lv_aload_n hx hb d_Bd_daysServed_10 rfl (lv_at hl 0 rfl) ?_
      refine tw_geti (D := (dC, dI)) (C := R_Bd) (T := F_Bd) (N := 5) (ci := 8) (kd := 21) (ct := ct) hx hb htb i_Bd hown hK hP hO_0 m0 rfl rfl 4 (by decide) (htb (.fieldLink R_Bd 25 "WaterMen$Bond" "gapCount" "I") tw_56) (fun _ h9 => h9) rfl d_Bd_daysServed_11 (fun x_3 e_3 b_3 => ?_)
      refine lv_icmp_ge (tgt := 45) hx hb d_Bd_daysServed_14 (by decide) (fun c_4 => ?_) (fun c_4 => ?_)
      · refine lv_iload_n hx hb d_Bd_daysServed_45 rfl (lv_at hl 2 rfl) ?_
        exact W.iret (v := v2_2) hx hb hr (fun t ht hW => ⟨v2_2, rfl, trivial, ht⟩) t_nil d_Bd_daysServed_46
      · refine lv_iload_n hx hb d_Bd_daysServed_17 rfl (lv_at hl 2 rfl) ?_
        refine lv_aload_n hx hb d_Bd_daysServed_18 rfl (lv_at hl 0 rfl) ?_
        refine tw_getr (D := (dC, dI)) (C := R_Bd) (T := F_Bd) (N := 5) (ci := 8) (kd := 21) (ct := ct) hx hb htb i_Bd hown hK hP hO_0 m0 rfl rfl 3 (by decide) (htb (.fieldLink R_Bd 15 "WaterMen$Bond" "gapTo" "[I") tw_57) (fun _ h9 => h9) rfl d_Bd_daysServed_19 (fun q_5 e_5 m_5 => ?_)
        refine lv_iload_n hx hb d_Bd_daysServed_22 rfl (lv_at hl 3 rfl) ?_
        refine tw_aldI (ct := ct) hx hb hK hP hO_0 m_5 rfl ((fun (a_0 : Int32) (a_1 : Int32) (k_0 : ¬ (a_0 < 0)) (k_1 : ¬ (a_1 ≤ a_0)) (k_2 : ¬ (6 < a_1)) => (show vp_in (a_0) 6 from by have z0 : (0 : Int32).toInt = 0 := (by decide +kernel); have z1 : (6 : Int32).toInt = 6 := (by decide +kernel); have r0 := fb_rng (a_0); have r1 := fb_rng (a_1); have e0 := k_0; rw [Int32.lt_iff_toInt_lt, z0] at e0; have e1 := k_1; rw [Int32.le_iff_toInt_le] at e1; have e2 := k_2; rw [Int32.lt_iff_toInt_lt, z1] at e2; rw [vp_in_iff]; omega)) v3_2 x_3 iv0_2 c_4 b_3.2) d_Bd_daysServed_23 (fun x_6 e_6 b_6 => ?_)
        refine lv_iconst (v := 1) hx hb d_Bd_daysServed_24 (by decide +kernel) ?_
        refine lv_iadd hx hb d_Bd_daysServed_25 ?_
        refine lv_iload_n hx hb d_Bd_daysServed_26 rfl (lv_at hl 1 rfl) ?_
        refine va_mmin hx hb (hml.trans hl.1.symm) hown (htb (.methodLink R_Bd 28 Lib.Math.min.name) tw_60) (htb (.static Lib.Math.min.name) tw_36) (htb (.initialized "java/lang/Math") tw_32) (htb (.code Lib.Math.min.name Lib.Math.min.code 2 (some .int)) tw_37) (Nat.le_of_ble_eq_true rfl) (Nat.le_of_ble_eq_true rfl) (Nat.le_of_ble_eq_true rfl) (Nat.le_of_ble_eq_true rfl) d_Bd_daysServed_27 ?_
        refine hb_anyi (fun y_7 => ?_)
        refine lv_aload_n hx hb d_Bd_daysServed_30 rfl (lv_at hl 0 rfl) ?_
        refine tw_getr (D := (dC, dI)) (C := R_Bd) (T := F_Bd) (N := 5) (ci := 8) (kd := 21) (ct := ct) hx hb htb i_Bd hown hK hP hO_0 m0 rfl rfl 2 (by decide) (htb (.fieldLink R_Bd 9 "WaterMen$Bond" "gapFrom" "[I") tw_58) (fun _ h9 => h9) rfl d_Bd_daysServed_31 (fun q_8 e_8 m_8 => ?_)
        refine lv_iload_n hx hb d_Bd_daysServed_34 rfl (lv_at hl 3 rfl) ?_
        refine tw_aldI (ct := ct) hx hb hK hP hO_0 m_8 rfl ((fun (a_0 : Int32) (a_1 : Int32) (k_0 : ¬ (a_0 < 0)) (k_1 : ¬ (a_1 ≤ a_0)) (k_2 : ¬ (6 < a_1)) => (show vp_in (a_0) 6 from by have z0 : (0 : Int32).toInt = 0 := (by decide +kernel); have z1 : (6 : Int32).toInt = 6 := (by decide +kernel); have r0 := fb_rng (a_0); have r1 := fb_rng (a_1); have e0 := k_0; rw [Int32.lt_iff_toInt_lt, z0] at e0; have e1 := k_1; rw [Int32.le_iff_toInt_le] at e1; have e2 := k_2; rw [Int32.lt_iff_toInt_lt, z1] at e2; rw [vp_in_iff]; omega)) v3_2 x_3 iv0_2 c_4 b_3.2) d_Bd_daysServed_35 (fun x_9 e_9 b_9 => ?_)
        refine lv_isub hx hb d_Bd_daysServed_36 ?_
        refine lv_isub hx hb d_Bd_daysServed_37 ?_
        refine lv_istore_n (lv' := [(2, .int (v2_2 - (y_7 - x_9))), (0, .ref q0), (1, .int p_0), (3, .int v3_2)]) hx hb d_Bd_daysServed_38 rfl hl (by decide) rfl (fun ls hl => ?_)
        refine lv_iinc (v := (v3_2 + 1)) (lv' := [(3, .int (v3_2 + 1)), (2, .int (v2_2 - (y_7 - x_9))), (0, .ref q0), (1, .int p_0)]) hx hb d_Bd_daysServed_39 hl (k := 3) rfl rfl (by decide) rfl (fun ls hl => ?_)
        refine lv_goto (tgt := 9) hx hb d_Bd_daysServed_42 (by decide) ?_
        exact ih_2 (n_2 - 1) (ms_1 ((fun (a_0 : Int32) (a_1 : Int32) (k_0 : ¬ (a_1 ≤ a_0)) (k_1 : ¬ (6 < a_1)) => (show 1 ≤ (6 : Int32).toInt - (a_0).toInt ∧ (6 : Int32).toInt - ((a_0) + (1 : Int32)).toInt + 1 ≤ (6 : Int32).toInt - (a_0).toInt from by have z0 : (1 : Int32).toInt = 1 := (by decide +kernel); have z1 : (6 : Int32).toInt = 6 := (by decide +kernel); have r0 := fb_rng (a_0); have r1 := fb_rng (a_1); have e0 := k_0; rw [Int32.le_iff_toInt_le] at e0; have e1 := k_1; rw [Int32.lt_iff_toInt_lt, z1] at e1; obtain ⟨n_0, hn_0, s0⟩ := nd_add (x := (a_0)) (y := (1 : Int32)) (by (try rw [z0]); omega) (by (try rw [z0]); omega); rw [z0] at s0; rw [hn_0]; (try rw [z1]); omega)) v3_2 x_3 c_4 b_3.2) hm_2) (v2_2 - (y_7 - x_9)) (v3_2 + 1) _ (show ¬ ((v3_2 + 1) < 0) from by have e0 := iv0_2; rw [Int32.lt_iff_toInt_lt] at e0; have e1 := iv1_2; rw [Int32.lt_iff_toInt_lt] at e1; have z0 : (0 : Int32).toInt = 0 := (by decide +kernel); have z1 : (1 : Int32).toInt = 1 := (by decide +kernel); have z2 : (6 : Int32).toInt = 6 := (by decide +kernel); have ss := fb_addI (x := v3_2) (y := 1) (by omega) (by omega); rw [Int32.lt_iff_toInt_lt]; omega) (show ¬ (6 < (v3_2 + 1)) from ((fun (a_0 : Int32) (a_1 : Int32) (k_0 : ¬ (a_1 ≤ a_0)) (k_1 : ¬ (6 < a_1)) => (show ¬ (6 < (a_0 + 1)) from by have z0 : (1 : Int32).toInt = 1 := (by decide +kernel); have z1 : (6 : Int32).toInt = 6 := (by decide +kernel); have r0 := fb_rng (a_0); have r1 := fb_rng (a_1); have e0 := k_0; rw [Int32.le_iff_toInt_le] at e0; have e1 := k_1; rw [Int32.lt_iff_toInt_lt, z1] at e1; obtain ⟨n_0, hn_0, s0⟩ := nd_add (x := (a_0)) (y := (1 : Int32)) (by (try rw [z0]); omega) (by (try rw [z0]); omega); rw [z0] at s0; rw [hn_0, Int32.lt_iff_toInt_lt, z1]; omega)) v3_2 x_3 c_4 b_3.2)) (by exact ms_2 ((fun (a_0 : Int32) (a_1 : Int32) (k_0 : ¬ (a_1 ≤ a_0)) (k_1 : ¬ (6 < a_1)) => (show 1 ≤ (6 : Int32).toInt - (a_0).toInt ∧ (6 : Int32).toInt - ((a_0) + (1 : Int32)).toInt + 1 ≤ (6 : Int32).toInt - (a_0).toInt from by have z0 : (1 : Int32).toInt = 1 := (by decide +kernel); have z1 : (6 : Int32).toInt = 6 := (by decide +kernel); have r0 := fb_rng (a_0); have r1 := fb_rng (a_1); have e0 := k_0; rw [Int32.le_iff_toInt_le] at e0; have e1 := k_1; rw [Int32.lt_iff_toInt_lt, z1] at e1; obtain ⟨n_0, hn_0, s0⟩ := nd_add (x := (a_0)) (y := (1 : Int32)) (by (try rw [z0]); omega) (by (try rw [z0]); omega); rw [z0] at s0; rw [hn_0]; (try rw [z1]); omega)) v3_2 x_3 c_4 b_3.2) hm_2) (lv_sub hl [2, 3, 1, 0] rfl)
  exact cut_2 4294967296 (p_0 - x_1) (0 : Int32) _ (by decide +kernel) (by decide +kernel) (by exact ms_0 _ _) (lv_sub hl [2, 3, 1, 0] rfl)
set_option maxHeartbeats 4000000 in
set_option maxRecDepth 100000 in
theorem c_Bt_stateAt_t (l : Launch) (dC : Nat → ClassId) (dI : Nat → Nat → Nat) (ct : Nat → ClassId) (L : List Nat) (f : TF) (hO_0 : Ok L f) (q0 : Nat) (m0 : q0 ∈ L ∧ tk f q0 = 24) (p_0 : Int32)   : Met l y_Bt_stateAt (.code y_Bt_stateAt b_Bt_stateAt 2 (some .int) :: TB) ({ frames := 0, cells := 0, slots := 0, locals := 0 }) (va_Pc [.ref q0, .int p_0] (PR dC dI (TW ct L f) (TT ct))) (vp_Si (fun r => True)) 0 0 (fun _ => False) := by
  refine Met.ofW (cc := b_Bt_stateAt) (maxL := 2) (ret := (some .int)) (by decide) rfl ?_
  intro p e s m args below meth c s₁ B hml hv
  obtain ⟨rfl, hP, hK, hN⟩ := hv
  have hx := B.exec
  have hb := B.bytes
  have hr := B.returns
  have hts := atoms_spec (ws := (.code y_Bt_stateAt b_Bt_stateAt 2 (some .int) :: TB)) B.pre
  have htb := fun w (h : w ∈ TB) => hts w (List.mem_cons_of_mem _ h)
  have hown : s.vm.findClass R_Bt = some m.cls := findClass_of_methodNamed B.named
  have hlocks := B.notSynchronized
  have hl := lv_entry ([.ref q0, .int p_0]) (n := 2) (Nat.le_of_ble_eq_true rfl)
  rw [lg_entry_eq]
  generalize (lg_sl ([.ref q0, .int p_0]) ++ List.replicate (2 - (lg_sl ([.ref q0, .int p_0])).length) Slot.unset).toArray = ls at hl ⊢
  have hl : lv_has ls 2 [(0, .ref q0), (1, .int p_0)] := hl
  refine lv_aload_n hx hb d_Bt_stateAt_0 rfl (lv_at hl 0 rfl) ?_
  refine tw_geti (D := (dC, dI)) (C := R_Bt) (T := F_Bt) (N := 6) (ci := 9) (kd := 24) (ct := ct) hx hb htb i_Bt hown hK hP hO_0 m0 rfl rfl 5 (by decide) (htb (.fieldLink R_Bt 24 "WaterMen$Boat" "sunk" "Z") tw_61) (fun _ h9 => h9) rfl d_Bt_stateAt_1 (fun x_1 e_1 b_1 => ?_)
  refine lv_if_eq (tgt := 9) hx hb d_Bt_stateAt_4 (by decide) (fun c_2 => ?_) (fun c_2 => ?_)
  · refine lv_iload_n hx hb d_Bt_stateAt_9 rfl (lv_at hl 1 rfl) ?_
    refine lv_aload_n hx hb d_Bt_stateAt_10 rfl (lv_at hl 0 rfl) ?_
    refine tw_geti (D := (dC, dI)) (C := R_Bt) (T := F_Bt) (N := 6) (ci := 9) (kd := 24) (ct := ct) hx hb htb i_Bt hown hK hP hO_0 m0 rfl rfl 2 (by decide) (htb (.fieldLink R_Bt 28 "WaterMen$Boat" "thereFrom" "I") tw_62) (fun _ h9 => h9) rfl d_Bt_stateAt_11 (fun x_3 e_3 b_3 => ?_)
    refine lv_icmp_ge (tgt := 21) hx hb d_Bt_stateAt_14 (by decide) (fun c_4 => ?_) (fun c_4 => ?_)
    · refine lv_iconst (v := 0) hx hb d_Bt_stateAt_21 (by decide +kernel) ?_
      exact W.iret (v := 0) hx hb hr (fun t ht hW => ⟨0, rfl, trivial, ht⟩) t_nil d_Bt_stateAt_22
    · refine lv_iconst (v := 1) hx hb d_Bt_stateAt_17 (by decide +kernel) ?_
      refine lv_goto (tgt := 22) hx hb d_Bt_stateAt_18 (by decide) ?_
      exact W.iret (v := 1) hx hb hr (fun t ht hW => ⟨1, rfl, trivial, ht⟩) t_nil d_Bt_stateAt_22
  · refine lv_iconst (v := 2) hx hb d_Bt_stateAt_7 (by decide +kernel) ?_
    exact W.iret (v := 2) hx hb hr (fun t ht hW => ⟨2, rfl, trivial, ht⟩) t_nil d_Bt_stateAt_8
def WL_Or_clear_t_2_1 : List (Nat × Nat) := [(18, 1000)]
def W_Or_clear_t : List (Nat × Nat) := [(15, 5), (15, 6), (18, 1000)]
set_option maxHeartbeats 4000000 in
set_option maxRecDepth 100000 in
theorem c_Or_clear_t (l : Launch) (dC : Nat → ClassId) (dI : Nat → Nat → Nat) (ct : Nat → ClassId) (L : List Nat) (f : TF) (hO_0 : Ok L f) (q0 : Nat) (m0 : q0 ∈ L ∧ tk f q0 = 15) (sz : Nat)    : Met l y_Or_clear (.code y_Or_clear b_Or_clear 2 none :: TB) ({ frames := 0, cells := 0, slots := 0, locals := 0 }) (va_Pc [.ref q0] (PC dC dI (TW ct L f) (TT ct) sz)) (va_Qv (fun (u : TSt) => Ok u.1 u.2 ∧ Ext W_Or_clear_t L f u.1 u.2 ∧ (True)) (fun (u : TSt) t => va_P (dC, dI) vwCl (TW ct u.1 u.2) t.heap ∧ va_K (dC, dI) vwCl (TT ct) t ∧ va_D (va_A (TW ct L f) sz) (TW ct u.1 u.2)) (va_A (TW ct L f) sz)) 0 0 (va_A (TW ct L f) sz) := by
  refine Met.ofW (cc := b_Or_clear) (maxL := 2) (ret := none) (by decide) rfl ?_
  intro p e s m args below meth c s₁ B hml hv
  obtain ⟨rfl, hsz, hP, hK, hD0, hN⟩ := hv
  have hx := B.exec
  have hb := B.bytes
  have hr := B.returns
  have hts := atoms_spec (ws := (.code y_Or_clear b_Or_clear 2 none :: TB)) B.pre
  have htb := fun w (h : w ∈ TB) => hts w (List.mem_cons_of_mem _ h)
  have hown : s.vm.findClass R_Or = some m.cls := findClass_of_methodNamed B.named
  have hlocks := B.notSynchronized
  have hl := lv_entry ([.ref q0]) (n := 2) (Nat.le_of_ble_eq_true rfl)
  rw [lg_entry_eq]
  generalize (lg_sl ([.ref q0]) ++ List.replicate (2 - (lg_sl ([.ref q0])).length) Slot.unset).toArray = ls at hl ⊢
  have hl : lv_has ls 2 [(0, .ref q0)] := hl
  subst hsz
  have hD := hD0.self (sz := s.heap.size)
  obtain ⟨A, hAe⟩ : ∃ A, va_A (TW ct L f) s.heap.size = A := ⟨_, rfl⟩
  rw [hAe] at hD
  have hA : ∀ q : Nat, s.heap.size ≤ q → A q := fun q h => by rw [← hAe]; exact Or.inr h
  have hS : va_S A s.heap s.heap [] := va_S.rf
  have hA_0 : Ext [] L f L f := Ext.rf
  suffices hGo : ∀ (H : Heap) (locs : List Loc), va_P (dC, dI) vwCl (TW ct L f) H → va_S A s.heap H locs → W p l e (headSpec (.code y_Or_clear b_Or_clear 2 none :: TB) ({ frames := 0, cells := 0, slots := 0, locals := 0 })).room s m [.ref q0].toArray below meth c H locs 0 0 (MQ below (va_Qv (fun (u : TSt) => Ok u.1 u.2 ∧ Ext W_Or_clear_t L f u.1 u.2 ∧ (True)) (fun (u : TSt) t => va_P (dC, dI) vwCl (TW ct u.1 u.2) t.heap ∧ va_K (dC, dI) vwCl (TT ct) t ∧ va_D (va_A (TW ct L f) s.heap.size) (TW ct u.1 u.2)) (va_A (TW ct L f) s.heap.size)) [.ref q0].toArray s 0 0 (va_A (TW ct L f) s.heap.size)) (F0 m 0 ls []) from hGo _ _ hP hS
  clear hP hS
  intro H locs hP hS
  refine lv_iconst (v := 0) hx hb d_Or_clear_0 (by decide +kernel) ?_
  refine lv_istore_n (lv' := [(1, .int 0), (0, .ref q0)]) hx hb d_Or_clear_1 rfl hl (by decide) rfl (fun ls hl => ?_)
  have cut_1 : ∀ (n_1 : Nat) (v1_1 : Int32) (L_1 : List Nat) (f_1 : TF) (H : Heap) (locs : List Loc) (ls : Array Slot), va_P (dC, dI) vwCl (TW ct L_1 f_1) H → va_D A (TW ct L_1 f_1) → va_S A s.heap H locs → Ok L_1 f_1 → Ext WL_Or_clear_t_2_1 L f L_1 f_1 → ¬ (v1_1 < 0) → ¬ (9 < v1_1) → (9 : Int32).toInt - (v1_1 : Int32).toInt ≤ (n_1 : Int) → lv_has ls 2 [(0, .ref q0), (1, .int v1_1)] → W p l e (headSpec (.code y_Or_clear b_Or_clear 2 none :: TB) ({ frames := 0, cells := 0, slots := 0, locals := 0 })).room s m [.ref q0].toArray below meth c H locs 0 0 (MQ below (va_Qv (fun (u : TSt) => Ok u.1 u.2 ∧ Ext W_Or_clear_t L f u.1 u.2 ∧ (True)) (fun (u : TSt) t => va_P (dC, dI) vwCl (TW ct u.1 u.2) t.heap ∧ va_K (dC, dI) vwCl (TT ct) t ∧ va_D (va_A (TW ct L f) s.heap.size) (TW ct u.1 u.2)) (va_A (TW ct L f) s.heap.size)) [.ref q0].toArray s 0 0 (va_A (TW ct L f) s.heap.size)) (F0 m 2 ls []) := by
    intro n_1
    induction n_1 using Nat.strongRecOn with
    | _ n_1 ih_1 =>
      intro v1_1 L_1 f_1 H locs ls hP hD hS hO_1 hE_1 iv0_1 iv1_1 hm_1 hl
      have hA_1 := hA_0.trans hE_1
      refine lv_iload_n hx hb d_Or_clear_2 rfl (lv_at hl 1 rfl) ?_
      refine lv_bipush (v := 9) hx hb d_Or_clear_3 (by decide +kernel) ?_
      refine lv_icmp_ge (tgt := 21) hx hb d_Or_clear_5 (by decide) (fun c_2 => ?_) (fun c_2 => ?_)
      · refine lv_aload_n hx hb d_Or_clear_21 rfl (lv_at hl 0 rfl) ?_
        refine lv_iconst (v := 0) hx hb d_Or_clear_22 (by decide +kernel) ?_
        refine tw_puti (v := 0) (D := (dC, dI)) (C := R_Or) (T := F_Or) (N := 9) (ci := 3) (kd := 15) (ct := ct) (ty := .int) hx hb htb i_Or t_Or t_Or_ok n_Or hown hK hP hD hS hO_1 (hA_1.m m0) rfl rfl 5 (by decide) (htb (.fieldLink R_Or 23 "WaterMen$Order" "fareCount" "I") tw_63) (fun _ h9 => h9) rfl (by decide +kernel) rfl rfl rfl ⟨by decide +kernel, by decide +kernel⟩ d_Or_clear_23 (fun f_2 H locs hP hD hS hO_2 hE_2 w_3 hF_2 => ?_)
        have hA_2 := hA_1.trans hE_2
        refine lv_aload_n hx hb d_Or_clear_26 rfl (lv_at hl 0 rfl) ?_
        refine lv_iconst (v := 0) hx hb d_Or_clear_27 (by decide +kernel) ?_
        refine tw_puti (v := 0) (D := (dC, dI)) (C := R_Or) (T := F_Or) (N := 9) (ci := 3) (kd := 15) (ct := ct) (ty := .int) hx hb htb i_Or t_Or t_Or_ok n_Or hown hK hP hD hS hO_2 (hA_2.m m0) rfl rfl 6 (by decide) (htb (.fieldLink R_Or 27 "WaterMen$Order" "hourCount" "I") tw_64) (fun _ h9 => h9) rfl (by decide +kernel) rfl rfl rfl ⟨by decide +kernel, by decide +kernel⟩ d_Or_clear_28 (fun f_3 H locs hP hD hS hO_3 hE_3 w_4 hF_3 => ?_)
        have hA_3 := hA_2.trans hE_3
        refine W.widen (k := 0) (n := 0) (Nat.le_of_ble_eq_true rfl) (Nat.le_of_ble_eq_true rfl) ?_
        exact W.vret hx hb hr (fun t ht hW => ⟨⟨(L_1, f_3), rfl, ⟨hO_3, hA_3.mono (by decide +kernel), trivial⟩, by rw [ht]; exact hP, va_K.moved hW.alike hK, by rw [hAe]; exact hD⟩, by rw [hAe]; exact hS.F ht⟩) (by rw [hAe]; exact hS.2.2) d_Or_clear_31
      · refine lv_aload_n hx hb d_Or_clear_8 rfl (lv_at hl 0 rfl) ?_
        refine tw_getr (D := (dC, dI)) (C := R_Or) (T := F_Or) (N := 9) (ci := 3) (kd := 15) (ct := ct) hx hb htb i_Or hown hK hP hO_1 (hA_1.m m0) rfl rfl 4 (by decide) (htb (.fieldLink R_Or 20 "WaterMen$Order" "single" "[I") tw_65) (fun _ h9 => h9) rfl d_Or_clear_9 (fun q_5 e_5 m_5 => ?_)
        refine lv_iload_n hx hb d_Or_clear_12 rfl (lv_at hl 1 rfl) ?_
        refine lv_iconst (v := (-1)) hx hb d_Or_clear_13 (by decide +kernel) ?_
        refine tw_astI (ct := ct) (x := (-1)) hx hb hK hP hD hS hO_1 m_5 rfl (hb_in iv0_1 c_2 (by decide +kernel)) (i32_full _) d_Or_clear_14 (fun f_2 H locs hP hD hS hO_2 hE_2 w_6 ow_6 hF_2 => ?_)
        have hA_2 := hA_1.trans hE_2
        refine lv_iinc (v := (v1_1 + 1)) (lv' := [(1, .int (v1_1 + 1)), (0, .ref q0)]) hx hb d_Or_clear_15 hl (k := 1) rfl rfl (by decide) rfl (fun ls hl => ?_)
        refine lv_goto (tgt := 2) hx hb d_Or_clear_18 (by decide) ?_
        exact ih_1 (n_1 - 1) (ms_1 ((fun (a_0 : Int32) (k_0 : ¬ (9 ≤ a_0)) => (show 1 ≤ (9 : Int32).toInt - (a_0).toInt ∧ (9 : Int32).toInt - ((a_0) + (1 : Int32)).toInt + 1 ≤ (9 : Int32).toInt - (a_0).toInt from by have z0 : (1 : Int32).toInt = 1 := (by decide +kernel); have z1 : (9 : Int32).toInt = 9 := (by decide +kernel); have r0 := fb_rng (a_0); have e0 := k_0; rw [Int32.le_iff_toInt_le, z1] at e0; obtain ⟨n_0, hn_0, s0⟩ := nd_add (x := (a_0)) (y := (1 : Int32)) (by (try rw [z0]); omega) (by (try rw [z0]); omega); rw [z0] at s0; rw [hn_0]; (try rw [z1]); omega)) v1_1 c_2) hm_1) (v1_1 + 1) _ _ _ _ _ hP hD hS hO_2 ((hE_1.trans hE_2).mono (by decide +kernel)) (show ¬ ((v1_1 + 1) < 0) from by have e0 := iv0_1; rw [Int32.lt_iff_toInt_lt] at e0; have e1 := c_2; rw [Int32.le_iff_toInt_le] at e1; have z0 : (0 : Int32).toInt = 0 := (by decide +kernel); have z1 : (1 : Int32).toInt = 1 := (by decide +kernel); have z2 : (9 : Int32).toInt = 9 := (by decide +kernel); have ss := fb_addI (x := v1_1) (y := 1) (by omega) (by omega); rw [Int32.lt_iff_toInt_lt]; omega) (show ¬ (9 < (v1_1 + 1)) from by have e0 := iv0_1; rw [Int32.lt_iff_toInt_lt] at e0; have e1 := c_2; rw [Int32.le_iff_toInt_le] at e1; have z0 : (0 : Int32).toInt = 0 := (by decide +kernel); have z1 : (1 : Int32).toInt = 1 := (by decide +kernel); have z2 : (9 : Int32).toInt = 9 := (by decide +kernel); have ss := fb_addI (x := v1_1) (y := 1) (by omega) (by omega); rw [Int32.lt_iff_toInt_lt]; omega) (by exact ms_2 ((fun (a_0 : Int32) (k_0 : ¬ (9 ≤ a_0)) => (show 1 ≤ (9 : Int32).toInt - (a_0).toInt ∧ (9 : Int32).toInt - ((a_0) + (1 : Int32)).toInt + 1 ≤ (9 : Int32).toInt - (a_0).toInt from by have z0 : (1 : Int32).toInt = 1 := (by decide +kernel); have z1 : (9 : Int32).toInt = 9 := (by decide +kernel); have r0 := fb_rng (a_0); have e0 := k_0; rw [Int32.le_iff_toInt_le, z1] at e0; obtain ⟨n_0, hn_0, s0⟩ := nd_add (x := (a_0)) (y := (1 : Int32)) (by (try rw [z0]); omega) (by (try rw [z0]); omega); rw [z0] at s0; rw [hn_0]; (try rw [z1]); omega)) v1_1 c_2) hm_1) (lv_sub hl [1, 0] rfl)
  exact cut_1 4294967296 (0 : Int32) _ _ _ _ _ hP hD hS hO_0 Ext.rf (by decide +kernel) (by decide +kernel) (by exact ms_0 _ _) (lv_sub hl [1, 0] rfl)
set_option maxHeartbeats 4000000 in
set_option maxRecDepth 100000 in
theorem c_Or_lineHolds_k16_t (l : Launch) (dC : Nat → ClassId) (dI : Nat → Nat → Nat) (ct : Nat → ClassId) (L : List Nat) (f : TF) (hO_0 : Ok L f) (pq_0 : Nat) (pm_0 : pq_0 ∈ L ∧ tk f pq_0 = 16) (p_1 : Int32) (p_2 : Int32)  (as_0 : ¬ (p_1 < 0)) (as_1 : ¬ (11 < p_1)) : Met l y_Or_lineHolds (.code y_Or_lineHolds b_Or_lineHolds 3 (some .boolean) :: TB) ({ frames := 0, cells := 0, slots := 0, locals := 0 }) (va_Pc [.ref pq_0, .int p_1, .int p_2] (PR dC dI (TW ct L f) (TT ct))) (vp_Si (fun r => (r = 0 ∧ True) ∨ (r = 1 ∧ True))) 0 0 (fun _ => False) := by
  refine Met.ofW (cc := b_Or_lineHolds) (maxL := 3) (ret := (some .boolean)) (by decide) rfl ?_
  intro p e s m args below meth c s₁ B hml hv
  obtain ⟨rfl, hP, hK, hN⟩ := hv
  have hx := B.exec
  have hb := B.bytes
  have hr := B.returns
  have hts := atoms_spec (ws := (.code y_Or_lineHolds b_Or_lineHolds 3 (some .boolean) :: TB)) B.pre
  have htb := fun w (h : w ∈ TB) => hts w (List.mem_cons_of_mem _ h)
  have hown : s.vm.findClass R_Or = some m.cls := findClass_of_methodNamed B.named
  have hlocks := B.notSynchronized
  have hl := lv_entry ([.ref pq_0, .int p_1, .int p_2]) (n := 3) (Nat.le_of_ble_eq_true rfl)
  rw [lg_entry_eq]
  generalize (lg_sl ([.ref pq_0, .int p_1, .int p_2]) ++ List.replicate (3 - (lg_sl ([.ref pq_0, .int p_1, .int p_2])).length) Slot.unset).toArray = ls at hl ⊢
  have hl : lv_has ls 3 [(0, .ref pq_0), (1, .int p_1), (2, .int p_2)] := hl
  refine lv_aload_n hx hb d_Or_lineHolds_0 rfl (lv_at hl 0 rfl) ?_
  refine lv_iload_n hx hb d_Or_lineHolds_1 rfl (lv_at hl 1 rfl) ?_
  refine lv_iconst (v := 3) hx hb d_Or_lineHolds_2 (by decide +kernel) ?_
  refine lv_imul hx hb d_Or_lineHolds_3 ?_
  refine tw_aldI (ct := ct) hx hb hK hP hO_0 pm_0 rfl ((fun (a_0 : Int32) (k_0 : ¬ (a_0 < 0)) (k_1 : ¬ (11 < a_0)) => (show vp_in ((a_0 * 3)) 36 from by have z0 : (0 : Int32).toInt = 0 := (by decide +kernel); have z1 : (3 : Int32).toInt = 3 := (by decide +kernel); have z2 : (11 : Int32).toInt = 11 := (by decide +kernel); have r0 := fb_rng (a_0); have e0 := k_0; rw [Int32.lt_iff_toInt_lt, z0] at e0; have e1 := k_1; rw [Int32.lt_iff_toInt_lt, z2] at e1; obtain ⟨n_0, hn_0, s0⟩ := nd_mul (x := (a_0)) (y := (3 : Int32)) (by (try rw [z1]); omega) (by (try rw [z1]); omega); rw [z1] at s0; rw [hn_0, vp_in_iff]; omega)) p_1 as_0 as_1) d_Or_lineHolds_4 (fun x_1 e_1 b_1 => ?_)
  refine lv_iload_n hx hb d_Or_lineHolds_5 rfl (lv_at hl 2 rfl) ?_
  refine lv_icmp_gt (tgt := 24) hx hb d_Or_lineHolds_6 (by decide) (fun c_2 => ?_) (fun c_2 => ?_)
  · refine lv_iconst (v := 0) hx hb d_Or_lineHolds_24 (by decide +kernel) ?_
    exact W.zret (v := 0) hx hb hr (by decide +kernel) (fun t ht hW => ⟨0, rfl, (Or.inl ⟨rfl, trivial⟩), ht⟩) t_nil d_Or_lineHolds_25
  · refine lv_iload_n hx hb d_Or_lineHolds_9 rfl (lv_at hl 2 rfl) ?_
    refine lv_aload_n hx hb d_Or_lineHolds_10 rfl (lv_at hl 0 rfl) ?_
    refine lv_iload_n hx hb d_Or_lineHolds_11 rfl (lv_at hl 1 rfl) ?_
    refine lv_iconst (v := 3) hx hb d_Or_lineHolds_12 (by decide +kernel) ?_
    refine lv_imul hx hb d_Or_lineHolds_13 ?_
    refine lv_iconst (v := 1) hx hb d_Or_lineHolds_14 (by decide +kernel) ?_
    refine lv_iadd hx hb d_Or_lineHolds_15 ?_
    refine tw_aldI (ct := ct) hx hb hK hP hO_0 pm_0 rfl ((fun (a_0 : Int32) (k_0 : ¬ (a_0 < 0)) (k_1 : ¬ (11 < a_0)) => (show vp_in (((a_0 * 3) + 1)) 36 from by have z0 : (0 : Int32).toInt = 0 := (by decide +kernel); have z1 : (1 : Int32).toInt = 1 := (by decide +kernel); have z2 : (3 : Int32).toInt = 3 := (by decide +kernel); have z3 : (11 : Int32).toInt = 11 := (by decide +kernel); have r0 := fb_rng (a_0); have e0 := k_0; rw [Int32.lt_iff_toInt_lt, z0] at e0; have e1 := k_1; rw [Int32.lt_iff_toInt_lt, z3] at e1; obtain ⟨n_0, hn_0, s0⟩ := nd_mul (x := (a_0)) (y := (3 : Int32)) (by (try rw [z2]); omega) (by (try rw [z2]); omega); rw [z2] at s0; obtain ⟨n_1, hn_1, s1⟩ := nd_add (x := n_0) (y := (1 : Int32)) (by (try rw [z1]); omega) (by (try rw [z1]); omega); rw [z1] at s1; rw [hn_0, hn_1, vp_in_iff]; omega)) p_1 as_0 as_1) d_Or_lineHolds_16 (fun x_3 e_3 b_3 => ?_)
    refine lv_icmp_gt (tgt := 24) hx hb d_Or_lineHolds_17 (by decide) (fun c_4 => ?_) (fun c_4 => ?_)
    · refine lv_iconst (v := 0) hx hb d_Or_lineHolds_24 (by decide +kernel) ?_
      exact W.zret (v := 0) hx hb hr (by decide +kernel) (fun t ht hW => ⟨0, rfl, (Or.inl ⟨rfl, trivial⟩), ht⟩) t_nil d_Or_lineHolds_25
    · refine lv_iconst (v := 1) hx hb d_Or_lineHolds_20 (by decide +kernel) ?_
      refine lv_goto (tgt := 25) hx hb d_Or_lineHolds_21 (by decide) ?_
      exact W.zret (v := 1) hx hb hr (by decide +kernel) (fun t ht hW => ⟨1, rfl, (Or.inr ⟨rfl, trivial⟩), ht⟩) t_nil d_Or_lineHolds_25
set_option maxHeartbeats 4000000 in
set_option maxRecDepth 100000 in
theorem c_Or_basePrice_t (l : Launch) (dC : Nat → ClassId) (dI : Nat → Nat → Nat) (ct : Nat → ClassId) (L : List Nat) (f : TF) (hO_0 : Ok L f) (q0 : Nat) (m0 : q0 ∈ L ∧ tk f q0 = 15) (p_0 : Int32)   : Met l y_Or_basePrice (.code y_Or_basePrice b_Or_basePrice 3 (some .int) :: TB) ({ frames := 1, cells := 0, slots := 0, locals := 22 }) (va_Pc [.ref q0, .int p_0] (PR dC dI (TW ct L f) (TT ct))) (vp_Si (fun r => True)) 0 0 (fun _ => False) := by
  refine Met.ofW (cc := b_Or_basePrice) (maxL := 3) (ret := (some .int)) (by decide) rfl ?_
  intro p e s m args below meth c s₁ B hml hv
  obtain ⟨rfl, hP, hK, hN⟩ := hv
  have hx := B.exec
  have hb := B.bytes
  have hr := B.returns
  have hts := atoms_spec (ws := (.code y_Or_basePrice b_Or_basePrice 3 (some .int) :: TB)) B.pre
  have htb := fun w (h : w ∈ TB) => hts w (List.mem_cons_of_mem _ h)
  have hown : s.vm.findClass R_Or = some m.cls := findClass_of_methodNamed B.named
  have hlocks := B.notSynchronized
  have hl := lv_entry ([.ref q0, .int p_0]) (n := 3) (Nat.le_of_ble_eq_true rfl)
  rw [lg_entry_eq]
  generalize (lg_sl ([.ref q0, .int p_0]) ++ List.replicate (3 - (lg_sl ([.ref q0, .int p_0])).length) Slot.unset).toArray = ls at hl ⊢
  have hl : lv_has ls 3 [(0, .ref q0), (1, .int p_0)] := hl
  refine lv_iconst (v := 0) hx hb d_Or_basePrice_0 (by decide +kernel) ?_
  refine lv_istore_n (lv' := [(2, .int 0), (0, .ref q0), (1, .int p_0)]) hx hb d_Or_basePrice_1 rfl hl (by decide) rfl (fun ls hl => ?_)
  have cut_1 : ∀ (n_1 : Nat) (v2_1 : Int32) (ls : Array Slot), ¬ (v2_1 < 0) → ¬ (12 < v2_1) → (12 : Int32).toInt - (v2_1 : Int32).toInt ≤ (n_1 : Int) → lv_has ls 3 [(0, .ref q0), (1, .int p_0), (2, .int v2_1)] → W p l e (headSpec (.code y_Or_basePrice b_Or_basePrice 3 (some .int) :: TB) ({ frames := 1, cells := 0, slots := 0, locals := 22 })).room s m [.ref q0, .int p_0].toArray below meth c s.heap [] 0 0 (MQ below (vp_Si (fun r => True)) [.ref q0, .int p_0].toArray s 0 0 (fun _ => False)) (F0 m 2 ls []) := by
    intro n_1
    induction n_1 using Nat.strongRecOn with
    | _ n_1 ih_1 =>
      intro v2_1 ls iv0_1 iv1_1 hm_1 hl
      refine lv_iload_n hx hb d_Or_basePrice_2 rfl (lv_at hl 2 rfl) ?_
      refine lv_aload_n hx hb d_Or_basePrice_3 rfl (lv_at hl 0 rfl) ?_
      refine tw_geti (D := (dC, dI)) (C := R_Or) (T := F_Or) (N := 9) (ci := 3) (kd := 15) (ct := ct) hx hb htb i_Or hown hK hP hO_0 m0 rfl rfl 5 (by decide) (htb (.fieldLink R_Or 23 "WaterMen$Order" "fareCount" "I") tw_63) (fun _ h9 => h9) rfl d_Or_basePrice_4 (fun x_2 e_2 b_2 => ?_)
      refine lv_icmp_ge (tgt := 39) hx hb d_Or_basePrice_7 (by decide) (fun c_3 => ?_) (fun c_3 => ?_)
      · refine lv_iconst (v := (-1)) hx hb d_Or_basePrice_39 (by decide +kernel) ?_
        exact W.iret (v := (-1)) hx hb hr (fun t ht hW => ⟨(-1), rfl, trivial, ht⟩) t_nil d_Or_basePrice_40
      · refine lv_aload_n hx hb d_Or_basePrice_10 rfl (lv_at hl 0 rfl) ?_
        refine tw_getr (D := (dC, dI)) (C := R_Or) (T := F_Or) (N := 9) (ci := 3) (kd := 15) (ct := ct) hx hb htb i_Or hown hK hP hO_0 m0 rfl rfl 2 (by decide) (htb (.fieldLink R_Or 9 "WaterMen$Order" "fares" "[I") tw_66) (fun _ h9 => h9) rfl d_Or_basePrice_11 (fun q_4 e_4 m_4 => ?_)
        refine lv_iload_n hx hb d_Or_basePrice_14 rfl (lv_at hl 2 rfl) ?_
        refine lv_iload_n hx hb d_Or_basePrice_15 rfl (lv_at hl 1 rfl) ?_
        refine vp_callSi (va_Run.run (va_runS (As := [.ref q_4, .int v2_1, .int p_0]) (rest := []) ⟨hx, hb, hml, hown, htb⟩ (c_Or_lineHolds_k16_t l dC dI ct L f hO_0 q_4 m_4 v2_1 p_0 iv0_1 (show ¬ (11 < v2_1) from ((fun (a_0 : Int32) (a_1 : Int32) (k_0 : ¬ (a_1 ≤ a_0)) (k_1 : ¬ (12 < a_1)) => (show ¬ (11 < a_0) from by have z0 : (11 : Int32).toInt = 11 := (by decide +kernel); have z1 : (12 : Int32).toInt = 12 := (by decide +kernel); have r0 := fb_rng (a_0); have r1 := fb_rng (a_1); have e0 := k_0; rw [Int32.le_iff_toInt_le] at e0; have e1 := k_1; rw [Int32.lt_iff_toInt_lt, z1] at e1; rw [Int32.lt_iff_toInt_lt, z0]; omega)) v2_1 x_2 c_3 b_2.2))) (cwS 3 htb (gd_S tw_69 tw_70 tw_68 tw_67) rfl rfl rfl (by decide +kernel) ⟨Nat.le_of_ble_eq_true rfl, Nat.le_of_ble_eq_true rfl⟩) ⟨pr_blind, pr_pre hP hK hN⟩ rfl rfl hl.1 rfl (lv_room (Nat.le_of_ble_eq_true rfl)) d_Or_basePrice_16 ⟨Nat.le_of_ble_eq_true rfl, Nat.le_of_ble_eq_true rfl⟩)) (fun r_5 er_5 => ?_)
        rcases er_5 with ⟨rfl, -⟩ | ⟨rfl, -⟩
        · refine lv_if_eq (tgt := 33) hx hb d_Or_basePrice_19 (by decide) (fun _ => ?_) (fun h => absurd (by decide +kernel) h)
          refine lv_iinc (v := (v2_1 + 1)) (lv' := [(2, .int (v2_1 + 1)), (0, .ref q0), (1, .int p_0)]) hx hb d_Or_basePrice_33 hl (k := 2) rfl rfl (by decide) rfl (fun ls hl => ?_)
          refine lv_goto (tgt := 2) hx hb d_Or_basePrice_36 (by decide) ?_
          exact ih_1 (n_1 - 1) (ms_1 ((fun (a_0 : Int32) (a_1 : Int32) (k_0 : ¬ (a_1 ≤ a_0)) (k_1 : ¬ (12 < a_1)) => (show 1 ≤ (12 : Int32).toInt - (a_0).toInt ∧ (12 : Int32).toInt - ((a_0) + (1 : Int32)).toInt + 1 ≤ (12 : Int32).toInt - (a_0).toInt from by have z0 : (1 : Int32).toInt = 1 := (by decide +kernel); have z1 : (12 : Int32).toInt = 12 := (by decide +kernel); have r0 := fb_rng (a_0); have r1 := fb_rng (a_1); have e0 := k_0; rw [Int32.le_iff_toInt_le] at e0; have e1 := k_1; rw [Int32.lt_iff_toInt_lt, z1] at e1; obtain ⟨n_0, hn_0, s0⟩ := nd_add (x := (a_0)) (y := (1 : Int32)) (by (try rw [z0]); omega) (by (try rw [z0]); omega); rw [z0] at s0; rw [hn_0]; (try rw [z1]); omega)) v2_1 x_2 c_3 b_2.2) hm_1) (v2_1 + 1) _ (show ¬ ((v2_1 + 1) < 0) from by have e0 := iv0_1; rw [Int32.lt_iff_toInt_lt] at e0; have e1 := iv1_1; rw [Int32.lt_iff_toInt_lt] at e1; have z0 : (0 : Int32).toInt = 0 := (by decide +kernel); have z1 : (1 : Int32).toInt = 1 := (by decide +kernel); have z2 : (12 : Int32).toInt = 12 := (by decide +kernel); have ss := fb_addI (x := v2_1) (y := 1) (by omega) (by omega); rw [Int32.lt_iff_toInt_lt]; omega) (show ¬ (12 < (v2_1 + 1)) from ((fun (a_0 : Int32) (a_1 : Int32) (k_0 : ¬ (a_1 ≤ a_0)) (k_1 : ¬ (12 < a_1)) => (show ¬ (12 < (a_0 + 1)) from by have z0 : (1 : Int32).toInt = 1 := (by decide +kernel); have z1 : (12 : Int32).toInt = 12 := (by decide +kernel); have r0 := fb_rng (a_0); have r1 := fb_rng (a_1); have e0 := k_0; rw [Int32.le_iff_toInt_le] at e0; have e1 := k_1; rw [Int32.lt_iff_toInt_lt, z1] at e1; obtain ⟨n_0, hn_0, s0⟩ := nd_add (x := (a_0)) (y := (1 : Int32)) (by (try rw [z0]); omega) (by (try rw [z0]); omega); rw [z0] at s0; rw [hn_0, Int32.lt_iff_toInt_lt, z1]; omega)) v2_1 x_2 c_3 b_2.2)) (by exact ms_2 ((fun (a_0 : Int32) (a_1 : Int32) (k_0 : ¬ (a_1 ≤ a_0)) (k_1 : ¬ (12 < a_1)) => (show 1 ≤ (12 : Int32).toInt - (a_0).toInt ∧ (12 : Int32).toInt - ((a_0) + (1 : Int32)).toInt + 1 ≤ (12 : Int32).toInt - (a_0).toInt from by have z0 : (1 : Int32).toInt = 1 := (by decide +kernel); have z1 : (12 : Int32).toInt = 12 := (by decide +kernel); have r0 := fb_rng (a_0); have r1 := fb_rng (a_1); have e0 := k_0; rw [Int32.le_iff_toInt_le] at e0; have e1 := k_1; rw [Int32.lt_iff_toInt_lt, z1] at e1; obtain ⟨n_0, hn_0, s0⟩ := nd_add (x := (a_0)) (y := (1 : Int32)) (by (try rw [z0]); omega) (by (try rw [z0]); omega); rw [z0] at s0; rw [hn_0]; (try rw [z1]); omega)) v2_1 x_2 c_3 b_2.2) hm_1) (lv_sub hl [1, 2, 0] rfl)
        · refine lv_if_eq (tgt := 33) hx hb d_Or_basePrice_19 (by decide) (fun h => absurd h (by decide +kernel)) (fun _ => ?_)
          refine lv_aload_n hx hb d_Or_basePrice_22 rfl (lv_at hl 0 rfl) ?_
          refine tw_getR (D := (dC, dI)) (C := R_Or) (T := F_Or) (N := 9) (ci := 3) (kd := 15) (ct := ct) hx hb htb i_Or hown hK hP m0 rfl rfl 2 e_4 (by decide) (htb (.fieldLink R_Or 9 "WaterMen$Order" "fares" "[I") tw_66) (fun _ h9 => h9) rfl d_Or_basePrice_23 ?_
          refine hb_tv (.ref q_4) rfl ?_
          refine lv_iload_n hx hb d_Or_basePrice_26 rfl (lv_at hl 2 rfl) ?_
          refine lv_iconst (v := 3) hx hb d_Or_basePrice_27 (by decide +kernel) ?_
          refine lv_imul hx hb d_Or_basePrice_28 ?_
          refine lv_iconst (v := 2) hx hb d_Or_basePrice_29 (by decide +kernel) ?_
          refine lv_iadd hx hb d_Or_basePrice_30 ?_
          refine tw_aldI (ct := ct) hx hb hK hP hO_0 m_4 rfl ((fun (a_0 : Int32) (a_1 : Int32) (k_0 : ¬ (a_0 < 0)) (k_1 : ¬ (a_1 ≤ a_0)) (k_2 : ¬ (12 < a_1)) => (show vp_in (((a_0 * 3) + 2)) 36 from by have z0 : (0 : Int32).toInt = 0 := (by decide +kernel); have z1 : (2 : Int32).toInt = 2 := (by decide +kernel); have z2 : (3 : Int32).toInt = 3 := (by decide +kernel); have z3 : (12 : Int32).toInt = 12 := (by decide +kernel); have r0 := fb_rng (a_0); have r1 := fb_rng (a_1); have e0 := k_0; rw [Int32.lt_iff_toInt_lt, z0] at e0; have e1 := k_1; rw [Int32.le_iff_toInt_le] at e1; have e2 := k_2; rw [Int32.lt_iff_toInt_lt, z3] at e2; obtain ⟨n_0, hn_0, s0⟩ := nd_mul (x := (a_0)) (y := (3 : Int32)) (by (try rw [z2]); omega) (by (try rw [z2]); omega); rw [z2] at s0; obtain ⟨n_1, hn_1, s1⟩ := nd_add (x := n_0) (y := (2 : Int32)) (by (try rw [z1]); omega) (by (try rw [z1]); omega); rw [z1] at s1; rw [hn_0, hn_1, vp_in_iff]; omega)) v2_1 x_2 iv0_1 c_3 b_2.2) d_Or_basePrice_31 (fun x_6 e_6 b_6 => ?_)
          exact W.iret (v := x_6) hx hb hr (fun t ht hW => ⟨x_6, rfl, trivial, ht⟩) t_nil d_Or_basePrice_32
  exact cut_1 4294967296 (0 : Int32) _ (by decide +kernel) (by decide +kernel) (by exact ms_0 _ _) (lv_sub hl [1, 2, 0] rfl)
