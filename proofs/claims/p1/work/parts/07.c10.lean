def f_Md_flow (p_0 : Int32) (p_1 : Int32) : Int32 := if p_0 < 0 then ((-1000)) else (if 499 < p_0 then ((-1000)) else (if p_1 < 0 then ((-1000)) else (if 11 < p_1 then ((-1000)) else (if p_1 = 11 then (if 500 ≤ (p_0 + 1) then (0) else (0)) else (0)))))
set_option maxHeartbeats 4000000 in
set_option maxRecDepth 100000 in
theorem c_Md_flow (l : Launch) (dC : Nat → ClassId) (dI : Nat → Nat → Nat) (a : Nat → Nat) (k : Nat → ClassId)  (p_0 : Int32) (p_1 : Int32)  : Met l y_Md_flow (.code y_Md_flow b_Md_flow 3 (some .int) :: TB) ({ frames := 2, cells := 0, slots := 0, locals := 44 }) (va_Pc [.ref (a 0), .int p_0, .int p_1] (PR dC dI (MW a k) (MT k))) (vp_Si (fun r => r = f_Md_flow p_0 p_1)) 0 0 (fun _ => False) := by
  refine Met.ofW (cc := b_Md_flow) (maxL := 3) (ret := (some .int)) (by decide) rfl ?_
  intro p e s m args below meth c s₁ B hml hv
  obtain ⟨rfl, hP, hK, hN⟩ := hv
  have hx := B.exec
  have hb := B.bytes
  have hr := B.returns
  have hts := atoms_spec (ws := (.code y_Md_flow b_Md_flow 3 (some .int) :: TB)) B.pre
  have htb := fun w (h : w ∈ TB) => hts w (List.mem_cons_of_mem _ h)
  have hown : s.vm.findClass R_Md = some m.cls := findClass_of_methodNamed B.named
  have hlocks := B.notSynchronized
  have hl := lv_entry ([.ref (a 0), .int p_0, .int p_1]) (n := 3) (Nat.le_of_ble_eq_true rfl)
  rw [lg_entry_eq]
  generalize (lg_sl ([.ref (a 0), .int p_0, .int p_1]) ++ List.replicate (3 - (lg_sl ([.ref (a 0), .int p_0, .int p_1])).length) Slot.unset).toArray = ls at hl ⊢
  have hl : lv_has ls 3 [(0, .ref (a 0)), (1, .int p_0), (2, .int p_1)] := hl
  refine lv_iload_n hx hb d_Md_flow_0 rfl (lv_at hl 1 rfl) ?_
  refine vp_callSi (va_Run.run (va_runS (As := [.int p_0]) (rest := []) ⟨hx, hb, hml, hown, htb⟩ (c_Md_isDay l p_0) (cwS 1 htb (gd_S tw_301 tw_302 tw_296 tw_300) rfl rfl rfl (by decide +kernel) ⟨Nat.le_of_ble_eq_true rfl, Nat.le_of_ble_eq_true rfl⟩) ⟨fun _ _ _ _ h => h, fun U _ _ => ⟨rfl, trivial⟩⟩ rfl rfl hl.1 rfl (lv_room (Nat.le_of_ble_eq_true rfl)) d_Md_flow_1 ⟨Nat.le_of_ble_eq_true rfl, Nat.le_of_ble_eq_true rfl⟩)) (fun r er => ?_)
  subst er
  by_cases c_1 : p_0 < 0
  · refine hb_ti 0 (by unfold f_Md_isDay; rw [if_pos c_1]) ?_
    refine lv_if_eq (tgt := 26) hx hb d_Md_flow_4 (by decide) (fun _ => ?_) (fun h => absurd (by decide +kernel) h)
    refine lv_sipush (v := (-1000)) hx hb d_Md_flow_26 (by decide +kernel) ?_
    exact W.iret (v := (-1000)) hx hb hr (fun t ht hW => ⟨(-1000), rfl, (by unfold f_Md_flow; rw [if_pos c_1]), ht⟩) t_nil d_Md_flow_29
  · by_cases c_2 : 499 < p_0
    · refine hb_ti 0 (by unfold f_Md_isDay; rw [if_neg c_1, if_pos c_2]) ?_
      refine lv_if_eq (tgt := 26) hx hb d_Md_flow_4 (by decide) (fun _ => ?_) (fun h => absurd (by decide +kernel) h)
      refine lv_sipush (v := (-1000)) hx hb d_Md_flow_26 (by decide +kernel) ?_
      exact W.iret (v := (-1000)) hx hb hr (fun t ht hW => ⟨(-1000), rfl, (by unfold f_Md_flow; rw [if_neg c_1, if_pos c_2]), ht⟩) t_nil d_Md_flow_29
    · refine hb_ti 1 (by unfold f_Md_isDay; rw [if_neg c_1, if_neg c_2]) ?_
      refine lv_if_eq (tgt := 26) hx hb d_Md_flow_4 (by decide) (fun h => absurd h (by decide +kernel)) (fun _ => ?_)
      refine lv_iload_n hx hb d_Md_flow_7 rfl (lv_at hl 2 rfl) ?_
      refine lv_iconst (v := 0) hx hb d_Md_flow_8 (by decide +kernel) ?_
      refine lv_bipush (v := 11) hx hb d_Md_flow_9 (by decide +kernel) ?_
      refine vp_callSi (va_Run.run (va_runS (As := [.int p_1, .int 0, .int 11]) (rest := []) ⟨hx, hb, hml, hown, htb⟩ (c_Md_in l p_1 0 11) (cwS 3 htb (gd_S tw_297 tw_298 tw_296 tw_295) rfl rfl rfl (by decide +kernel) ⟨Nat.le_of_ble_eq_true rfl, Nat.le_of_ble_eq_true rfl⟩) ⟨fun _ _ _ _ h => h, fun U _ _ => ⟨rfl, trivial⟩⟩ rfl rfl hl.1 rfl (lv_room (Nat.le_of_ble_eq_true rfl)) d_Md_flow_11 ⟨Nat.le_of_ble_eq_true rfl, Nat.le_of_ble_eq_true rfl⟩)) (fun r er => ?_)
      subst er
      by_cases c_3 : p_1 < 0
      · refine hb_ti 0 (by unfold f_Md_in; rw [if_pos c_3]) ?_
        refine lv_if_eq (tgt := 26) hx hb d_Md_flow_14 (by decide) (fun _ => ?_) (fun h => absurd (by decide +kernel) h)
        refine lv_sipush (v := (-1000)) hx hb d_Md_flow_26 (by decide +kernel) ?_
        exact W.iret (v := (-1000)) hx hb hr (fun t ht hW => ⟨(-1000), rfl, (by unfold f_Md_flow; rw [if_neg c_1, if_neg c_2, if_pos c_3]), ht⟩) t_nil d_Md_flow_29
      · by_cases c_4 : 11 < p_1
        · refine hb_ti 0 (by unfold f_Md_in; rw [if_neg c_3, if_pos c_4]) ?_
          refine lv_if_eq (tgt := 26) hx hb d_Md_flow_14 (by decide) (fun _ => ?_) (fun h => absurd (by decide +kernel) h)
          refine lv_sipush (v := (-1000)) hx hb d_Md_flow_26 (by decide +kernel) ?_
          exact W.iret (v := (-1000)) hx hb hr (fun t ht hW => ⟨(-1000), rfl, (by unfold f_Md_flow; rw [if_neg c_1, if_neg c_2, if_neg c_3, if_pos c_4]), ht⟩) t_nil d_Md_flow_29
        · refine hb_ti 1 (by unfold f_Md_in; rw [if_neg c_3, if_neg c_4]) ?_
          refine lv_if_eq (tgt := 26) hx hb d_Md_flow_14 (by decide) (fun h => absurd h (by decide +kernel)) (fun _ => ?_)
          refine lv_aload_n hx hb d_Md_flow_17 rfl (lv_at hl 0 rfl) ?_
          refine lv_iload_n hx hb d_Md_flow_18 rfl (lv_at hl 1 rfl) ?_
          refine lv_iload_n hx hb d_Md_flow_19 rfl (lv_at hl 2 rfl) ?_
          refine vp_callSi (va_Run.run (va_runV (As := [.int p_0, .int p_1]) (rest := []) ⟨hx, hb, hml, hown, htb⟩ (c_Md_flowOf l dC dI a k p_0 p_1 c_1 (show ¬ (500 ≤ p_0) from by have e0 := c_1; rw [Int32.lt_iff_toInt_lt] at e0; have e1 := c_2; rw [Int32.lt_iff_toInt_lt] at e1; have z0 : (0 : Int32).toInt = 0 := (by decide +kernel); have z1 : (499 : Int32).toInt = 499 := (by decide +kernel); have z2 : (500 : Int32).toInt = 500 := (by decide +kernel); rw [Int32.le_iff_toInt_le]; omega) c_3 (show ¬ (12 ≤ p_1) from by have e0 := c_3; rw [Int32.lt_iff_toInt_lt] at e0; have e1 := c_4; rw [Int32.lt_iff_toInt_lt] at e1; have z0 : (0 : Int32).toInt = 0 := (by decide +kernel); have z1 : (11 : Int32).toInt = 11 := (by decide +kernel); have z2 : (12 : Int32).toInt = 12 := (by decide +kernel); rw [Int32.le_iff_toInt_le]; omega)) (cwV 2 htb (gd_V tw_308 tw_309 tw_310 tw_296 tw_307) rfl rfl rfl (by decide +kernel) ⟨Nat.le_of_ble_eq_true rfl, Nat.le_of_ble_eq_true rfl⟩) ⟨pr_blind, va_recv hK hP (ci := 7) (q0 := 0) rfl rfl, pr_pre hP hK hN⟩ rfl rfl hl.1 rfl (lv_room (Nat.le_of_ble_eq_true rfl)) d_Md_flow_20 ⟨Nat.le_of_ble_eq_true rfl, Nat.le_of_ble_eq_true rfl⟩)) (fun r er => ?_)
          subst er
          by_cases c_5 : p_1 = 11
          · by_cases c_6 : 500 ≤ (p_0 + 1)
            · refine hb_ti 0 (by unfold f_Md_flowOf; rw [if_pos c_5, if_pos c_6]) ?_
              refine lv_goto (tgt := 29) hx hb d_Md_flow_23 (by decide) ?_
              exact W.iret (v := 0) hx hb hr (fun t ht hW => ⟨0, rfl, (by unfold f_Md_flow; rw [if_neg c_1, if_neg c_2, if_neg c_3, if_neg c_4, if_pos c_5, if_pos c_6]), ht⟩) t_nil d_Md_flow_29
            · refine hb_ti 0 (by unfold f_Md_flowOf; rw [if_pos c_5, if_neg c_6]) ?_
              refine lv_goto (tgt := 29) hx hb d_Md_flow_23 (by decide) ?_
              exact W.iret (v := 0) hx hb hr (fun t ht hW => ⟨0, rfl, (by unfold f_Md_flow; rw [if_neg c_1, if_neg c_2, if_neg c_3, if_neg c_4, if_pos c_5, if_neg c_6]), ht⟩) t_nil d_Md_flow_29
          · refine hb_ti 0 (by unfold f_Md_flowOf; rw [if_neg c_5]) ?_
            refine lv_goto (tgt := 29) hx hb d_Md_flow_23 (by decide) ?_
            exact W.iret (v := 0) hx hb hr (fun t ht hW => ⟨0, rfl, (by unfold f_Md_flow; rw [if_neg c_1, if_neg c_2, if_neg c_3, if_neg c_4, if_neg c_5]), ht⟩) t_nil d_Md_flow_29
def f_Md_today  : Int32 := 0
set_option maxHeartbeats 4000000 in
set_option maxRecDepth 100000 in
theorem c_Md_today (l : Launch) (dC : Nat → ClassId) (dI : Nat → Nat → Nat) (a : Nat → Nat) (k : Nat → ClassId)    : Met l y_Md_today (.code y_Md_today b_Md_today 1 (some .int) :: TB) ({ frames := 0, cells := 0, slots := 0, locals := 0 }) (va_Pc [.ref (a 0)] (PR dC dI (MW a k) (MT k))) (vp_Si (fun r => r = f_Md_today)) 0 0 (fun _ => False) := by
  refine Met.ofW (cc := b_Md_today) (maxL := 1) (ret := (some .int)) (by decide) rfl ?_
  intro p e s m args below meth c s₁ B hml hv
  obtain ⟨rfl, hP, hK, hN⟩ := hv
  have hx := B.exec
  have hb := B.bytes
  have hr := B.returns
  have hts := atoms_spec (ws := (.code y_Md_today b_Md_today 1 (some .int) :: TB)) B.pre
  have htb := fun w (h : w ∈ TB) => hts w (List.mem_cons_of_mem _ h)
  have hown : s.vm.findClass R_Md = some m.cls := findClass_of_methodNamed B.named
  have hlocks := B.notSynchronized
  have hl := lv_entry ([.ref (a 0)]) (n := 1) (Nat.le_of_ble_eq_true rfl)
  rw [lg_entry_eq]
  generalize (lg_sl ([.ref (a 0)]) ++ List.replicate (1 - (lg_sl ([.ref (a 0)])).length) Slot.unset).toArray = ls at hl ⊢
  have hl : lv_has ls 1 [(0, .ref (a 0))] := hl
  refine lv_aload_n hx hb d_Md_today_0 rfl (lv_at hl 0 rfl) ?_
  refine va_get (D := (dC, dI)) (ci := 7) (v := .int 0) (C := R_Md) (T := F_Md) (N := 64) hx hb htb i_Md hown hK hP 0 rfl rfl 1 (by decide) (htb (.fieldLink R_Md 7 "WaterMenModel" "time" "I") tw_311) (fun _ h9 => h9) rfl d_Md_today_1 ?_
  refine lv_sipush (v := 720) hx hb d_Md_today_4 (by decide +kernel) ?_
  refine lv_idiv hx hb d_Md_today_7 (by decide) ?_
  refine hb_ti 0 (by decide +kernel) ?_
  exact W.iret (v := 0) hx hb hr (fun t ht hW => ⟨0, rfl, rfl, ht⟩) t_nil d_Md_today_8
def f_Md_frost (p_0 : Int32) (p_1 : Int32) : Int32 := if p_0 < 0 then ((-1)) else (if 499 < p_0 then ((-1)) else (if p_1 < 0 then ((-1)) else (if 1 < p_1 then ((-1)) else (if p_1 = 1 then (0) else (0)))))
set_option maxHeartbeats 4000000 in
set_option maxRecDepth 100000 in
theorem c_Md_frost (l : Launch) (dC : Nat → ClassId) (dI : Nat → Nat → Nat) (a : Nat → Nat) (k : Nat → ClassId) (sz : Nat) (p_0 : Int32) (p_1 : Int32)  : Met l y_Md_frost (.code y_Md_frost b_Md_frost 4 (some .int) :: TB) ({ frames := 1, cells := 0, slots := 0, locals := 22 }) (va_Pc [.ref (a 0), .int p_0, .int p_1] (PC dC dI (MW a k) (MT k) sz)) (va_Qi (fun r (_ : Unit) => r = f_Md_frost p_0 p_1) (fun (_ : Unit) (_ : State) => True) (va_A (MW a k) sz)) 0 0 (va_A (MW a k) sz) := by
  refine Met.ofW (cc := b_Md_frost) (maxL := 4) (ret := (some .int)) (by decide) rfl ?_
  intro p e s m args below meth c s₁ B hml hv
  obtain ⟨rfl, hsz, hP, hK, hD0, hN⟩ := hv
  have hx := B.exec
  have hb := B.bytes
  have hr := B.returns
  have hts := atoms_spec (ws := (.code y_Md_frost b_Md_frost 4 (some .int) :: TB)) B.pre
  have htb := fun w (h : w ∈ TB) => hts w (List.mem_cons_of_mem _ h)
  have hown : s.vm.findClass R_Md = some m.cls := findClass_of_methodNamed B.named
  have hlocks := B.notSynchronized
  have hl := lv_entry ([.ref (a 0), .int p_0, .int p_1]) (n := 4) (Nat.le_of_ble_eq_true rfl)
  rw [lg_entry_eq]
  generalize (lg_sl ([.ref (a 0), .int p_0, .int p_1]) ++ List.replicate (4 - (lg_sl ([.ref (a 0), .int p_0, .int p_1])).length) Slot.unset).toArray = ls at hl ⊢
  have hl : lv_has ls 4 [(0, .ref (a 0)), (1, .int p_0), (2, .int p_1)] := hl
  subst hsz
  have hD := hD0.self (sz := s.heap.size)
  obtain ⟨A, hAe⟩ : ∃ A, va_A (MW a k) s.heap.size = A := ⟨_, rfl⟩
  rw [hAe] at hD
  have hA : ∀ q : Nat, s.heap.size ≤ q → A q := fun q h => by rw [← hAe]; exact Or.inr h
  have hS : va_S A s.heap s.heap [] := va_S.rf
  have hP := hP
  refine lv_iload_n hx hb d_Md_frost_0 rfl (lv_at hl 1 rfl) ?_
  refine lv_aload_n hx hb d_Md_frost_1 rfl (lv_at hl 0 rfl) ?_
  refine vp_callSi (va_Run.run (va_runV (As := []) (rest := [.int p_0]) ⟨hx, hb, hml, hown, htb⟩ (c_Md_today l dC dI a k) (cwV 0 htb (gd_V tw_313 tw_314 tw_315 tw_296 tw_312) rfl rfl rfl (by decide +kernel) ⟨Nat.le_of_ble_eq_true rfl, Nat.le_of_ble_eq_true rfl⟩) ⟨pr_blind, va_recv hK hP (ci := 7) (q0 := 0) rfl rfl, pr_pre hP hK hN⟩ rfl rfl hl.1 rfl (lv_room (Nat.le_of_ble_eq_true rfl)) d_Md_frost_2 ⟨Nat.le_of_ble_eq_true rfl, Nat.le_of_ble_eq_true rfl⟩)) (fun r er => ?_)
  subst er
  refine hb_ti 0 rfl ?_
  refine lv_sipush (v := 499) hx hb d_Md_frost_5 (by decide +kernel) ?_
  refine vp_callSi (va_Run.run (va_runS (As := [.int p_0, .int 0, .int 499]) (rest := []) ⟨hx, hb, hml, hown, htb⟩ (c_Md_in l p_0 0 499) (cwS 3 htb (gd_S tw_297 tw_298 tw_296 tw_295) rfl rfl rfl (by decide +kernel) ⟨Nat.le_of_ble_eq_true rfl, Nat.le_of_ble_eq_true rfl⟩) ⟨fun _ _ _ _ h => h, fun U _ _ => ⟨rfl, trivial⟩⟩ rfl rfl hl.1 rfl (lv_room (Nat.le_of_ble_eq_true rfl)) d_Md_frost_8 ⟨Nat.le_of_ble_eq_true rfl, Nat.le_of_ble_eq_true rfl⟩)) (fun r er => ?_)
  subst er
  by_cases c_1 : p_0 < 0
  · refine hb_ti 0 (by unfold f_Md_in; rw [if_pos c_1]) ?_
    refine lv_if_eq (tgt := 23) hx hb d_Md_frost_11 (by decide) (fun _ => ?_) (fun h => absurd (by decide +kernel) h)
    refine lv_iconst (v := (-1)) hx hb d_Md_frost_23 (by decide +kernel) ?_
    refine W.widen (k := 0) (n := 0) (Nat.le_of_ble_eq_true rfl) (Nat.le_of_ble_eq_true rfl) ?_
    exact W.iret (v := (-1)) hx hb hr (fun t ht hW => ⟨⟨(-1), (), rfl, (by unfold f_Md_frost; rw [if_pos c_1]), trivial⟩, by rw [hAe]; exact hS.F ht⟩) (by rw [hAe]; exact hS.2.2) d_Md_frost_24
  · by_cases c_2 : 499 < p_0
    · refine hb_ti 0 (by unfold f_Md_in; rw [if_neg c_1, if_pos c_2]) ?_
      refine lv_if_eq (tgt := 23) hx hb d_Md_frost_11 (by decide) (fun _ => ?_) (fun h => absurd (by decide +kernel) h)
      refine lv_iconst (v := (-1)) hx hb d_Md_frost_23 (by decide +kernel) ?_
      refine W.widen (k := 0) (n := 0) (Nat.le_of_ble_eq_true rfl) (Nat.le_of_ble_eq_true rfl) ?_
      exact W.iret (v := (-1)) hx hb hr (fun t ht hW => ⟨⟨(-1), (), rfl, (by unfold f_Md_frost; rw [if_neg c_1, if_pos c_2]), trivial⟩, by rw [hAe]; exact hS.F ht⟩) (by rw [hAe]; exact hS.2.2) d_Md_frost_24
    · refine hb_ti 1 (by unfold f_Md_in; rw [if_neg c_1, if_neg c_2]) ?_
      refine lv_if_eq (tgt := 23) hx hb d_Md_frost_11 (by decide) (fun h => absurd h (by decide +kernel)) (fun _ => ?_)
      refine lv_iload_n hx hb d_Md_frost_14 rfl (lv_at hl 2 rfl) ?_
      refine lv_iconst (v := 0) hx hb d_Md_frost_15 (by decide +kernel) ?_
      refine lv_iconst (v := 1) hx hb d_Md_frost_16 (by decide +kernel) ?_
      refine vp_callSi (va_Run.run (va_runS (As := [.int p_1, .int 0, .int 1]) (rest := []) ⟨hx, hb, hml, hown, htb⟩ (c_Md_in l p_1 0 1) (cwS 3 htb (gd_S tw_297 tw_298 tw_296 tw_295) rfl rfl rfl (by decide +kernel) ⟨Nat.le_of_ble_eq_true rfl, Nat.le_of_ble_eq_true rfl⟩) ⟨fun _ _ _ _ h => h, fun U _ _ => ⟨rfl, trivial⟩⟩ rfl rfl hl.1 rfl (lv_room (Nat.le_of_ble_eq_true rfl)) d_Md_frost_17 ⟨Nat.le_of_ble_eq_true rfl, Nat.le_of_ble_eq_true rfl⟩)) (fun r er => ?_)
      subst er
      by_cases c_3 : p_1 < 0
      · refine hb_ti 0 (by unfold f_Md_in; rw [if_pos c_3]) ?_
        refine lv_if_ne (tgt := 25) hx hb d_Md_frost_20 (by decide) (fun h => absurd (by decide +kernel) h) (fun _ => ?_)
        refine lv_iconst (v := (-1)) hx hb d_Md_frost_23 (by decide +kernel) ?_
        refine W.widen (k := 0) (n := 0) (Nat.le_of_ble_eq_true rfl) (Nat.le_of_ble_eq_true rfl) ?_
        exact W.iret (v := (-1)) hx hb hr (fun t ht hW => ⟨⟨(-1), (), rfl, (by unfold f_Md_frost; rw [if_neg c_1, if_neg c_2, if_pos c_3]), trivial⟩, by rw [hAe]; exact hS.F ht⟩) (by rw [hAe]; exact hS.2.2) d_Md_frost_24
      · by_cases c_4 : 1 < p_1
        · refine hb_ti 0 (by unfold f_Md_in; rw [if_neg c_3, if_pos c_4]) ?_
          refine lv_if_ne (tgt := 25) hx hb d_Md_frost_20 (by decide) (fun h => absurd (by decide +kernel) h) (fun _ => ?_)
          refine lv_iconst (v := (-1)) hx hb d_Md_frost_23 (by decide +kernel) ?_
          refine W.widen (k := 0) (n := 0) (Nat.le_of_ble_eq_true rfl) (Nat.le_of_ble_eq_true rfl) ?_
          exact W.iret (v := (-1)) hx hb hr (fun t ht hW => ⟨⟨(-1), (), rfl, (by unfold f_Md_frost; rw [if_neg c_1, if_neg c_2, if_neg c_3, if_pos c_4]), trivial⟩, by rw [hAe]; exact hS.F ht⟩) (by rw [hAe]; exact hS.2.2) d_Md_frost_24
        · refine hb_ti 1 (by unfold f_Md_in; rw [if_neg c_3, if_neg c_4]) ?_
          refine lv_if_ne (tgt := 25) hx hb d_Md_frost_20 (by decide) (fun _ => ?_) (fun h => absurd h (by decide +kernel))
          refine lv_aload_n hx hb d_Md_frost_25 rfl (lv_at hl 0 rfl) ?_
          refine va_get (D := (dC, dI)) (ci := 7) (v := .ref (a 5)) (C := R_Md) (T := F_Md) (N := 64) hx hb htb i_Md hown hK hP 0 rfl rfl 8 (by decide) (htb (.fieldLink R_Md 49 "WaterMenModel" "frosts" "[Z") tw_10) (fun _ h9 => h9) rfl d_Md_frost_26 ?_
          refine lv_iload_n hx hb d_Md_frost_29 rfl (lv_at hl 1 rfl) ?_
          refine va_zald hx hb hK hP 5 4 rfl rfl (hb_inl c_1 c_2 (by decide +kernel)) d_Md_frost_30 ?_
          refine hb_ti 0 rfl ?_
          refine lv_if_eq (tgt := 38) hx hb d_Md_frost_31 (by decide) (fun _ => ?_) (fun h => absurd (by decide +kernel) h)
          refine lv_iconst (v := 0) hx hb d_Md_frost_38 (by decide +kernel) ?_
          refine lv_istore_n (lv' := [(3, .int 0), (0, .ref (a 0)), (1, .int p_0), (2, .int p_1)]) hx hb d_Md_frost_39 rfl hl (by decide) rfl (fun ls hl => ?_)
          refine lv_aload_n hx hb d_Md_frost_40 rfl (lv_at hl 1 rfl) ?_
          refine va_get (D := (dC, dI)) (ci := 7) (v := .ref (a 5)) (C := R_Md) (T := F_Md) (N := 64) hx hb htb i_Md hown hK hP 0 rfl rfl 8 (by decide) (htb (.fieldLink R_Md 49 "WaterMenModel" "frosts" "[Z") tw_10) (fun _ h9 => h9) rfl d_Md_frost_41 ?_
          refine lv_iload_n hx hb d_Md_frost_44 rfl (lv_at hl 2 rfl) ?_
          refine lv_iload_n hx hb d_Md_frost_45 rfl (lv_at hl 3 rfl) ?_
          refine lv_iconst (v := 1) hx hb d_Md_frost_46 (by decide +kernel) ?_
          refine lv_icmp_ne (tgt := 54) hx hb d_Md_frost_47 (by decide) (fun c_5 => ?_) (fun c_5 => ?_)
          · refine lv_iconst (v := 0) hx hb d_Md_frost_54 (by decide +kernel) ?_
            refine va_zast hx hb hK hP hD hS 5 4 rfl rfl (hb_inl c_1 c_2 (by decide +kernel)) d_Md_frost_55 (fun H locs hP hD hS => ?_)
            rw [hb_upd0 0 (p_0 : Int32).toNatClampNeg (vp_nar .boolean 0) (by decide +kernel)] at hP hD
            refine lv_iload_n hx hb d_Md_frost_56 rfl (lv_at hl 0 rfl) ?_
            refine W.widen (k := 0) (n := 0) (Nat.le_of_ble_eq_true rfl) (Nat.le_of_ble_eq_true rfl) ?_
            exact W.iret (v := 0) hx hb hr (fun t ht hW => ⟨⟨0, (), rfl, (by unfold f_Md_frost; rw [if_neg c_1, if_neg c_2, if_neg c_3, if_neg c_4, if_neg c_5]), trivial⟩, by rw [hAe]; exact hS.F ht⟩) (by rw [hAe]; exact hS.2.2) d_Md_frost_57
          · refine lv_iconst (v := 1) hx hb d_Md_frost_50 (by decide +kernel) ?_
            refine lv_goto (tgt := 55) hx hb d_Md_frost_51 (by decide) ?_
            refine va_zast hx hb hK hP hD hS 5 4 rfl rfl (hb_inl c_1 c_2 (by decide +kernel)) d_Md_frost_55 (fun H locs hP hD hS => ?_)
            refine lv_iload_n hx hb d_Md_frost_56 rfl (lv_at hl 0 rfl) ?_
            refine W.widen (k := 0) (n := 0) (Nat.le_of_ble_eq_true rfl) (Nat.le_of_ble_eq_true rfl) ?_
            exact W.iret (v := 0) hx hb hr (fun t ht hW => ⟨⟨0, (), rfl, (by unfold f_Md_frost; rw [if_neg c_1, if_neg c_2, if_neg c_3, if_neg c_4, if_pos c_5]), trivial⟩, by rw [hAe]; exact hS.F ht⟩) (by rw [hAe]; exact hS.2.2) d_Md_frost_57
def f_Md_isMan (p_0 : Int32) : Int32 := if p_0 < 0 then (0) else (if 39 < p_0 then (0) else (1))
set_option maxHeartbeats 4000000 in
set_option maxRecDepth 100000 in
theorem c_Md_isMan (l : Launch)  (p_0 : Int32)  : Met l y_Md_isMan (.code y_Md_isMan b_Md_isMan 1 (some .boolean) :: TB) ({ frames := 1, cells := 0, slots := 0, locals := 22 }) (va_Pc [.int p_0] (fun _ => True)) (vp_Si (fun r => r = f_Md_isMan p_0)) 0 0 (fun _ => False) := by
  refine Met.ofW (cc := b_Md_isMan) (maxL := 1) (ret := (some .boolean)) (by decide) rfl ?_
  intro p e s m args below meth c s₁ B hml hv
  obtain ⟨rfl, -⟩ := hv
  have hx := B.exec
  have hb := B.bytes
  have hr := B.returns
  have hts := atoms_spec (ws := (.code y_Md_isMan b_Md_isMan 1 (some .boolean) :: TB)) B.pre
  have htb := fun w (h : w ∈ TB) => hts w (List.mem_cons_of_mem _ h)
  have hown : s.vm.findClass R_Md = some m.cls := findClass_of_methodNamed B.named
  have hlocks := B.notSynchronized
  have hl := lv_entry ([.int p_0]) (n := 1) (Nat.le_of_ble_eq_true rfl)
  rw [lg_entry_eq]
  generalize (lg_sl ([.int p_0]) ++ List.replicate (1 - (lg_sl ([.int p_0])).length) Slot.unset).toArray = ls at hl ⊢
  have hl : lv_has ls 1 [(0, .int p_0)] := hl
  refine lv_iload_n hx hb d_Md_isMan_0 rfl (lv_at hl 0 rfl) ?_
  refine lv_iconst (v := 0) hx hb d_Md_isMan_1 (by decide +kernel) ?_
  refine lv_bipush (v := 39) hx hb d_Md_isMan_2 (by decide +kernel) ?_
  refine vp_callSi (va_Run.run (va_runS (As := [.int p_0, .int 0, .int 39]) (rest := []) ⟨hx, hb, hml, hown, htb⟩ (c_Md_in l p_0 0 39) (cwS 3 htb (gd_S tw_297 tw_298 tw_296 tw_295) rfl rfl rfl (by decide +kernel) ⟨Nat.le_of_ble_eq_true rfl, Nat.le_of_ble_eq_true rfl⟩) ⟨fun _ _ _ _ h => h, fun U _ _ => ⟨rfl, trivial⟩⟩ rfl rfl hl.1 rfl (lv_room (Nat.le_of_ble_eq_true rfl)) d_Md_isMan_4 ⟨Nat.le_of_ble_eq_true rfl, Nat.le_of_ble_eq_true rfl⟩)) (fun r er => ?_)
  subst er
  by_cases c_1 : p_0 < 0
  · refine hb_ti 0 (by unfold f_Md_in; rw [if_pos c_1]) ?_
    exact W.zret (v := 0) hx hb hr (by decide +kernel) (fun t ht hW => ⟨0, rfl, (by unfold f_Md_isMan; rw [if_pos c_1]), ht⟩) t_nil d_Md_isMan_7
  · by_cases c_2 : 39 < p_0
    · refine hb_ti 0 (by unfold f_Md_in; rw [if_neg c_1, if_pos c_2]) ?_
      exact W.zret (v := 0) hx hb hr (by decide +kernel) (fun t ht hW => ⟨0, rfl, (by unfold f_Md_isMan; rw [if_neg c_1, if_pos c_2]), ht⟩) t_nil d_Md_isMan_7
    · refine hb_ti 1 (by unfold f_Md_in; rw [if_neg c_1, if_neg c_2]) ?_
      exact W.zret (v := 1) hx hb hr (by decide +kernel) (fun t ht hW => ⟨1, rfl, (by unfold f_Md_isMan; rw [if_neg c_1, if_neg c_2]), ht⟩) t_nil d_Md_isMan_7
def f_Md_free (p_0 : Int32) : Int32 := if p_0 < 0 then ((-1)) else (if 39 < p_0 then ((-1)) else (1))
set_option maxHeartbeats 4000000 in
set_option maxRecDepth 100000 in
theorem c_Md_free (l : Launch) (dC : Nat → ClassId) (dI : Nat → Nat → Nat) (a : Nat → Nat) (k : Nat → ClassId) (sz : Nat) (p_0 : Int32)  : Met l y_Md_free (.code y_Md_free b_Md_free 2 (some .int) :: TB) ({ frames := 2, cells := 0, slots := 0, locals := 42 }) (va_Pc [.ref (a 0), .int p_0] (PC dC dI (MW a k) (MT k) sz)) (va_Qi (fun r (_ : Unit) => r = f_Md_free p_0) (fun (_ : Unit) (_ : State) => True) (va_A (MW a k) sz)) 0 0 (va_A (MW a k) sz) := by
  refine Met.ofW (cc := b_Md_free) (maxL := 2) (ret := (some .int)) (by decide) rfl ?_
  intro p e s m args below meth c s₁ B hml hv
  obtain ⟨rfl, hsz, hP, hK, hD0, hN⟩ := hv
  have hx := B.exec
  have hb := B.bytes
  have hr := B.returns
  have hts := atoms_spec (ws := (.code y_Md_free b_Md_free 2 (some .int) :: TB)) B.pre
  have htb := fun w (h : w ∈ TB) => hts w (List.mem_cons_of_mem _ h)
  have hown : s.vm.findClass R_Md = some m.cls := findClass_of_methodNamed B.named
  have hlocks := B.notSynchronized
  have hl := lv_entry ([.ref (a 0), .int p_0]) (n := 2) (Nat.le_of_ble_eq_true rfl)
  rw [lg_entry_eq]
  generalize (lg_sl ([.ref (a 0), .int p_0]) ++ List.replicate (2 - (lg_sl ([.ref (a 0), .int p_0])).length) Slot.unset).toArray = ls at hl ⊢
  have hl : lv_has ls 2 [(0, .ref (a 0)), (1, .int p_0)] := hl
  subst hsz
  have hD := hD0.self (sz := s.heap.size)
  obtain ⟨A, hAe⟩ : ∃ A, va_A (MW a k) s.heap.size = A := ⟨_, rfl⟩
  rw [hAe] at hD
  have hA : ∀ q : Nat, s.heap.size ≤ q → A q := fun q h => by rw [← hAe]; exact Or.inr h
  have hS : va_S A s.heap s.heap [] := va_S.rf
  have hP := hP
  refine lv_iload_n hx hb d_Md_free_0 rfl (lv_at hl 1 rfl) ?_
  refine vp_callSi (va_Run.run (va_runS (As := [.int p_0]) (rest := []) ⟨hx, hb, hml, hown, htb⟩ (c_Md_isMan l p_0) (cwS 1 htb (gd_S tw_317 tw_318 tw_296 tw_316) rfl rfl rfl (by decide +kernel) ⟨Nat.le_of_ble_eq_true rfl, Nat.le_of_ble_eq_true rfl⟩) ⟨fun _ _ _ _ h => h, fun U _ _ => ⟨rfl, trivial⟩⟩ rfl rfl hl.1 rfl (lv_room (Nat.le_of_ble_eq_true rfl)) d_Md_free_1 ⟨Nat.le_of_ble_eq_true rfl, Nat.le_of_ble_eq_true rfl⟩)) (fun r er => ?_)
  subst er
  by_cases c_1 : p_0 < 0
  · refine hb_ti 0 (by unfold f_Md_isMan; rw [if_pos c_1]) ?_
    refine lv_if_ne (tgt := 9) hx hb d_Md_free_4 (by decide) (fun h => absurd (by decide +kernel) h) (fun _ => ?_)
    refine lv_iconst (v := (-1)) hx hb d_Md_free_7 (by decide +kernel) ?_
    refine W.widen (k := 0) (n := 0) (Nat.le_of_ble_eq_true rfl) (Nat.le_of_ble_eq_true rfl) ?_
    exact W.iret (v := (-1)) hx hb hr (fun t ht hW => ⟨⟨(-1), (), rfl, (by unfold f_Md_free; rw [if_pos c_1]), trivial⟩, by rw [hAe]; exact hS.F ht⟩) (by rw [hAe]; exact hS.2.2) d_Md_free_8
  · by_cases c_2 : 39 < p_0
    · refine hb_ti 0 (by unfold f_Md_isMan; rw [if_neg c_1, if_pos c_2]) ?_
      refine lv_if_ne (tgt := 9) hx hb d_Md_free_4 (by decide) (fun h => absurd (by decide +kernel) h) (fun _ => ?_)
      refine lv_iconst (v := (-1)) hx hb d_Md_free_7 (by decide +kernel) ?_
      refine W.widen (k := 0) (n := 0) (Nat.le_of_ble_eq_true rfl) (Nat.le_of_ble_eq_true rfl) ?_
      exact W.iret (v := (-1)) hx hb hr (fun t ht hW => ⟨⟨(-1), (), rfl, (by unfold f_Md_free; rw [if_neg c_1, if_pos c_2]), trivial⟩, by rw [hAe]; exact hS.F ht⟩) (by rw [hAe]; exact hS.2.2) d_Md_free_8
    · refine hb_ti 1 (by unfold f_Md_isMan; rw [if_neg c_1, if_neg c_2]) ?_
      refine lv_if_ne (tgt := 9) hx hb d_Md_free_4 (by decide) (fun _ => ?_) (fun h => absurd h (by decide +kernel))
      refine lv_aload_n hx hb d_Md_free_9 rfl (lv_at hl 0 rfl) ?_
      refine va_get (D := (dC, dI)) (ci := 7) (v := .ref (a 6)) (C := R_Md) (T := F_Md) (N := 64) hx hb htb i_Md hown hK hP 0 rfl rfl 9 (by decide) (htb (.fieldLink R_Md 58 "WaterMenModel" "state" "[I") tw_11) (fun _ h9 => h9) rfl d_Md_free_10 ?_
      refine lv_iload_n hx hb d_Md_free_13 rfl (lv_at hl 1 rfl) ?_
      refine va_iald hx hb hK hP 6 5 rfl rfl (hb_inl c_1 c_2 (by decide +kernel)) d_Md_free_14 ?_
      refine hb_ti 0 rfl ?_
      refine lv_if_eq (tgt := 21) hx hb d_Md_free_15 (by decide) (fun _ => ?_) (fun h => absurd (by decide +kernel) h)
      refine lv_aload_n hx hb d_Md_free_21 rfl (lv_at hl 0 rfl) ?_
      refine va_get (D := (dC, dI)) (ci := 7) (v := .ref (a 6)) (C := R_Md) (T := F_Md) (N := 64) hx hb htb i_Md hown hK hP 0 rfl rfl 9 (by decide) (htb (.fieldLink R_Md 58 "WaterMenModel" "state" "[I") tw_11) (fun _ h9 => h9) rfl d_Md_free_22 ?_
      refine lv_iload_n hx hb d_Md_free_25 rfl (lv_at hl 1 rfl) ?_
      refine lv_iconst (v := 2) hx hb d_Md_free_26 (by decide +kernel) ?_
      refine va_iast hx hb hK hP hD hS 6 5 rfl rfl (hb_inl c_1 c_2 (by decide +kernel)) d_Md_free_27 (fun H locs hP hD hS => ?_)
      refine lv_iconst (v := 1) hx hb d_Md_free_28 (by decide +kernel) ?_
      refine W.widen (k := 0) (n := 0) (Nat.le_of_ble_eq_true rfl) (Nat.le_of_ble_eq_true rfl) ?_
      exact W.iret (v := 1) hx hb hr (fun t ht hW => ⟨⟨1, (), rfl, (by unfold f_Md_free; rw [if_neg c_1, if_neg c_2]), trivial⟩, by rw [hAe]; exact hS.F ht⟩) (by rw [hAe]; exact hS.2.2) d_Md_free_29
def f_Md_bind (p_0 : Int32) (p_1 : Int32) : Int32 := if p_0 < 0 then ((-1)) else (if 39 < p_0 then ((-1)) else (if p_1 < 0 then ((-1)) else (if 39 < p_1 then ((-1)) else ((-2)))))
set_option maxHeartbeats 4000000 in
set_option maxRecDepth 100000 in
theorem c_Md_bind (l : Launch) (dC : Nat → ClassId) (dI : Nat → Nat → Nat) (a : Nat → Nat) (k : Nat → ClassId)  (p_0 : Int32) (p_1 : Int32)  : Met l y_Md_bind (.code y_Md_bind b_Md_bind 3 (some .int) :: TB) ({ frames := 2, cells := 0, slots := 0, locals := 42 }) (va_Pc [.ref (a 0), .int p_0, .int p_1] (PR dC dI (MW a k) (MT k))) (vp_Si (fun r => r = f_Md_bind p_0 p_1)) 0 0 (fun _ => False) := by
  refine Met.ofW (cc := b_Md_bind) (maxL := 3) (ret := (some .int)) (by decide) rfl ?_
  intro p e s m args below meth c s₁ B hml hv
  obtain ⟨rfl, hP, hK, hN⟩ := hv
  have hx := B.exec
  have hb := B.bytes
  have hr := B.returns
  have hts := atoms_spec (ws := (.code y_Md_bind b_Md_bind 3 (some .int) :: TB)) B.pre
  have htb := fun w (h : w ∈ TB) => hts w (List.mem_cons_of_mem _ h)
  have hown : s.vm.findClass R_Md = some m.cls := findClass_of_methodNamed B.named
  have hlocks := B.notSynchronized
  have hl := lv_entry ([.ref (a 0), .int p_0, .int p_1]) (n := 3) (Nat.le_of_ble_eq_true rfl)
  rw [lg_entry_eq]
  generalize (lg_sl ([.ref (a 0), .int p_0, .int p_1]) ++ List.replicate (3 - (lg_sl ([.ref (a 0), .int p_0, .int p_1])).length) Slot.unset).toArray = ls at hl ⊢
  have hl : lv_has ls 3 [(0, .ref (a 0)), (1, .int p_0), (2, .int p_1)] := hl
  refine lv_iload_n hx hb d_Md_bind_0 rfl (lv_at hl 1 rfl) ?_
  refine vp_callSi (va_Run.run (va_runS (As := [.int p_0]) (rest := []) ⟨hx, hb, hml, hown, htb⟩ (c_Md_isMan l p_0) (cwS 1 htb (gd_S tw_317 tw_318 tw_296 tw_316) rfl rfl rfl (by decide +kernel) ⟨Nat.le_of_ble_eq_true rfl, Nat.le_of_ble_eq_true rfl⟩) ⟨fun _ _ _ _ h => h, fun U _ _ => ⟨rfl, trivial⟩⟩ rfl rfl hl.1 rfl (lv_room (Nat.le_of_ble_eq_true rfl)) d_Md_bind_1 ⟨Nat.le_of_ble_eq_true rfl, Nat.le_of_ble_eq_true rfl⟩)) (fun r er => ?_)
  subst er
  by_cases c_1 : p_0 < 0
  · refine hb_ti 0 (by unfold f_Md_isMan; rw [if_pos c_1]) ?_
    refine lv_if_eq (tgt := 14) hx hb d_Md_bind_4 (by decide) (fun _ => ?_) (fun h => absurd (by decide +kernel) h)
    refine lv_iconst (v := (-1)) hx hb d_Md_bind_14 (by decide +kernel) ?_
    exact W.iret (v := (-1)) hx hb hr (fun t ht hW => ⟨(-1), rfl, (by unfold f_Md_bind; rw [if_pos c_1]), ht⟩) t_nil d_Md_bind_15
  · by_cases c_2 : 39 < p_0
    · refine hb_ti 0 (by unfold f_Md_isMan; rw [if_neg c_1, if_pos c_2]) ?_
      refine lv_if_eq (tgt := 14) hx hb d_Md_bind_4 (by decide) (fun _ => ?_) (fun h => absurd (by decide +kernel) h)
      refine lv_iconst (v := (-1)) hx hb d_Md_bind_14 (by decide +kernel) ?_
      exact W.iret (v := (-1)) hx hb hr (fun t ht hW => ⟨(-1), rfl, (by unfold f_Md_bind; rw [if_neg c_1, if_pos c_2]), ht⟩) t_nil d_Md_bind_15
    · refine hb_ti 1 (by unfold f_Md_isMan; rw [if_neg c_1, if_neg c_2]) ?_
      refine lv_if_eq (tgt := 14) hx hb d_Md_bind_4 (by decide) (fun h => absurd h (by decide +kernel)) (fun _ => ?_)
      refine lv_iload_n hx hb d_Md_bind_7 rfl (lv_at hl 2 rfl) ?_
      refine vp_callSi (va_Run.run (va_runS (As := [.int p_1]) (rest := []) ⟨hx, hb, hml, hown, htb⟩ (c_Md_isMan l p_1) (cwS 1 htb (gd_S tw_317 tw_318 tw_296 tw_316) rfl rfl rfl (by decide +kernel) ⟨Nat.le_of_ble_eq_true rfl, Nat.le_of_ble_eq_true rfl⟩) ⟨fun _ _ _ _ h => h, fun U _ _ => ⟨rfl, trivial⟩⟩ rfl rfl hl.1 rfl (lv_room (Nat.le_of_ble_eq_true rfl)) d_Md_bind_8 ⟨Nat.le_of_ble_eq_true rfl, Nat.le_of_ble_eq_true rfl⟩)) (fun r er => ?_)
      subst er
      by_cases c_3 : p_1 < 0
      · refine hb_ti 0 (by unfold f_Md_isMan; rw [if_pos c_3]) ?_
        refine lv_if_ne (tgt := 16) hx hb d_Md_bind_11 (by decide) (fun h => absurd (by decide +kernel) h) (fun _ => ?_)
        refine lv_iconst (v := (-1)) hx hb d_Md_bind_14 (by decide +kernel) ?_
        exact W.iret (v := (-1)) hx hb hr (fun t ht hW => ⟨(-1), rfl, (by unfold f_Md_bind; rw [if_neg c_1, if_neg c_2, if_pos c_3]), ht⟩) t_nil d_Md_bind_15
      · by_cases c_4 : 39 < p_1
        · refine hb_ti 0 (by unfold f_Md_isMan; rw [if_neg c_3, if_pos c_4]) ?_
          refine lv_if_ne (tgt := 16) hx hb d_Md_bind_11 (by decide) (fun h => absurd (by decide +kernel) h) (fun _ => ?_)
          refine lv_iconst (v := (-1)) hx hb d_Md_bind_14 (by decide +kernel) ?_
          exact W.iret (v := (-1)) hx hb hr (fun t ht hW => ⟨(-1), rfl, (by unfold f_Md_bind; rw [if_neg c_1, if_neg c_2, if_neg c_3, if_pos c_4]), ht⟩) t_nil d_Md_bind_15
        · refine hb_ti 1 (by unfold f_Md_isMan; rw [if_neg c_3, if_neg c_4]) ?_
          refine lv_if_ne (tgt := 16) hx hb d_Md_bind_11 (by decide) (fun _ => ?_) (fun h => absurd h (by decide +kernel))
          refine lv_aload_n hx hb d_Md_bind_16 rfl (lv_at hl 0 rfl) ?_
          refine va_get (D := (dC, dI)) (ci := 7) (v := .ref (a 6)) (C := R_Md) (T := F_Md) (N := 64) hx hb htb i_Md hown hK hP 0 rfl rfl 9 (by decide) (htb (.fieldLink R_Md 58 "WaterMenModel" "state" "[I") tw_11) (fun _ h9 => h9) rfl d_Md_bind_17 ?_
          refine lv_iload_n hx hb d_Md_bind_20 rfl (lv_at hl 1 rfl) ?_
          refine va_iald hx hb hK hP 6 5 rfl rfl (hb_inl c_1 c_2 (by decide +kernel)) d_Md_bind_21 ?_
          refine hb_ti 0 rfl ?_
          refine lv_if_ne (tgt := 35) hx hb d_Md_bind_22 (by decide) (fun h => absurd (by decide +kernel) h) (fun _ => ?_)
          refine lv_aload_n hx hb d_Md_bind_25 rfl (lv_at hl 0 rfl) ?_
          refine va_get (D := (dC, dI)) (ci := 7) (v := .ref (a 6)) (C := R_Md) (T := F_Md) (N := 64) hx hb htb i_Md hown hK hP 0 rfl rfl 9 (by decide) (htb (.fieldLink R_Md 58 "WaterMenModel" "state" "[I") tw_11) (fun _ h9 => h9) rfl d_Md_bind_26 ?_
          refine lv_iload_n hx hb d_Md_bind_29 rfl (lv_at hl 2 rfl) ?_
          refine va_iald hx hb hK hP 6 5 rfl rfl (hb_inl c_3 c_4 (by decide +kernel)) d_Md_bind_30 ?_
          refine hb_ti 0 rfl ?_
          refine lv_iconst (v := 2) hx hb d_Md_bind_31 (by decide +kernel) ?_
          refine lv_icmp_eq (tgt := 38) hx hb d_Md_bind_32 (by decide) (fun h => absurd h (by decide +kernel)) (fun _ => ?_)
          refine lv_bipush (v := (-2)) hx hb d_Md_bind_35 (by decide +kernel) ?_
          exact W.iret (v := (-2)) hx hb hr (fun t ht hW => ⟨(-2), rfl, (by unfold f_Md_bind; rw [if_neg c_1, if_neg c_2, if_neg c_3, if_neg c_4]), ht⟩) t_nil d_Md_bind_37
def f_Md_absent (p_0 : Int32) (p_1 : Int32) (p_2 : Int32) : Int32 := if p_0 < 0 then ((-1)) else (if 39 < p_0 then ((-1)) else (if p_1 < 0 then ((-1)) else (if p_2 < p_1 then ((-1)) else (if p_2 ≤ 0 then ((-2)) else ((-1))))))
set_option maxHeartbeats 4000000 in
set_option maxRecDepth 100000 in
theorem c_Md_absent (l : Launch) (dC : Nat → ClassId) (dI : Nat → Nat → Nat) (a : Nat → Nat) (k : Nat → ClassId)  (p_0 : Int32) (p_1 : Int32) (p_2 : Int32)  : Met l y_Md_absent (.code y_Md_absent b_Md_absent 5 (some .int) :: TB) ({ frames := 2, cells := 0, slots := 0, locals := 42 }) (va_Pc [.ref (a 0), .int p_0, .int p_1, .int p_2] (PR dC dI (MW a k) (MT k))) (vp_Si (fun r => r = f_Md_absent p_0 p_1 p_2)) 0 0 (fun _ => False) := by
  refine Met.ofW (cc := b_Md_absent) (maxL := 5) (ret := (some .int)) (by decide) rfl ?_
  intro p e s m args below meth c s₁ B hml hv
  obtain ⟨rfl, hP, hK, hN⟩ := hv
  have hx := B.exec
  have hb := B.bytes
  have hr := B.returns
  have hts := atoms_spec (ws := (.code y_Md_absent b_Md_absent 5 (some .int) :: TB)) B.pre
  have htb := fun w (h : w ∈ TB) => hts w (List.mem_cons_of_mem _ h)
  have hown : s.vm.findClass R_Md = some m.cls := findClass_of_methodNamed B.named
  have hlocks := B.notSynchronized
  have hl := lv_entry ([.ref (a 0), .int p_0, .int p_1, .int p_2]) (n := 5) (Nat.le_of_ble_eq_true rfl)
  rw [lg_entry_eq]
  generalize (lg_sl ([.ref (a 0), .int p_0, .int p_1, .int p_2]) ++ List.replicate (5 - (lg_sl ([.ref (a 0), .int p_0, .int p_1, .int p_2])).length) Slot.unset).toArray = ls at hl ⊢
  have hl : lv_has ls 5 [(0, .ref (a 0)), (1, .int p_0), (2, .int p_1), (3, .int p_2)] := hl
  refine lv_iload_n hx hb d_Md_absent_0 rfl (lv_at hl 1 rfl) ?_
  refine vp_callSi (va_Run.run (va_runS (As := [.int p_0]) (rest := []) ⟨hx, hb, hml, hown, htb⟩ (c_Md_isMan l p_0) (cwS 1 htb (gd_S tw_317 tw_318 tw_296 tw_316) rfl rfl rfl (by decide +kernel) ⟨Nat.le_of_ble_eq_true rfl, Nat.le_of_ble_eq_true rfl⟩) ⟨fun _ _ _ _ h => h, fun U _ _ => ⟨rfl, trivial⟩⟩ rfl rfl hl.1 rfl (lv_room (Nat.le_of_ble_eq_true rfl)) d_Md_absent_1 ⟨Nat.le_of_ble_eq_true rfl, Nat.le_of_ble_eq_true rfl⟩)) (fun r er => ?_)
  subst er
  by_cases c_1 : p_0 < 0
  · refine hb_ti 0 (by unfold f_Md_isMan; rw [if_pos c_1]) ?_
    refine lv_if_eq (tgt := 24) hx hb d_Md_absent_4 (by decide) (fun _ => ?_) (fun h => absurd (by decide +kernel) h)
    refine lv_iconst (v := (-1)) hx hb d_Md_absent_24 (by decide +kernel) ?_
    exact W.iret (v := (-1)) hx hb hr (fun t ht hW => ⟨(-1), rfl, (by unfold f_Md_absent; rw [if_pos c_1]), ht⟩) t_nil d_Md_absent_25
  · by_cases c_2 : 39 < p_0
    · refine hb_ti 0 (by unfold f_Md_isMan; rw [if_neg c_1, if_pos c_2]) ?_
      refine lv_if_eq (tgt := 24) hx hb d_Md_absent_4 (by decide) (fun _ => ?_) (fun h => absurd (by decide +kernel) h)
      refine lv_iconst (v := (-1)) hx hb d_Md_absent_24 (by decide +kernel) ?_
      exact W.iret (v := (-1)) hx hb hr (fun t ht hW => ⟨(-1), rfl, (by unfold f_Md_absent; rw [if_neg c_1, if_pos c_2]), ht⟩) t_nil d_Md_absent_25
    · refine hb_ti 1 (by unfold f_Md_isMan; rw [if_neg c_1, if_neg c_2]) ?_
      refine lv_if_eq (tgt := 24) hx hb d_Md_absent_4 (by decide) (fun h => absurd h (by decide +kernel)) (fun _ => ?_)
      refine lv_iload_n hx hb d_Md_absent_7 rfl (lv_at hl 2 rfl) ?_
      refine lv_if_lt (tgt := 24) hx hb d_Md_absent_8 (by decide) (fun c_3 => ?_) (fun c_3 => ?_)
      · refine lv_iconst (v := (-1)) hx hb d_Md_absent_24 (by decide +kernel) ?_
        exact W.iret (v := (-1)) hx hb hr (fun t ht hW => ⟨(-1), rfl, (by unfold f_Md_absent; rw [if_neg c_1, if_neg c_2, if_pos c_3]), ht⟩) t_nil d_Md_absent_25
      · refine lv_iload_n hx hb d_Md_absent_11 rfl (lv_at hl 2 rfl) ?_
        refine lv_iload_n hx hb d_Md_absent_12 rfl (lv_at hl 3 rfl) ?_
        refine lv_icmp_gt (tgt := 24) hx hb d_Md_absent_13 (by decide) (fun c_4 => ?_) (fun c_4 => ?_)
        · refine lv_iconst (v := (-1)) hx hb d_Md_absent_24 (by decide +kernel) ?_
          exact W.iret (v := (-1)) hx hb hr (fun t ht hW => ⟨(-1), rfl, (by unfold f_Md_absent; rw [if_neg c_1, if_neg c_2, if_neg c_3, if_pos c_4]), ht⟩) t_nil d_Md_absent_25
        · refine lv_iload_n hx hb d_Md_absent_16 rfl (lv_at hl 3 rfl) ?_
          refine lv_aload_n hx hb d_Md_absent_17 rfl (lv_at hl 0 rfl) ?_
          refine vp_callSi (va_Run.run (va_runV (As := []) (rest := [.int p_2]) ⟨hx, hb, hml, hown, htb⟩ (c_Md_today l dC dI a k) (cwV 0 htb (gd_V tw_313 tw_314 tw_315 tw_296 tw_312) rfl rfl rfl (by decide +kernel) ⟨Nat.le_of_ble_eq_true rfl, Nat.le_of_ble_eq_true rfl⟩) ⟨pr_blind, va_recv hK hP (ci := 7) (q0 := 0) rfl rfl, pr_pre hP hK hN⟩ rfl rfl hl.1 rfl (lv_room (Nat.le_of_ble_eq_true rfl)) d_Md_absent_18 ⟨Nat.le_of_ble_eq_true rfl, Nat.le_of_ble_eq_true rfl⟩)) (fun r er => ?_)
          subst er
          refine hb_ti 0 rfl ?_
          refine lv_icmp_le (tgt := 26) hx hb d_Md_absent_21 (by decide) (fun c_5 => ?_) (fun c_5 => ?_)
          · refine lv_aload_n hx hb d_Md_absent_26 rfl (lv_at hl 0 rfl) ?_
            refine va_get (D := (dC, dI)) (ci := 7) (v := .ref (a 6)) (C := R_Md) (T := F_Md) (N := 64) hx hb htb i_Md hown hK hP 0 rfl rfl 9 (by decide) (htb (.fieldLink R_Md 58 "WaterMenModel" "state" "[I") tw_11) (fun _ h9 => h9) rfl d_Md_absent_27 ?_
            refine lv_iload_n hx hb d_Md_absent_30 rfl (lv_at hl 1 rfl) ?_
            refine va_iald hx hb hK hP 6 5 rfl rfl (hb_inl c_1 c_2 (by decide +kernel)) d_Md_absent_31 ?_
            refine hb_ti 0 rfl ?_
            refine lv_iconst (v := 1) hx hb d_Md_absent_32 (by decide +kernel) ?_
            refine lv_icmp_eq (tgt := 39) hx hb d_Md_absent_33 (by decide) (fun h => absurd h (by decide +kernel)) (fun _ => ?_)
            refine lv_bipush (v := (-2)) hx hb d_Md_absent_36 (by decide +kernel) ?_
            exact W.iret (v := (-2)) hx hb hr (fun t ht hW => ⟨(-2), rfl, (by unfold f_Md_absent; rw [if_neg c_1, if_neg c_2, if_neg c_3, if_neg c_4, if_pos c_5]), ht⟩) t_nil d_Md_absent_38
          · refine lv_iconst (v := (-1)) hx hb d_Md_absent_24 (by decide +kernel) ?_
            exact W.iret (v := (-1)) hx hb hr (fun t ht hW => ⟨(-1), rfl, (by unfold f_Md_absent; rw [if_neg c_1, if_neg c_2, if_neg c_3, if_neg c_4, if_neg c_5]), ht⟩) t_nil d_Md_absent_25
def f_Md_served (p_0 : Int32) : Int32 := if p_0 < 0 then ((-1)) else (if 39 < p_0 then ((-1)) else ((-2)))
set_option maxHeartbeats 4000000 in
set_option maxRecDepth 100000 in
theorem c_Md_served (l : Launch) (dC : Nat → ClassId) (dI : Nat → Nat → Nat) (a : Nat → Nat) (k : Nat → ClassId)  (p_0 : Int32)  : Met l y_Md_served (.code y_Md_served b_Md_served 2 (some .int) :: TB) ({ frames := 2, cells := 0, slots := 0, locals := 42 }) (va_Pc [.ref (a 0), .int p_0] (PR dC dI (MW a k) (MT k))) (vp_Si (fun r => r = f_Md_served p_0)) 0 0 (fun _ => False) := by
  refine Met.ofW (cc := b_Md_served) (maxL := 2) (ret := (some .int)) (by decide) rfl ?_
  intro p e s m args below meth c s₁ B hml hv
  obtain ⟨rfl, hP, hK, hN⟩ := hv
  have hx := B.exec
  have hb := B.bytes
  have hr := B.returns
  have hts := atoms_spec (ws := (.code y_Md_served b_Md_served 2 (some .int) :: TB)) B.pre
  have htb := fun w (h : w ∈ TB) => hts w (List.mem_cons_of_mem _ h)
  have hown : s.vm.findClass R_Md = some m.cls := findClass_of_methodNamed B.named
  have hlocks := B.notSynchronized
  have hl := lv_entry ([.ref (a 0), .int p_0]) (n := 2) (Nat.le_of_ble_eq_true rfl)
  rw [lg_entry_eq]
  generalize (lg_sl ([.ref (a 0), .int p_0]) ++ List.replicate (2 - (lg_sl ([.ref (a 0), .int p_0])).length) Slot.unset).toArray = ls at hl ⊢
  have hl : lv_has ls 2 [(0, .ref (a 0)), (1, .int p_0)] := hl
  refine lv_iload_n hx hb d_Md_served_0 rfl (lv_at hl 1 rfl) ?_
  refine vp_callSi (va_Run.run (va_runS (As := [.int p_0]) (rest := []) ⟨hx, hb, hml, hown, htb⟩ (c_Md_isMan l p_0) (cwS 1 htb (gd_S tw_317 tw_318 tw_296 tw_316) rfl rfl rfl (by decide +kernel) ⟨Nat.le_of_ble_eq_true rfl, Nat.le_of_ble_eq_true rfl⟩) ⟨fun _ _ _ _ h => h, fun U _ _ => ⟨rfl, trivial⟩⟩ rfl rfl hl.1 rfl (lv_room (Nat.le_of_ble_eq_true rfl)) d_Md_served_1 ⟨Nat.le_of_ble_eq_true rfl, Nat.le_of_ble_eq_true rfl⟩)) (fun r er => ?_)
  subst er
  by_cases c_1 : p_0 < 0
  · refine hb_ti 0 (by unfold f_Md_isMan; rw [if_pos c_1]) ?_
    refine lv_if_ne (tgt := 11) hx hb d_Md_served_4 (by decide) (fun h => absurd (by decide +kernel) h) (fun _ => ?_)
    refine lv_iconst (v := (-1)) hx hb d_Md_served_7 (by decide +kernel) ?_
    refine lv_goto (tgt := 31) hx hb d_Md_served_8 (by decide) ?_
    exact W.iret (v := (-1)) hx hb hr (fun t ht hW => ⟨(-1), rfl, (by unfold f_Md_served; rw [if_pos c_1]), ht⟩) t_nil d_Md_served_31
  · by_cases c_2 : 39 < p_0
    · refine hb_ti 0 (by unfold f_Md_isMan; rw [if_neg c_1, if_pos c_2]) ?_
      refine lv_if_ne (tgt := 11) hx hb d_Md_served_4 (by decide) (fun h => absurd (by decide +kernel) h) (fun _ => ?_)
      refine lv_iconst (v := (-1)) hx hb d_Md_served_7 (by decide +kernel) ?_
      refine lv_goto (tgt := 31) hx hb d_Md_served_8 (by decide) ?_
      exact W.iret (v := (-1)) hx hb hr (fun t ht hW => ⟨(-1), rfl, (by unfold f_Md_served; rw [if_neg c_1, if_pos c_2]), ht⟩) t_nil d_Md_served_31
    · refine hb_ti 1 (by unfold f_Md_isMan; rw [if_neg c_1, if_neg c_2]) ?_
      refine lv_if_ne (tgt := 11) hx hb d_Md_served_4 (by decide) (fun _ => ?_) (fun h => absurd h (by decide +kernel))
      refine lv_aload_n hx hb d_Md_served_11 rfl (lv_at hl 0 rfl) ?_
      refine va_get (D := (dC, dI)) (ci := 7) (v := .ref (a 6)) (C := R_Md) (T := F_Md) (N := 64) hx hb htb i_Md hown hK hP 0 rfl rfl 9 (by decide) (htb (.fieldLink R_Md 58 "WaterMenModel" "state" "[I") tw_11) (fun _ h9 => h9) rfl d_Md_served_12 ?_
      refine lv_iload_n hx hb d_Md_served_15 rfl (lv_at hl 1 rfl) ?_
      refine va_iald hx hb hK hP 6 5 rfl rfl (hb_inl c_1 c_2 (by decide +kernel)) d_Md_served_16 ?_
      refine hb_ti 0 rfl ?_
      refine lv_iconst (v := 1) hx hb d_Md_served_17 (by decide +kernel) ?_
      refine lv_icmp_eq (tgt := 26) hx hb d_Md_served_18 (by decide) (fun h => absurd h (by decide +kernel)) (fun _ => ?_)
      refine lv_bipush (v := (-2)) hx hb d_Md_served_21 (by decide +kernel) ?_
      refine lv_goto (tgt := 31) hx hb d_Md_served_23 (by decide) ?_
      exact W.iret (v := (-2)) hx hb hr (fun t ht hW => ⟨(-2), rfl, (by unfold f_Md_served; rw [if_neg c_1, if_neg c_2]), ht⟩) t_nil d_Md_served_31
def f_Md_pass (p_0 : Int32) : Int32 := if p_0 < 0 then ((-1)) else (if 39 < p_0 then ((-1)) else ((-2)))
set_option maxHeartbeats 4000000 in
set_option maxRecDepth 100000 in
theorem c_Md_pass (l : Launch) (dC : Nat → ClassId) (dI : Nat → Nat → Nat) (a : Nat → Nat) (k : Nat → ClassId)  (p_0 : Int32)  : Met l y_Md_pass (.code y_Md_pass b_Md_pass 3 (some .int) :: TB) ({ frames := 2, cells := 0, slots := 0, locals := 42 }) (va_Pc [.ref (a 0), .int p_0] (PR dC dI (MW a k) (MT k))) (vp_Si (fun r => r = f_Md_pass p_0)) 0 0 (fun _ => False) := by
  refine Met.ofW (cc := b_Md_pass) (maxL := 3) (ret := (some .int)) (by decide) rfl ?_
  intro p e s m args below meth c s₁ B hml hv
  obtain ⟨rfl, hP, hK, hN⟩ := hv
  have hx := B.exec
  have hb := B.bytes
  have hr := B.returns
  have hts := atoms_spec (ws := (.code y_Md_pass b_Md_pass 3 (some .int) :: TB)) B.pre
  have htb := fun w (h : w ∈ TB) => hts w (List.mem_cons_of_mem _ h)
  have hown : s.vm.findClass R_Md = some m.cls := findClass_of_methodNamed B.named
  have hlocks := B.notSynchronized
  have hl := lv_entry ([.ref (a 0), .int p_0]) (n := 3) (Nat.le_of_ble_eq_true rfl)
  rw [lg_entry_eq]
  generalize (lg_sl ([.ref (a 0), .int p_0]) ++ List.replicate (3 - (lg_sl ([.ref (a 0), .int p_0])).length) Slot.unset).toArray = ls at hl ⊢
  have hl : lv_has ls 3 [(0, .ref (a 0)), (1, .int p_0)] := hl
  refine lv_iload_n hx hb d_Md_pass_0 rfl (lv_at hl 1 rfl) ?_
  refine vp_callSi (va_Run.run (va_runS (As := [.int p_0]) (rest := []) ⟨hx, hb, hml, hown, htb⟩ (c_Md_isMan l p_0) (cwS 1 htb (gd_S tw_317 tw_318 tw_296 tw_316) rfl rfl rfl (by decide +kernel) ⟨Nat.le_of_ble_eq_true rfl, Nat.le_of_ble_eq_true rfl⟩) ⟨fun _ _ _ _ h => h, fun U _ _ => ⟨rfl, trivial⟩⟩ rfl rfl hl.1 rfl (lv_room (Nat.le_of_ble_eq_true rfl)) d_Md_pass_1 ⟨Nat.le_of_ble_eq_true rfl, Nat.le_of_ble_eq_true rfl⟩)) (fun r er => ?_)
  subst er
  by_cases c_1 : p_0 < 0
  · refine hb_ti 0 (by unfold f_Md_isMan; rw [if_pos c_1]) ?_
    refine lv_if_ne (tgt := 9) hx hb d_Md_pass_4 (by decide) (fun h => absurd (by decide +kernel) h) (fun _ => ?_)
    refine lv_iconst (v := (-1)) hx hb d_Md_pass_7 (by decide +kernel) ?_
    exact W.iret (v := (-1)) hx hb hr (fun t ht hW => ⟨(-1), rfl, (by unfold f_Md_pass; rw [if_pos c_1]), ht⟩) t_nil d_Md_pass_8
  · by_cases c_2 : 39 < p_0
    · refine hb_ti 0 (by unfold f_Md_isMan; rw [if_neg c_1, if_pos c_2]) ?_
      refine lv_if_ne (tgt := 9) hx hb d_Md_pass_4 (by decide) (fun h => absurd (by decide +kernel) h) (fun _ => ?_)
      refine lv_iconst (v := (-1)) hx hb d_Md_pass_7 (by decide +kernel) ?_
      exact W.iret (v := (-1)) hx hb hr (fun t ht hW => ⟨(-1), rfl, (by unfold f_Md_pass; rw [if_neg c_1, if_pos c_2]), ht⟩) t_nil d_Md_pass_8
    · refine hb_ti 1 (by unfold f_Md_isMan; rw [if_neg c_1, if_neg c_2]) ?_
      refine lv_if_ne (tgt := 9) hx hb d_Md_pass_4 (by decide) (fun _ => ?_) (fun h => absurd h (by decide +kernel))
      refine lv_aload_n hx hb d_Md_pass_9 rfl (lv_at hl 0 rfl) ?_
      refine va_get (D := (dC, dI)) (ci := 7) (v := .ref (a 6)) (C := R_Md) (T := F_Md) (N := 64) hx hb htb i_Md hown hK hP 0 rfl rfl 9 (by decide) (htb (.fieldLink R_Md 58 "WaterMenModel" "state" "[I") tw_11) (fun _ h9 => h9) rfl d_Md_pass_10 ?_
      refine lv_iload_n hx hb d_Md_pass_13 rfl (lv_at hl 1 rfl) ?_
      refine va_iald hx hb hK hP 6 5 rfl rfl (hb_inl c_1 c_2 (by decide +kernel)) d_Md_pass_14 ?_
      refine hb_ti 0 rfl ?_
      refine lv_iconst (v := 1) hx hb d_Md_pass_15 (by decide +kernel) ?_
      refine lv_icmp_eq (tgt := 22) hx hb d_Md_pass_16 (by decide) (fun h => absurd h (by decide +kernel)) (fun _ => ?_)
      refine lv_bipush (v := (-2)) hx hb d_Md_pass_19 (by decide +kernel) ?_
      exact W.iret (v := (-2)) hx hb hr (fun t ht hW => ⟨(-2), rfl, (by unfold f_Md_pass; rw [if_neg c_1, if_neg c_2]), ht⟩) t_nil d_Md_pass_21
def f_Md_rowOf (p_0 : Int32) : Int32 := (-1)
set_option maxHeartbeats 4000000 in
set_option maxRecDepth 100000 in
theorem c_Md_rowOf (l : Launch) (dC : Nat → ClassId) (dI : Nat → Nat → Nat) (a : Nat → Nat) (k : Nat → ClassId)  (p_0 : Int32)  : Met l y_Md_rowOf (.code y_Md_rowOf b_Md_rowOf 4 (some .int) :: TB) ({ frames := 0, cells := 0, slots := 0, locals := 0 }) (va_Pc [.ref (a 0), .int p_0] (PR dC dI (MW a k) (MT k))) (vp_Si (fun r => r = f_Md_rowOf p_0)) 0 0 (fun _ => False) := by
  refine Met.ofW (cc := b_Md_rowOf) (maxL := 4) (ret := (some .int)) (by decide) rfl ?_
  intro p e s m args below meth c s₁ B hml hv
  obtain ⟨rfl, hP, hK, hN⟩ := hv
  have hx := B.exec
  have hb := B.bytes
  have hr := B.returns
  have hts := atoms_spec (ws := (.code y_Md_rowOf b_Md_rowOf 4 (some .int) :: TB)) B.pre
  have htb := fun w (h : w ∈ TB) => hts w (List.mem_cons_of_mem _ h)
  have hown : s.vm.findClass R_Md = some m.cls := findClass_of_methodNamed B.named
  have hlocks := B.notSynchronized
  have hl := lv_entry ([.ref (a 0), .int p_0]) (n := 4) (Nat.le_of_ble_eq_true rfl)
  rw [lg_entry_eq]
  generalize (lg_sl ([.ref (a 0), .int p_0]) ++ List.replicate (4 - (lg_sl ([.ref (a 0), .int p_0])).length) Slot.unset).toArray = ls at hl ⊢
  have hl : lv_has ls 4 [(0, .ref (a 0)), (1, .int p_0)] := hl
  refine lv_iconst (v := 0) hx hb d_Md_rowOf_0 (by decide +kernel) ?_
  refine lv_istore_n (lv' := [(2, .int 0), (0, .ref (a 0)), (1, .int p_0)]) hx hb d_Md_rowOf_1 rfl hl (by decide) rfl (fun ls hl => ?_)
  refine lv_iload_n hx hb d_Md_rowOf_2 rfl (lv_at hl 0 rfl) ?_
  refine lv_aload_n hx hb d_Md_rowOf_3 rfl (lv_at hl 1 rfl) ?_
  refine va_get (D := (dC, dI)) (ci := 7) (v := .int 0) (C := R_Md) (T := F_Md) (N := 64) hx hb htb i_Md hown hK hP 0 rfl rfl 2 (by decide) (htb (.fieldLink R_Md 14 "WaterMenModel" "stairs" "I") tw_299) (fun _ h9 => h9) rfl d_Md_rowOf_4 ?_
  refine lv_icmp_ge (tgt := 51) hx hb d_Md_rowOf_7 (by decide) (fun _ => ?_) (fun h => absurd (by decide +kernel) h)
  refine lv_iconst (v := (-1)) hx hb d_Md_rowOf_51 (by decide +kernel) ?_
  exact W.iret (v := (-1)) hx hb hr (fun t ht hW => ⟨(-1), rfl, rfl, ht⟩) t_nil d_Md_rowOf_52
def f_Md_placeOf (p_0 : Int32) : Int32 := (-1)
set_option maxHeartbeats 4000000 in
set_option maxRecDepth 100000 in
theorem c_Md_placeOf (l : Launch) (dC : Nat → ClassId) (dI : Nat → Nat → Nat) (a : Nat → Nat) (k : Nat → ClassId)  (p_0 : Int32)  : Met l y_Md_placeOf (.code y_Md_placeOf b_Md_placeOf 4 (some .int) :: TB) ({ frames := 1, cells := 0, slots := 0, locals := 23 }) (va_Pc [.ref (a 0), .int p_0] (PR dC dI (MW a k) (MT k))) (vp_Si (fun r => r = f_Md_placeOf p_0)) 0 0 (fun _ => False) := by
  refine Met.ofW (cc := b_Md_placeOf) (maxL := 4) (ret := (some .int)) (by decide) rfl ?_
  intro p e s m args below meth c s₁ B hml hv
  obtain ⟨rfl, hP, hK, hN⟩ := hv
  have hx := B.exec
  have hb := B.bytes
  have hr := B.returns
  have hts := atoms_spec (ws := (.code y_Md_placeOf b_Md_placeOf 4 (some .int) :: TB)) B.pre
  have htb := fun w (h : w ∈ TB) => hts w (List.mem_cons_of_mem _ h)
  have hown : s.vm.findClass R_Md = some m.cls := findClass_of_methodNamed B.named
  have hlocks := B.notSynchronized
  have hl := lv_entry ([.ref (a 0), .int p_0]) (n := 4) (Nat.le_of_ble_eq_true rfl)
  rw [lg_entry_eq]
  generalize (lg_sl ([.ref (a 0), .int p_0]) ++ List.replicate (4 - (lg_sl ([.ref (a 0), .int p_0])).length) Slot.unset).toArray = ls at hl ⊢
  have hl : lv_has ls 4 [(0, .ref (a 0)), (1, .int p_0)] := hl
  refine lv_aload_n hx hb d_Md_placeOf_0 rfl (lv_at hl 0 rfl) ?_
  refine lv_iload_n hx hb d_Md_placeOf_1 rfl (lv_at hl 1 rfl) ?_
  refine vp_callSi (va_Run.run (va_runV (As := [.int p_0]) (rest := []) ⟨hx, hb, hml, hown, htb⟩ (c_Md_rowOf l dC dI a k p_0) (cwV 1 htb (gd_V tw_320 tw_321 tw_322 tw_296 tw_319) rfl rfl rfl (by decide +kernel) ⟨Nat.le_of_ble_eq_true rfl, Nat.le_of_ble_eq_true rfl⟩) ⟨pr_blind, va_recv hK hP (ci := 7) (q0 := 0) rfl rfl, pr_pre hP hK hN⟩ rfl rfl hl.1 rfl (lv_room (Nat.le_of_ble_eq_true rfl)) d_Md_placeOf_2 ⟨Nat.le_of_ble_eq_true rfl, Nat.le_of_ble_eq_true rfl⟩)) (fun r er => ?_)
  subst er
  refine hb_ti (-1) rfl ?_
  refine lv_istore_n (lv' := [(2, .int (-1)), (0, .ref (a 0)), (1, .int p_0)]) hx hb d_Md_placeOf_5 rfl hl (by decide) rfl (fun ls hl => ?_)
  refine lv_iconst (v := 0) hx hb d_Md_placeOf_6 (by decide +kernel) ?_
  refine lv_istore_n (lv' := [(3, .int 0), (2, .int (-1)), (0, .ref (a 0)), (1, .int p_0)]) hx hb d_Md_placeOf_7 rfl hl (by decide) rfl (fun ls hl => ?_)
  refine lv_iload_n hx hb d_Md_placeOf_8 rfl (lv_at hl 1 rfl) ?_
  refine lv_if_lt (tgt := 33) hx hb d_Md_placeOf_9 (by decide) (fun _ => ?_) (fun h => absurd (by decide +kernel) h)
  refine lv_iload_n hx hb d_Md_placeOf_33 rfl (lv_at hl 1 rfl) ?_
  refine lv_if_ge (tgt := 41) hx hb d_Md_placeOf_34 (by decide) (fun h => absurd h (by decide +kernel)) (fun _ => ?_)
  refine lv_iconst (v := (-1)) hx hb d_Md_placeOf_37 (by decide +kernel) ?_
  refine lv_goto (tgt := 42) hx hb d_Md_placeOf_38 (by decide) ?_
  exact W.iret (v := (-1)) hx hb hr (fun t ht hW => ⟨(-1), rfl, rfl, ht⟩) t_nil d_Md_placeOf_42
def f_Md_man (p_0 : Int32) (p_1 : Int32) : Int32 := if p_0 < 0 then ((-2)) else (if 39 < p_0 then ((-2)) else (if p_1 = 0 then (0) else (if p_1 = 1 then ((-1)) else (if p_1 = 2 then ((-1)) else (if p_1 = 3 then ((-1)) else (if p_1 = 4 then (0) else (if p_1 = 5 then (0) else (if p_1 = 6 then (0) else ((-2))))))))))
set_option maxHeartbeats 4000000 in
set_option maxRecDepth 100000 in
theorem c_Md_man (l : Launch) (dC : Nat → ClassId) (dI : Nat → Nat → Nat) (a : Nat → Nat) (k : Nat → ClassId)  (p_0 : Int32) (p_1 : Int32)  : Met l y_Md_man (.code y_Md_man b_Md_man 3 (some .int) :: TB) ({ frames := 2, cells := 0, slots := 0, locals := 46 }) (va_Pc [.ref (a 0), .int p_0, .int p_1] (PR dC dI (MW a k) (MT k))) (vp_Si (fun r => r = f_Md_man p_0 p_1)) 0 0 (fun _ => False) := by
  refine Met.ofW (cc := b_Md_man) (maxL := 3) (ret := (some .int)) (by decide) rfl ?_
  intro p e s m args below meth c s₁ B hml hv
  obtain ⟨rfl, hP, hK, hN⟩ := hv
  have hx := B.exec
  have hb := B.bytes
  have hr := B.returns
  have hts := atoms_spec (ws := (.code y_Md_man b_Md_man 3 (some .int) :: TB)) B.pre
  have htb := fun w (h : w ∈ TB) => hts w (List.mem_cons_of_mem _ h)
  have hown : s.vm.findClass R_Md = some m.cls := findClass_of_methodNamed B.named
  have hlocks := B.notSynchronized
  have hl := lv_entry ([.ref (a 0), .int p_0, .int p_1]) (n := 3) (Nat.le_of_ble_eq_true rfl)
  rw [lg_entry_eq]
  generalize (lg_sl ([.ref (a 0), .int p_0, .int p_1]) ++ List.replicate (3 - (lg_sl ([.ref (a 0), .int p_0, .int p_1])).length) Slot.unset).toArray = ls at hl ⊢
  have hl : lv_has ls 3 [(0, .ref (a 0)), (1, .int p_0), (2, .int p_1)] := hl
  refine lv_iload_n hx hb d_Md_man_0 rfl (lv_at hl 1 rfl) ?_
  refine vp_callSi (va_Run.run (va_runS (As := [.int p_0]) (rest := []) ⟨hx, hb, hml, hown, htb⟩ (c_Md_isMan l p_0) (cwS 1 htb (gd_S tw_317 tw_318 tw_296 tw_316) rfl rfl rfl (by decide +kernel) ⟨Nat.le_of_ble_eq_true rfl, Nat.le_of_ble_eq_true rfl⟩) ⟨fun _ _ _ _ h => h, fun U _ _ => ⟨rfl, trivial⟩⟩ rfl rfl hl.1 rfl (lv_room (Nat.le_of_ble_eq_true rfl)) d_Md_man_1 ⟨Nat.le_of_ble_eq_true rfl, Nat.le_of_ble_eq_true rfl⟩)) (fun r er => ?_)
  subst er
  by_cases c_1 : p_0 < 0
  · refine hb_ti 0 (by unfold f_Md_isMan; rw [if_pos c_1]) ?_
    refine lv_if_ne (tgt := 10) hx hb d_Md_man_4 (by decide) (fun h => absurd (by decide +kernel) h) (fun _ => ?_)
    refine lv_bipush (v := (-2)) hx hb d_Md_man_7 (by decide +kernel) ?_
    exact W.iret (v := (-2)) hx hb hr (fun t ht hW => ⟨(-2), rfl, (by unfold f_Md_man; rw [if_pos c_1]), ht⟩) t_nil d_Md_man_9
  · by_cases c_2 : 39 < p_0
    · refine hb_ti 0 (by unfold f_Md_isMan; rw [if_neg c_1, if_pos c_2]) ?_
      refine lv_if_ne (tgt := 10) hx hb d_Md_man_4 (by decide) (fun h => absurd (by decide +kernel) h) (fun _ => ?_)
      refine lv_bipush (v := (-2)) hx hb d_Md_man_7 (by decide +kernel) ?_
      exact W.iret (v := (-2)) hx hb hr (fun t ht hW => ⟨(-2), rfl, (by unfold f_Md_man; rw [if_neg c_1, if_pos c_2]), ht⟩) t_nil d_Md_man_9
    · refine hb_ti 1 (by unfold f_Md_isMan; rw [if_neg c_1, if_neg c_2]) ?_
      refine lv_if_ne (tgt := 10) hx hb d_Md_man_4 (by decide) (fun _ => ?_) (fun h => absurd h (by decide +kernel))
      refine lv_iload_n hx hb d_Md_man_10 rfl (lv_at hl 2 rfl) ?_
      by_cases c_3 : p_1 = 0
      · refine lv_tableIn (off := 41) (tgt := 52) hx hb d_Md_man_11 (by rw [c_3]; decide +kernel) (by rw [c_3]; decide +kernel) (by rw [c_3]; decide +kernel) (by decide) ?_
        refine lv_aload_n hx hb d_Md_man_52 rfl (lv_at hl 0 rfl) ?_
        refine va_get (D := (dC, dI)) (ci := 7) (v := .ref (a 6)) (C := R_Md) (T := F_Md) (N := 64) hx hb htb i_Md hown hK hP 0 rfl rfl 9 (by decide) (htb (.fieldLink R_Md 58 "WaterMenModel" "state" "[I") tw_11) (fun _ h9 => h9) rfl d_Md_man_53 ?_
        refine lv_iload_n hx hb d_Md_man_56 rfl (lv_at hl 1 rfl) ?_
        refine va_iald hx hb hK hP 6 5 rfl rfl (hb_inl c_1 c_2 (by decide +kernel)) d_Md_man_57 ?_
        refine hb_ti 0 rfl ?_
        exact W.iret (v := 0) hx hb hr (fun t ht hW => ⟨0, rfl, (by unfold f_Md_man; rw [if_neg c_1, if_neg c_2, if_pos c_3]), ht⟩) t_nil d_Md_man_58
      · by_cases c_4 : p_1 = 1
        · refine lv_tableIn (off := 48) (tgt := 59) hx hb d_Md_man_11 (by rw [c_4]; decide +kernel) (by rw [c_4]; decide +kernel) (by rw [c_4]; decide +kernel) (by decide) ?_
          refine lv_aload_n hx hb d_Md_man_59 rfl (lv_at hl 0 rfl) ?_
          refine va_get (D := (dC, dI)) (ci := 7) (v := .ref (a 7)) (C := R_Md) (T := F_Md) (N := 64) hx hb htb i_Md hown hK hP 0 rfl rfl 10 (by decide) (htb (.fieldLink R_Md 61 "WaterMenModel" "master" "[I") tw_12) (fun _ h9 => h9) rfl d_Md_man_60 ?_
          refine lv_iload_n hx hb d_Md_man_63 rfl (lv_at hl 1 rfl) ?_
          refine va_iald hx hb hK hP 7 6 rfl rfl (hb_inl c_1 c_2 (by decide +kernel)) d_Md_man_64 ?_
          refine hb_ti (-1) rfl ?_
          exact W.iret (v := (-1)) hx hb hr (fun t ht hW => ⟨(-1), rfl, (by unfold f_Md_man; rw [if_neg c_1, if_neg c_2, if_neg c_3, if_pos c_4]), ht⟩) t_nil d_Md_man_65
        · by_cases c_5 : p_1 = 2
          · refine lv_tableIn (off := 55) (tgt := 66) hx hb d_Md_man_11 (by rw [c_5]; decide +kernel) (by rw [c_5]; decide +kernel) (by rw [c_5]; decide +kernel) (by decide) ?_
            refine lv_aload_n hx hb d_Md_man_66 rfl (lv_at hl 0 rfl) ?_
            refine lv_iload_n hx hb d_Md_man_67 rfl (lv_at hl 1 rfl) ?_
            refine vp_callSi (va_Run.run (va_runV (As := [.int p_0]) (rest := []) ⟨hx, hb, hml, hown, htb⟩ (c_Md_rowOf l dC dI a k p_0) (cwV 1 htb (gd_V tw_320 tw_321 tw_322 tw_296 tw_319) rfl rfl rfl (by decide +kernel) ⟨Nat.le_of_ble_eq_true rfl, Nat.le_of_ble_eq_true rfl⟩) ⟨pr_blind, va_recv hK hP (ci := 7) (q0 := 0) rfl rfl, pr_pre hP hK hN⟩ rfl rfl hl.1 rfl (lv_room (Nat.le_of_ble_eq_true rfl)) d_Md_man_68 ⟨Nat.le_of_ble_eq_true rfl, Nat.le_of_ble_eq_true rfl⟩)) (fun r er => ?_)
            subst er
            refine hb_ti (-1) rfl ?_
            exact W.iret (v := (-1)) hx hb hr (fun t ht hW => ⟨(-1), rfl, (by unfold f_Md_man; rw [if_neg c_1, if_neg c_2, if_neg c_3, if_neg c_4, if_pos c_5]), ht⟩) t_nil d_Md_man_71
          · by_cases c_6 : p_1 = 3
            · refine lv_tableIn (off := 61) (tgt := 72) hx hb d_Md_man_11 (by rw [c_6]; decide +kernel) (by rw [c_6]; decide +kernel) (by rw [c_6]; decide +kernel) (by decide) ?_
              refine lv_aload_n hx hb d_Md_man_72 rfl (lv_at hl 0 rfl) ?_
              refine lv_iload_n hx hb d_Md_man_73 rfl (lv_at hl 1 rfl) ?_
              refine vp_callSi (va_Run.run (va_runV (As := [.int p_0]) (rest := []) ⟨hx, hb, hml, hown, htb⟩ (c_Md_placeOf l dC dI a k p_0) (cwV 1 htb (gd_V tw_324 tw_325 tw_326 tw_296 tw_323) rfl rfl rfl (by decide +kernel) ⟨Nat.le_of_ble_eq_true rfl, Nat.le_of_ble_eq_true rfl⟩) ⟨pr_blind, va_recv hK hP (ci := 7) (q0 := 0) rfl rfl, pr_pre hP hK hN⟩ rfl rfl hl.1 rfl (lv_room (Nat.le_of_ble_eq_true rfl)) d_Md_man_74 ⟨Nat.le_of_ble_eq_true rfl, Nat.le_of_ble_eq_true rfl⟩)) (fun r er => ?_)
              subst er
              refine hb_ti (-1) rfl ?_
              exact W.iret (v := (-1)) hx hb hr (fun t ht hW => ⟨(-1), rfl, (by unfold f_Md_man; rw [if_neg c_1, if_neg c_2, if_neg c_3, if_neg c_4, if_neg c_5, if_pos c_6]), ht⟩) t_nil d_Md_man_77
            · by_cases c_7 : p_1 = 4
              · refine lv_tableIn (off := 67) (tgt := 78) hx hb d_Md_man_11 (by rw [c_7]; decide +kernel) (by rw [c_7]; decide +kernel) (by rw [c_7]; decide +kernel) (by decide) ?_
                refine lv_aload_n hx hb d_Md_man_78 rfl (lv_at hl 0 rfl) ?_
                refine va_get (D := (dC, dI)) (ci := 7) (v := .ref (a 12)) (C := R_Md) (T := F_Md) (N := 64) hx hb htb i_Md hown hK hP 0 rfl rfl 15 (by decide) (htb (.fieldLink R_Md 76 "WaterMenModel" "coins" "[I") tw_17) (fun _ h9 => h9) rfl d_Md_man_79 ?_
                refine lv_iload_n hx hb d_Md_man_82 rfl (lv_at hl 1 rfl) ?_
                refine va_iald hx hb hK hP 12 11 rfl rfl (hb_inl c_1 c_2 (by decide +kernel)) d_Md_man_83 ?_
                refine hb_ti 0 rfl ?_
                exact W.iret (v := 0) hx hb hr (fun t ht hW => ⟨0, rfl, (by unfold f_Md_man; rw [if_neg c_1, if_neg c_2, if_neg c_3, if_neg c_4, if_neg c_5, if_neg c_6, if_pos c_7]), ht⟩) t_nil d_Md_man_84
              · by_cases c_8 : p_1 = 5
                · refine lv_tableIn (off := 74) (tgt := 85) hx hb d_Md_man_11 (by rw [c_8]; decide +kernel) (by rw [c_8]; decide +kernel) (by rw [c_8]; decide +kernel) (by decide) ?_
                  refine lv_aload_n hx hb d_Md_man_85 rfl (lv_at hl 0 rfl) ?_
                  refine va_get (D := (dC, dI)) (ci := 7) (v := .ref (a 13)) (C := R_Md) (T := F_Md) (N := 64) hx hb htb i_Md hown hK hP 0 rfl rfl 16 (by decide) (htb (.fieldLink R_Md 79 "WaterMenModel" "wayOf" "[I") tw_18) (fun _ h9 => h9) rfl d_Md_man_86 ?_
                  refine lv_iload_n hx hb d_Md_man_89 rfl (lv_at hl 1 rfl) ?_
                  refine va_iald hx hb hK hP 13 12 rfl rfl (hb_inl c_1 c_2 (by decide +kernel)) d_Md_man_90 ?_
                  refine hb_ti (-1) rfl ?_
                  refine lv_if_lt (tgt := 98) hx hb d_Md_man_91 (by decide) (fun _ => ?_) (fun h => absurd (by decide +kernel) h)
                  refine lv_iconst (v := 0) hx hb d_Md_man_98 (by decide +kernel) ?_
                  exact W.iret (v := 0) hx hb hr (fun t ht hW => ⟨0, rfl, (by unfold f_Md_man; rw [if_neg c_1, if_neg c_2, if_neg c_3, if_neg c_4, if_neg c_5, if_neg c_6, if_neg c_7, if_pos c_8]), ht⟩) t_nil d_Md_man_99
                · by_cases c_9 : p_1 = 6
                  · refine lv_tableIn (off := 89) (tgt := 100) hx hb d_Md_man_11 (by rw [c_9]; decide +kernel) (by rw [c_9]; decide +kernel) (by rw [c_9]; decide +kernel) (by decide) ?_
                    refine lv_aload_n hx hb d_Md_man_100 rfl (lv_at hl 0 rfl) ?_
                    refine va_get (D := (dC, dI)) (ci := 7) (v := .ref (a 14)) (C := R_Md) (T := F_Md) (N := 64) hx hb htb i_Md hown hK hP 0 rfl rfl 17 (by decide) (htb (.fieldLink R_Md 82 "WaterMenModel" "tripsOf" "[I") tw_19) (fun _ h9 => h9) rfl d_Md_man_101 ?_
                    refine lv_iload_n hx hb d_Md_man_104 rfl (lv_at hl 1 rfl) ?_
                    refine va_iald hx hb hK hP 14 13 rfl rfl (hb_inl c_1 c_2 (by decide +kernel)) d_Md_man_105 ?_
                    refine hb_ti 0 rfl ?_
                    exact W.iret (v := 0) hx hb hr (fun t ht hW => ⟨0, rfl, (by unfold f_Md_man; rw [if_neg c_1, if_neg c_2, if_neg c_3, if_neg c_4, if_neg c_5, if_neg c_6, if_neg c_7, if_neg c_8, if_pos c_9]), ht⟩) t_nil d_Md_man_106
                  · refine lv_tableOut (tgt := 107) hx hb d_Md_man_11 (by have h0 := lv_neT c_3 (show (0 : Int32).toInt = 0 by decide +kernel); have h1 := lv_neT c_4 (show (1 : Int32).toInt = 1 by decide +kernel); have h2 := lv_neT c_5 (show (2 : Int32).toInt = 2 by decide +kernel); have h3 := lv_neT c_6 (show (3 : Int32).toInt = 3 by decide +kernel); have h4 := lv_neT c_7 (show (4 : Int32).toInt = 4 by decide +kernel); have h5 := lv_neT c_8 (show (5 : Int32).toInt = 5 by decide +kernel); have h6 := lv_neT c_9 (show (6 : Int32).toInt = 6 by decide +kernel); omega) (by decide) ?_
                    refine lv_bipush (v := (-2)) hx hb d_Md_man_107 (by decide +kernel) ?_
                    exact W.iret (v := (-2)) hx hb hr (fun t ht hW => ⟨(-2), rfl, (by unfold f_Md_man; rw [if_neg c_1, if_neg c_2, if_neg c_3, if_neg c_4, if_neg c_5, if_neg c_6, if_neg c_7, if_neg c_8, if_neg c_9]), ht⟩) t_nil d_Md_man_109
def f_Md_isStairs (p_0 : Int32) : Int32 := if p_0 < 0 then (0) else (0)
set_option maxHeartbeats 4000000 in
set_option maxRecDepth 100000 in
theorem c_Md_isStairs (l : Launch) (dC : Nat → ClassId) (dI : Nat → Nat → Nat) (a : Nat → Nat) (k : Nat → ClassId)  (p_0 : Int32)  : Met l y_Md_isStairs (.code y_Md_isStairs b_Md_isStairs 2 (some .boolean) :: TB) ({ frames := 1, cells := 0, slots := 0, locals := 22 }) (va_Pc [.ref (a 0), .int p_0] (PR dC dI (MW a k) (MT k))) (vp_Si (fun r => r = f_Md_isStairs p_0)) 0 0 (fun _ => False) := by
  refine Met.ofW (cc := b_Md_isStairs) (maxL := 2) (ret := (some .boolean)) (by decide) rfl ?_
  intro p e s m args below meth c s₁ B hml hv
  obtain ⟨rfl, hP, hK, hN⟩ := hv
  have hx := B.exec
  have hb := B.bytes
  have hr := B.returns
  have hts := atoms_spec (ws := (.code y_Md_isStairs b_Md_isStairs 2 (some .boolean) :: TB)) B.pre
  have htb := fun w (h : w ∈ TB) => hts w (List.mem_cons_of_mem _ h)
  have hown : s.vm.findClass R_Md = some m.cls := findClass_of_methodNamed B.named
  have hlocks := B.notSynchronized
  have hl := lv_entry ([.ref (a 0), .int p_0]) (n := 2) (Nat.le_of_ble_eq_true rfl)
  rw [lg_entry_eq]
  generalize (lg_sl ([.ref (a 0), .int p_0]) ++ List.replicate (2 - (lg_sl ([.ref (a 0), .int p_0])).length) Slot.unset).toArray = ls at hl ⊢
  have hl : lv_has ls 2 [(0, .ref (a 0)), (1, .int p_0)] := hl
  refine lv_iload_n hx hb d_Md_isStairs_0 rfl (lv_at hl 1 rfl) ?_
  refine lv_iconst (v := 0) hx hb d_Md_isStairs_1 (by decide +kernel) ?_
  refine lv_aload_n hx hb d_Md_isStairs_2 rfl (lv_at hl 0 rfl) ?_
  refine va_get (D := (dC, dI)) (ci := 7) (v := .int 0) (C := R_Md) (T := F_Md) (N := 64) hx hb htb i_Md hown hK hP 0 rfl rfl 2 (by decide) (htb (.fieldLink R_Md 14 "WaterMenModel" "stairs" "I") tw_299) (fun _ h9 => h9) rfl d_Md_isStairs_3 ?_
  refine lv_iconst (v := 1) hx hb d_Md_isStairs_6 (by decide +kernel) ?_
  refine lv_isub hx hb d_Md_isStairs_7 ?_
  refine hb_ti (-1) (by decide +kernel) ?_
  refine vp_callSi (va_Run.run (va_runS (As := [.int p_0, .int 0, .int (-1)]) (rest := []) ⟨hx, hb, hml, hown, htb⟩ (c_Md_in l p_0 0 (-1)) (cwS 3 htb (gd_S tw_297 tw_298 tw_296 tw_295) rfl rfl rfl (by decide +kernel) ⟨Nat.le_of_ble_eq_true rfl, Nat.le_of_ble_eq_true rfl⟩) ⟨fun _ _ _ _ h => h, fun U _ _ => ⟨rfl, trivial⟩⟩ rfl rfl hl.1 rfl (lv_room (Nat.le_of_ble_eq_true rfl)) d_Md_isStairs_8 ⟨Nat.le_of_ble_eq_true rfl, Nat.le_of_ble_eq_true rfl⟩)) (fun r er => ?_)
  subst er
  by_cases c_1 : p_0 < 0
  · refine hb_ti 0 (by unfold f_Md_in; rw [if_pos c_1]) ?_
    exact W.zret (v := 0) hx hb hr (by decide +kernel) (fun t ht hW => ⟨0, rfl, (by unfold f_Md_isStairs; rw [if_pos c_1]), ht⟩) t_nil d_Md_isStairs_11
  · refine hb_ti 0 (by unfold f_Md_in; rw [if_neg c_1, if_pos (show (-1) < p_0 from by have e0 := c_1; rw [Int32.lt_iff_toInt_lt] at e0; have z0 : ((-1) : Int32).toInt = -1 := (by decide +kernel); have z1 : (0 : Int32).toInt = 0 := (by decide +kernel); rw [Int32.lt_iff_toInt_lt]; omega)]) ?_
    exact W.zret (v := 0) hx hb hr (by decide +kernel) (fun t ht hW => ⟨0, rfl, (by unfold f_Md_isStairs; rw [if_neg c_1]), ht⟩) t_nil d_Md_isStairs_11
def f_Md_boat (p_0 : Int32) (p_1 : Int32) : Int32 := if p_0 < 1 then ((-1)) else (if 2 < p_0 then ((-1)) else (if p_1 < 0 then ((-1)) else ((-1))))
set_option maxHeartbeats 4000000 in
set_option maxRecDepth 100000 in
theorem c_Md_boat (l : Launch) (dC : Nat → ClassId) (dI : Nat → Nat → Nat) (a : Nat → Nat) (k : Nat → ClassId)  (p_0 : Int32) (p_1 : Int32)  : Met l y_Md_boat (.code y_Md_boat b_Md_boat 3 (some .int) :: TB) ({ frames := 2, cells := 0, slots := 0, locals := 43 }) (va_Pc [.ref (a 0), .int p_0, .int p_1] (PR dC dI (MW a k) (MT k))) (vp_Si (fun r => r = f_Md_boat p_0 p_1)) 0 0 (fun _ => False) := by
  refine Met.ofW (cc := b_Md_boat) (maxL := 3) (ret := (some .int)) (by decide) rfl ?_
  intro p e s m args below meth c s₁ B hml hv
  obtain ⟨rfl, hP, hK, hN⟩ := hv
  have hx := B.exec
  have hb := B.bytes
  have hr := B.returns
  have hts := atoms_spec (ws := (.code y_Md_boat b_Md_boat 3 (some .int) :: TB)) B.pre
  have htb := fun w (h : w ∈ TB) => hts w (List.mem_cons_of_mem _ h)
  have hown : s.vm.findClass R_Md = some m.cls := findClass_of_methodNamed B.named
  have hlocks := B.notSynchronized
  have hl := lv_entry ([.ref (a 0), .int p_0, .int p_1]) (n := 3) (Nat.le_of_ble_eq_true rfl)
  rw [lg_entry_eq]
  generalize (lg_sl ([.ref (a 0), .int p_0, .int p_1]) ++ List.replicate (3 - (lg_sl ([.ref (a 0), .int p_0, .int p_1])).length) Slot.unset).toArray = ls at hl ⊢
  have hl : lv_has ls 3 [(0, .ref (a 0)), (1, .int p_0), (2, .int p_1)] := hl
  refine lv_iload_n hx hb d_Md_boat_0 rfl (lv_at hl 1 rfl) ?_
  refine lv_iconst (v := 1) hx hb d_Md_boat_1 (by decide +kernel) ?_
  refine lv_iconst (v := 2) hx hb d_Md_boat_2 (by decide +kernel) ?_
  refine vp_callSi (va_Run.run (va_runS (As := [.int p_0, .int 1, .int 2]) (rest := []) ⟨hx, hb, hml, hown, htb⟩ (c_Md_in l p_0 1 2) (cwS 3 htb (gd_S tw_297 tw_298 tw_296 tw_295) rfl rfl rfl (by decide +kernel) ⟨Nat.le_of_ble_eq_true rfl, Nat.le_of_ble_eq_true rfl⟩) ⟨fun _ _ _ _ h => h, fun U _ _ => ⟨rfl, trivial⟩⟩ rfl rfl hl.1 rfl (lv_room (Nat.le_of_ble_eq_true rfl)) d_Md_boat_3 ⟨Nat.le_of_ble_eq_true rfl, Nat.le_of_ble_eq_true rfl⟩)) (fun r er => ?_)
  subst er
  by_cases c_1 : p_0 < 1
  · refine hb_ti 0 (by unfold f_Md_in; rw [if_pos c_1]) ?_
    refine lv_if_eq (tgt := 17) hx hb d_Md_boat_6 (by decide) (fun _ => ?_) (fun h => absurd (by decide +kernel) h)
    refine lv_iconst (v := (-1)) hx hb d_Md_boat_17 (by decide +kernel) ?_
    exact W.iret (v := (-1)) hx hb hr (fun t ht hW => ⟨(-1), rfl, (by unfold f_Md_boat; rw [if_pos c_1]), ht⟩) t_nil d_Md_boat_18
  · by_cases c_2 : 2 < p_0
    · refine hb_ti 0 (by unfold f_Md_in; rw [if_neg c_1, if_pos c_2]) ?_
      refine lv_if_eq (tgt := 17) hx hb d_Md_boat_6 (by decide) (fun _ => ?_) (fun h => absurd (by decide +kernel) h)
      refine lv_iconst (v := (-1)) hx hb d_Md_boat_17 (by decide +kernel) ?_
      exact W.iret (v := (-1)) hx hb hr (fun t ht hW => ⟨(-1), rfl, (by unfold f_Md_boat; rw [if_neg c_1, if_pos c_2]), ht⟩) t_nil d_Md_boat_18
    · refine hb_ti 1 (by unfold f_Md_in; rw [if_neg c_1, if_neg c_2]) ?_
      refine lv_if_eq (tgt := 17) hx hb d_Md_boat_6 (by decide) (fun h => absurd h (by decide +kernel)) (fun _ => ?_)
      refine lv_aload_n hx hb d_Md_boat_9 rfl (lv_at hl 0 rfl) ?_
      refine lv_iload_n hx hb d_Md_boat_10 rfl (lv_at hl 2 rfl) ?_
      refine vp_callSi (va_Run.run (va_runV (As := [.int p_1]) (rest := []) ⟨hx, hb, hml, hown, htb⟩ (c_Md_isStairs l dC dI a k p_1) (cwV 1 htb (gd_V tw_328 tw_329 tw_330 tw_296 tw_327) rfl rfl rfl (by decide +kernel) ⟨Nat.le_of_ble_eq_true rfl, Nat.le_of_ble_eq_true rfl⟩) ⟨pr_blind, va_recv hK hP (ci := 7) (q0 := 0) rfl rfl, pr_pre hP hK hN⟩ rfl rfl hl.1 rfl (lv_room (Nat.le_of_ble_eq_true rfl)) d_Md_boat_11 ⟨Nat.le_of_ble_eq_true rfl, Nat.le_of_ble_eq_true rfl⟩)) (fun r er => ?_)
      subst er
      by_cases c_3 : p_1 < 0
      · refine hb_ti 0 (by unfold f_Md_isStairs; rw [if_pos c_3]) ?_
        refine lv_if_ne (tgt := 19) hx hb d_Md_boat_14 (by decide) (fun h => absurd (by decide +kernel) h) (fun _ => ?_)
        refine lv_iconst (v := (-1)) hx hb d_Md_boat_17 (by decide +kernel) ?_
        exact W.iret (v := (-1)) hx hb hr (fun t ht hW => ⟨(-1), rfl, (by unfold f_Md_boat; rw [if_neg c_1, if_neg c_2, if_pos c_3]), ht⟩) t_nil d_Md_boat_18
      · refine hb_ti 0 (by unfold f_Md_isStairs; rw [if_neg c_3]) ?_
        refine lv_if_ne (tgt := 19) hx hb d_Md_boat_14 (by decide) (fun h => absurd (by decide +kernel) h) (fun _ => ?_)
        refine lv_iconst (v := (-1)) hx hb d_Md_boat_17 (by decide +kernel) ?_
        exact W.iret (v := (-1)) hx hb hr (fun t ht hW => ⟨(-1), rfl, (by unfold f_Md_boat; rw [if_neg c_1, if_neg c_2, if_neg c_3]), ht⟩) t_nil d_Md_boat_18
def f_Md_isBoat (p_0 : Int32) : Int32 := if p_0 < 0 then (0) else (0)
set_option maxHeartbeats 4000000 in
set_option maxRecDepth 100000 in
theorem c_Md_isBoat (l : Launch) (dC : Nat → ClassId) (dI : Nat → Nat → Nat) (a : Nat → Nat) (k : Nat → ClassId)  (p_0 : Int32)  : Met l y_Md_isBoat (.code y_Md_isBoat b_Md_isBoat 2 (some .boolean) :: TB) ({ frames := 1, cells := 0, slots := 0, locals := 22 }) (va_Pc [.ref (a 0), .int p_0] (PR dC dI (MW a k) (MT k))) (vp_Si (fun r => r = f_Md_isBoat p_0)) 0 0 (fun _ => False) := by
  refine Met.ofW (cc := b_Md_isBoat) (maxL := 2) (ret := (some .boolean)) (by decide) rfl ?_
  intro p e s m args below meth c s₁ B hml hv
  obtain ⟨rfl, hP, hK, hN⟩ := hv
  have hx := B.exec
  have hb := B.bytes
  have hr := B.returns
  have hts := atoms_spec (ws := (.code y_Md_isBoat b_Md_isBoat 2 (some .boolean) :: TB)) B.pre
  have htb := fun w (h : w ∈ TB) => hts w (List.mem_cons_of_mem _ h)
  have hown : s.vm.findClass R_Md = some m.cls := findClass_of_methodNamed B.named
  have hlocks := B.notSynchronized
  have hl := lv_entry ([.ref (a 0), .int p_0]) (n := 2) (Nat.le_of_ble_eq_true rfl)
  rw [lg_entry_eq]
  generalize (lg_sl ([.ref (a 0), .int p_0]) ++ List.replicate (2 - (lg_sl ([.ref (a 0), .int p_0])).length) Slot.unset).toArray = ls at hl ⊢
  have hl : lv_has ls 2 [(0, .ref (a 0)), (1, .int p_0)] := hl
  refine lv_iload_n hx hb d_Md_isBoat_0 rfl (lv_at hl 1 rfl) ?_
  refine lv_iconst (v := 0) hx hb d_Md_isBoat_1 (by decide +kernel) ?_
  refine lv_aload_n hx hb d_Md_isBoat_2 rfl (lv_at hl 0 rfl) ?_
  refine va_get (D := (dC, dI)) (ci := 7) (v := .int 0) (C := R_Md) (T := F_Md) (N := 64) hx hb htb i_Md hown hK hP 0 rfl rfl 21 (by decide) (htb (.fieldLink R_Md 206 "WaterMenModel" "boats" "I") tw_331) (fun _ h9 => h9) rfl d_Md_isBoat_3 ?_
  refine lv_iconst (v := 1) hx hb d_Md_isBoat_6 (by decide +kernel) ?_
  refine lv_isub hx hb d_Md_isBoat_7 ?_
  refine hb_ti (-1) (by decide +kernel) ?_
  refine vp_callSi (va_Run.run (va_runS (As := [.int p_0, .int 0, .int (-1)]) (rest := []) ⟨hx, hb, hml, hown, htb⟩ (c_Md_in l p_0 0 (-1)) (cwS 3 htb (gd_S tw_297 tw_298 tw_296 tw_295) rfl rfl rfl (by decide +kernel) ⟨Nat.le_of_ble_eq_true rfl, Nat.le_of_ble_eq_true rfl⟩) ⟨fun _ _ _ _ h => h, fun U _ _ => ⟨rfl, trivial⟩⟩ rfl rfl hl.1 rfl (lv_room (Nat.le_of_ble_eq_true rfl)) d_Md_isBoat_8 ⟨Nat.le_of_ble_eq_true rfl, Nat.le_of_ble_eq_true rfl⟩)) (fun r er => ?_)
  subst er
  by_cases c_1 : p_0 < 0
  · refine hb_ti 0 (by unfold f_Md_in; rw [if_pos c_1]) ?_
    exact W.zret (v := 0) hx hb hr (by decide +kernel) (fun t ht hW => ⟨0, rfl, (by unfold f_Md_isBoat; rw [if_pos c_1]), ht⟩) t_nil d_Md_isBoat_11
  · refine hb_ti 0 (by unfold f_Md_in; rw [if_neg c_1, if_pos (show (-1) < p_0 from by have e0 := c_1; rw [Int32.lt_iff_toInt_lt] at e0; have z0 : ((-1) : Int32).toInt = -1 := (by decide +kernel); have z1 : (0 : Int32).toInt = 0 := (by decide +kernel); rw [Int32.lt_iff_toInt_lt]; omega)]) ?_
    exact W.zret (v := 0) hx hb hr (by decide +kernel) (fun t ht hW => ⟨0, rfl, (by unfold f_Md_isBoat; rw [if_neg c_1]), ht⟩) t_nil d_Md_isBoat_11
def f_Md_craft (p_0 : Int32) (p_1 : Int32) : Int32 := if p_0 < 0 then ((-1)) else ((-1))
set_option maxHeartbeats 4000000 in
set_option maxRecDepth 100000 in
theorem c_Md_craft (l : Launch) (dC : Nat → ClassId) (dI : Nat → Nat → Nat) (a : Nat → Nat) (k : Nat → ClassId)  (p_0 : Int32) (p_1 : Int32)  : Met l y_Md_craft (.code y_Md_craft b_Md_craft 3 (some .int) :: TB) ({ frames := 2, cells := 0, slots := 0, locals := 43 }) (va_Pc [.ref (a 0), .int p_0, .int p_1] (PR dC dI (MW a k) (MT k))) (vp_Si (fun r => r = f_Md_craft p_0 p_1)) 0 0 (fun _ => False) := by
  refine Met.ofW (cc := b_Md_craft) (maxL := 3) (ret := (some .int)) (by decide) rfl ?_
  intro p e s m args below meth c s₁ B hml hv
  obtain ⟨rfl, hP, hK, hN⟩ := hv
  have hx := B.exec
  have hb := B.bytes
  have hr := B.returns
  have hts := atoms_spec (ws := (.code y_Md_craft b_Md_craft 3 (some .int) :: TB)) B.pre
  have htb := fun w (h : w ∈ TB) => hts w (List.mem_cons_of_mem _ h)
  have hown : s.vm.findClass R_Md = some m.cls := findClass_of_methodNamed B.named
  have hlocks := B.notSynchronized
  have hl := lv_entry ([.ref (a 0), .int p_0, .int p_1]) (n := 3) (Nat.le_of_ble_eq_true rfl)
  rw [lg_entry_eq]
  generalize (lg_sl ([.ref (a 0), .int p_0, .int p_1]) ++ List.replicate (3 - (lg_sl ([.ref (a 0), .int p_0, .int p_1])).length) Slot.unset).toArray = ls at hl ⊢
  have hl : lv_has ls 3 [(0, .ref (a 0)), (1, .int p_0), (2, .int p_1)] := hl
  refine lv_aload_n hx hb d_Md_craft_0 rfl (lv_at hl 0 rfl) ?_
  refine lv_iload_n hx hb d_Md_craft_1 rfl (lv_at hl 1 rfl) ?_
  refine vp_callSi (va_Run.run (va_runV (As := [.int p_0]) (rest := []) ⟨hx, hb, hml, hown, htb⟩ (c_Md_isBoat l dC dI a k p_0) (cwV 1 htb (gd_V tw_333 tw_334 tw_335 tw_296 tw_332) rfl rfl rfl (by decide +kernel) ⟨Nat.le_of_ble_eq_true rfl, Nat.le_of_ble_eq_true rfl⟩) ⟨pr_blind, va_recv hK hP (ci := 7) (q0 := 0) rfl rfl, pr_pre hP hK hN⟩ rfl rfl hl.1 rfl (lv_room (Nat.le_of_ble_eq_true rfl)) d_Md_craft_2 ⟨Nat.le_of_ble_eq_true rfl, Nat.le_of_ble_eq_true rfl⟩)) (fun r er => ?_)
  subst er
  by_cases c_1 : p_0 < 0
  · refine hb_ti 0 (by unfold f_Md_isBoat; rw [if_pos c_1]) ?_
    refine lv_if_ne (tgt := 10) hx hb d_Md_craft_5 (by decide) (fun h => absurd (by decide +kernel) h) (fun _ => ?_)
    refine lv_iconst (v := (-1)) hx hb d_Md_craft_8 (by decide +kernel) ?_
    exact W.iret (v := (-1)) hx hb hr (fun t ht hW => ⟨(-1), rfl, (by unfold f_Md_craft; rw [if_pos c_1]), ht⟩) t_nil d_Md_craft_9
  · refine hb_ti 0 (by unfold f_Md_isBoat; rw [if_neg c_1]) ?_
    refine lv_if_ne (tgt := 10) hx hb d_Md_craft_5 (by decide) (fun h => absurd (by decide +kernel) h) (fun _ => ?_)
    refine lv_iconst (v := (-1)) hx hb d_Md_craft_8 (by decide +kernel) ?_
    exact W.iret (v := (-1)) hx hb hr (fun t ht hW => ⟨(-1), rfl, (by unfold f_Md_craft; rw [if_neg c_1]), ht⟩) t_nil d_Md_craft_9
def f_Md_join (p_0 : Int32) (p_1 : Int32) : Int32 := if p_0 < 0 then ((-1)) else ((-1))
set_option maxHeartbeats 4000000 in
set_option maxRecDepth 100000 in
theorem c_Md_join (l : Launch) (dC : Nat → ClassId) (dI : Nat → Nat → Nat) (a : Nat → Nat) (k : Nat → ClassId)  (p_0 : Int32) (p_1 : Int32)  : Met l y_Md_join (.code y_Md_join b_Md_join 3 (some .int) :: TB) ({ frames := 2, cells := 0, slots := 0, locals := 43 }) (va_Pc [.ref (a 0), .int p_0, .int p_1] (PR dC dI (MW a k) (MT k))) (vp_Si (fun r => r = f_Md_join p_0 p_1)) 0 0 (fun _ => False) := by
  refine Met.ofW (cc := b_Md_join) (maxL := 3) (ret := (some .int)) (by decide) rfl ?_
  intro p e s m args below meth c s₁ B hml hv
  obtain ⟨rfl, hP, hK, hN⟩ := hv
  have hx := B.exec
  have hb := B.bytes
  have hr := B.returns
  have hts := atoms_spec (ws := (.code y_Md_join b_Md_join 3 (some .int) :: TB)) B.pre
  have htb := fun w (h : w ∈ TB) => hts w (List.mem_cons_of_mem _ h)
  have hown : s.vm.findClass R_Md = some m.cls := findClass_of_methodNamed B.named
  have hlocks := B.notSynchronized
  have hl := lv_entry ([.ref (a 0), .int p_0, .int p_1]) (n := 3) (Nat.le_of_ble_eq_true rfl)
  rw [lg_entry_eq]
  generalize (lg_sl ([.ref (a 0), .int p_0, .int p_1]) ++ List.replicate (3 - (lg_sl ([.ref (a 0), .int p_0, .int p_1])).length) Slot.unset).toArray = ls at hl ⊢
  have hl : lv_has ls 3 [(0, .ref (a 0)), (1, .int p_0), (2, .int p_1)] := hl
  refine lv_aload_n hx hb d_Md_join_0 rfl (lv_at hl 0 rfl) ?_
  refine lv_iload_n hx hb d_Md_join_1 rfl (lv_at hl 1 rfl) ?_
  refine vp_callSi (va_Run.run (va_runV (As := [.int p_0]) (rest := []) ⟨hx, hb, hml, hown, htb⟩ (c_Md_isStairs l dC dI a k p_0) (cwV 1 htb (gd_V tw_328 tw_329 tw_330 tw_296 tw_327) rfl rfl rfl (by decide +kernel) ⟨Nat.le_of_ble_eq_true rfl, Nat.le_of_ble_eq_true rfl⟩) ⟨pr_blind, va_recv hK hP (ci := 7) (q0 := 0) rfl rfl, pr_pre hP hK hN⟩ rfl rfl hl.1 rfl (lv_room (Nat.le_of_ble_eq_true rfl)) d_Md_join_2 ⟨Nat.le_of_ble_eq_true rfl, Nat.le_of_ble_eq_true rfl⟩)) (fun r er => ?_)
  subst er
  by_cases c_1 : p_0 < 0
  · refine hb_ti 0 (by unfold f_Md_isStairs; rw [if_pos c_1]) ?_
    refine lv_if_eq (tgt := 15) hx hb d_Md_join_5 (by decide) (fun _ => ?_) (fun h => absurd (by decide +kernel) h)
    refine lv_iconst (v := (-1)) hx hb d_Md_join_15 (by decide +kernel) ?_
    exact W.iret (v := (-1)) hx hb hr (fun t ht hW => ⟨(-1), rfl, (by unfold f_Md_join; rw [if_pos c_1]), ht⟩) t_nil d_Md_join_16
  · refine hb_ti 0 (by unfold f_Md_isStairs; rw [if_neg c_1]) ?_
    refine lv_if_eq (tgt := 15) hx hb d_Md_join_5 (by decide) (fun _ => ?_) (fun h => absurd (by decide +kernel) h)
    refine lv_iconst (v := (-1)) hx hb d_Md_join_15 (by decide +kernel) ?_
    exact W.iret (v := (-1)) hx hb hr (fun t ht hW => ⟨(-1), rfl, (by unfold f_Md_join; rw [if_neg c_1]), ht⟩) t_nil d_Md_join_16
def f_Md_leave (p_0 : Int32) : Int32 := if p_0 < 0 then ((-1)) else (if 39 < p_0 then ((-1)) else ((-2)))
set_option maxHeartbeats 4000000 in
set_option maxRecDepth 100000 in
theorem c_Md_leave (l : Launch) (dC : Nat → ClassId) (dI : Nat → Nat → Nat) (a : Nat → Nat) (k : Nat → ClassId)  (p_0 : Int32)  : Met l y_Md_leave (.code y_Md_leave b_Md_leave 2 (some .int) :: TB) ({ frames := 2, cells := 0, slots := 0, locals := 42 }) (va_Pc [.ref (a 0), .int p_0] (PR dC dI (MW a k) (MT k))) (vp_Si (fun r => r = f_Md_leave p_0)) 0 0 (fun _ => False) := by
  refine Met.ofW (cc := b_Md_leave) (maxL := 2) (ret := (some .int)) (by decide) rfl ?_
  intro p e s m args below meth c s₁ B hml hv
  obtain ⟨rfl, hP, hK, hN⟩ := hv
  have hx := B.exec
  have hb := B.bytes
  have hr := B.returns
  have hts := atoms_spec (ws := (.code y_Md_leave b_Md_leave 2 (some .int) :: TB)) B.pre
  have htb := fun w (h : w ∈ TB) => hts w (List.mem_cons_of_mem _ h)
  have hown : s.vm.findClass R_Md = some m.cls := findClass_of_methodNamed B.named
  have hlocks := B.notSynchronized
  have hl := lv_entry ([.ref (a 0), .int p_0]) (n := 2) (Nat.le_of_ble_eq_true rfl)
  rw [lg_entry_eq]
  generalize (lg_sl ([.ref (a 0), .int p_0]) ++ List.replicate (2 - (lg_sl ([.ref (a 0), .int p_0])).length) Slot.unset).toArray = ls at hl ⊢
  have hl : lv_has ls 2 [(0, .ref (a 0)), (1, .int p_0)] := hl
  refine lv_iload_n hx hb d_Md_leave_0 rfl (lv_at hl 1 rfl) ?_
  refine vp_callSi (va_Run.run (va_runS (As := [.int p_0]) (rest := []) ⟨hx, hb, hml, hown, htb⟩ (c_Md_isMan l p_0) (cwS 1 htb (gd_S tw_317 tw_318 tw_296 tw_316) rfl rfl rfl (by decide +kernel) ⟨Nat.le_of_ble_eq_true rfl, Nat.le_of_ble_eq_true rfl⟩) ⟨fun _ _ _ _ h => h, fun U _ _ => ⟨rfl, trivial⟩⟩ rfl rfl hl.1 rfl (lv_room (Nat.le_of_ble_eq_true rfl)) d_Md_leave_1 ⟨Nat.le_of_ble_eq_true rfl, Nat.le_of_ble_eq_true rfl⟩)) (fun r er => ?_)
  subst er
  by_cases c_1 : p_0 < 0
  · refine hb_ti 0 (by unfold f_Md_isMan; rw [if_pos c_1]) ?_
    refine lv_if_ne (tgt := 9) hx hb d_Md_leave_4 (by decide) (fun h => absurd (by decide +kernel) h) (fun _ => ?_)
    refine lv_iconst (v := (-1)) hx hb d_Md_leave_7 (by decide +kernel) ?_
    exact W.iret (v := (-1)) hx hb hr (fun t ht hW => ⟨(-1), rfl, (by unfold f_Md_leave; rw [if_pos c_1]), ht⟩) t_nil d_Md_leave_8
  · by_cases c_2 : 39 < p_0
    · refine hb_ti 0 (by unfold f_Md_isMan; rw [if_neg c_1, if_pos c_2]) ?_
      refine lv_if_ne (tgt := 9) hx hb d_Md_leave_4 (by decide) (fun h => absurd (by decide +kernel) h) (fun _ => ?_)
      refine lv_iconst (v := (-1)) hx hb d_Md_leave_7 (by decide +kernel) ?_
      exact W.iret (v := (-1)) hx hb hr (fun t ht hW => ⟨(-1), rfl, (by unfold f_Md_leave; rw [if_neg c_1, if_pos c_2]), ht⟩) t_nil d_Md_leave_8
    · refine hb_ti 1 (by unfold f_Md_isMan; rw [if_neg c_1, if_neg c_2]) ?_
      refine lv_if_ne (tgt := 9) hx hb d_Md_leave_4 (by decide) (fun _ => ?_) (fun h => absurd h (by decide +kernel))
      refine lv_aload_n hx hb d_Md_leave_9 rfl (lv_at hl 0 rfl) ?_
      refine lv_iload_n hx hb d_Md_leave_10 rfl (lv_at hl 1 rfl) ?_
      refine vp_callSi (va_Run.run (va_runV (As := [.int p_0]) (rest := []) ⟨hx, hb, hml, hown, htb⟩ (c_Md_rowOf l dC dI a k p_0) (cwV 1 htb (gd_V tw_320 tw_321 tw_322 tw_296 tw_319) rfl rfl rfl (by decide +kernel) ⟨Nat.le_of_ble_eq_true rfl, Nat.le_of_ble_eq_true rfl⟩) ⟨pr_blind, va_recv hK hP (ci := 7) (q0 := 0) rfl rfl, pr_pre hP hK hN⟩ rfl rfl hl.1 rfl (lv_room (Nat.le_of_ble_eq_true rfl)) d_Md_leave_11 ⟨Nat.le_of_ble_eq_true rfl, Nat.le_of_ble_eq_true rfl⟩)) (fun r er => ?_)
      subst er
      refine hb_ti (-1) rfl ?_
      refine lv_if_ge (tgt := 20) hx hb d_Md_leave_14 (by decide) (fun h => absurd h (by decide +kernel)) (fun _ => ?_)
      refine lv_bipush (v := (-2)) hx hb d_Md_leave_17 (by decide +kernel) ?_
      exact W.iret (v := (-2)) hx hb hr (fun t ht hW => ⟨(-2), rfl, (by unfold f_Md_leave; rw [if_neg c_1, if_neg c_2]), ht⟩) t_nil d_Md_leave_19
set_option maxHeartbeats 4000000 in
set_option maxRecDepth 100000 in
theorem c_Md_four_c15 (l : Launch) (dC : Nat → ClassId) (dI : Nat → Nat → Nat) (h_0 y_0_3 y_0_5 y_0_6 y_0_7 y_0_8 y_0_9 y_0_10 y_0_11 y_0_12 y_0_13 y_0_14 y_0_15 y_0_16 y_0_17 y_0_18 y_0_19 y_0_20 y_0_22 y_0_23 y_0_24 y_0_25 y_0_26 y_0_30 y_0_31 y_0_32 y_0_33 y_0_34 y_0_35 y_0_36 y_0_37 y_0_38 y_0_39 y_0_40 y_0_41 y_0_48 y_0_49 y_0_50 y_0_51 y_0_52 y_0_53 y_0_54 y_0_55 y_0_59 y_0_61 y_0_62 y_0_63 h_1 : Nat) (kk_1 : ClassId) (sz : Nat) (p_0 : Int32)  : Met l y_Md_four (.code y_Md_four b_Md_four 3 none :: TB) ({ frames := 0, cells := 0, slots := 0, locals := 0 }) (va_Pc [.ref h_0, .int p_0] (PC dC dI [(h_0, .inr (7, [.int 0, .int 0, .int 0, .ref y_0_3, .int (-1), .ref y_0_5, .ref y_0_6, .ref y_0_7, .ref y_0_8, .ref y_0_9, .ref y_0_10, .ref y_0_11, .ref y_0_12, .ref y_0_13, .ref y_0_14, .ref y_0_15, .ref y_0_16, .ref y_0_17, .ref y_0_18, .ref y_0_19, .ref y_0_20, .int 0, .ref y_0_22, .ref y_0_23, .ref y_0_24, .ref y_0_25, .ref y_0_26, .ref h_1, .int 0, .int 0, .ref y_0_30, .ref y_0_31, .ref y_0_32, .ref y_0_33, .ref y_0_34, .ref y_0_35, .ref y_0_36, .ref y_0_37, .ref y_0_38, .ref y_0_39, .ref y_0_40, .ref y_0_41, .int 0, .int 0, .int 0, .int 0, .int 0, .int 0, .ref y_0_48, .ref y_0_49, .ref y_0_50, .ref y_0_51, .ref y_0_52, .ref y_0_53, .ref y_0_54, .ref y_0_55, .long 0, .long 0, .long 0, .ref y_0_59, .int 0, .ref y_0_61, .ref y_0_62, .ref y_0_63])), (h_1, .inl (kk_1, 400, .inl (fun _ => 0)))] [(kk_1, .byte)] sz)) (va_Qv (fun (_ : Unit) => True) (fun (_ : Unit) t => ∃ (g_1 : Nat → Int32) , va_P (dC, dI) vwCl [(h_0, .inr (7, [.int 0, .int 0, .int 0, .ref y_0_3, .int (-1), .ref y_0_5, .ref y_0_6, .ref y_0_7, .ref y_0_8, .ref y_0_9, .ref y_0_10, .ref y_0_11, .ref y_0_12, .ref y_0_13, .ref y_0_14, .ref y_0_15, .ref y_0_16, .ref y_0_17, .ref y_0_18, .ref y_0_19, .ref y_0_20, .int 0, .ref y_0_22, .ref y_0_23, .ref y_0_24, .ref y_0_25, .ref y_0_26, .ref h_1, .int 4, .int 0, .ref y_0_30, .ref y_0_31, .ref y_0_32, .ref y_0_33, .ref y_0_34, .ref y_0_35, .ref y_0_36, .ref y_0_37, .ref y_0_38, .ref y_0_39, .ref y_0_40, .ref y_0_41, .int 0, .int 0, .int 0, .int 0, .int 0, .int 0, .ref y_0_48, .ref y_0_49, .ref y_0_50, .ref y_0_51, .ref y_0_52, .ref y_0_53, .ref y_0_54, .ref y_0_55, .long 0, .long 0, .long 0, .ref y_0_59, .int 0, .ref y_0_61, .ref y_0_62, .ref y_0_63])), (h_1, .inl (kk_1, 400, .inl g_1))] t.heap ∧ va_K (dC, dI) vwCl [(kk_1, .byte)] t ∧ va_D (va_A [(h_0, .inr (7, [.int 0, .int 0, .int 0, .ref y_0_3, .int (-1), .ref y_0_5, .ref y_0_6, .ref y_0_7, .ref y_0_8, .ref y_0_9, .ref y_0_10, .ref y_0_11, .ref y_0_12, .ref y_0_13, .ref y_0_14, .ref y_0_15, .ref y_0_16, .ref y_0_17, .ref y_0_18, .ref y_0_19, .ref y_0_20, .int 0, .ref y_0_22, .ref y_0_23, .ref y_0_24, .ref y_0_25, .ref y_0_26, .ref h_1, .int 0, .int 0, .ref y_0_30, .ref y_0_31, .ref y_0_32, .ref y_0_33, .ref y_0_34, .ref y_0_35, .ref y_0_36, .ref y_0_37, .ref y_0_38, .ref y_0_39, .ref y_0_40, .ref y_0_41, .int 0, .int 0, .int 0, .int 0, .int 0, .int 0, .ref y_0_48, .ref y_0_49, .ref y_0_50, .ref y_0_51, .ref y_0_52, .ref y_0_53, .ref y_0_54, .ref y_0_55, .long 0, .long 0, .long 0, .ref y_0_59, .int 0, .ref y_0_61, .ref y_0_62, .ref y_0_63])), (h_1, .inl (kk_1, 400, .inl (fun _ => 0)))] sz) [(h_0, .inr (7, [.int 0, .int 0, .int 0, .ref y_0_3, .int (-1), .ref y_0_5, .ref y_0_6, .ref y_0_7, .ref y_0_8, .ref y_0_9, .ref y_0_10, .ref y_0_11, .ref y_0_12, .ref y_0_13, .ref y_0_14, .ref y_0_15, .ref y_0_16, .ref y_0_17, .ref y_0_18, .ref y_0_19, .ref y_0_20, .int 0, .ref y_0_22, .ref y_0_23, .ref y_0_24, .ref y_0_25, .ref y_0_26, .ref h_1, .int 4, .int 0, .ref y_0_30, .ref y_0_31, .ref y_0_32, .ref y_0_33, .ref y_0_34, .ref y_0_35, .ref y_0_36, .ref y_0_37, .ref y_0_38, .ref y_0_39, .ref y_0_40, .ref y_0_41, .int 0, .int 0, .int 0, .int 0, .int 0, .int 0, .ref y_0_48, .ref y_0_49, .ref y_0_50, .ref y_0_51, .ref y_0_52, .ref y_0_53, .ref y_0_54, .ref y_0_55, .long 0, .long 0, .long 0, .ref y_0_59, .int 0, .ref y_0_61, .ref y_0_62, .ref y_0_63])), (h_1, .inl (kk_1, 400, .inl g_1))]) (va_A [(h_0, .inr (7, [.int 0, .int 0, .int 0, .ref y_0_3, .int (-1), .ref y_0_5, .ref y_0_6, .ref y_0_7, .ref y_0_8, .ref y_0_9, .ref y_0_10, .ref y_0_11, .ref y_0_12, .ref y_0_13, .ref y_0_14, .ref y_0_15, .ref y_0_16, .ref y_0_17, .ref y_0_18, .ref y_0_19, .ref y_0_20, .int 0, .ref y_0_22, .ref y_0_23, .ref y_0_24, .ref y_0_25, .ref y_0_26, .ref h_1, .int 0, .int 0, .ref y_0_30, .ref y_0_31, .ref y_0_32, .ref y_0_33, .ref y_0_34, .ref y_0_35, .ref y_0_36, .ref y_0_37, .ref y_0_38, .ref y_0_39, .ref y_0_40, .ref y_0_41, .int 0, .int 0, .int 0, .int 0, .int 0, .int 0, .ref y_0_48, .ref y_0_49, .ref y_0_50, .ref y_0_51, .ref y_0_52, .ref y_0_53, .ref y_0_54, .ref y_0_55, .long 0, .long 0, .long 0, .ref y_0_59, .int 0, .ref y_0_61, .ref y_0_62, .ref y_0_63])), (h_1, .inl (kk_1, 400, .inl (fun _ => 0)))] sz)) 0 0 (va_A [(h_0, .inr (7, [.int 0, .int 0, .int 0, .ref y_0_3, .int (-1), .ref y_0_5, .ref y_0_6, .ref y_0_7, .ref y_0_8, .ref y_0_9, .ref y_0_10, .ref y_0_11, .ref y_0_12, .ref y_0_13, .ref y_0_14, .ref y_0_15, .ref y_0_16, .ref y_0_17, .ref y_0_18, .ref y_0_19, .ref y_0_20, .int 0, .ref y_0_22, .ref y_0_23, .ref y_0_24, .ref y_0_25, .ref y_0_26, .ref h_1, .int 0, .int 0, .ref y_0_30, .ref y_0_31, .ref y_0_32, .ref y_0_33, .ref y_0_34, .ref y_0_35, .ref y_0_36, .ref y_0_37, .ref y_0_38, .ref y_0_39, .ref y_0_40, .ref y_0_41, .int 0, .int 0, .int 0, .int 0, .int 0, .int 0, .ref y_0_48, .ref y_0_49, .ref y_0_50, .ref y_0_51, .ref y_0_52, .ref y_0_53, .ref y_0_54, .ref y_0_55, .long 0, .long 0, .long 0, .ref y_0_59, .int 0, .ref y_0_61, .ref y_0_62, .ref y_0_63])), (h_1, .inl (kk_1, 400, .inl (fun _ => 0)))] sz) := by
  refine Met.ofW (cc := b_Md_four) (maxL := 3) (ret := none) (by decide) rfl ?_
  intro p e s m args below meth c s₁ B hml hv
  obtain ⟨rfl, hsz, hP, hK, hD0, hN⟩ := hv
  have hx := B.exec
  have hb := B.bytes
  have hr := B.returns
  have hts := atoms_spec (ws := (.code y_Md_four b_Md_four 3 none :: TB)) B.pre
  have htb := fun w (h : w ∈ TB) => hts w (List.mem_cons_of_mem _ h)
  have hown : s.vm.findClass R_Md = some m.cls := findClass_of_methodNamed B.named
  have hlocks := B.notSynchronized
  have hl := lv_entry ([.ref h_0, .int p_0]) (n := 3) (Nat.le_of_ble_eq_true rfl)
  rw [lg_entry_eq]
  generalize (lg_sl ([.ref h_0, .int p_0]) ++ List.replicate (3 - (lg_sl ([.ref h_0, .int p_0])).length) Slot.unset).toArray = ls at hl ⊢
  have hl : lv_has ls 3 [(0, .ref h_0), (1, .int p_0)] := hl
  subst hsz
  have hD := hD0.self (sz := s.heap.size)
  obtain ⟨A, hAe⟩ : ∃ A, va_A [(h_0, .inr (7, [.int 0, .int 0, .int 0, .ref y_0_3, .int (-1), .ref y_0_5, .ref y_0_6, .ref y_0_7, .ref y_0_8, .ref y_0_9, .ref y_0_10, .ref y_0_11, .ref y_0_12, .ref y_0_13, .ref y_0_14, .ref y_0_15, .ref y_0_16, .ref y_0_17, .ref y_0_18, .ref y_0_19, .ref y_0_20, .int 0, .ref y_0_22, .ref y_0_23, .ref y_0_24, .ref y_0_25, .ref y_0_26, .ref h_1, .int 0, .int 0, .ref y_0_30, .ref y_0_31, .ref y_0_32, .ref y_0_33, .ref y_0_34, .ref y_0_35, .ref y_0_36, .ref y_0_37, .ref y_0_38, .ref y_0_39, .ref y_0_40, .ref y_0_41, .int 0, .int 0, .int 0, .int 0, .int 0, .int 0, .ref y_0_48, .ref y_0_49, .ref y_0_50, .ref y_0_51, .ref y_0_52, .ref y_0_53, .ref y_0_54, .ref y_0_55, .long 0, .long 0, .long 0, .ref y_0_59, .int 0, .ref y_0_61, .ref y_0_62, .ref y_0_63])), (h_1, .inl (kk_1, 400, .inl (fun _ => 0)))] s.heap.size = A := ⟨_, rfl⟩
  rw [hAe] at hD
  have hA : ∀ q : Nat, s.heap.size ≤ q → A q := fun q h => by rw [← hAe]; exact Or.inr h
  have hS : va_S A s.heap s.heap [] := va_S.rf
  have hP := hP
  refine lv_iconst (v := 3) hx hb d_Md_four_0 (by decide +kernel) ?_
  refine lv_istore_n (lv' := [(2, .int 3), (0, .ref h_0), (1, .int p_0)]) hx hb d_Md_four_1 rfl hl (by decide) rfl (fun ls hl => ?_)
  refine lv_iload_n hx hb d_Md_four_2 rfl (lv_at hl 0 rfl) ?_
  refine lv_if_lt (tgt := 38) hx hb d_Md_four_3 (by decide) (fun h => absurd h (by decide +kernel)) (fun _ => ?_)
  refine lv_aload_n hx hb d_Md_four_6 rfl (lv_at hl 1 rfl) ?_
  refine va_get (D := (dC, dI)) (ci := 7) (v := .ref h_1) (C := R_Md) (T := F_Md) (N := 64) hx hb htb i_Md hown hK hP 0 rfl rfl 27 (by decide) (htb (.fieldLink R_Md 109 "WaterMenModel" "tape" "[B") tw_29) (fun _ h9 => h9) rfl d_Md_four_7 ?_
  refine lv_aload_n hx hb d_Md_four_10 rfl (lv_at hl 1 rfl) ?_
  refine va_get (D := (dC, dI)) (ci := 7) (v := .int 0) (C := R_Md) (T := F_Md) (N := 64) hx hb htb i_Md hown hK hP 0 rfl rfl 28 (by decide) (htb (.fieldLink R_Md 212 "WaterMenModel" "taped" "I") tw_336) (fun _ h9 => h9) rfl d_Md_four_11 ?_
  refine lv_iload_n hx hb d_Md_four_14 rfl (lv_at hl 2 rfl) ?_
  refine lv_bipush (v := 8) hx hb d_Md_four_15 (by decide +kernel) ?_
  refine lv_iload_n hx hb d_Md_four_17 rfl (lv_at hl 0 rfl) ?_
  refine lv_imul hx hb d_Md_four_18 ?_
  refine hb_ti 24 (by decide +kernel) ?_
  refine lv_ishr hx hb d_Md_four_19 ?_
  refine lv_i2b hx hb d_Md_four_20 rfl ?_
  refine va_bast hx hb hK hP hD hS 1 0 rfl rfl (by unfold vp_in; decide +kernel) d_Md_four_21 (fun H locs hP hD hS => ?_)
  have hP : va_P (dC, dI) vwCl [(h_0, .inr (7, [.int 0, .int 0, .int 0, .ref y_0_3, .int (-1), .ref y_0_5, .ref y_0_6, .ref y_0_7, .ref y_0_8, .ref y_0_9, .ref y_0_10, .ref y_0_11, .ref y_0_12, .ref y_0_13, .ref y_0_14, .ref y_0_15, .ref y_0_16, .ref y_0_17, .ref y_0_18, .ref y_0_19, .ref y_0_20, .int 0, .ref y_0_22, .ref y_0_23, .ref y_0_24, .ref y_0_25, .ref y_0_26, .ref h_1, .int 0, .int 0, .ref y_0_30, .ref y_0_31, .ref y_0_32, .ref y_0_33, .ref y_0_34, .ref y_0_35, .ref y_0_36, .ref y_0_37, .ref y_0_38, .ref y_0_39, .ref y_0_40, .ref y_0_41, .int 0, .int 0, .int 0, .int 0, .int 0, .int 0, .ref y_0_48, .ref y_0_49, .ref y_0_50, .ref y_0_51, .ref y_0_52, .ref y_0_53, .ref y_0_54, .ref y_0_55, .long 0, .long 0, .long 0, .ref y_0_59, .int 0, .ref y_0_61, .ref y_0_62, .ref y_0_63])), (h_1, .inl (kk_1, 400, .inl (upd (fun _ => 0) (0 : Int32).toNatClampNeg (vp_nar .byte (((p_0 >>> (24 &&& 31))).toInt8.toInt32)))))] H := hP
  have hD : va_D A [(h_0, .inr (7, [.int 0, .int 0, .int 0, .ref y_0_3, .int (-1), .ref y_0_5, .ref y_0_6, .ref y_0_7, .ref y_0_8, .ref y_0_9, .ref y_0_10, .ref y_0_11, .ref y_0_12, .ref y_0_13, .ref y_0_14, .ref y_0_15, .ref y_0_16, .ref y_0_17, .ref y_0_18, .ref y_0_19, .ref y_0_20, .int 0, .ref y_0_22, .ref y_0_23, .ref y_0_24, .ref y_0_25, .ref y_0_26, .ref h_1, .int 0, .int 0, .ref y_0_30, .ref y_0_31, .ref y_0_32, .ref y_0_33, .ref y_0_34, .ref y_0_35, .ref y_0_36, .ref y_0_37, .ref y_0_38, .ref y_0_39, .ref y_0_40, .ref y_0_41, .int 0, .int 0, .int 0, .int 0, .int 0, .int 0, .ref y_0_48, .ref y_0_49, .ref y_0_50, .ref y_0_51, .ref y_0_52, .ref y_0_53, .ref y_0_54, .ref y_0_55, .long 0, .long 0, .long 0, .ref y_0_59, .int 0, .ref y_0_61, .ref y_0_62, .ref y_0_63])), (h_1, .inl (kk_1, 400, .inl (upd (fun _ => 0) (0 : Int32).toNatClampNeg (vp_nar .byte (((p_0 >>> (24 &&& 31))).toInt8.toInt32)))))] := hD
  refine lv_aload_n hx hb d_Md_four_22 rfl (lv_at hl 1 rfl) ?_
  refine lv_dup hx hb d_Md_four_23 rfl ?_
  refine va_get (D := (dC, dI)) (ci := 7) (v := .int 0) (C := R_Md) (T := F_Md) (N := 64) hx hb htb i_Md hown hK hP 0 rfl rfl 28 (by decide) (htb (.fieldLink R_Md 212 "WaterMenModel" "taped" "I") tw_336) (fun _ h9 => h9) rfl d_Md_four_24 ?_
  refine lv_iconst (v := 1) hx hb d_Md_four_27 (by decide +kernel) ?_
  refine lv_iadd hx hb d_Md_four_28 ?_
  refine hb_ti 1 (by decide +kernel) ?_
  refine va_put (D := (dC, dI)) (ci := 7) (v := .int 1) (ty := .int) (C := R_Md) (T := F_Md) (N := 64) hx hb htb i_Md t_Md t_Md_ok n_Md hown hK hP hD hS 0 rfl rfl 28 (by decide) (htb (.fieldLink R_Md 212 "WaterMenModel" "taped" "I") tw_336) (fun _ h9 => h9) rfl (by decide +kernel) rfl rfl (Nat.le_of_ble_eq_true rfl) d_Md_four_29 (fun H locs hP hD hS => ?_)
  have hP : va_P (dC, dI) vwCl [(h_0, .inr (7, [.int 0, .int 0, .int 0, .ref y_0_3, .int (-1), .ref y_0_5, .ref y_0_6, .ref y_0_7, .ref y_0_8, .ref y_0_9, .ref y_0_10, .ref y_0_11, .ref y_0_12, .ref y_0_13, .ref y_0_14, .ref y_0_15, .ref y_0_16, .ref y_0_17, .ref y_0_18, .ref y_0_19, .ref y_0_20, .int 0, .ref y_0_22, .ref y_0_23, .ref y_0_24, .ref y_0_25, .ref y_0_26, .ref h_1, .int 1, .int 0, .ref y_0_30, .ref y_0_31, .ref y_0_32, .ref y_0_33, .ref y_0_34, .ref y_0_35, .ref y_0_36, .ref y_0_37, .ref y_0_38, .ref y_0_39, .ref y_0_40, .ref y_0_41, .int 0, .int 0, .int 0, .int 0, .int 0, .int 0, .ref y_0_48, .ref y_0_49, .ref y_0_50, .ref y_0_51, .ref y_0_52, .ref y_0_53, .ref y_0_54, .ref y_0_55, .long 0, .long 0, .long 0, .ref y_0_59, .int 0, .ref y_0_61, .ref y_0_62, .ref y_0_63])), (h_1, .inl (kk_1, 400, .inl (upd (fun _ => 0) (0 : Int32).toNatClampNeg (vp_nar .byte (((p_0 >>> (24 &&& 31))).toInt8.toInt32)))))] H := hP
  have hD : va_D A [(h_0, .inr (7, [.int 0, .int 0, .int 0, .ref y_0_3, .int (-1), .ref y_0_5, .ref y_0_6, .ref y_0_7, .ref y_0_8, .ref y_0_9, .ref y_0_10, .ref y_0_11, .ref y_0_12, .ref y_0_13, .ref y_0_14, .ref y_0_15, .ref y_0_16, .ref y_0_17, .ref y_0_18, .ref y_0_19, .ref y_0_20, .int 0, .ref y_0_22, .ref y_0_23, .ref y_0_24, .ref y_0_25, .ref y_0_26, .ref h_1, .int 1, .int 0, .ref y_0_30, .ref y_0_31, .ref y_0_32, .ref y_0_33, .ref y_0_34, .ref y_0_35, .ref y_0_36, .ref y_0_37, .ref y_0_38, .ref y_0_39, .ref y_0_40, .ref y_0_41, .int 0, .int 0, .int 0, .int 0, .int 0, .int 0, .ref y_0_48, .ref y_0_49, .ref y_0_50, .ref y_0_51, .ref y_0_52, .ref y_0_53, .ref y_0_54, .ref y_0_55, .long 0, .long 0, .long 0, .ref y_0_59, .int 0, .ref y_0_61, .ref y_0_62, .ref y_0_63])), (h_1, .inl (kk_1, 400, .inl (upd (fun _ => 0) (0 : Int32).toNatClampNeg (vp_nar .byte (((p_0 >>> (24 &&& 31))).toInt8.toInt32)))))] := hD
  refine lv_iinc (v := 2) (lv' := [(2, .int 2), (0, .ref h_0), (1, .int p_0)]) hx hb d_Md_four_32 hl (k := 0) rfl (by decide +kernel) (by decide) rfl (fun ls hl => ?_)
  refine lv_goto (tgt := 2) hx hb d_Md_four_35 (by decide) ?_
  refine lv_iload_n hx hb d_Md_four_2 rfl (lv_at hl 0 rfl) ?_
  refine lv_if_lt (tgt := 38) hx hb d_Md_four_3 (by decide) (fun h => absurd h (by decide +kernel)) (fun _ => ?_)
  refine lv_aload_n hx hb d_Md_four_6 rfl (lv_at hl 1 rfl) ?_
  refine va_get (D := (dC, dI)) (ci := 7) (v := .ref h_1) (C := R_Md) (T := F_Md) (N := 64) hx hb htb i_Md hown hK hP 0 rfl rfl 27 (by decide) (htb (.fieldLink R_Md 109 "WaterMenModel" "tape" "[B") tw_29) (fun _ h9 => h9) rfl d_Md_four_7 ?_
  refine lv_aload_n hx hb d_Md_four_10 rfl (lv_at hl 1 rfl) ?_
  refine va_get (D := (dC, dI)) (ci := 7) (v := .int 1) (C := R_Md) (T := F_Md) (N := 64) hx hb htb i_Md hown hK hP 0 rfl rfl 28 (by decide) (htb (.fieldLink R_Md 212 "WaterMenModel" "taped" "I") tw_336) (fun _ h9 => h9) rfl d_Md_four_11 ?_
  refine lv_iload_n hx hb d_Md_four_14 rfl (lv_at hl 2 rfl) ?_
  refine lv_bipush (v := 8) hx hb d_Md_four_15 (by decide +kernel) ?_
  refine lv_iload_n hx hb d_Md_four_17 rfl (lv_at hl 0 rfl) ?_
  refine lv_imul hx hb d_Md_four_18 ?_
  refine hb_ti 16 (by decide +kernel) ?_
  refine lv_ishr hx hb d_Md_four_19 ?_
  refine lv_i2b hx hb d_Md_four_20 rfl ?_
  refine va_bast hx hb hK hP hD hS 1 0 rfl rfl (by unfold vp_in; decide +kernel) d_Md_four_21 (fun H locs hP hD hS => ?_)
  have hP : va_P (dC, dI) vwCl [(h_0, .inr (7, [.int 0, .int 0, .int 0, .ref y_0_3, .int (-1), .ref y_0_5, .ref y_0_6, .ref y_0_7, .ref y_0_8, .ref y_0_9, .ref y_0_10, .ref y_0_11, .ref y_0_12, .ref y_0_13, .ref y_0_14, .ref y_0_15, .ref y_0_16, .ref y_0_17, .ref y_0_18, .ref y_0_19, .ref y_0_20, .int 0, .ref y_0_22, .ref y_0_23, .ref y_0_24, .ref y_0_25, .ref y_0_26, .ref h_1, .int 1, .int 0, .ref y_0_30, .ref y_0_31, .ref y_0_32, .ref y_0_33, .ref y_0_34, .ref y_0_35, .ref y_0_36, .ref y_0_37, .ref y_0_38, .ref y_0_39, .ref y_0_40, .ref y_0_41, .int 0, .int 0, .int 0, .int 0, .int 0, .int 0, .ref y_0_48, .ref y_0_49, .ref y_0_50, .ref y_0_51, .ref y_0_52, .ref y_0_53, .ref y_0_54, .ref y_0_55, .long 0, .long 0, .long 0, .ref y_0_59, .int 0, .ref y_0_61, .ref y_0_62, .ref y_0_63])), (h_1, .inl (kk_1, 400, .inl (upd (upd (fun _ => 0) (0 : Int32).toNatClampNeg (vp_nar .byte (((p_0 >>> (24 &&& 31))).toInt8.toInt32))) (1 : Int32).toNatClampNeg (vp_nar .byte (((p_0 >>> (16 &&& 31))).toInt8.toInt32)))))] H := hP
  have hD : va_D A [(h_0, .inr (7, [.int 0, .int 0, .int 0, .ref y_0_3, .int (-1), .ref y_0_5, .ref y_0_6, .ref y_0_7, .ref y_0_8, .ref y_0_9, .ref y_0_10, .ref y_0_11, .ref y_0_12, .ref y_0_13, .ref y_0_14, .ref y_0_15, .ref y_0_16, .ref y_0_17, .ref y_0_18, .ref y_0_19, .ref y_0_20, .int 0, .ref y_0_22, .ref y_0_23, .ref y_0_24, .ref y_0_25, .ref y_0_26, .ref h_1, .int 1, .int 0, .ref y_0_30, .ref y_0_31, .ref y_0_32, .ref y_0_33, .ref y_0_34, .ref y_0_35, .ref y_0_36, .ref y_0_37, .ref y_0_38, .ref y_0_39, .ref y_0_40, .ref y_0_41, .int 0, .int 0, .int 0, .int 0, .int 0, .int 0, .ref y_0_48, .ref y_0_49, .ref y_0_50, .ref y_0_51, .ref y_0_52, .ref y_0_53, .ref y_0_54, .ref y_0_55, .long 0, .long 0, .long 0, .ref y_0_59, .int 0, .ref y_0_61, .ref y_0_62, .ref y_0_63])), (h_1, .inl (kk_1, 400, .inl (upd (upd (fun _ => 0) (0 : Int32).toNatClampNeg (vp_nar .byte (((p_0 >>> (24 &&& 31))).toInt8.toInt32))) (1 : Int32).toNatClampNeg (vp_nar .byte (((p_0 >>> (16 &&& 31))).toInt8.toInt32)))))] := hD
  refine lv_aload_n hx hb d_Md_four_22 rfl (lv_at hl 1 rfl) ?_
  refine lv_dup hx hb d_Md_four_23 rfl ?_
  refine va_get (D := (dC, dI)) (ci := 7) (v := .int 1) (C := R_Md) (T := F_Md) (N := 64) hx hb htb i_Md hown hK hP 0 rfl rfl 28 (by decide) (htb (.fieldLink R_Md 212 "WaterMenModel" "taped" "I") tw_336) (fun _ h9 => h9) rfl d_Md_four_24 ?_
  refine lv_iconst (v := 1) hx hb d_Md_four_27 (by decide +kernel) ?_
  refine lv_iadd hx hb d_Md_four_28 ?_
  refine hb_ti 2 (by decide +kernel) ?_
  refine va_put (D := (dC, dI)) (ci := 7) (v := .int 2) (ty := .int) (C := R_Md) (T := F_Md) (N := 64) hx hb htb i_Md t_Md t_Md_ok n_Md hown hK hP hD hS 0 rfl rfl 28 (by decide) (htb (.fieldLink R_Md 212 "WaterMenModel" "taped" "I") tw_336) (fun _ h9 => h9) rfl (by decide +kernel) rfl rfl (Nat.le_of_ble_eq_true rfl) d_Md_four_29 (fun H locs hP hD hS => ?_)
  have hP : va_P (dC, dI) vwCl [(h_0, .inr (7, [.int 0, .int 0, .int 0, .ref y_0_3, .int (-1), .ref y_0_5, .ref y_0_6, .ref y_0_7, .ref y_0_8, .ref y_0_9, .ref y_0_10, .ref y_0_11, .ref y_0_12, .ref y_0_13, .ref y_0_14, .ref y_0_15, .ref y_0_16, .ref y_0_17, .ref y_0_18, .ref y_0_19, .ref y_0_20, .int 0, .ref y_0_22, .ref y_0_23, .ref y_0_24, .ref y_0_25, .ref y_0_26, .ref h_1, .int 2, .int 0, .ref y_0_30, .ref y_0_31, .ref y_0_32, .ref y_0_33, .ref y_0_34, .ref y_0_35, .ref y_0_36, .ref y_0_37, .ref y_0_38, .ref y_0_39, .ref y_0_40, .ref y_0_41, .int 0, .int 0, .int 0, .int 0, .int 0, .int 0, .ref y_0_48, .ref y_0_49, .ref y_0_50, .ref y_0_51, .ref y_0_52, .ref y_0_53, .ref y_0_54, .ref y_0_55, .long 0, .long 0, .long 0, .ref y_0_59, .int 0, .ref y_0_61, .ref y_0_62, .ref y_0_63])), (h_1, .inl (kk_1, 400, .inl (upd (upd (fun _ => 0) (0 : Int32).toNatClampNeg (vp_nar .byte (((p_0 >>> (24 &&& 31))).toInt8.toInt32))) (1 : Int32).toNatClampNeg (vp_nar .byte (((p_0 >>> (16 &&& 31))).toInt8.toInt32)))))] H := hP
  have hD : va_D A [(h_0, .inr (7, [.int 0, .int 0, .int 0, .ref y_0_3, .int (-1), .ref y_0_5, .ref y_0_6, .ref y_0_7, .ref y_0_8, .ref y_0_9, .ref y_0_10, .ref y_0_11, .ref y_0_12, .ref y_0_13, .ref y_0_14, .ref y_0_15, .ref y_0_16, .ref y_0_17, .ref y_0_18, .ref y_0_19, .ref y_0_20, .int 0, .ref y_0_22, .ref y_0_23, .ref y_0_24, .ref y_0_25, .ref y_0_26, .ref h_1, .int 2, .int 0, .ref y_0_30, .ref y_0_31, .ref y_0_32, .ref y_0_33, .ref y_0_34, .ref y_0_35, .ref y_0_36, .ref y_0_37, .ref y_0_38, .ref y_0_39, .ref y_0_40, .ref y_0_41, .int 0, .int 0, .int 0, .int 0, .int 0, .int 0, .ref y_0_48, .ref y_0_49, .ref y_0_50, .ref y_0_51, .ref y_0_52, .ref y_0_53, .ref y_0_54, .ref y_0_55, .long 0, .long 0, .long 0, .ref y_0_59, .int 0, .ref y_0_61, .ref y_0_62, .ref y_0_63])), (h_1, .inl (kk_1, 400, .inl (upd (upd (fun _ => 0) (0 : Int32).toNatClampNeg (vp_nar .byte (((p_0 >>> (24 &&& 31))).toInt8.toInt32))) (1 : Int32).toNatClampNeg (vp_nar .byte (((p_0 >>> (16 &&& 31))).toInt8.toInt32)))))] := hD
  refine lv_iinc (v := 1) (lv' := [(2, .int 1), (0, .ref h_0), (1, .int p_0)]) hx hb d_Md_four_32 hl (k := 0) rfl (by decide +kernel) (by decide) rfl (fun ls hl => ?_)
  refine lv_goto (tgt := 2) hx hb d_Md_four_35 (by decide) ?_
  refine lv_iload_n hx hb d_Md_four_2 rfl (lv_at hl 0 rfl) ?_
  refine lv_if_lt (tgt := 38) hx hb d_Md_four_3 (by decide) (fun h => absurd h (by decide +kernel)) (fun _ => ?_)
  refine lv_aload_n hx hb d_Md_four_6 rfl (lv_at hl 1 rfl) ?_
  refine va_get (D := (dC, dI)) (ci := 7) (v := .ref h_1) (C := R_Md) (T := F_Md) (N := 64) hx hb htb i_Md hown hK hP 0 rfl rfl 27 (by decide) (htb (.fieldLink R_Md 109 "WaterMenModel" "tape" "[B") tw_29) (fun _ h9 => h9) rfl d_Md_four_7 ?_
  refine lv_aload_n hx hb d_Md_four_10 rfl (lv_at hl 1 rfl) ?_
  refine va_get (D := (dC, dI)) (ci := 7) (v := .int 2) (C := R_Md) (T := F_Md) (N := 64) hx hb htb i_Md hown hK hP 0 rfl rfl 28 (by decide) (htb (.fieldLink R_Md 212 "WaterMenModel" "taped" "I") tw_336) (fun _ h9 => h9) rfl d_Md_four_11 ?_
  refine lv_iload_n hx hb d_Md_four_14 rfl (lv_at hl 2 rfl) ?_
  refine lv_bipush (v := 8) hx hb d_Md_four_15 (by decide +kernel) ?_
  refine lv_iload_n hx hb d_Md_four_17 rfl (lv_at hl 0 rfl) ?_
  refine lv_imul hx hb d_Md_four_18 ?_
  refine hb_ti 8 (by decide +kernel) ?_
  refine lv_ishr hx hb d_Md_four_19 ?_
  refine lv_i2b hx hb d_Md_four_20 rfl ?_
  refine va_bast hx hb hK hP hD hS 1 0 rfl rfl (by unfold vp_in; decide +kernel) d_Md_four_21 (fun H locs hP hD hS => ?_)
  have hP : va_P (dC, dI) vwCl [(h_0, .inr (7, [.int 0, .int 0, .int 0, .ref y_0_3, .int (-1), .ref y_0_5, .ref y_0_6, .ref y_0_7, .ref y_0_8, .ref y_0_9, .ref y_0_10, .ref y_0_11, .ref y_0_12, .ref y_0_13, .ref y_0_14, .ref y_0_15, .ref y_0_16, .ref y_0_17, .ref y_0_18, .ref y_0_19, .ref y_0_20, .int 0, .ref y_0_22, .ref y_0_23, .ref y_0_24, .ref y_0_25, .ref y_0_26, .ref h_1, .int 2, .int 0, .ref y_0_30, .ref y_0_31, .ref y_0_32, .ref y_0_33, .ref y_0_34, .ref y_0_35, .ref y_0_36, .ref y_0_37, .ref y_0_38, .ref y_0_39, .ref y_0_40, .ref y_0_41, .int 0, .int 0, .int 0, .int 0, .int 0, .int 0, .ref y_0_48, .ref y_0_49, .ref y_0_50, .ref y_0_51, .ref y_0_52, .ref y_0_53, .ref y_0_54, .ref y_0_55, .long 0, .long 0, .long 0, .ref y_0_59, .int 0, .ref y_0_61, .ref y_0_62, .ref y_0_63])), (h_1, .inl (kk_1, 400, .inl (upd (upd (upd (fun _ => 0) (0 : Int32).toNatClampNeg (vp_nar .byte (((p_0 >>> (24 &&& 31))).toInt8.toInt32))) (1 : Int32).toNatClampNeg (vp_nar .byte (((p_0 >>> (16 &&& 31))).toInt8.toInt32))) (2 : Int32).toNatClampNeg (vp_nar .byte (((p_0 >>> (8 &&& 31))).toInt8.toInt32)))))] H := hP
  have hD : va_D A [(h_0, .inr (7, [.int 0, .int 0, .int 0, .ref y_0_3, .int (-1), .ref y_0_5, .ref y_0_6, .ref y_0_7, .ref y_0_8, .ref y_0_9, .ref y_0_10, .ref y_0_11, .ref y_0_12, .ref y_0_13, .ref y_0_14, .ref y_0_15, .ref y_0_16, .ref y_0_17, .ref y_0_18, .ref y_0_19, .ref y_0_20, .int 0, .ref y_0_22, .ref y_0_23, .ref y_0_24, .ref y_0_25, .ref y_0_26, .ref h_1, .int 2, .int 0, .ref y_0_30, .ref y_0_31, .ref y_0_32, .ref y_0_33, .ref y_0_34, .ref y_0_35, .ref y_0_36, .ref y_0_37, .ref y_0_38, .ref y_0_39, .ref y_0_40, .ref y_0_41, .int 0, .int 0, .int 0, .int 0, .int 0, .int 0, .ref y_0_48, .ref y_0_49, .ref y_0_50, .ref y_0_51, .ref y_0_52, .ref y_0_53, .ref y_0_54, .ref y_0_55, .long 0, .long 0, .long 0, .ref y_0_59, .int 0, .ref y_0_61, .ref y_0_62, .ref y_0_63])), (h_1, .inl (kk_1, 400, .inl (upd (upd (upd (fun _ => 0) (0 : Int32).toNatClampNeg (vp_nar .byte (((p_0 >>> (24 &&& 31))).toInt8.toInt32))) (1 : Int32).toNatClampNeg (vp_nar .byte (((p_0 >>> (16 &&& 31))).toInt8.toInt32))) (2 : Int32).toNatClampNeg (vp_nar .byte (((p_0 >>> (8 &&& 31))).toInt8.toInt32)))))] := hD
  refine lv_aload_n hx hb d_Md_four_22 rfl (lv_at hl 1 rfl) ?_
  refine lv_dup hx hb d_Md_four_23 rfl ?_
  refine va_get (D := (dC, dI)) (ci := 7) (v := .int 2) (C := R_Md) (T := F_Md) (N := 64) hx hb htb i_Md hown hK hP 0 rfl rfl 28 (by decide) (htb (.fieldLink R_Md 212 "WaterMenModel" "taped" "I") tw_336) (fun _ h9 => h9) rfl d_Md_four_24 ?_
  refine lv_iconst (v := 1) hx hb d_Md_four_27 (by decide +kernel) ?_
  refine lv_iadd hx hb d_Md_four_28 ?_
  refine hb_ti 3 (by decide +kernel) ?_
  refine va_put (D := (dC, dI)) (ci := 7) (v := .int 3) (ty := .int) (C := R_Md) (T := F_Md) (N := 64) hx hb htb i_Md t_Md t_Md_ok n_Md hown hK hP hD hS 0 rfl rfl 28 (by decide) (htb (.fieldLink R_Md 212 "WaterMenModel" "taped" "I") tw_336) (fun _ h9 => h9) rfl (by decide +kernel) rfl rfl (Nat.le_of_ble_eq_true rfl) d_Md_four_29 (fun H locs hP hD hS => ?_)
  have hP : va_P (dC, dI) vwCl [(h_0, .inr (7, [.int 0, .int 0, .int 0, .ref y_0_3, .int (-1), .ref y_0_5, .ref y_0_6, .ref y_0_7, .ref y_0_8, .ref y_0_9, .ref y_0_10, .ref y_0_11, .ref y_0_12, .ref y_0_13, .ref y_0_14, .ref y_0_15, .ref y_0_16, .ref y_0_17, .ref y_0_18, .ref y_0_19, .ref y_0_20, .int 0, .ref y_0_22, .ref y_0_23, .ref y_0_24, .ref y_0_25, .ref y_0_26, .ref h_1, .int 3, .int 0, .ref y_0_30, .ref y_0_31, .ref y_0_32, .ref y_0_33, .ref y_0_34, .ref y_0_35, .ref y_0_36, .ref y_0_37, .ref y_0_38, .ref y_0_39, .ref y_0_40, .ref y_0_41, .int 0, .int 0, .int 0, .int 0, .int 0, .int 0, .ref y_0_48, .ref y_0_49, .ref y_0_50, .ref y_0_51, .ref y_0_52, .ref y_0_53, .ref y_0_54, .ref y_0_55, .long 0, .long 0, .long 0, .ref y_0_59, .int 0, .ref y_0_61, .ref y_0_62, .ref y_0_63])), (h_1, .inl (kk_1, 400, .inl (upd (upd (upd (fun _ => 0) (0 : Int32).toNatClampNeg (vp_nar .byte (((p_0 >>> (24 &&& 31))).toInt8.toInt32))) (1 : Int32).toNatClampNeg (vp_nar .byte (((p_0 >>> (16 &&& 31))).toInt8.toInt32))) (2 : Int32).toNatClampNeg (vp_nar .byte (((p_0 >>> (8 &&& 31))).toInt8.toInt32)))))] H := hP
  have hD : va_D A [(h_0, .inr (7, [.int 0, .int 0, .int 0, .ref y_0_3, .int (-1), .ref y_0_5, .ref y_0_6, .ref y_0_7, .ref y_0_8, .ref y_0_9, .ref y_0_10, .ref y_0_11, .ref y_0_12, .ref y_0_13, .ref y_0_14, .ref y_0_15, .ref y_0_16, .ref y_0_17, .ref y_0_18, .ref y_0_19, .ref y_0_20, .int 0, .ref y_0_22, .ref y_0_23, .ref y_0_24, .ref y_0_25, .ref y_0_26, .ref h_1, .int 3, .int 0, .ref y_0_30, .ref y_0_31, .ref y_0_32, .ref y_0_33, .ref y_0_34, .ref y_0_35, .ref y_0_36, .ref y_0_37, .ref y_0_38, .ref y_0_39, .ref y_0_40, .ref y_0_41, .int 0, .int 0, .int 0, .int 0, .int 0, .int 0, .ref y_0_48, .ref y_0_49, .ref y_0_50, .ref y_0_51, .ref y_0_52, .ref y_0_53, .ref y_0_54, .ref y_0_55, .long 0, .long 0, .long 0, .ref y_0_59, .int 0, .ref y_0_61, .ref y_0_62, .ref y_0_63])), (h_1, .inl (kk_1, 400, .inl (upd (upd (upd (fun _ => 0) (0 : Int32).toNatClampNeg (vp_nar .byte (((p_0 >>> (24 &&& 31))).toInt8.toInt32))) (1 : Int32).toNatClampNeg (vp_nar .byte (((p_0 >>> (16 &&& 31))).toInt8.toInt32))) (2 : Int32).toNatClampNeg (vp_nar .byte (((p_0 >>> (8 &&& 31))).toInt8.toInt32)))))] := hD
  refine lv_iinc (v := 0) (lv' := [(2, .int 0), (0, .ref h_0), (1, .int p_0)]) hx hb d_Md_four_32 hl (k := 0) rfl (by decide +kernel) (by decide) rfl (fun ls hl => ?_)
  refine lv_goto (tgt := 2) hx hb d_Md_four_35 (by decide) ?_
  refine lv_iload_n hx hb d_Md_four_2 rfl (lv_at hl 0 rfl) ?_
  refine lv_if_lt (tgt := 38) hx hb d_Md_four_3 (by decide) (fun h => absurd h (by decide +kernel)) (fun _ => ?_)
  refine lv_aload_n hx hb d_Md_four_6 rfl (lv_at hl 1 rfl) ?_
  refine va_get (D := (dC, dI)) (ci := 7) (v := .ref h_1) (C := R_Md) (T := F_Md) (N := 64) hx hb htb i_Md hown hK hP 0 rfl rfl 27 (by decide) (htb (.fieldLink R_Md 109 "WaterMenModel" "tape" "[B") tw_29) (fun _ h9 => h9) rfl d_Md_four_7 ?_
  refine lv_aload_n hx hb d_Md_four_10 rfl (lv_at hl 1 rfl) ?_
  refine va_get (D := (dC, dI)) (ci := 7) (v := .int 3) (C := R_Md) (T := F_Md) (N := 64) hx hb htb i_Md hown hK hP 0 rfl rfl 28 (by decide) (htb (.fieldLink R_Md 212 "WaterMenModel" "taped" "I") tw_336) (fun _ h9 => h9) rfl d_Md_four_11 ?_
  refine lv_iload_n hx hb d_Md_four_14 rfl (lv_at hl 2 rfl) ?_
  refine lv_bipush (v := 8) hx hb d_Md_four_15 (by decide +kernel) ?_
  refine lv_iload_n hx hb d_Md_four_17 rfl (lv_at hl 0 rfl) ?_
  refine lv_imul hx hb d_Md_four_18 ?_
  refine hb_ti 0 (by decide +kernel) ?_
  refine lv_ishr hx hb d_Md_four_19 ?_
  refine lv_i2b hx hb d_Md_four_20 rfl ?_
  refine va_bast hx hb hK hP hD hS 1 0 rfl rfl (by unfold vp_in; decide +kernel) d_Md_four_21 (fun H locs hP hD hS => ?_)
  have hP : va_P (dC, dI) vwCl [(h_0, .inr (7, [.int 0, .int 0, .int 0, .ref y_0_3, .int (-1), .ref y_0_5, .ref y_0_6, .ref y_0_7, .ref y_0_8, .ref y_0_9, .ref y_0_10, .ref y_0_11, .ref y_0_12, .ref y_0_13, .ref y_0_14, .ref y_0_15, .ref y_0_16, .ref y_0_17, .ref y_0_18, .ref y_0_19, .ref y_0_20, .int 0, .ref y_0_22, .ref y_0_23, .ref y_0_24, .ref y_0_25, .ref y_0_26, .ref h_1, .int 3, .int 0, .ref y_0_30, .ref y_0_31, .ref y_0_32, .ref y_0_33, .ref y_0_34, .ref y_0_35, .ref y_0_36, .ref y_0_37, .ref y_0_38, .ref y_0_39, .ref y_0_40, .ref y_0_41, .int 0, .int 0, .int 0, .int 0, .int 0, .int 0, .ref y_0_48, .ref y_0_49, .ref y_0_50, .ref y_0_51, .ref y_0_52, .ref y_0_53, .ref y_0_54, .ref y_0_55, .long 0, .long 0, .long 0, .ref y_0_59, .int 0, .ref y_0_61, .ref y_0_62, .ref y_0_63])), (h_1, .inl (kk_1, 400, .inl (upd (upd (upd (upd (fun _ => 0) (0 : Int32).toNatClampNeg (vp_nar .byte (((p_0 >>> (24 &&& 31))).toInt8.toInt32))) (1 : Int32).toNatClampNeg (vp_nar .byte (((p_0 >>> (16 &&& 31))).toInt8.toInt32))) (2 : Int32).toNatClampNeg (vp_nar .byte (((p_0 >>> (8 &&& 31))).toInt8.toInt32))) (3 : Int32).toNatClampNeg (vp_nar .byte (((p_0 >>> (0 &&& 31))).toInt8.toInt32)))))] H := hP
  have hD : va_D A [(h_0, .inr (7, [.int 0, .int 0, .int 0, .ref y_0_3, .int (-1), .ref y_0_5, .ref y_0_6, .ref y_0_7, .ref y_0_8, .ref y_0_9, .ref y_0_10, .ref y_0_11, .ref y_0_12, .ref y_0_13, .ref y_0_14, .ref y_0_15, .ref y_0_16, .ref y_0_17, .ref y_0_18, .ref y_0_19, .ref y_0_20, .int 0, .ref y_0_22, .ref y_0_23, .ref y_0_24, .ref y_0_25, .ref y_0_26, .ref h_1, .int 3, .int 0, .ref y_0_30, .ref y_0_31, .ref y_0_32, .ref y_0_33, .ref y_0_34, .ref y_0_35, .ref y_0_36, .ref y_0_37, .ref y_0_38, .ref y_0_39, .ref y_0_40, .ref y_0_41, .int 0, .int 0, .int 0, .int 0, .int 0, .int 0, .ref y_0_48, .ref y_0_49, .ref y_0_50, .ref y_0_51, .ref y_0_52, .ref y_0_53, .ref y_0_54, .ref y_0_55, .long 0, .long 0, .long 0, .ref y_0_59, .int 0, .ref y_0_61, .ref y_0_62, .ref y_0_63])), (h_1, .inl (kk_1, 400, .inl (upd (upd (upd (upd (fun _ => 0) (0 : Int32).toNatClampNeg (vp_nar .byte (((p_0 >>> (24 &&& 31))).toInt8.toInt32))) (1 : Int32).toNatClampNeg (vp_nar .byte (((p_0 >>> (16 &&& 31))).toInt8.toInt32))) (2 : Int32).toNatClampNeg (vp_nar .byte (((p_0 >>> (8 &&& 31))).toInt8.toInt32))) (3 : Int32).toNatClampNeg (vp_nar .byte (((p_0 >>> (0 &&& 31))).toInt8.toInt32)))))] := hD
  refine lv_aload_n hx hb d_Md_four_22 rfl (lv_at hl 1 rfl) ?_
  refine lv_dup hx hb d_Md_four_23 rfl ?_
  refine va_get (D := (dC, dI)) (ci := 7) (v := .int 3) (C := R_Md) (T := F_Md) (N := 64) hx hb htb i_Md hown hK hP 0 rfl rfl 28 (by decide) (htb (.fieldLink R_Md 212 "WaterMenModel" "taped" "I") tw_336) (fun _ h9 => h9) rfl d_Md_four_24 ?_
  refine lv_iconst (v := 1) hx hb d_Md_four_27 (by decide +kernel) ?_
  refine lv_iadd hx hb d_Md_four_28 ?_
  refine hb_ti 4 (by decide +kernel) ?_
  refine va_put (D := (dC, dI)) (ci := 7) (v := .int 4) (ty := .int) (C := R_Md) (T := F_Md) (N := 64) hx hb htb i_Md t_Md t_Md_ok n_Md hown hK hP hD hS 0 rfl rfl 28 (by decide) (htb (.fieldLink R_Md 212 "WaterMenModel" "taped" "I") tw_336) (fun _ h9 => h9) rfl (by decide +kernel) rfl rfl (Nat.le_of_ble_eq_true rfl) d_Md_four_29 (fun H locs hP hD hS => ?_)
  have hP : va_P (dC, dI) vwCl [(h_0, .inr (7, [.int 0, .int 0, .int 0, .ref y_0_3, .int (-1), .ref y_0_5, .ref y_0_6, .ref y_0_7, .ref y_0_8, .ref y_0_9, .ref y_0_10, .ref y_0_11, .ref y_0_12, .ref y_0_13, .ref y_0_14, .ref y_0_15, .ref y_0_16, .ref y_0_17, .ref y_0_18, .ref y_0_19, .ref y_0_20, .int 0, .ref y_0_22, .ref y_0_23, .ref y_0_24, .ref y_0_25, .ref y_0_26, .ref h_1, .int 4, .int 0, .ref y_0_30, .ref y_0_31, .ref y_0_32, .ref y_0_33, .ref y_0_34, .ref y_0_35, .ref y_0_36, .ref y_0_37, .ref y_0_38, .ref y_0_39, .ref y_0_40, .ref y_0_41, .int 0, .int 0, .int 0, .int 0, .int 0, .int 0, .ref y_0_48, .ref y_0_49, .ref y_0_50, .ref y_0_51, .ref y_0_52, .ref y_0_53, .ref y_0_54, .ref y_0_55, .long 0, .long 0, .long 0, .ref y_0_59, .int 0, .ref y_0_61, .ref y_0_62, .ref y_0_63])), (h_1, .inl (kk_1, 400, .inl (upd (upd (upd (upd (fun _ => 0) (0 : Int32).toNatClampNeg (vp_nar .byte (((p_0 >>> (24 &&& 31))).toInt8.toInt32))) (1 : Int32).toNatClampNeg (vp_nar .byte (((p_0 >>> (16 &&& 31))).toInt8.toInt32))) (2 : Int32).toNatClampNeg (vp_nar .byte (((p_0 >>> (8 &&& 31))).toInt8.toInt32))) (3 : Int32).toNatClampNeg (vp_nar .byte (((p_0 >>> (0 &&& 31))).toInt8.toInt32)))))] H := hP
  have hD : va_D A [(h_0, .inr (7, [.int 0, .int 0, .int 0, .ref y_0_3, .int (-1), .ref y_0_5, .ref y_0_6, .ref y_0_7, .ref y_0_8, .ref y_0_9, .ref y_0_10, .ref y_0_11, .ref y_0_12, .ref y_0_13, .ref y_0_14, .ref y_0_15, .ref y_0_16, .ref y_0_17, .ref y_0_18, .ref y_0_19, .ref y_0_20, .int 0, .ref y_0_22, .ref y_0_23, .ref y_0_24, .ref y_0_25, .ref y_0_26, .ref h_1, .int 4, .int 0, .ref y_0_30, .ref y_0_31, .ref y_0_32, .ref y_0_33, .ref y_0_34, .ref y_0_35, .ref y_0_36, .ref y_0_37, .ref y_0_38, .ref y_0_39, .ref y_0_40, .ref y_0_41, .int 0, .int 0, .int 0, .int 0, .int 0, .int 0, .ref y_0_48, .ref y_0_49, .ref y_0_50, .ref y_0_51, .ref y_0_52, .ref y_0_53, .ref y_0_54, .ref y_0_55, .long 0, .long 0, .long 0, .ref y_0_59, .int 0, .ref y_0_61, .ref y_0_62, .ref y_0_63])), (h_1, .inl (kk_1, 400, .inl (upd (upd (upd (upd (fun _ => 0) (0 : Int32).toNatClampNeg (vp_nar .byte (((p_0 >>> (24 &&& 31))).toInt8.toInt32))) (1 : Int32).toNatClampNeg (vp_nar .byte (((p_0 >>> (16 &&& 31))).toInt8.toInt32))) (2 : Int32).toNatClampNeg (vp_nar .byte (((p_0 >>> (8 &&& 31))).toInt8.toInt32))) (3 : Int32).toNatClampNeg (vp_nar .byte (((p_0 >>> (0 &&& 31))).toInt8.toInt32)))))] := hD
  refine lv_iinc (v := (-1)) (lv' := [(2, .int (-1)), (0, .ref h_0), (1, .int p_0)]) hx hb d_Md_four_32 hl (k := 0) rfl (by decide +kernel) (by decide) rfl (fun ls hl => ?_)
  refine lv_goto (tgt := 2) hx hb d_Md_four_35 (by decide) ?_
  refine lv_iload_n hx hb d_Md_four_2 rfl (lv_at hl 0 rfl) ?_
  refine lv_if_lt (tgt := 38) hx hb d_Md_four_3 (by decide) (fun _ => ?_) (fun h => absurd (by decide +kernel) h)
  refine W.widen (k := 0) (n := 0) (Nat.le_of_ble_eq_true rfl) (Nat.le_of_ble_eq_true rfl) ?_
  exact W.vret hx hb hr (fun t ht hW => ⟨⟨(), rfl, trivial, upd (upd (upd (upd (fun _ => 0) (0 : Int32).toNatClampNeg (vp_nar .byte (((p_0 >>> (24 &&& 31))).toInt8.toInt32))) (1 : Int32).toNatClampNeg (vp_nar .byte (((p_0 >>> (16 &&& 31))).toInt8.toInt32))) (2 : Int32).toNatClampNeg (vp_nar .byte (((p_0 >>> (8 &&& 31))).toInt8.toInt32))) (3 : Int32).toNatClampNeg (vp_nar .byte (((p_0 >>> (0 &&& 31))).toInt8.toInt32)), by rw [ht]; exact hP, va_K.moved hW.alike hK, by rw [hAe]; exact hD⟩, by rw [hAe]; exact hS.F ht⟩) (by rw [hAe]; exact hS.2.2) d_Md_four_38
