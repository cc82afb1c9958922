def f_Md_forceOn (p_0 : Int32) (p_1 : Int32) : Int32 := (-2)
set_option maxHeartbeats 4000000 in
set_option maxRecDepth 100000 in
theorem c_Md_forceOn (l : Launch) (dC : Nat → ClassId) (dI : Nat → Nat → Nat) (a : Nat → Nat) (k : Nat → ClassId)  (p_0 : Int32) (p_1 : Int32)  : Met l y_Md_forceOn (.code y_Md_forceOn b_Md_forceOn 4 (some .int) :: TB) ({ frames := 0, cells := 0, slots := 0, locals := 0 }) (va_Pc [.ref (a 0), .int p_0, .int p_1] (PR dC dI (MW a k) (MT k))) (vp_Si (fun r => r = f_Md_forceOn p_0 p_1)) 0 0 (fun _ => False) := by
  refine Met.ofW (cc := b_Md_forceOn) (maxL := 4) (ret := (some .int)) (by decide) rfl ?_
  intro p e s m args below meth c s₁ B hml hv
  obtain ⟨rfl, hP, hK, hN⟩ := hv
  have hx := B.exec
  have hb := B.bytes
  have hr := B.returns
  have hts := atoms_spec (ws := (.code y_Md_forceOn b_Md_forceOn 4 (some .int) :: TB)) B.pre
  have htb := fun w (h : w ∈ TB) => hts w (List.mem_cons_of_mem _ h)
  have hown : s.vm.findClass R_Md = some m.cls := findClass_of_methodNamed B.named
  have hlocks := B.notSynchronized
  have hl := lv_entry ([.ref (a 0), .int p_0, .int p_1]) (n := 4) (Nat.le_of_ble_eq_true rfl)
  rw [lg_entry_eq]
  generalize (lg_sl ([.ref (a 0), .int p_0, .int p_1]) ++ List.replicate (4 - (lg_sl ([.ref (a 0), .int p_0, .int p_1])).length) Slot.unset).toArray = ls at hl ⊢
  have hl : lv_has ls 4 [(0, .ref (a 0)), (1, .int p_0), (2, .int p_1)] := hl
  refine lv_aload_n hx hb d_Md_forceOn_0 rfl (lv_at hl 0 rfl) ?_
  refine va_get (D := (dC, dI)) (ci := 7) (v := .int 0) (C := R_Md) (T := F_Md) (N := 64) hx hb htb i_Md hown hK hP 0 rfl rfl 29 (by decide) (htb (.fieldLink R_Md 275 "WaterMenModel" "orders" "I") tw_341) (fun _ h9 => h9) rfl d_Md_forceOn_1 ?_
  refine lv_iconst (v := 1) hx hb d_Md_forceOn_4 (by decide +kernel) ?_
  refine lv_isub hx hb d_Md_forceOn_5 ?_
  refine hb_ti (-1) (by decide +kernel) ?_
  refine lv_istore_n (lv' := [(3, .int (-1)), (0, .ref (a 0)), (1, .int p_0), (2, .int p_1)]) hx hb d_Md_forceOn_6 rfl hl (by decide) rfl (fun ls hl => ?_)
  refine lv_iload_n hx hb d_Md_forceOn_7 rfl (lv_at hl 0 rfl) ?_
  refine lv_if_lt (tgt := 39) hx hb d_Md_forceOn_8 (by decide) (fun _ => ?_) (fun h => absurd (by decide +kernel) h)
  refine lv_bipush (v := (-2)) hx hb d_Md_forceOn_39 (by decide +kernel) ?_
  exact W.iret (v := (-2)) hx hb hr (fun t ht hW => ⟨(-2), rfl, rfl, ht⟩) t_nil d_Md_forceOn_41
def f_Md_inForce (p_0 : Int32) (p_1 : Int32) : Int32 := if p_0 < 0 then ((-1)) else (if 499 < p_0 then ((-1)) else (if p_1 < 0 then ((-1)) else (if 499 < p_1 then ((-1)) else ((-2)))))
set_option maxHeartbeats 4000000 in
set_option maxRecDepth 100000 in
theorem c_Md_inForce (l : Launch) (dC : Nat → ClassId) (dI : Nat → Nat → Nat) (a : Nat → Nat) (k : Nat → ClassId)  (p_0 : Int32) (p_1 : Int32)  : Met l y_Md_inForce (.code y_Md_inForce b_Md_inForce 3 (some .int) :: TB) ({ frames := 2, cells := 0, slots := 0, locals := 42 }) (va_Pc [.ref (a 0), .int p_0, .int p_1] (PR dC dI (MW a k) (MT k))) (vp_Si (fun r => r = f_Md_inForce p_0 p_1)) 0 0 (fun _ => False) := by
  refine Met.ofW (cc := b_Md_inForce) (maxL := 3) (ret := (some .int)) (by decide) rfl ?_
  intro p e s m args below meth c s₁ B hml hv
  obtain ⟨rfl, hP, hK, hN⟩ := hv
  have hx := B.exec
  have hb := B.bytes
  have hr := B.returns
  have hts := atoms_spec (ws := (.code y_Md_inForce b_Md_inForce 3 (some .int) :: TB)) B.pre
  have htb := fun w (h : w ∈ TB) => hts w (List.mem_cons_of_mem _ h)
  have hown : s.vm.findClass R_Md = some m.cls := findClass_of_methodNamed B.named
  have hlocks := B.notSynchronized
  have hl := lv_entry ([.ref (a 0), .int p_0, .int p_1]) (n := 3) (Nat.le_of_ble_eq_true rfl)
  rw [lg_entry_eq]
  generalize (lg_sl ([.ref (a 0), .int p_0, .int p_1]) ++ List.replicate (3 - (lg_sl ([.ref (a 0), .int p_0, .int p_1])).length) Slot.unset).toArray = ls at hl ⊢
  have hl : lv_has ls 3 [(0, .ref (a 0)), (1, .int p_0), (2, .int p_1)] := hl
  refine lv_iload_n hx hb d_Md_inForce_0 rfl (lv_at hl 1 rfl) ?_
  refine vp_callSi (va_Run.run (va_runS (As := [.int p_0]) (rest := []) ⟨hx, hb, hml, hown, htb⟩ (c_Md_isDay l p_0) (cwS 1 htb (gd_S tw_301 tw_302 tw_296 tw_300) rfl rfl rfl (by decide +kernel) ⟨Nat.le_of_ble_eq_true rfl, Nat.le_of_ble_eq_true rfl⟩) ⟨fun _ _ _ _ h => h, fun U _ _ => ⟨rfl, trivial⟩⟩ rfl rfl hl.1 rfl (lv_room (Nat.le_of_ble_eq_true rfl)) d_Md_inForce_1 ⟨Nat.le_of_ble_eq_true rfl, Nat.le_of_ble_eq_true rfl⟩)) (fun r er => ?_)
  subst er
  by_cases c_1 : p_0 < 0
  · refine hb_ti 0 (by unfold f_Md_isDay; rw [if_pos c_1]) ?_
    refine lv_if_eq (tgt := 23) hx hb d_Md_inForce_4 (by decide) (fun _ => ?_) (fun h => absurd (by decide +kernel) h)
    refine lv_iconst (v := (-1)) hx hb d_Md_inForce_23 (by decide +kernel) ?_
    exact W.iret (v := (-1)) hx hb hr (fun t ht hW => ⟨(-1), rfl, (by unfold f_Md_inForce; rw [if_pos c_1]), ht⟩) t_nil d_Md_inForce_24
  · by_cases c_2 : 499 < p_0
    · refine hb_ti 0 (by unfold f_Md_isDay; rw [if_neg c_1, if_pos c_2]) ?_
      refine lv_if_eq (tgt := 23) hx hb d_Md_inForce_4 (by decide) (fun _ => ?_) (fun h => absurd (by decide +kernel) h)
      refine lv_iconst (v := (-1)) hx hb d_Md_inForce_23 (by decide +kernel) ?_
      exact W.iret (v := (-1)) hx hb hr (fun t ht hW => ⟨(-1), rfl, (by unfold f_Md_inForce; rw [if_neg c_1, if_pos c_2]), ht⟩) t_nil d_Md_inForce_24
    · refine hb_ti 1 (by unfold f_Md_isDay; rw [if_neg c_1, if_neg c_2]) ?_
      refine lv_if_eq (tgt := 23) hx hb d_Md_inForce_4 (by decide) (fun h => absurd h (by decide +kernel)) (fun _ => ?_)
      refine lv_iload_n hx hb d_Md_inForce_7 rfl (lv_at hl 2 rfl) ?_
      refine vp_callSi (va_Run.run (va_runS (As := [.int p_1]) (rest := []) ⟨hx, hb, hml, hown, htb⟩ (c_Md_isDay l p_1) (cwS 1 htb (gd_S tw_301 tw_302 tw_296 tw_300) rfl rfl rfl (by decide +kernel) ⟨Nat.le_of_ble_eq_true rfl, Nat.le_of_ble_eq_true rfl⟩) ⟨fun _ _ _ _ h => h, fun U _ _ => ⟨rfl, trivial⟩⟩ rfl rfl hl.1 rfl (lv_room (Nat.le_of_ble_eq_true rfl)) d_Md_inForce_8 ⟨Nat.le_of_ble_eq_true rfl, Nat.le_of_ble_eq_true rfl⟩)) (fun r er => ?_)
      subst er
      by_cases c_3 : p_1 < 0
      · refine hb_ti 0 (by unfold f_Md_isDay; rw [if_pos c_3]) ?_
        refine lv_if_eq (tgt := 23) hx hb d_Md_inForce_11 (by decide) (fun _ => ?_) (fun h => absurd (by decide +kernel) h)
        refine lv_iconst (v := (-1)) hx hb d_Md_inForce_23 (by decide +kernel) ?_
        exact W.iret (v := (-1)) hx hb hr (fun t ht hW => ⟨(-1), rfl, (by unfold f_Md_inForce; rw [if_neg c_1, if_neg c_2, if_pos c_3]), ht⟩) t_nil d_Md_inForce_24
      · by_cases c_4 : 499 < p_1
        · refine hb_ti 0 (by unfold f_Md_isDay; rw [if_neg c_3, if_pos c_4]) ?_
          refine lv_if_eq (tgt := 23) hx hb d_Md_inForce_11 (by decide) (fun _ => ?_) (fun h => absurd (by decide +kernel) h)
          refine lv_iconst (v := (-1)) hx hb d_Md_inForce_23 (by decide +kernel) ?_
          exact W.iret (v := (-1)) hx hb hr (fun t ht hW => ⟨(-1), rfl, (by unfold f_Md_inForce; rw [if_neg c_1, if_neg c_2, if_neg c_3, if_pos c_4]), ht⟩) t_nil d_Md_inForce_24
        · refine hb_ti 1 (by unfold f_Md_isDay; rw [if_neg c_3, if_neg c_4]) ?_
          refine lv_if_eq (tgt := 23) hx hb d_Md_inForce_11 (by decide) (fun h => absurd h (by decide +kernel)) (fun _ => ?_)
          refine lv_aload_n hx hb d_Md_inForce_14 rfl (lv_at hl 0 rfl) ?_
          refine lv_iload_n hx hb d_Md_inForce_15 rfl (lv_at hl 1 rfl) ?_
          refine lv_iload_n hx hb d_Md_inForce_16 rfl (lv_at hl 2 rfl) ?_
          refine vp_callSi (va_Run.run (va_runV (As := [.int p_0, .int p_1]) (rest := []) ⟨hx, hb, hml, hown, htb⟩ (c_Md_forceOn l dC dI a k p_0 p_1) (cwV 2 htb (gd_V tw_354 tw_355 tw_356 tw_296 tw_353) rfl rfl rfl (by decide +kernel) ⟨Nat.le_of_ble_eq_true rfl, Nat.le_of_ble_eq_true rfl⟩) ⟨pr_blind, va_recv hK hP (ci := 7) (q0 := 0) rfl rfl, pr_pre hP hK hN⟩ rfl rfl hl.1 rfl (lv_room (Nat.le_of_ble_eq_true rfl)) d_Md_inForce_17 ⟨Nat.le_of_ble_eq_true rfl, Nat.le_of_ble_eq_true rfl⟩)) (fun r er => ?_)
          subst er
          refine hb_ti (-2) rfl ?_
          refine lv_goto (tgt := 24) hx hb d_Md_inForce_20 (by decide) ?_
          exact W.iret (v := (-2)) hx hb hr (fun t ht hW => ⟨(-2), rfl, (by unfold f_Md_inForce; rw [if_neg c_1, if_neg c_2, if_neg c_3, if_neg c_4]), ht⟩) t_nil d_Md_inForce_24
def f_Md_fare (p_0 : Int32) (p_1 : Int32) (p_2 : Int32) (p_3 : Int32) (p_4 : Int32) : Int32 := if p_0 < 0 then ((-1)) else ((-1))
set_option maxHeartbeats 4000000 in
set_option maxRecDepth 100000 in
theorem c_Md_fare (l : Launch) (dC : Nat → ClassId) (dI : Nat → Nat → Nat) (a : Nat → Nat) (k : Nat → ClassId)  (p_0 : Int32) (p_1 : Int32) (p_2 : Int32) (p_3 : Int32) (p_4 : Int32)  : Met l y_Md_fare (.code y_Md_fare b_Md_fare 6 (some .int) :: TB) ({ frames := 1, cells := 0, slots := 0, locals := 22 }) (va_Pc [.ref (a 0), .int p_0, .int p_1, .int p_2, .int p_3, .int p_4] (PR dC dI (MW a k) (MT k))) (vp_Si (fun r => r = f_Md_fare p_0 p_1 p_2 p_3 p_4)) 0 0 (fun _ => False) := by
  refine Met.ofW (cc := b_Md_fare) (maxL := 6) (ret := (some .int)) (by decide) rfl ?_
  intro p e s m args below meth c s₁ B hml hv
  obtain ⟨rfl, hP, hK, hN⟩ := hv
  have hx := B.exec
  have hb := B.bytes
  have hr := B.returns
  have hts := atoms_spec (ws := (.code y_Md_fare b_Md_fare 6 (some .int) :: TB)) B.pre
  have htb := fun w (h : w ∈ TB) => hts w (List.mem_cons_of_mem _ h)
  have hown : s.vm.findClass R_Md = some m.cls := findClass_of_methodNamed B.named
  have hlocks := B.notSynchronized
  have hl := lv_entry ([.ref (a 0), .int p_0, .int p_1, .int p_2, .int p_3, .int p_4]) (n := 6) (Nat.le_of_ble_eq_true rfl)
  rw [lg_entry_eq]
  generalize (lg_sl ([.ref (a 0), .int p_0, .int p_1, .int p_2, .int p_3, .int p_4]) ++ List.replicate (6 - (lg_sl ([.ref (a 0), .int p_0, .int p_1, .int p_2, .int p_3, .int p_4])).length) Slot.unset).toArray = ls at hl ⊢
  have hl : lv_has ls 6 [(0, .ref (a 0)), (1, .int p_0), (2, .int p_1), (3, .int p_2), (4, .int p_3), (5, .int p_4)] := hl
  refine lv_iload_n hx hb d_Md_fare_0 rfl (lv_at hl 1 rfl) ?_
  refine lv_iconst (v := 0) hx hb d_Md_fare_1 (by decide +kernel) ?_
  refine lv_aload_n hx hb d_Md_fare_2 rfl (lv_at hl 0 rfl) ?_
  refine va_get (D := (dC, dI)) (ci := 7) (v := .int 0) (C := R_Md) (T := F_Md) (N := 64) hx hb htb i_Md hown hK hP 0 rfl rfl 29 (by decide) (htb (.fieldLink R_Md 275 "WaterMenModel" "orders" "I") tw_341) (fun _ h9 => h9) rfl d_Md_fare_3 ?_
  refine lv_iconst (v := 1) hx hb d_Md_fare_6 (by decide +kernel) ?_
  refine lv_isub hx hb d_Md_fare_7 ?_
  refine hb_ti (-1) (by decide +kernel) ?_
  refine vp_callSi (va_Run.run (va_runS (As := [.int p_0, .int 0, .int (-1)]) (rest := []) ⟨hx, hb, hml, hown, htb⟩ (c_Md_in l p_0 0 (-1)) (cwS 3 htb (gd_S tw_297 tw_298 tw_296 tw_295) rfl rfl rfl (by decide +kernel) ⟨Nat.le_of_ble_eq_true rfl, Nat.le_of_ble_eq_true rfl⟩) ⟨fun _ _ _ _ h => h, fun U _ _ => ⟨rfl, trivial⟩⟩ rfl rfl hl.1 rfl (lv_room (Nat.le_of_ble_eq_true rfl)) d_Md_fare_8 ⟨Nat.le_of_ble_eq_true rfl, Nat.le_of_ble_eq_true rfl⟩)) (fun r er => ?_)
  subst er
  by_cases c_1 : p_0 < 0
  · refine hb_ti 0 (by unfold f_Md_in; rw [if_pos c_1]) ?_
    refine lv_if_eq (tgt := 57) hx hb d_Md_fare_11 (by decide) (fun _ => ?_) (fun h => absurd (by decide +kernel) h)
    refine lv_iconst (v := (-1)) hx hb d_Md_fare_57 (by decide +kernel) ?_
    exact W.iret (v := (-1)) hx hb hr (fun t ht hW => ⟨(-1), rfl, (by unfold f_Md_fare; rw [if_pos c_1]), ht⟩) t_nil d_Md_fare_58
  · refine hb_ti 0 (by unfold f_Md_in; rw [if_neg c_1, if_pos (show (-1) < p_0 from by have e0 := c_1; rw [Int32.lt_iff_toInt_lt] at e0; have z0 : ((-1) : Int32).toInt = -1 := (by decide +kernel); have z1 : (0 : Int32).toInt = 0 := (by decide +kernel); rw [Int32.lt_iff_toInt_lt]; omega)]) ?_
    refine lv_if_eq (tgt := 57) hx hb d_Md_fare_11 (by decide) (fun _ => ?_) (fun h => absurd (by decide +kernel) h)
    refine lv_iconst (v := (-1)) hx hb d_Md_fare_57 (by decide +kernel) ?_
    exact W.iret (v := (-1)) hx hb hr (fun t ht hW => ⟨(-1), rfl, (by unfold f_Md_fare; rw [if_neg c_1]), ht⟩) t_nil d_Md_fare_58
def f_Md_isAsked (p_0 : Int32) (p_1 : Int32) (p_2 : Int32) : Int32 := if p_0 < 0 then (0) else (0)
set_option maxHeartbeats 4000000 in
set_option maxRecDepth 100000 in
theorem c_Md_isAsked (l : Launch) (dC : Nat → ClassId) (dI : Nat → Nat → Nat) (a : Nat → Nat) (k : Nat → ClassId)  (p_0 : Int32) (p_1 : Int32) (p_2 : Int32)  : Met l y_Md_isAsked (.code y_Md_isAsked b_Md_isAsked 4 (some .boolean) :: TB) ({ frames := 2, cells := 0, slots := 0, locals := 43 }) (va_Pc [.ref (a 0), .int p_0, .int p_1, .int p_2] (PR dC dI (MW a k) (MT k))) (vp_Si (fun r => r = f_Md_isAsked p_0 p_1 p_2)) 0 0 (fun _ => False) := by
  refine Met.ofW (cc := b_Md_isAsked) (maxL := 4) (ret := (some .boolean)) (by decide) rfl ?_
  intro p e s m args below meth c s₁ B hml hv
  obtain ⟨rfl, hP, hK, hN⟩ := hv
  have hx := B.exec
  have hb := B.bytes
  have hr := B.returns
  have hts := atoms_spec (ws := (.code y_Md_isAsked b_Md_isAsked 4 (some .boolean) :: TB)) B.pre
  have htb := fun w (h : w ∈ TB) => hts w (List.mem_cons_of_mem _ h)
  have hown : s.vm.findClass R_Md = some m.cls := findClass_of_methodNamed B.named
  have hlocks := B.notSynchronized
  have hl := lv_entry ([.ref (a 0), .int p_0, .int p_1, .int p_2]) (n := 4) (Nat.le_of_ble_eq_true rfl)
  rw [lg_entry_eq]
  generalize (lg_sl ([.ref (a 0), .int p_0, .int p_1, .int p_2]) ++ List.replicate (4 - (lg_sl ([.ref (a 0), .int p_0, .int p_1, .int p_2])).length) Slot.unset).toArray = ls at hl ⊢
  have hl : lv_has ls 4 [(0, .ref (a 0)), (1, .int p_0), (2, .int p_1), (3, .int p_2)] := hl
  refine lv_aload_n hx hb d_Md_isAsked_0 rfl (lv_at hl 0 rfl) ?_
  refine lv_iload_n hx hb d_Md_isAsked_1 rfl (lv_at hl 1 rfl) ?_
  refine vp_callSi (va_Run.run (va_runV (As := [.int p_0]) (rest := []) ⟨hx, hb, hml, hown, htb⟩ (c_Md_isBoat l dC dI a k p_0) (cwV 1 htb (gd_V tw_333 tw_334 tw_335 tw_296 tw_332) rfl rfl rfl (by decide +kernel) ⟨Nat.le_of_ble_eq_true rfl, Nat.le_of_ble_eq_true rfl⟩) ⟨pr_blind, va_recv hK hP (ci := 7) (q0 := 0) rfl rfl, pr_pre hP hK hN⟩ rfl rfl hl.1 rfl (lv_room (Nat.le_of_ble_eq_true rfl)) d_Md_isAsked_2 ⟨Nat.le_of_ble_eq_true rfl, Nat.le_of_ble_eq_true rfl⟩)) (fun r er => ?_)
  subst er
  by_cases c_1 : p_0 < 0
  · refine hb_ti 0 (by unfold f_Md_isBoat; rw [if_pos c_1]) ?_
    refine lv_if_eq (tgt := 46) hx hb d_Md_isAsked_5 (by decide) (fun _ => ?_) (fun h => absurd (by decide +kernel) h)
    refine lv_iconst (v := 0) hx hb d_Md_isAsked_46 (by decide +kernel) ?_
    exact W.zret (v := 0) hx hb hr (by decide +kernel) (fun t ht hW => ⟨0, rfl, (by unfold f_Md_isAsked; rw [if_pos c_1]), ht⟩) t_nil d_Md_isAsked_47
  · refine hb_ti 0 (by unfold f_Md_isBoat; rw [if_neg c_1]) ?_
    refine lv_if_eq (tgt := 46) hx hb d_Md_isAsked_5 (by decide) (fun _ => ?_) (fun h => absurd (by decide +kernel) h)
    refine lv_iconst (v := 0) hx hb d_Md_isAsked_46 (by decide +kernel) ?_
    exact W.zret (v := 0) hx hb hr (by decide +kernel) (fun t ht hW => ⟨0, rfl, (by unfold f_Md_isAsked; rw [if_neg c_1]), ht⟩) t_nil d_Md_isAsked_47
def f_Md_why (p_0 : Int32) (p_1 : Int32) (p_2 : Int32) : Int32 := if p_0 < 0 then ((-1)) else ((-1))
set_option maxHeartbeats 4000000 in
set_option maxRecDepth 100000 in
theorem c_Md_why (l : Launch) (dC : Nat → ClassId) (dI : Nat → Nat → Nat) (a : Nat → Nat) (k : Nat → ClassId)  (p_0 : Int32) (p_1 : Int32) (p_2 : Int32)  : Met l y_Md_why (.code y_Md_why b_Md_why 4 (some .int) :: TB) ({ frames := 3, cells := 0, slots := 0, locals := 66 }) (va_Pc [.ref (a 0), .int p_0, .int p_1, .int p_2] (PR dC dI (MW a k) (MT k))) (vp_Si (fun r => r = f_Md_why p_0 p_1 p_2)) 0 0 (fun _ => False) := by
  refine Met.ofW (cc := b_Md_why) (maxL := 4) (ret := (some .int)) (by decide) rfl ?_
  intro p e s m args below meth c s₁ B hml hv
  obtain ⟨rfl, hP, hK, hN⟩ := hv
  have hx := B.exec
  have hb := B.bytes
  have hr := B.returns
  have hts := atoms_spec (ws := (.code y_Md_why b_Md_why 4 (some .int) :: TB)) B.pre
  have htb := fun w (h : w ∈ TB) => hts w (List.mem_cons_of_mem _ h)
  have hown : s.vm.findClass R_Md = some m.cls := findClass_of_methodNamed B.named
  have hlocks := B.notSynchronized
  have hl := lv_entry ([.ref (a 0), .int p_0, .int p_1, .int p_2]) (n := 4) (Nat.le_of_ble_eq_true rfl)
  rw [lg_entry_eq]
  generalize (lg_sl ([.ref (a 0), .int p_0, .int p_1, .int p_2]) ++ List.replicate (4 - (lg_sl ([.ref (a 0), .int p_0, .int p_1, .int p_2])).length) Slot.unset).toArray = ls at hl ⊢
  have hl : lv_has ls 4 [(0, .ref (a 0)), (1, .int p_0), (2, .int p_1), (3, .int p_2)] := hl
  refine lv_aload_n hx hb d_Md_why_0 rfl (lv_at hl 0 rfl) ?_
  refine lv_iload_n hx hb d_Md_why_1 rfl (lv_at hl 1 rfl) ?_
  refine lv_iload_n hx hb d_Md_why_2 rfl (lv_at hl 2 rfl) ?_
  refine lv_iload_n hx hb d_Md_why_3 rfl (lv_at hl 3 rfl) ?_
  refine vp_callSi (va_Run.run (va_runV (As := [.int p_0, .int p_1, .int p_2]) (rest := []) ⟨hx, hb, hml, hown, htb⟩ (c_Md_isAsked l dC dI a k p_0 p_1 p_2) (cwV 3 htb (gd_V tw_358 tw_359 tw_360 tw_296 tw_357) rfl rfl rfl (by decide +kernel) ⟨Nat.le_of_ble_eq_true rfl, Nat.le_of_ble_eq_true rfl⟩) ⟨pr_blind, va_recv hK hP (ci := 7) (q0 := 0) rfl rfl, pr_pre hP hK hN⟩ rfl rfl hl.1 rfl (lv_room (Nat.le_of_ble_eq_true rfl)) d_Md_why_4 ⟨Nat.le_of_ble_eq_true rfl, Nat.le_of_ble_eq_true rfl⟩)) (fun r er => ?_)
  subst er
  by_cases c_1 : p_0 < 0
  · refine hb_ti 0 (by unfold f_Md_isAsked; rw [if_pos c_1]) ?_
    refine lv_if_eq (tgt := 20) hx hb d_Md_why_7 (by decide) (fun _ => ?_) (fun h => absurd (by decide +kernel) h)
    refine lv_iconst (v := (-1)) hx hb d_Md_why_20 (by decide +kernel) ?_
    exact W.iret (v := (-1)) hx hb hr (fun t ht hW => ⟨(-1), rfl, (by unfold f_Md_why; rw [if_pos c_1]), ht⟩) t_nil d_Md_why_21
  · refine hb_ti 0 (by unfold f_Md_isAsked; rw [if_neg c_1]) ?_
    refine lv_if_eq (tgt := 20) hx hb d_Md_why_7 (by decide) (fun _ => ?_) (fun h => absurd (by decide +kernel) h)
    refine lv_iconst (v := (-1)) hx hb d_Md_why_20 (by decide +kernel) ?_
    exact W.iret (v := (-1)) hx hb hr (fun t ht hW => ⟨(-1), rfl, (by unfold f_Md_why; rw [if_neg c_1]), ht⟩) t_nil d_Md_why_21
def f_Md_row (p_0 : Int32) (p_1 : Int32) (p_2 : Int32) (p_3 : Int32) : Int32 := if p_0 < 0 then ((-1)) else ((-1))
set_option maxHeartbeats 4000000 in
set_option maxRecDepth 100000 in
theorem c_Md_row (l : Launch) (dC : Nat → ClassId) (dI : Nat → Nat → Nat) (a : Nat → Nat) (k : Nat → ClassId)  (p_0 : Int32) (p_1 : Int32) (p_2 : Int32) (p_3 : Int32)  : Met l y_Md_row (.code y_Md_row b_Md_row 7 (some .int) :: TB) ({ frames := 3, cells := 0, slots := 0, locals := 66 }) (va_Pc [.ref (a 0), .int p_0, .int p_1, .int p_2, .int p_3] (PR dC dI (MW a k) (MT k))) (vp_Si (fun r => r = f_Md_row p_0 p_1 p_2 p_3)) 0 0 (fun _ => False) := by
  refine Met.ofW (cc := b_Md_row) (maxL := 7) (ret := (some .int)) (by decide) rfl ?_
  intro p e s m args below meth c s₁ B hml hv
  obtain ⟨rfl, hP, hK, hN⟩ := hv
  have hx := B.exec
  have hb := B.bytes
  have hr := B.returns
  have hts := atoms_spec (ws := (.code y_Md_row b_Md_row 7 (some .int) :: TB)) B.pre
  have htb := fun w (h : w ∈ TB) => hts w (List.mem_cons_of_mem _ h)
  have hown : s.vm.findClass R_Md = some m.cls := findClass_of_methodNamed B.named
  have hlocks := B.notSynchronized
  have hl := lv_entry ([.ref (a 0), .int p_0, .int p_1, .int p_2, .int p_3]) (n := 7) (Nat.le_of_ble_eq_true rfl)
  rw [lg_entry_eq]
  generalize (lg_sl ([.ref (a 0), .int p_0, .int p_1, .int p_2, .int p_3]) ++ List.replicate (7 - (lg_sl ([.ref (a 0), .int p_0, .int p_1, .int p_2, .int p_3])).length) Slot.unset).toArray = ls at hl ⊢
  have hl : lv_has ls 7 [(0, .ref (a 0)), (1, .int p_0), (2, .int p_1), (3, .int p_2), (4, .int p_3)] := hl
  refine lv_aload_n hx hb d_Md_row_0 rfl (lv_at hl 0 rfl) ?_
  refine lv_iload_n hx hb d_Md_row_1 rfl (lv_at hl 1 rfl) ?_
  refine lv_iload_n hx hb d_Md_row_2 rfl (lv_at hl 2 rfl) ?_
  refine lv_iload_n hx hb d_Md_row_3 rfl (lv_at hl 3 rfl) ?_
  refine vp_callSi (va_Run.run (va_runV (As := [.int p_0, .int p_1, .int p_2]) (rest := []) ⟨hx, hb, hml, hown, htb⟩ (c_Md_isAsked l dC dI a k p_0 p_1 p_2) (cwV 3 htb (gd_V tw_358 tw_359 tw_360 tw_296 tw_357) rfl rfl rfl (by decide +kernel) ⟨Nat.le_of_ble_eq_true rfl, Nat.le_of_ble_eq_true rfl⟩) ⟨pr_blind, va_recv hK hP (ci := 7) (q0 := 0) rfl rfl, pr_pre hP hK hN⟩ rfl rfl hl.1 rfl (lv_room (Nat.le_of_ble_eq_true rfl)) d_Md_row_4 ⟨Nat.le_of_ble_eq_true rfl, Nat.le_of_ble_eq_true rfl⟩)) (fun r er => ?_)
  subst er
  by_cases c_1 : p_0 < 0
  · refine hb_ti 0 (by unfold f_Md_isAsked; rw [if_pos c_1]) ?_
    refine lv_if_eq (tgt := 22) hx hb d_Md_row_7 (by decide) (fun _ => ?_) (fun h => absurd (by decide +kernel) h)
    refine lv_iconst (v := (-1)) hx hb d_Md_row_22 (by decide +kernel) ?_
    exact W.iret (v := (-1)) hx hb hr (fun t ht hW => ⟨(-1), rfl, (by unfold f_Md_row; rw [if_pos c_1]), ht⟩) t_nil d_Md_row_23
  · refine hb_ti 0 (by unfold f_Md_isAsked; rw [if_neg c_1]) ?_
    refine lv_if_eq (tgt := 22) hx hb d_Md_row_7 (by decide) (fun _ => ?_) (fun h => absurd (by decide +kernel) h)
    refine lv_iconst (v := (-1)) hx hb d_Md_row_22 (by decide +kernel) ?_
    exact W.iret (v := (-1)) hx hb hr (fun t ht hW => ⟨(-1), rfl, (by unfold f_Md_row; rw [if_neg c_1]), ht⟩) t_nil d_Md_row_23
set_option maxHeartbeats 4000000 in
set_option maxRecDepth 100000 in
theorem c_Md_arrive_c22 (l : Launch) (dC : Nat → ClassId) (dI : Nat → Nat → Nat) (h_0 y_0_3 y_0_5 y_0_6 y_0_7 y_0_8 y_0_9 y_0_10 y_0_11 y_0_12 y_0_13 y_0_14 y_0_16 y_0_17 y_0_19 y_0_20 y_0_22 y_0_23 y_0_24 y_0_25 y_0_26 y_0_27 y_0_30 y_0_31 y_0_32 y_0_33 y_0_34 y_0_35 y_0_36 y_0_37 y_0_38 y_0_39 y_0_40 y_0_41 y_0_48 y_0_49 y_0_50 y_0_51 y_0_52 y_0_53 y_0_54 y_0_55 y_0_61 y_0_62 y_0_63 h_1 h_2 h_3 : Nat) (kk_1 kk_2 kk_3 : ClassId) (sz : Nat)   : Met l y_Md_arrive (.code y_Md_arrive b_Md_arrive 3 none :: TB) ({ frames := 0, cells := 0, slots := 0, locals := 0 }) (va_Pc [.ref h_0] (PC dC dI [(h_0, .inr (7, [.int 0, .int 720, .int 0, .ref y_0_3, .int (-1), .ref y_0_5, .ref y_0_6, .ref y_0_7, .ref y_0_8, .ref y_0_9, .ref y_0_10, .ref y_0_11, .ref y_0_12, .ref y_0_13, .ref y_0_14, .ref h_1, .ref y_0_16, .ref y_0_17, .ref h_2, .ref y_0_19, .ref y_0_20, .int 0, .ref y_0_22, .ref y_0_23, .ref y_0_24, .ref y_0_25, .ref y_0_26, .ref y_0_27, .int 0, .int 0, .ref y_0_30, .ref y_0_31, .ref y_0_32, .ref y_0_33, .ref y_0_34, .ref y_0_35, .ref y_0_36, .ref y_0_37, .ref y_0_38, .ref y_0_39, .ref y_0_40, .ref y_0_41, .int 0, .int 0, .int 0, .int 0, .int 0, .int 0, .ref y_0_48, .ref y_0_49, .ref y_0_50, .ref y_0_51, .ref y_0_52, .ref y_0_53, .ref y_0_54, .ref y_0_55, .long 0, .long 0, .long 0, .ref h_3, .int 0, .ref y_0_61, .ref y_0_62, .ref y_0_63])), (h_1, .inl (kk_1, 40, .inl (fun _ => 0))), (h_2, .inl (kk_2, 40, .inl (fun _ => 0))), (h_3, .inl (kk_3, 500, .inr (.inl (fun _ => 0))))] [(kk_1, .int), (kk_2, .boolean), (kk_3, .long)] sz)) (va_Qv (fun (_ : Unit) => True) (fun (_ : Unit) t => va_P (dC, dI) vwCl [(h_0, .inr (7, [.int 0, .int 720, .int 0, .ref y_0_3, .int (-1), .ref y_0_5, .ref y_0_6, .ref y_0_7, .ref y_0_8, .ref y_0_9, .ref y_0_10, .ref y_0_11, .ref y_0_12, .ref y_0_13, .ref y_0_14, .ref h_1, .ref y_0_16, .ref y_0_17, .ref h_2, .ref y_0_19, .ref y_0_20, .int 0, .ref y_0_22, .ref y_0_23, .ref y_0_24, .ref y_0_25, .ref y_0_26, .ref y_0_27, .int 0, .int 0, .ref y_0_30, .ref y_0_31, .ref y_0_32, .ref y_0_33, .ref y_0_34, .ref y_0_35, .ref y_0_36, .ref y_0_37, .ref y_0_38, .ref y_0_39, .ref y_0_40, .ref y_0_41, .int 0, .int 0, .int 0, .int 0, .int 0, .int 0, .ref y_0_48, .ref y_0_49, .ref y_0_50, .ref y_0_51, .ref y_0_52, .ref y_0_53, .ref y_0_54, .ref y_0_55, .long 0, .long 0, .long 0, .ref h_3, .int 0, .ref y_0_61, .ref y_0_62, .ref y_0_63])), (h_1, .inl (kk_1, 40, .inl (fun _ => 0))), (h_2, .inl (kk_2, 40, .inl (fun _ => 0))), (h_3, .inl (kk_3, 500, .inr (.inl (fun _ => 0))))] t.heap ∧ va_K (dC, dI) vwCl [(kk_1, .int), (kk_2, .boolean), (kk_3, .long)] t ∧ va_D (va_A [(h_0, .inr (7, [.int 0, .int 720, .int 0, .ref y_0_3, .int (-1), .ref y_0_5, .ref y_0_6, .ref y_0_7, .ref y_0_8, .ref y_0_9, .ref y_0_10, .ref y_0_11, .ref y_0_12, .ref y_0_13, .ref y_0_14, .ref h_1, .ref y_0_16, .ref y_0_17, .ref h_2, .ref y_0_19, .ref y_0_20, .int 0, .ref y_0_22, .ref y_0_23, .ref y_0_24, .ref y_0_25, .ref y_0_26, .ref y_0_27, .int 0, .int 0, .ref y_0_30, .ref y_0_31, .ref y_0_32, .ref y_0_33, .ref y_0_34, .ref y_0_35, .ref y_0_36, .ref y_0_37, .ref y_0_38, .ref y_0_39, .ref y_0_40, .ref y_0_41, .int 0, .int 0, .int 0, .int 0, .int 0, .int 0, .ref y_0_48, .ref y_0_49, .ref y_0_50, .ref y_0_51, .ref y_0_52, .ref y_0_53, .ref y_0_54, .ref y_0_55, .long 0, .long 0, .long 0, .ref h_3, .int 0, .ref y_0_61, .ref y_0_62, .ref y_0_63])), (h_1, .inl (kk_1, 40, .inl (fun _ => 0))), (h_2, .inl (kk_2, 40, .inl (fun _ => 0))), (h_3, .inl (kk_3, 500, .inr (.inl (fun _ => 0))))] sz) [(h_0, .inr (7, [.int 0, .int 720, .int 0, .ref y_0_3, .int (-1), .ref y_0_5, .ref y_0_6, .ref y_0_7, .ref y_0_8, .ref y_0_9, .ref y_0_10, .ref y_0_11, .ref y_0_12, .ref y_0_13, .ref y_0_14, .ref h_1, .ref y_0_16, .ref y_0_17, .ref h_2, .ref y_0_19, .ref y_0_20, .int 0, .ref y_0_22, .ref y_0_23, .ref y_0_24, .ref y_0_25, .ref y_0_26, .ref y_0_27, .int 0, .int 0, .ref y_0_30, .ref y_0_31, .ref y_0_32, .ref y_0_33, .ref y_0_34, .ref y_0_35, .ref y_0_36, .ref y_0_37, .ref y_0_38, .ref y_0_39, .ref y_0_40, .ref y_0_41, .int 0, .int 0, .int 0, .int 0, .int 0, .int 0, .ref y_0_48, .ref y_0_49, .ref y_0_50, .ref y_0_51, .ref y_0_52, .ref y_0_53, .ref y_0_54, .ref y_0_55, .long 0, .long 0, .long 0, .ref h_3, .int 0, .ref y_0_61, .ref y_0_62, .ref y_0_63])), (h_1, .inl (kk_1, 40, .inl (fun _ => 0))), (h_2, .inl (kk_2, 40, .inl (fun _ => 0))), (h_3, .inl (kk_3, 500, .inr (.inl (fun _ => 0))))]) (va_A [(h_0, .inr (7, [.int 0, .int 720, .int 0, .ref y_0_3, .int (-1), .ref y_0_5, .ref y_0_6, .ref y_0_7, .ref y_0_8, .ref y_0_9, .ref y_0_10, .ref y_0_11, .ref y_0_12, .ref y_0_13, .ref y_0_14, .ref h_1, .ref y_0_16, .ref y_0_17, .ref h_2, .ref y_0_19, .ref y_0_20, .int 0, .ref y_0_22, .ref y_0_23, .ref y_0_24, .ref y_0_25, .ref y_0_26, .ref y_0_27, .int 0, .int 0, .ref y_0_30, .ref y_0_31, .ref y_0_32, .ref y_0_33, .ref y_0_34, .ref y_0_35, .ref y_0_36, .ref y_0_37, .ref y_0_38, .ref y_0_39, .ref y_0_40, .ref y_0_41, .int 0, .int 0, .int 0, .int 0, .int 0, .int 0, .ref y_0_48, .ref y_0_49, .ref y_0_50, .ref y_0_51, .ref y_0_52, .ref y_0_53, .ref y_0_54, .ref y_0_55, .long 0, .long 0, .long 0, .ref h_3, .int 0, .ref y_0_61, .ref y_0_62, .ref y_0_63])), (h_1, .inl (kk_1, 40, .inl (fun _ => 0))), (h_2, .inl (kk_2, 40, .inl (fun _ => 0))), (h_3, .inl (kk_3, 500, .inr (.inl (fun _ => 0))))] sz)) 0 0 (va_A [(h_0, .inr (7, [.int 0, .int 720, .int 0, .ref y_0_3, .int (-1), .ref y_0_5, .ref y_0_6, .ref y_0_7, .ref y_0_8, .ref y_0_9, .ref y_0_10, .ref y_0_11, .ref y_0_12, .ref y_0_13, .ref y_0_14, .ref h_1, .ref y_0_16, .ref y_0_17, .ref h_2, .ref y_0_19, .ref y_0_20, .int 0, .ref y_0_22, .ref y_0_23, .ref y_0_24, .ref y_0_25, .ref y_0_26, .ref y_0_27, .int 0, .int 0, .ref y_0_30, .ref y_0_31, .ref y_0_32, .ref y_0_33, .ref y_0_34, .ref y_0_35, .ref y_0_36, .ref y_0_37, .ref y_0_38, .ref y_0_39, .ref y_0_40, .ref y_0_41, .int 0, .int 0, .int 0, .int 0, .int 0, .int 0, .ref y_0_48, .ref y_0_49, .ref y_0_50, .ref y_0_51, .ref y_0_52, .ref y_0_53, .ref y_0_54, .ref y_0_55, .long 0, .long 0, .long 0, .ref h_3, .int 0, .ref y_0_61, .ref y_0_62, .ref y_0_63])), (h_1, .inl (kk_1, 40, .inl (fun _ => 0))), (h_2, .inl (kk_2, 40, .inl (fun _ => 0))), (h_3, .inl (kk_3, 500, .inr (.inl (fun _ => 0))))] sz) := by
  refine Met.ofW (cc := b_Md_arrive) (maxL := 3) (ret := none) (by decide) rfl ?_
  intro p e s m args below meth c s₁ B hml hv
  obtain ⟨rfl, hsz, hP, hK, hD0, hN⟩ := hv
  have hx := B.exec
  have hb := B.bytes
  have hr := B.returns
  have hts := atoms_spec (ws := (.code y_Md_arrive b_Md_arrive 3 none :: TB)) B.pre
  have htb := fun w (h : w ∈ TB) => hts w (List.mem_cons_of_mem _ h)
  have hown : s.vm.findClass R_Md = some m.cls := findClass_of_methodNamed B.named
  have hlocks := B.notSynchronized
  have hl := lv_entry ([.ref h_0]) (n := 3) (Nat.le_of_ble_eq_true rfl)
  rw [lg_entry_eq]
  generalize (lg_sl ([.ref h_0]) ++ List.replicate (3 - (lg_sl ([.ref h_0])).length) Slot.unset).toArray = ls at hl ⊢
  have hl : lv_has ls 3 [(0, .ref h_0)] := hl
  subst hsz
  have hD := hD0.self (sz := s.heap.size)
  obtain ⟨A, hAe⟩ : ∃ A, va_A [(h_0, .inr (7, [.int 0, .int 720, .int 0, .ref y_0_3, .int (-1), .ref y_0_5, .ref y_0_6, .ref y_0_7, .ref y_0_8, .ref y_0_9, .ref y_0_10, .ref y_0_11, .ref y_0_12, .ref y_0_13, .ref y_0_14, .ref h_1, .ref y_0_16, .ref y_0_17, .ref h_2, .ref y_0_19, .ref y_0_20, .int 0, .ref y_0_22, .ref y_0_23, .ref y_0_24, .ref y_0_25, .ref y_0_26, .ref y_0_27, .int 0, .int 0, .ref y_0_30, .ref y_0_31, .ref y_0_32, .ref y_0_33, .ref y_0_34, .ref y_0_35, .ref y_0_36, .ref y_0_37, .ref y_0_38, .ref y_0_39, .ref y_0_40, .ref y_0_41, .int 0, .int 0, .int 0, .int 0, .int 0, .int 0, .ref y_0_48, .ref y_0_49, .ref y_0_50, .ref y_0_51, .ref y_0_52, .ref y_0_53, .ref y_0_54, .ref y_0_55, .long 0, .long 0, .long 0, .ref h_3, .int 0, .ref y_0_61, .ref y_0_62, .ref y_0_63])), (h_1, .inl (kk_1, 40, .inl (fun _ => 0))), (h_2, .inl (kk_2, 40, .inl (fun _ => 0))), (h_3, .inl (kk_3, 500, .inr (.inl (fun _ => 0))))] s.heap.size = A := ⟨_, rfl⟩
  rw [hAe] at hD
  have hA : ∀ q : Nat, s.heap.size ≤ q → A q := fun q h => by rw [← hAe]; exact Or.inr h
  have hS : va_S A s.heap s.heap [] := va_S.rf
  have hP := hP
  refine lv_iconst (v := 0) hx hb d_Md_arrive_0 (by decide +kernel) ?_
  refine lv_istore_n (lv' := [(1, .int 0), (0, .ref h_0)]) hx hb d_Md_arrive_1 rfl hl (by decide) rfl (fun ls hl => ?_)
  refine lv_iload_n hx hb d_Md_arrive_2 rfl (lv_at hl 0 rfl) ?_
  refine lv_aload_n hx hb d_Md_arrive_3 rfl (lv_at hl 1 rfl) ?_
  refine va_get (D := (dC, dI)) (ci := 7) (v := .int 0) (C := R_Md) (T := F_Md) (N := 64) hx hb htb i_Md hown hK hP 0 rfl rfl 21 (by decide) (htb (.fieldLink R_Md 206 "WaterMenModel" "boats" "I") tw_331) (fun _ h9 => h9) rfl d_Md_arrive_4 ?_
  refine lv_icmp_ge (tgt := 62) hx hb d_Md_arrive_7 (by decide) (fun _ => ?_) (fun h => absurd (by decide +kernel) h)
  refine W.widen (k := 0) (n := 0) (Nat.le_of_ble_eq_true rfl) (Nat.le_of_ble_eq_true rfl) ?_
  exact W.vret hx hb hr (fun t ht hW => ⟨⟨(), rfl, trivial, by rw [ht]; exact hP, va_K.moved hW.alike hK, by rw [hAe]; exact hD⟩, by rw [hAe]; exact hS.F ht⟩) (by rw [hAe]; exact hS.2.2) d_Md_arrive_62
def f_Md_today_c23  : Int32 := 1
set_option maxHeartbeats 4000000 in
set_option maxRecDepth 100000 in
theorem c_Md_today_c23 (l : Launch) (dC : Nat → ClassId) (dI : Nat → Nat → Nat) (h_0 y_0_3 y_0_5 y_0_6 y_0_7 y_0_8 y_0_9 y_0_10 y_0_11 y_0_12 y_0_13 y_0_14 y_0_16 y_0_17 y_0_19 y_0_20 y_0_22 y_0_23 y_0_24 y_0_25 y_0_26 y_0_27 y_0_30 y_0_31 y_0_32 y_0_33 y_0_34 y_0_35 y_0_36 y_0_37 y_0_38 y_0_39 y_0_40 y_0_41 y_0_48 y_0_49 y_0_50 y_0_51 y_0_52 y_0_53 y_0_54 y_0_55 y_0_61 y_0_62 y_0_63 h_1 h_2 h_3 : Nat) (kk_1 kk_2 kk_3 : ClassId) (sz : Nat)   : Met l y_Md_today (.code y_Md_today b_Md_today 1 (some .int) :: TB) ({ frames := 0, cells := 0, slots := 0, locals := 0 }) (va_Pc [.ref h_0] (PC dC dI [(h_0, .inr (7, [.int 0, .int 720, .int 0, .ref y_0_3, .int (-1), .ref y_0_5, .ref y_0_6, .ref y_0_7, .ref y_0_8, .ref y_0_9, .ref y_0_10, .ref y_0_11, .ref y_0_12, .ref y_0_13, .ref y_0_14, .ref h_1, .ref y_0_16, .ref y_0_17, .ref h_2, .ref y_0_19, .ref y_0_20, .int 0, .ref y_0_22, .ref y_0_23, .ref y_0_24, .ref y_0_25, .ref y_0_26, .ref y_0_27, .int 0, .int 0, .ref y_0_30, .ref y_0_31, .ref y_0_32, .ref y_0_33, .ref y_0_34, .ref y_0_35, .ref y_0_36, .ref y_0_37, .ref y_0_38, .ref y_0_39, .ref y_0_40, .ref y_0_41, .int 0, .int 0, .int 0, .int 0, .int 0, .int 0, .ref y_0_48, .ref y_0_49, .ref y_0_50, .ref y_0_51, .ref y_0_52, .ref y_0_53, .ref y_0_54, .ref y_0_55, .long 0, .long 0, .long 0, .ref h_3, .int 0, .ref y_0_61, .ref y_0_62, .ref y_0_63])), (h_1, .inl (kk_1, 40, .inl (fun _ => 0))), (h_2, .inl (kk_2, 40, .inl (fun _ => 0))), (h_3, .inl (kk_3, 500, .inr (.inl (fun _ => 0))))] [(kk_1, .int), (kk_2, .boolean), (kk_3, .long)] sz)) (va_Qi (fun r (_ : Unit) => r = f_Md_today_c23) (fun (_ : Unit) t => va_P (dC, dI) vwCl [(h_0, .inr (7, [.int 0, .int 720, .int 0, .ref y_0_3, .int (-1), .ref y_0_5, .ref y_0_6, .ref y_0_7, .ref y_0_8, .ref y_0_9, .ref y_0_10, .ref y_0_11, .ref y_0_12, .ref y_0_13, .ref y_0_14, .ref h_1, .ref y_0_16, .ref y_0_17, .ref h_2, .ref y_0_19, .ref y_0_20, .int 0, .ref y_0_22, .ref y_0_23, .ref y_0_24, .ref y_0_25, .ref y_0_26, .ref y_0_27, .int 0, .int 0, .ref y_0_30, .ref y_0_31, .ref y_0_32, .ref y_0_33, .ref y_0_34, .ref y_0_35, .ref y_0_36, .ref y_0_37, .ref y_0_38, .ref y_0_39, .ref y_0_40, .ref y_0_41, .int 0, .int 0, .int 0, .int 0, .int 0, .int 0, .ref y_0_48, .ref y_0_49, .ref y_0_50, .ref y_0_51, .ref y_0_52, .ref y_0_53, .ref y_0_54, .ref y_0_55, .long 0, .long 0, .long 0, .ref h_3, .int 0, .ref y_0_61, .ref y_0_62, .ref y_0_63])), (h_1, .inl (kk_1, 40, .inl (fun _ => 0))), (h_2, .inl (kk_2, 40, .inl (fun _ => 0))), (h_3, .inl (kk_3, 500, .inr (.inl (fun _ => 0))))] t.heap ∧ va_K (dC, dI) vwCl [(kk_1, .int), (kk_2, .boolean), (kk_3, .long)] t ∧ va_D (va_A [(h_0, .inr (7, [.int 0, .int 720, .int 0, .ref y_0_3, .int (-1), .ref y_0_5, .ref y_0_6, .ref y_0_7, .ref y_0_8, .ref y_0_9, .ref y_0_10, .ref y_0_11, .ref y_0_12, .ref y_0_13, .ref y_0_14, .ref h_1, .ref y_0_16, .ref y_0_17, .ref h_2, .ref y_0_19, .ref y_0_20, .int 0, .ref y_0_22, .ref y_0_23, .ref y_0_24, .ref y_0_25, .ref y_0_26, .ref y_0_27, .int 0, .int 0, .ref y_0_30, .ref y_0_31, .ref y_0_32, .ref y_0_33, .ref y_0_34, .ref y_0_35, .ref y_0_36, .ref y_0_37, .ref y_0_38, .ref y_0_39, .ref y_0_40, .ref y_0_41, .int 0, .int 0, .int 0, .int 0, .int 0, .int 0, .ref y_0_48, .ref y_0_49, .ref y_0_50, .ref y_0_51, .ref y_0_52, .ref y_0_53, .ref y_0_54, .ref y_0_55, .long 0, .long 0, .long 0, .ref h_3, .int 0, .ref y_0_61, .ref y_0_62, .ref y_0_63])), (h_1, .inl (kk_1, 40, .inl (fun _ => 0))), (h_2, .inl (kk_2, 40, .inl (fun _ => 0))), (h_3, .inl (kk_3, 500, .inr (.inl (fun _ => 0))))] sz) [(h_0, .inr (7, [.int 0, .int 720, .int 0, .ref y_0_3, .int (-1), .ref y_0_5, .ref y_0_6, .ref y_0_7, .ref y_0_8, .ref y_0_9, .ref y_0_10, .ref y_0_11, .ref y_0_12, .ref y_0_13, .ref y_0_14, .ref h_1, .ref y_0_16, .ref y_0_17, .ref h_2, .ref y_0_19, .ref y_0_20, .int 0, .ref y_0_22, .ref y_0_23, .ref y_0_24, .ref y_0_25, .ref y_0_26, .ref y_0_27, .int 0, .int 0, .ref y_0_30, .ref y_0_31, .ref y_0_32, .ref y_0_33, .ref y_0_34, .ref y_0_35, .ref y_0_36, .ref y_0_37, .ref y_0_38, .ref y_0_39, .ref y_0_40, .ref y_0_41, .int 0, .int 0, .int 0, .int 0, .int 0, .int 0, .ref y_0_48, .ref y_0_49, .ref y_0_50, .ref y_0_51, .ref y_0_52, .ref y_0_53, .ref y_0_54, .ref y_0_55, .long 0, .long 0, .long 0, .ref h_3, .int 0, .ref y_0_61, .ref y_0_62, .ref y_0_63])), (h_1, .inl (kk_1, 40, .inl (fun _ => 0))), (h_2, .inl (kk_2, 40, .inl (fun _ => 0))), (h_3, .inl (kk_3, 500, .inr (.inl (fun _ => 0))))]) (va_A [(h_0, .inr (7, [.int 0, .int 720, .int 0, .ref y_0_3, .int (-1), .ref y_0_5, .ref y_0_6, .ref y_0_7, .ref y_0_8, .ref y_0_9, .ref y_0_10, .ref y_0_11, .ref y_0_12, .ref y_0_13, .ref y_0_14, .ref h_1, .ref y_0_16, .ref y_0_17, .ref h_2, .ref y_0_19, .ref y_0_20, .int 0, .ref y_0_22, .ref y_0_23, .ref y_0_24, .ref y_0_25, .ref y_0_26, .ref y_0_27, .int 0, .int 0, .ref y_0_30, .ref y_0_31, .ref y_0_32, .ref y_0_33, .ref y_0_34, .ref y_0_35, .ref y_0_36, .ref y_0_37, .ref y_0_38, .ref y_0_39, .ref y_0_40, .ref y_0_41, .int 0, .int 0, .int 0, .int 0, .int 0, .int 0, .ref y_0_48, .ref y_0_49, .ref y_0_50, .ref y_0_51, .ref y_0_52, .ref y_0_53, .ref y_0_54, .ref y_0_55, .long 0, .long 0, .long 0, .ref h_3, .int 0, .ref y_0_61, .ref y_0_62, .ref y_0_63])), (h_1, .inl (kk_1, 40, .inl (fun _ => 0))), (h_2, .inl (kk_2, 40, .inl (fun _ => 0))), (h_3, .inl (kk_3, 500, .inr (.inl (fun _ => 0))))] sz)) 0 0 (va_A [(h_0, .inr (7, [.int 0, .int 720, .int 0, .ref y_0_3, .int (-1), .ref y_0_5, .ref y_0_6, .ref y_0_7, .ref y_0_8, .ref y_0_9, .ref y_0_10, .ref y_0_11, .ref y_0_12, .ref y_0_13, .ref y_0_14, .ref h_1, .ref y_0_16, .ref y_0_17, .ref h_2, .ref y_0_19, .ref y_0_20, .int 0, .ref y_0_22, .ref y_0_23, .ref y_0_24, .ref y_0_25, .ref y_0_26, .ref y_0_27, .int 0, .int 0, .ref y_0_30, .ref y_0_31, .ref y_0_32, .ref y_0_33, .ref y_0_34, .ref y_0_35, .ref y_0_36, .ref y_0_37, .ref y_0_38, .ref y_0_39, .ref y_0_40, .ref y_0_41, .int 0, .int 0, .int 0, .int 0, .int 0, .int 0, .ref y_0_48, .ref y_0_49, .ref y_0_50, .ref y_0_51, .ref y_0_52, .ref y_0_53, .ref y_0_54, .ref y_0_55, .long 0, .long 0, .long 0, .ref h_3, .int 0, .ref y_0_61, .ref y_0_62, .ref y_0_63])), (h_1, .inl (kk_1, 40, .inl (fun _ => 0))), (h_2, .inl (kk_2, 40, .inl (fun _ => 0))), (h_3, .inl (kk_3, 500, .inr (.inl (fun _ => 0))))] sz) := by
  refine Met.ofW (cc := b_Md_today) (maxL := 1) (ret := (some .int)) (by decide) rfl ?_
  intro p e s m args below meth c s₁ B hml hv
  obtain ⟨rfl, hsz, hP, hK, hD0, hN⟩ := hv
  have hx := B.exec
  have hb := B.bytes
  have hr := B.returns
  have hts := atoms_spec (ws := (.code y_Md_today b_Md_today 1 (some .int) :: TB)) B.pre
  have htb := fun w (h : w ∈ TB) => hts w (List.mem_cons_of_mem _ h)
  have hown : s.vm.findClass R_Md = some m.cls := findClass_of_methodNamed B.named
  have hlocks := B.notSynchronized
  have hl := lv_entry ([.ref h_0]) (n := 1) (Nat.le_of_ble_eq_true rfl)
  rw [lg_entry_eq]
  generalize (lg_sl ([.ref h_0]) ++ List.replicate (1 - (lg_sl ([.ref h_0])).length) Slot.unset).toArray = ls at hl ⊢
  have hl : lv_has ls 1 [(0, .ref h_0)] := hl
  subst hsz
  have hD := hD0.self (sz := s.heap.size)
  obtain ⟨A, hAe⟩ : ∃ A, va_A [(h_0, .inr (7, [.int 0, .int 720, .int 0, .ref y_0_3, .int (-1), .ref y_0_5, .ref y_0_6, .ref y_0_7, .ref y_0_8, .ref y_0_9, .ref y_0_10, .ref y_0_11, .ref y_0_12, .ref y_0_13, .ref y_0_14, .ref h_1, .ref y_0_16, .ref y_0_17, .ref h_2, .ref y_0_19, .ref y_0_20, .int 0, .ref y_0_22, .ref y_0_23, .ref y_0_24, .ref y_0_25, .ref y_0_26, .ref y_0_27, .int 0, .int 0, .ref y_0_30, .ref y_0_31, .ref y_0_32, .ref y_0_33, .ref y_0_34, .ref y_0_35, .ref y_0_36, .ref y_0_37, .ref y_0_38, .ref y_0_39, .ref y_0_40, .ref y_0_41, .int 0, .int 0, .int 0, .int 0, .int 0, .int 0, .ref y_0_48, .ref y_0_49, .ref y_0_50, .ref y_0_51, .ref y_0_52, .ref y_0_53, .ref y_0_54, .ref y_0_55, .long 0, .long 0, .long 0, .ref h_3, .int 0, .ref y_0_61, .ref y_0_62, .ref y_0_63])), (h_1, .inl (kk_1, 40, .inl (fun _ => 0))), (h_2, .inl (kk_2, 40, .inl (fun _ => 0))), (h_3, .inl (kk_3, 500, .inr (.inl (fun _ => 0))))] s.heap.size = A := ⟨_, rfl⟩
  rw [hAe] at hD
  have hA : ∀ q : Nat, s.heap.size ≤ q → A q := fun q h => by rw [← hAe]; exact Or.inr h
  have hS : va_S A s.heap s.heap [] := va_S.rf
  have hP := hP
  refine lv_aload_n hx hb d_Md_today_0 rfl (lv_at hl 0 rfl) ?_
  refine va_get (D := (dC, dI)) (ci := 7) (v := .int 720) (C := R_Md) (T := F_Md) (N := 64) hx hb htb i_Md hown hK hP 0 rfl rfl 1 (by decide) (htb (.fieldLink R_Md 7 "WaterMenModel" "time" "I") tw_311) (fun _ h9 => h9) rfl d_Md_today_1 ?_
  refine lv_sipush (v := 720) hx hb d_Md_today_4 (by decide +kernel) ?_
  refine lv_idiv hx hb d_Md_today_7 (by decide) ?_
  refine hb_ti 1 (by decide +kernel) ?_
  refine W.widen (k := 0) (n := 0) (Nat.le_of_ble_eq_true rfl) (Nat.le_of_ble_eq_true rfl) ?_
  exact W.iret (v := 1) hx hb hr (fun t ht hW => ⟨⟨1, (), rfl, rfl, by rw [ht]; exact hP, va_K.moved hW.alike hK, by rw [hAe]; exact hD⟩, by rw [hAe]; exact hS.F ht⟩) (by rw [hAe]; exact hS.2.2) d_Md_today_8
set_option maxHeartbeats 4000000 in
set_option maxRecDepth 100000 in
theorem c_Md_part_c24 (l : Launch) (dC : Nat → ClassId) (dI : Nat → Nat → Nat) (h_0 y_0_3 y_0_5 y_0_6 y_0_7 y_0_8 y_0_9 y_0_10 y_0_11 y_0_12 y_0_13 y_0_14 y_0_16 y_0_17 y_0_19 y_0_20 y_0_22 y_0_23 y_0_24 y_0_25 y_0_26 y_0_27 y_0_30 y_0_31 y_0_32 y_0_33 y_0_34 y_0_35 y_0_36 y_0_37 y_0_38 y_0_39 y_0_40 y_0_41 y_0_48 y_0_49 y_0_50 y_0_51 y_0_52 y_0_53 y_0_54 y_0_55 y_0_61 y_0_62 y_0_63 h_1 h_2 h_3 : Nat) (kk_1 kk_2 kk_3 : ClassId) (sz : Nat)   : Met l y_Md_part (.code y_Md_part b_Md_part 6 none :: TB) ({ frames := 0, cells := 0, slots := 0, locals := 0 }) (va_Pc [.ref h_0, .int 0] (PC dC dI [(h_0, .inr (7, [.int 0, .int 720, .int 0, .ref y_0_3, .int (-1), .ref y_0_5, .ref y_0_6, .ref y_0_7, .ref y_0_8, .ref y_0_9, .ref y_0_10, .ref y_0_11, .ref y_0_12, .ref y_0_13, .ref y_0_14, .ref h_1, .ref y_0_16, .ref y_0_17, .ref h_2, .ref y_0_19, .ref y_0_20, .int 0, .ref y_0_22, .ref y_0_23, .ref y_0_24, .ref y_0_25, .ref y_0_26, .ref y_0_27, .int 0, .int 0, .ref y_0_30, .ref y_0_31, .ref y_0_32, .ref y_0_33, .ref y_0_34, .ref y_0_35, .ref y_0_36, .ref y_0_37, .ref y_0_38, .ref y_0_39, .ref y_0_40, .ref y_0_41, .int 0, .int 0, .int 0, .int 0, .int 0, .int 0, .ref y_0_48, .ref y_0_49, .ref y_0_50, .ref y_0_51, .ref y_0_52, .ref y_0_53, .ref y_0_54, .ref y_0_55, .long 0, .long 0, .long 0, .ref h_3, .int 0, .ref y_0_61, .ref y_0_62, .ref y_0_63])), (h_1, .inl (kk_1, 40, .inl (fun _ => 0))), (h_2, .inl (kk_2, 40, .inl (fun _ => 0))), (h_3, .inl (kk_3, 500, .inr (.inl (fun _ => 0))))] [(kk_1, .int), (kk_2, .boolean), (kk_3, .long)] sz)) (va_Qv (fun (_ : Unit) => True) (fun (_ : Unit) t => va_P (dC, dI) vwCl [(h_0, .inr (7, [.int 0, .int 720, .int 0, .ref y_0_3, .int (-1), .ref y_0_5, .ref y_0_6, .ref y_0_7, .ref y_0_8, .ref y_0_9, .ref y_0_10, .ref y_0_11, .ref y_0_12, .ref y_0_13, .ref y_0_14, .ref h_1, .ref y_0_16, .ref y_0_17, .ref h_2, .ref y_0_19, .ref y_0_20, .int 0, .ref y_0_22, .ref y_0_23, .ref y_0_24, .ref y_0_25, .ref y_0_26, .ref y_0_27, .int 0, .int 0, .ref y_0_30, .ref y_0_31, .ref y_0_32, .ref y_0_33, .ref y_0_34, .ref y_0_35, .ref y_0_36, .ref y_0_37, .ref y_0_38, .ref y_0_39, .ref y_0_40, .ref y_0_41, .int 0, .int 0, .int 0, .int 0, .int 0, .int 0, .ref y_0_48, .ref y_0_49, .ref y_0_50, .ref y_0_51, .ref y_0_52, .ref y_0_53, .ref y_0_54, .ref y_0_55, .long 0, .long 0, .long 0, .ref h_3, .int 0, .ref y_0_61, .ref y_0_62, .ref y_0_63])), (h_1, .inl (kk_1, 40, .inl (fun _ => 0))), (h_2, .inl (kk_2, 40, .inl (fun _ => 0))), (h_3, .inl (kk_3, 500, .inr (.inl (fun _ => 0))))] t.heap ∧ va_K (dC, dI) vwCl [(kk_1, .int), (kk_2, .boolean), (kk_3, .long)] t ∧ va_D (va_A [(h_0, .inr (7, [.int 0, .int 720, .int 0, .ref y_0_3, .int (-1), .ref y_0_5, .ref y_0_6, .ref y_0_7, .ref y_0_8, .ref y_0_9, .ref y_0_10, .ref y_0_11, .ref y_0_12, .ref y_0_13, .ref y_0_14, .ref h_1, .ref y_0_16, .ref y_0_17, .ref h_2, .ref y_0_19, .ref y_0_20, .int 0, .ref y_0_22, .ref y_0_23, .ref y_0_24, .ref y_0_25, .ref y_0_26, .ref y_0_27, .int 0, .int 0, .ref y_0_30, .ref y_0_31, .ref y_0_32, .ref y_0_33, .ref y_0_34, .ref y_0_35, .ref y_0_36, .ref y_0_37, .ref y_0_38, .ref y_0_39, .ref y_0_40, .ref y_0_41, .int 0, .int 0, .int 0, .int 0, .int 0, .int 0, .ref y_0_48, .ref y_0_49, .ref y_0_50, .ref y_0_51, .ref y_0_52, .ref y_0_53, .ref y_0_54, .ref y_0_55, .long 0, .long 0, .long 0, .ref h_3, .int 0, .ref y_0_61, .ref y_0_62, .ref y_0_63])), (h_1, .inl (kk_1, 40, .inl (fun _ => 0))), (h_2, .inl (kk_2, 40, .inl (fun _ => 0))), (h_3, .inl (kk_3, 500, .inr (.inl (fun _ => 0))))] sz) [(h_0, .inr (7, [.int 0, .int 720, .int 0, .ref y_0_3, .int (-1), .ref y_0_5, .ref y_0_6, .ref y_0_7, .ref y_0_8, .ref y_0_9, .ref y_0_10, .ref y_0_11, .ref y_0_12, .ref y_0_13, .ref y_0_14, .ref h_1, .ref y_0_16, .ref y_0_17, .ref h_2, .ref y_0_19, .ref y_0_20, .int 0, .ref y_0_22, .ref y_0_23, .ref y_0_24, .ref y_0_25, .ref y_0_26, .ref y_0_27, .int 0, .int 0, .ref y_0_30, .ref y_0_31, .ref y_0_32, .ref y_0_33, .ref y_0_34, .ref y_0_35, .ref y_0_36, .ref y_0_37, .ref y_0_38, .ref y_0_39, .ref y_0_40, .ref y_0_41, .int 0, .int 0, .int 0, .int 0, .int 0, .int 0, .ref y_0_48, .ref y_0_49, .ref y_0_50, .ref y_0_51, .ref y_0_52, .ref y_0_53, .ref y_0_54, .ref y_0_55, .long 0, .long 0, .long 0, .ref h_3, .int 0, .ref y_0_61, .ref y_0_62, .ref y_0_63])), (h_1, .inl (kk_1, 40, .inl (fun _ => 0))), (h_2, .inl (kk_2, 40, .inl (fun _ => 0))), (h_3, .inl (kk_3, 500, .inr (.inl (fun _ => 0))))]) (va_A [(h_0, .inr (7, [.int 0, .int 720, .int 0, .ref y_0_3, .int (-1), .ref y_0_5, .ref y_0_6, .ref y_0_7, .ref y_0_8, .ref y_0_9, .ref y_0_10, .ref y_0_11, .ref y_0_12, .ref y_0_13, .ref y_0_14, .ref h_1, .ref y_0_16, .ref y_0_17, .ref h_2, .ref y_0_19, .ref y_0_20, .int 0, .ref y_0_22, .ref y_0_23, .ref y_0_24, .ref y_0_25, .ref y_0_26, .ref y_0_27, .int 0, .int 0, .ref y_0_30, .ref y_0_31, .ref y_0_32, .ref y_0_33, .ref y_0_34, .ref y_0_35, .ref y_0_36, .ref y_0_37, .ref y_0_38, .ref y_0_39, .ref y_0_40, .ref y_0_41, .int 0, .int 0, .int 0, .int 0, .int 0, .int 0, .ref y_0_48, .ref y_0_49, .ref y_0_50, .ref y_0_51, .ref y_0_52, .ref y_0_53, .ref y_0_54, .ref y_0_55, .long 0, .long 0, .long 0, .ref h_3, .int 0, .ref y_0_61, .ref y_0_62, .ref y_0_63])), (h_1, .inl (kk_1, 40, .inl (fun _ => 0))), (h_2, .inl (kk_2, 40, .inl (fun _ => 0))), (h_3, .inl (kk_3, 500, .inr (.inl (fun _ => 0))))] sz)) 0 0 (va_A [(h_0, .inr (7, [.int 0, .int 720, .int 0, .ref y_0_3, .int (-1), .ref y_0_5, .ref y_0_6, .ref y_0_7, .ref y_0_8, .ref y_0_9, .ref y_0_10, .ref y_0_11, .ref y_0_12, .ref y_0_13, .ref y_0_14, .ref h_1, .ref y_0_16, .ref y_0_17, .ref h_2, .ref y_0_19, .ref y_0_20, .int 0, .ref y_0_22, .ref y_0_23, .ref y_0_24, .ref y_0_25, .ref y_0_26, .ref y_0_27, .int 0, .int 0, .ref y_0_30, .ref y_0_31, .ref y_0_32, .ref y_0_33, .ref y_0_34, .ref y_0_35, .ref y_0_36, .ref y_0_37, .ref y_0_38, .ref y_0_39, .ref y_0_40, .ref y_0_41, .int 0, .int 0, .int 0, .int 0, .int 0, .int 0, .ref y_0_48, .ref y_0_49, .ref y_0_50, .ref y_0_51, .ref y_0_52, .ref y_0_53, .ref y_0_54, .ref y_0_55, .long 0, .long 0, .long 0, .ref h_3, .int 0, .ref y_0_61, .ref y_0_62, .ref y_0_63])), (h_1, .inl (kk_1, 40, .inl (fun _ => 0))), (h_2, .inl (kk_2, 40, .inl (fun _ => 0))), (h_3, .inl (kk_3, 500, .inr (.inl (fun _ => 0))))] sz) := by
  refine Met.ofW (cc := b_Md_part) (maxL := 6) (ret := none) (by decide) rfl ?_
  intro p e s m args below meth c s₁ B hml hv
  obtain ⟨rfl, hsz, hP, hK, hD0, hN⟩ := hv
  have hx := B.exec
  have hb := B.bytes
  have hr := B.returns
  have hts := atoms_spec (ws := (.code y_Md_part b_Md_part 6 none :: TB)) B.pre
  have htb := fun w (h : w ∈ TB) => hts w (List.mem_cons_of_mem _ h)
  have hown : s.vm.findClass R_Md = some m.cls := findClass_of_methodNamed B.named
  have hlocks := B.notSynchronized
  have hl := lv_entry ([.ref h_0, .int 0]) (n := 6) (Nat.le_of_ble_eq_true rfl)
  rw [lg_entry_eq]
  generalize (lg_sl ([.ref h_0, .int 0]) ++ List.replicate (6 - (lg_sl ([.ref h_0, .int 0])).length) Slot.unset).toArray = ls at hl ⊢
  have hl : lv_has ls 6 [(0, .ref h_0), (1, .int 0)] := hl
  subst hsz
  have hD := hD0.self (sz := s.heap.size)
  obtain ⟨A, hAe⟩ : ∃ A, va_A [(h_0, .inr (7, [.int 0, .int 720, .int 0, .ref y_0_3, .int (-1), .ref y_0_5, .ref y_0_6, .ref y_0_7, .ref y_0_8, .ref y_0_9, .ref y_0_10, .ref y_0_11, .ref y_0_12, .ref y_0_13, .ref y_0_14, .ref h_1, .ref y_0_16, .ref y_0_17, .ref h_2, .ref y_0_19, .ref y_0_20, .int 0, .ref y_0_22, .ref y_0_23, .ref y_0_24, .ref y_0_25, .ref y_0_26, .ref y_0_27, .int 0, .int 0, .ref y_0_30, .ref y_0_31, .ref y_0_32, .ref y_0_33, .ref y_0_34, .ref y_0_35, .ref y_0_36, .ref y_0_37, .ref y_0_38, .ref y_0_39, .ref y_0_40, .ref y_0_41, .int 0, .int 0, .int 0, .int 0, .int 0, .int 0, .ref y_0_48, .ref y_0_49, .ref y_0_50, .ref y_0_51, .ref y_0_52, .ref y_0_53, .ref y_0_54, .ref y_0_55, .long 0, .long 0, .long 0, .ref h_3, .int 0, .ref y_0_61, .ref y_0_62, .ref y_0_63])), (h_1, .inl (kk_1, 40, .inl (fun _ => 0))), (h_2, .inl (kk_2, 40, .inl (fun _ => 0))), (h_3, .inl (kk_3, 500, .inr (.inl (fun _ => 0))))] s.heap.size = A := ⟨_, rfl⟩
  rw [hAe] at hD
  have hA : ∀ q : Nat, s.heap.size ≤ q → A q := fun q h => by rw [← hAe]; exact Or.inr h
  have hS : va_S A s.heap s.heap [] := va_S.rf
  have hP := hP
  refine lv_iconst (v := 0) hx hb d_Md_part_0 (by decide +kernel) ?_
  refine lv_istore_n (lv' := [(2, .int 0), (0, .ref h_0), (1, .int 0)]) hx hb d_Md_part_1 rfl hl (by decide) rfl (fun ls hl => ?_)
  refine lv_iconst (v := 0) hx hb d_Md_part_2 (by decide +kernel) ?_
  refine lv_istore_n (lv' := [(3, .int 0), (2, .int 0), (0, .ref h_0), (1, .int 0)]) hx hb d_Md_part_3 rfl hl (by decide) rfl (fun ls hl => ?_)
  refine lv_iload_n hx hb d_Md_part_4 rfl (lv_at hl 0 rfl) ?_
  refine lv_bipush (v := 40) hx hb d_Md_part_5 (by decide +kernel) ?_
  refine lv_icmp_ge (tgt := 33) hx hb d_Md_part_7 (by decide) (fun h => absurd h (by decide +kernel)) (fun _ => ?_)
  refine lv_iload_n hx hb d_Md_part_10 rfl (lv_at hl 1 rfl) ?_
  refine lv_aload_n hx hb d_Md_part_11 rfl (lv_at hl 2 rfl) ?_
  refine va_get (D := (dC, dI)) (ci := 7) (v := .ref h_2) (C := R_Md) (T := F_Md) (N := 64) hx hb htb i_Md hown hK hP 0 rfl rfl 18 (by decide) (htb (.fieldLink R_Md 85 "WaterMenModel" "shares" "[Z") tw_20) (fun _ h9 => h9) rfl d_Md_part_12 ?_
  refine lv_iload_n hx hb d_Md_part_15 rfl (lv_at hl 0 rfl) ?_
  refine va_zald hx hb hK hP 2 1 rfl rfl (by unfold vp_in; decide +kernel) d_Md_part_16 ?_
  refine hb_ti 0 rfl ?_
  refine lv_if_eq (tgt := 24) hx hb d_Md_part_17 (by decide) (fun _ => ?_) (fun h => absurd (by decide +kernel) h)
  refine lv_iconst (v := 0) hx hb d_Md_part_24 (by decide +kernel) ?_
  refine lv_iadd hx hb d_Md_part_25 ?_
  refine hb_ti 0 (by decide +kernel) ?_
  refine lv_istore_n (lv' := [(2, .int 0), (3, .int 0), (0, .ref h_0), (1, .int 0)]) hx hb d_Md_part_26 rfl hl (by decide) rfl (fun ls hl => ?_)
  refine lv_iinc (v := 1) (lv' := [(3, .int 1), (2, .int 0), (0, .ref h_0), (1, .int 0)]) hx hb d_Md_part_27 hl (k := 1) rfl (by decide +kernel) (by decide) rfl (fun ls hl => ?_)
  refine lv_goto (tgt := 4) hx hb d_Md_part_30 (by decide) ?_
  refine lv_iload_n hx hb d_Md_part_4 rfl (lv_at hl 0 rfl) ?_
  refine lv_bipush (v := 40) hx hb d_Md_part_5 (by decide +kernel) ?_
  refine lv_icmp_ge (tgt := 33) hx hb d_Md_part_7 (by decide) (fun h => absurd h (by decide +kernel)) (fun _ => ?_)
  refine lv_iload_n hx hb d_Md_part_10 rfl (lv_at hl 1 rfl) ?_
  refine lv_aload_n hx hb d_Md_part_11 rfl (lv_at hl 2 rfl) ?_
  refine va_get (D := (dC, dI)) (ci := 7) (v := .ref h_2) (C := R_Md) (T := F_Md) (N := 64) hx hb htb i_Md hown hK hP 0 rfl rfl 18 (by decide) (htb (.fieldLink R_Md 85 "WaterMenModel" "shares" "[Z") tw_20) (fun _ h9 => h9) rfl d_Md_part_12 ?_
  refine lv_iload_n hx hb d_Md_part_15 rfl (lv_at hl 0 rfl) ?_
  refine va_zald hx hb hK hP 2 1 rfl rfl (by unfold vp_in; decide +kernel) d_Md_part_16 ?_
  refine hb_ti 0 rfl ?_
  refine lv_if_eq (tgt := 24) hx hb d_Md_part_17 (by decide) (fun _ => ?_) (fun h => absurd (by decide +kernel) h)
  refine lv_iconst (v := 0) hx hb d_Md_part_24 (by decide +kernel) ?_
  refine lv_iadd hx hb d_Md_part_25 ?_
  refine hb_ti 0 (by decide +kernel) ?_
  refine lv_istore_n (lv' := [(2, .int 0), (3, .int 1), (0, .ref h_0), (1, .int 0)]) hx hb d_Md_part_26 rfl hl (by decide) rfl (fun ls hl => ?_)
  refine lv_iinc (v := 2) (lv' := [(3, .int 2), (2, .int 0), (0, .ref h_0), (1, .int 0)]) hx hb d_Md_part_27 hl (k := 1) rfl (by decide +kernel) (by decide) rfl (fun ls hl => ?_)
  refine lv_goto (tgt := 4) hx hb d_Md_part_30 (by decide) ?_
  refine lv_iload_n hx hb d_Md_part_4 rfl (lv_at hl 0 rfl) ?_
  refine lv_bipush (v := 40) hx hb d_Md_part_5 (by decide +kernel) ?_
  refine lv_icmp_ge (tgt := 33) hx hb d_Md_part_7 (by decide) (fun h => absurd h (by decide +kernel)) (fun _ => ?_)
  refine lv_iload_n hx hb d_Md_part_10 rfl (lv_at hl 1 rfl) ?_
  refine lv_aload_n hx hb d_Md_part_11 rfl (lv_at hl 2 rfl) ?_
  refine va_get (D := (dC, dI)) (ci := 7) (v := .ref h_2) (C := R_Md) (T := F_Md) (N := 64) hx hb htb i_Md hown hK hP 0 rfl rfl 18 (by decide) (htb (.fieldLink R_Md 85 "WaterMenModel" "shares" "[Z") tw_20) (fun _ h9 => h9) rfl d_Md_part_12 ?_
  refine lv_iload_n hx hb d_Md_part_15 rfl (lv_at hl 0 rfl) ?_
  refine va_zald hx hb hK hP 2 1 rfl rfl (by unfold vp_in; decide +kernel) d_Md_part_16 ?_
  refine hb_ti 0 rfl ?_
  refine lv_if_eq (tgt := 24) hx hb d_Md_part_17 (by decide) (fun _ => ?_) (fun h => absurd (by decide +kernel) h)
  refine lv_iconst (v := 0) hx hb d_Md_part_24 (by decide +kernel) ?_
  refine lv_iadd hx hb d_Md_part_25 ?_
  refine hb_ti 0 (by decide +kernel) ?_
  refine lv_istore_n (lv' := [(2, .int 0), (3, .int 2), (0, .ref h_0), (1, .int 0)]) hx hb d_Md_part_26 rfl hl (by decide) rfl (fun ls hl => ?_)
  refine lv_iinc (v := 3) (lv' := [(3, .int 3), (2, .int 0), (0, .ref h_0), (1, .int 0)]) hx hb d_Md_part_27 hl (k := 1) rfl (by decide +kernel) (by decide) rfl (fun ls hl => ?_)
  refine lv_goto (tgt := 4) hx hb d_Md_part_30 (by decide) ?_
  refine lv_iload_n hx hb d_Md_part_4 rfl (lv_at hl 0 rfl) ?_
  refine lv_bipush (v := 40) hx hb d_Md_part_5 (by decide +kernel) ?_
  refine lv_icmp_ge (tgt := 33) hx hb d_Md_part_7 (by decide) (fun h => absurd h (by decide +kernel)) (fun _ => ?_)
  refine lv_iload_n hx hb d_Md_part_10 rfl (lv_at hl 1 rfl) ?_
  refine lv_aload_n hx hb d_Md_part_11 rfl (lv_at hl 2 rfl) ?_
  refine va_get (D := (dC, dI)) (ci := 7) (v := .ref h_2) (C := R_Md) (T := F_Md) (N := 64) hx hb htb i_Md hown hK hP 0 rfl rfl 18 (by decide) (htb (.fieldLink R_Md 85 "WaterMenModel" "shares" "[Z") tw_20) (fun _ h9 => h9) rfl d_Md_part_12 ?_
  refine lv_iload_n hx hb d_Md_part_15 rfl (lv_at hl 0 rfl) ?_
  refine va_zald hx hb hK hP 2 1 rfl rfl (by unfold vp_in; decide +kernel) d_Md_part_16 ?_
  refine hb_ti 0 rfl ?_
  refine lv_if_eq (tgt := 24) hx hb d_Md_part_17 (by decide) (fun _ => ?_) (fun h => absurd (by decide +kernel) h)
  refine lv_iconst (v := 0) hx hb d_Md_part_24 (by decide +kernel) ?_
  refine lv_iadd hx hb d_Md_part_25 ?_
  refine hb_ti 0 (by decide +kernel) ?_
  refine lv_istore_n (lv' := [(2, .int 0), (3, .int 3), (0, .ref h_0), (1, .int 0)]) hx hb d_Md_part_26 rfl hl (by decide) rfl (fun ls hl => ?_)
  refine lv_iinc (v := 4) (lv' := [(3, .int 4), (2, .int 0), (0, .ref h_0), (1, .int 0)]) hx hb d_Md_part_27 hl (k := 1) rfl (by decide +kernel) (by decide) rfl (fun ls hl => ?_)
  refine lv_goto (tgt := 4) hx hb d_Md_part_30 (by decide) ?_
  refine lv_iload_n hx hb d_Md_part_4 rfl (lv_at hl 0 rfl) ?_
  refine lv_bipush (v := 40) hx hb d_Md_part_5 (by decide +kernel) ?_
  refine lv_icmp_ge (tgt := 33) hx hb d_Md_part_7 (by decide) (fun h => absurd h (by decide +kernel)) (fun _ => ?_)
  refine lv_iload_n hx hb d_Md_part_10 rfl (lv_at hl 1 rfl) ?_
  refine lv_aload_n hx hb d_Md_part_11 rfl (lv_at hl 2 rfl) ?_
  refine va_get (D := (dC, dI)) (ci := 7) (v := .ref h_2) (C := R_Md) (T := F_Md) (N := 64) hx hb htb i_Md hown hK hP 0 rfl rfl 18 (by decide) (htb (.fieldLink R_Md 85 "WaterMenModel" "shares" "[Z") tw_20) (fun _ h9 => h9) rfl d_Md_part_12 ?_
  refine lv_iload_n hx hb d_Md_part_15 rfl (lv_at hl 0 rfl) ?_
  refine va_zald hx hb hK hP 2 1 rfl rfl (by unfold vp_in; decide +kernel) d_Md_part_16 ?_
  refine hb_ti 0 rfl ?_
  refine lv_if_eq (tgt := 24) hx hb d_Md_part_17 (by decide) (fun _ => ?_) (fun h => absurd (by decide +kernel) h)
  refine lv_iconst (v := 0) hx hb d_Md_part_24 (by decide +kernel) ?_
  refine lv_iadd hx hb d_Md_part_25 ?_
  refine hb_ti 0 (by decide +kernel) ?_
  refine lv_istore_n (lv' := [(2, .int 0), (3, .int 4), (0, .ref h_0), (1, .int 0)]) hx hb d_Md_part_26 rfl hl (by decide) rfl (fun ls hl => ?_)
  refine lv_iinc (v := 5) (lv' := [(3, .int 5), (2, .int 0), (0, .ref h_0), (1, .int 0)]) hx hb d_Md_part_27 hl (k := 1) rfl (by decide +kernel) (by decide) rfl (fun ls hl => ?_)
  refine lv_goto (tgt := 4) hx hb d_Md_part_30 (by decide) ?_
  refine lv_iload_n hx hb d_Md_part_4 rfl (lv_at hl 0 rfl) ?_
  refine lv_bipush (v := 40) hx hb d_Md_part_5 (by decide +kernel) ?_
  refine lv_icmp_ge (tgt := 33) hx hb d_Md_part_7 (by decide) (fun h => absurd h (by decide +kernel)) (fun _ => ?_)
  refine lv_iload_n hx hb d_Md_part_10 rfl (lv_at hl 1 rfl) ?_
  refine lv_aload_n hx hb d_Md_part_11 rfl (lv_at hl 2 rfl) ?_
  refine va_get (D := (dC, dI)) (ci := 7) (v := .ref h_2) (C := R_Md) (T := F_Md) (N := 64) hx hb htb i_Md hown hK hP 0 rfl rfl 18 (by decide) (htb (.fieldLink R_Md 85 "WaterMenModel" "shares" "[Z") tw_20) (fun _ h9 => h9) rfl d_Md_part_12 ?_
  refine lv_iload_n hx hb d_Md_part_15 rfl (lv_at hl 0 rfl) ?_
  refine va_zald hx hb hK hP 2 1 rfl rfl (by unfold vp_in; decide +kernel) d_Md_part_16 ?_
  refine hb_ti 0 rfl ?_
  refine lv_if_eq (tgt := 24) hx hb d_Md_part_17 (by decide) (fun _ => ?_) (fun h => absurd (by decide +kernel) h)
  refine lv_iconst (v := 0) hx hb d_Md_part_24 (by decide +kernel) ?_
  refine lv_iadd hx hb d_Md_part_25 ?_
  refine hb_ti 0 (by decide +kernel) ?_
  refine lv_istore_n (lv' := [(2, .int 0), (3, .int 5), (0, .ref h_0), (1, .int 0)]) hx hb d_Md_part_26 rfl hl (by decide) rfl (fun ls hl => ?_)
  refine lv_iinc (v := 6) (lv' := [(3, .int 6), (2, .int 0), (0, .ref h_0), (1, .int 0)]) hx hb d_Md_part_27 hl (k := 1) rfl (by decide +kernel) (by decide) rfl (fun ls hl => ?_)
  refine lv_goto (tgt := 4) hx hb d_Md_part_30 (by decide) ?_
  refine lv_iload_n hx hb d_Md_part_4 rfl (lv_at hl 0 rfl) ?_
  refine lv_bipush (v := 40) hx hb d_Md_part_5 (by decide +kernel) ?_
  refine lv_icmp_ge (tgt := 33) hx hb d_Md_part_7 (by decide) (fun h => absurd h (by decide +kernel)) (fun _ => ?_)
  refine lv_iload_n hx hb d_Md_part_10 rfl (lv_at hl 1 rfl) ?_
  refine lv_aload_n hx hb d_Md_part_11 rfl (lv_at hl 2 rfl) ?_
  refine va_get (D := (dC, dI)) (ci := 7) (v := .ref h_2) (C := R_Md) (T := F_Md) (N := 64) hx hb htb i_Md hown hK hP 0 rfl rfl 18 (by decide) (htb (.fieldLink R_Md 85 "WaterMenModel" "shares" "[Z") tw_20) (fun _ h9 => h9) rfl d_Md_part_12 ?_
  refine lv_iload_n hx hb d_Md_part_15 rfl (lv_at hl 0 rfl) ?_
  refine va_zald hx hb hK hP 2 1 rfl rfl (by unfold vp_in; decide +kernel) d_Md_part_16 ?_
  refine hb_ti 0 rfl ?_
  refine lv_if_eq (tgt := 24) hx hb d_Md_part_17 (by decide) (fun _ => ?_) (fun h => absurd (by decide +kernel) h)
  refine lv_iconst (v := 0) hx hb d_Md_part_24 (by decide +kernel) ?_
  refine lv_iadd hx hb d_Md_part_25 ?_
  refine hb_ti 0 (by decide +kernel) ?_
  refine lv_istore_n (lv' := [(2, .int 0), (3, .int 6), (0, .ref h_0), (1, .int 0)]) hx hb d_Md_part_26 rfl hl (by decide) rfl (fun ls hl => ?_)
  refine lv_iinc (v := 7) (lv' := [(3, .int 7), (2, .int 0), (0, .ref h_0), (1, .int 0)]) hx hb d_Md_part_27 hl (k := 1) rfl (by decide +kernel) (by decide) rfl (fun ls hl => ?_)
  refine lv_goto (tgt := 4) hx hb d_Md_part_30 (by decide) ?_
  refine lv_iload_n hx hb d_Md_part_4 rfl (lv_at hl 0 rfl) ?_
  refine lv_bipush (v := 40) hx hb d_Md_part_5 (by decide +kernel) ?_
  refine lv_icmp_ge (tgt := 33) hx hb d_Md_part_7 (by decide) (fun h => absurd h (by decide +kernel)) (fun _ => ?_)
  refine lv_iload_n hx hb d_Md_part_10 rfl (lv_at hl 1 rfl) ?_
  refine lv_aload_n hx hb d_Md_part_11 rfl (lv_at hl 2 rfl) ?_
  refine va_get (D := (dC, dI)) (ci := 7) (v := .ref h_2) (C := R_Md) (T := F_Md) (N := 64) hx hb htb i_Md hown hK hP 0 rfl rfl 18 (by decide) (htb (.fieldLink R_Md 85 "WaterMenModel" "shares" "[Z") tw_20) (fun _ h9 => h9) rfl d_Md_part_12 ?_
  refine lv_iload_n hx hb d_Md_part_15 rfl (lv_at hl 0 rfl) ?_
  refine va_zald hx hb hK hP 2 1 rfl rfl (by unfold vp_in; decide +kernel) d_Md_part_16 ?_
  refine hb_ti 0 rfl ?_
  refine lv_if_eq (tgt := 24) hx hb d_Md_part_17 (by decide) (fun _ => ?_) (fun h => absurd (by decide +kernel) h)
  refine lv_iconst (v := 0) hx hb d_Md_part_24 (by decide +kernel) ?_
  refine lv_iadd hx hb d_Md_part_25 ?_
  refine hb_ti 0 (by decide +kernel) ?_
  refine lv_istore_n (lv' := [(2, .int 0), (3, .int 7), (0, .ref h_0), (1, .int 0)]) hx hb d_Md_part_26 rfl hl (by decide) rfl (fun ls hl => ?_)
  refine lv_iinc (v := 8) (lv' := [(3, .int 8), (2, .int 0), (0, .ref h_0), (1, .int 0)]) hx hb d_Md_part_27 hl (k := 1) rfl (by decide +kernel) (by decide) rfl (fun ls hl => ?_)
  refine lv_goto (tgt := 4) hx hb d_Md_part_30 (by decide) ?_
  refine lv_iload_n hx hb d_Md_part_4 rfl (lv_at hl 0 rfl) ?_
  refine lv_bipush (v := 40) hx hb d_Md_part_5 (by decide +kernel) ?_
  refine lv_icmp_ge (tgt := 33) hx hb d_Md_part_7 (by decide) (fun h => absurd h (by decide +kernel)) (fun _ => ?_)
  refine lv_iload_n hx hb d_Md_part_10 rfl (lv_at hl 1 rfl) ?_
  refine lv_aload_n hx hb d_Md_part_11 rfl (lv_at hl 2 rfl) ?_
  refine va_get (D := (dC, dI)) (ci := 7) (v := .ref h_2) (C := R_Md) (T := F_Md) (N := 64) hx hb htb i_Md hown hK hP 0 rfl rfl 18 (by decide) (htb (.fieldLink R_Md 85 "WaterMenModel" "shares" "[Z") tw_20) (fun _ h9 => h9) rfl d_Md_part_12 ?_
  refine lv_iload_n hx hb d_Md_part_15 rfl (lv_at hl 0 rfl) ?_
  refine va_zald hx hb hK hP 2 1 rfl rfl (by unfold vp_in; decide +kernel) d_Md_part_16 ?_
  refine hb_ti 0 rfl ?_
  refine lv_if_eq (tgt := 24) hx hb d_Md_part_17 (by decide) (fun _ => ?_) (fun h => absurd (by decide +kernel) h)
  refine lv_iconst (v := 0) hx hb d_Md_part_24 (by decide +kernel) ?_
  refine lv_iadd hx hb d_Md_part_25 ?_
  refine hb_ti 0 (by decide +kernel) ?_
  refine lv_istore_n (lv' := [(2, .int 0), (3, .int 8), (0, .ref h_0), (1, .int 0)]) hx hb d_Md_part_26 rfl hl (by decide) rfl (fun ls hl => ?_)
  refine lv_iinc (v := 9) (lv' := [(3, .int 9), (2, .int 0), (0, .ref h_0), (1, .int 0)]) hx hb d_Md_part_27 hl (k := 1) rfl (by decide +kernel) (by decide) rfl (fun ls hl => ?_)
  refine lv_goto (tgt := 4) hx hb d_Md_part_30 (by decide) ?_
  refine lv_iload_n hx hb d_Md_part_4 rfl (lv_at hl 0 rfl) ?_
  refine lv_bipush (v := 40) hx hb d_Md_part_5 (by decide +kernel) ?_
  refine lv_icmp_ge (tgt := 33) hx hb d_Md_part_7 (by decide) (fun h => absurd h (by decide +kernel)) (fun _ => ?_)
  refine lv_iload_n hx hb d_Md_part_10 rfl (lv_at hl 1 rfl) ?_
  refine lv_aload_n hx hb d_Md_part_11 rfl (lv_at hl 2 rfl) ?_
  refine va_get (D := (dC, dI)) (ci := 7) (v := .ref h_2) (C := R_Md) (T := F_Md) (N := 64) hx hb htb i_Md hown hK hP 0 rfl rfl 18 (by decide) (htb (.fieldLink R_Md 85 "WaterMenModel" "shares" "[Z") tw_20) (fun _ h9 => h9) rfl d_Md_part_12 ?_
  refine lv_iload_n hx hb d_Md_part_15 rfl (lv_at hl 0 rfl) ?_
  refine va_zald hx hb hK hP 2 1 rfl rfl (by unfold vp_in; decide +kernel) d_Md_part_16 ?_
  refine hb_ti 0 rfl ?_
  refine lv_if_eq (tgt := 24) hx hb d_Md_part_17 (by decide) (fun _ => ?_) (fun h => absurd (by decide +kernel) h)
  refine lv_iconst (v := 0) hx hb d_Md_part_24 (by decide +kernel) ?_
  refine lv_iadd hx hb d_Md_part_25 ?_
  refine hb_ti 0 (by decide +kernel) ?_
  refine lv_istore_n (lv' := [(2, .int 0), (3, .int 9), (0, .ref h_0), (1, .int 0)]) hx hb d_Md_part_26 rfl hl (by decide) rfl (fun ls hl => ?_)
  refine lv_iinc (v := 10) (lv' := [(3, .int 10), (2, .int 0), (0, .ref h_0), (1, .int 0)]) hx hb d_Md_part_27 hl (k := 1) rfl (by decide +kernel) (by decide) rfl (fun ls hl => ?_)
  refine lv_goto (tgt := 4) hx hb d_Md_part_30 (by decide) ?_
  refine lv_iload_n hx hb d_Md_part_4 rfl (lv_at hl 0 rfl) ?_
  refine lv_bipush (v := 40) hx hb d_Md_part_5 (by decide +kernel) ?_
  refine lv_icmp_ge (tgt := 33) hx hb d_Md_part_7 (by decide) (fun h => absurd h (by decide +kernel)) (fun _ => ?_)
  refine lv_iload_n hx hb d_Md_part_10 rfl (lv_at hl 1 rfl) ?_
  refine lv_aload_n hx hb d_Md_part_11 rfl (lv_at hl 2 rfl) ?_
  refine va_get (D := (dC, dI)) (ci := 7) (v := .ref h_2) (C := R_Md) (T := F_Md) (N := 64) hx hb htb i_Md hown hK hP 0 rfl rfl 18 (by decide) (htb (.fieldLink R_Md 85 "WaterMenModel" "shares" "[Z") tw_20) (fun _ h9 => h9) rfl d_Md_part_12 ?_
  refine lv_iload_n hx hb d_Md_part_15 rfl (lv_at hl 0 rfl) ?_
  refine va_zald hx hb hK hP 2 1 rfl rfl (by unfold vp_in; decide +kernel) d_Md_part_16 ?_
  refine hb_ti 0 rfl ?_
  refine lv_if_eq (tgt := 24) hx hb d_Md_part_17 (by decide) (fun _ => ?_) (fun h => absurd (by decide +kernel) h)
  refine lv_iconst (v := 0) hx hb d_Md_part_24 (by decide +kernel) ?_
  refine lv_iadd hx hb d_Md_part_25 ?_
  refine hb_ti 0 (by decide +kernel) ?_
  refine lv_istore_n (lv' := [(2, .int 0), (3, .int 10), (0, .ref h_0), (1, .int 0)]) hx hb d_Md_part_26 rfl hl (by decide) rfl (fun ls hl => ?_)
  refine lv_iinc (v := 11) (lv' := [(3, .int 11), (2, .int 0), (0, .ref h_0), (1, .int 0)]) hx hb d_Md_part_27 hl (k := 1) rfl (by decide +kernel) (by decide) rfl (fun ls hl => ?_)
  refine lv_goto (tgt := 4) hx hb d_Md_part_30 (by decide) ?_
  refine lv_iload_n hx hb d_Md_part_4 rfl (lv_at hl 0 rfl) ?_
  refine lv_bipush (v := 40) hx hb d_Md_part_5 (by decide +kernel) ?_
  refine lv_icmp_ge (tgt := 33) hx hb d_Md_part_7 (by decide) (fun h => absurd h (by decide +kernel)) (fun _ => ?_)
  refine lv_iload_n hx hb d_Md_part_10 rfl (lv_at hl 1 rfl) ?_
  refine lv_aload_n hx hb d_Md_part_11 rfl (lv_at hl 2 rfl) ?_
  refine va_get (D := (dC, dI)) (ci := 7) (v := .ref h_2) (C := R_Md) (T := F_Md) (N := 64) hx hb htb i_Md hown hK hP 0 rfl rfl 18 (by decide) (htb (.fieldLink R_Md 85 "WaterMenModel" "shares" "[Z") tw_20) (fun _ h9 => h9) rfl d_Md_part_12 ?_
  refine lv_iload_n hx hb d_Md_part_15 rfl (lv_at hl 0 rfl) ?_
  refine va_zald hx hb hK hP 2 1 rfl rfl (by unfold vp_in; decide +kernel) d_Md_part_16 ?_
  refine hb_ti 0 rfl ?_
  refine lv_if_eq (tgt := 24) hx hb d_Md_part_17 (by decide) (fun _ => ?_) (fun h => absurd (by decide +kernel) h)
  refine lv_iconst (v := 0) hx hb d_Md_part_24 (by decide +kernel) ?_
  refine lv_iadd hx hb d_Md_part_25 ?_
  refine hb_ti 0 (by decide +kernel) ?_
  refine lv_istore_n (lv' := [(2, .int 0), (3, .int 11), (0, .ref h_0), (1, .int 0)]) hx hb d_Md_part_26 rfl hl (by decide) rfl (fun ls hl => ?_)
  refine lv_iinc (v := 12) (lv' := [(3, .int 12), (2, .int 0), (0, .ref h_0), (1, .int 0)]) hx hb d_Md_part_27 hl (k := 1) rfl (by decide +kernel) (by decide) rfl (fun ls hl => ?_)
  refine lv_goto (tgt := 4) hx hb d_Md_part_30 (by decide) ?_
  refine lv_iload_n hx hb d_Md_part_4 rfl (lv_at hl 0 rfl) ?_
  refine lv_bipush (v := 40) hx hb d_Md_part_5 (by decide +kernel) ?_
  refine lv_icmp_ge (tgt := 33) hx hb d_Md_part_7 (by decide) (fun h => absurd h (by decide +kernel)) (fun _ => ?_)
  refine lv_iload_n hx hb d_Md_part_10 rfl (lv_at hl 1 rfl) ?_
  refine lv_aload_n hx hb d_Md_part_11 rfl (lv_at hl 2 rfl) ?_
  refine va_get (D := (dC, dI)) (ci := 7) (v := .ref h_2) (C := R_Md) (T := F_Md) (N := 64) hx hb htb i_Md hown hK hP 0 rfl rfl 18 (by decide) (htb (.fieldLink R_Md 85 "WaterMenModel" "shares" "[Z") tw_20) (fun _ h9 => h9) rfl d_Md_part_12 ?_
  refine lv_iload_n hx hb d_Md_part_15 rfl (lv_at hl 0 rfl) ?_
  refine va_zald hx hb hK hP 2 1 rfl rfl (by unfold vp_in; decide +kernel) d_Md_part_16 ?_
  refine hb_ti 0 rfl ?_
  refine lv_if_eq (tgt := 24) hx hb d_Md_part_17 (by decide) (fun _ => ?_) (fun h => absurd (by decide +kernel) h)
  refine lv_iconst (v := 0) hx hb d_Md_part_24 (by decide +kernel) ?_
  refine lv_iadd hx hb d_Md_part_25 ?_
  refine hb_ti 0 (by decide +kernel) ?_
  refine lv_istore_n (lv' := [(2, .int 0), (3, .int 12), (0, .ref h_0), (1, .int 0)]) hx hb d_Md_part_26 rfl hl (by decide) rfl (fun ls hl => ?_)
  refine lv_iinc (v := 13) (lv' := [(3, .int 13), (2, .int 0), (0, .ref h_0), (1, .int 0)]) hx hb d_Md_part_27 hl (k := 1) rfl (by decide +kernel) (by decide) rfl (fun ls hl => ?_)
  refine lv_goto (tgt := 4) hx hb d_Md_part_30 (by decide) ?_
  refine lv_iload_n hx hb d_Md_part_4 rfl (lv_at hl 0 rfl) ?_
  refine lv_bipush (v := 40) hx hb d_Md_part_5 (by decide +kernel) ?_
  refine lv_icmp_ge (tgt := 33) hx hb d_Md_part_7 (by decide) (fun h => absurd h (by decide +kernel)) (fun _ => ?_)
  refine lv_iload_n hx hb d_Md_part_10 rfl (lv_at hl 1 rfl) ?_
  refine lv_aload_n hx hb d_Md_part_11 rfl (lv_at hl 2 rfl) ?_
  refine va_get (D := (dC, dI)) (ci := 7) (v := .ref h_2) (C := R_Md) (T := F_Md) (N := 64) hx hb htb i_Md hown hK hP 0 rfl rfl 18 (by decide) (htb (.fieldLink R_Md 85 "WaterMenModel" "shares" "[Z") tw_20) (fun _ h9 => h9) rfl d_Md_part_12 ?_
  refine lv_iload_n hx hb d_Md_part_15 rfl (lv_at hl 0 rfl) ?_
  refine va_zald hx hb hK hP 2 1 rfl rfl (by unfold vp_in; decide +kernel) d_Md_part_16 ?_
  refine hb_ti 0 rfl ?_
  refine lv_if_eq (tgt := 24) hx hb d_Md_part_17 (by decide) (fun _ => ?_) (fun h => absurd (by decide +kernel) h)
  refine lv_iconst (v := 0) hx hb d_Md_part_24 (by decide +kernel) ?_
  refine lv_iadd hx hb d_Md_part_25 ?_
  refine hb_ti 0 (by decide +kernel) ?_
  refine lv_istore_n (lv' := [(2, .int 0), (3, .int 13), (0, .ref h_0), (1, .int 0)]) hx hb d_Md_part_26 rfl hl (by decide) rfl (fun ls hl => ?_)
  refine lv_iinc (v := 14) (lv' := [(3, .int 14), (2, .int 0), (0, .ref h_0), (1, .int 0)]) hx hb d_Md_part_27 hl (k := 1) rfl (by decide +kernel) (by decide) rfl (fun ls hl => ?_)
  refine lv_goto (tgt := 4) hx hb d_Md_part_30 (by decide) ?_
  refine lv_iload_n hx hb d_Md_part_4 rfl (lv_at hl 0 rfl) ?_
  refine lv_bipush (v := 40) hx hb d_Md_part_5 (by decide +kernel) ?_
  refine lv_icmp_ge (tgt := 33) hx hb d_Md_part_7 (by decide) (fun h => absurd h (by decide +kernel)) (fun _ => ?_)
  refine lv_iload_n hx hb d_Md_part_10 rfl (lv_at hl 1 rfl) ?_
  refine lv_aload_n hx hb d_Md_part_11 rfl (lv_at hl 2 rfl) ?_
  refine va_get (D := (dC, dI)) (ci := 7) (v := .ref h_2) (C := R_Md) (T := F_Md) (N := 64) hx hb htb i_Md hown hK hP 0 rfl rfl 18 (by decide) (htb (.fieldLink R_Md 85 "WaterMenModel" "shares" "[Z") tw_20) (fun _ h9 => h9) rfl d_Md_part_12 ?_
  refine lv_iload_n hx hb d_Md_part_15 rfl (lv_at hl 0 rfl) ?_
  refine va_zald hx hb hK hP 2 1 rfl rfl (by unfold vp_in; decide +kernel) d_Md_part_16 ?_
  refine hb_ti 0 rfl ?_
  refine lv_if_eq (tgt := 24) hx hb d_Md_part_17 (by decide) (fun _ => ?_) (fun h => absurd (by decide +kernel) h)
  refine lv_iconst (v := 0) hx hb d_Md_part_24 (by decide +kernel) ?_
  refine lv_iadd hx hb d_Md_part_25 ?_
  refine hb_ti 0 (by decide +kernel) ?_
  refine lv_istore_n (lv' := [(2, .int 0), (3, .int 14), (0, .ref h_0), (1, .int 0)]) hx hb d_Md_part_26 rfl hl (by decide) rfl (fun ls hl => ?_)
  refine lv_iinc (v := 15) (lv' := [(3, .int 15), (2, .int 0), (0, .ref h_0), (1, .int 0)]) hx hb d_Md_part_27 hl (k := 1) rfl (by decide +kernel) (by decide) rfl (fun ls hl => ?_)
  refine lv_goto (tgt := 4) hx hb d_Md_part_30 (by decide) ?_
  refine lv_iload_n hx hb d_Md_part_4 rfl (lv_at hl 0 rfl) ?_
  refine lv_bipush (v := 40) hx hb d_Md_part_5 (by decide +kernel) ?_
  refine lv_icmp_ge (tgt := 33) hx hb d_Md_part_7 (by decide) (fun h => absurd h (by decide +kernel)) (fun _ => ?_)
  refine lv_iload_n hx hb d_Md_part_10 rfl (lv_at hl 1 rfl) ?_
  refine lv_aload_n hx hb d_Md_part_11 rfl (lv_at hl 2 rfl) ?_
  refine va_get (D := (dC, dI)) (ci := 7) (v := .ref h_2) (C := R_Md) (T := F_Md) (N := 64) hx hb htb i_Md hown hK hP 0 rfl rfl 18 (by decide) (htb (.fieldLink R_Md 85 "WaterMenModel" "shares" "[Z") tw_20) (fun _ h9 => h9) rfl d_Md_part_12 ?_
  refine lv_iload_n hx hb d_Md_part_15 rfl (lv_at hl 0 rfl) ?_
  refine va_zald hx hb hK hP 2 1 rfl rfl (by unfold vp_in; decide +kernel) d_Md_part_16 ?_
  refine hb_ti 0 rfl ?_
  refine lv_if_eq (tgt := 24) hx hb d_Md_part_17 (by decide) (fun _ => ?_) (fun h => absurd (by decide +kernel) h)
  refine lv_iconst (v := 0) hx hb d_Md_part_24 (by decide +kernel) ?_
  refine lv_iadd hx hb d_Md_part_25 ?_
  refine hb_ti 0 (by decide +kernel) ?_
  refine lv_istore_n (lv' := [(2, .int 0), (3, .int 15), (0, .ref h_0), (1, .int 0)]) hx hb d_Md_part_26 rfl hl (by decide) rfl (fun ls hl => ?_)
  refine lv_iinc (v := 16) (lv' := [(3, .int 16), (2, .int 0), (0, .ref h_0), (1, .int 0)]) hx hb d_Md_part_27 hl (k := 1) rfl (by decide +kernel) (by decide) rfl (fun ls hl => ?_)
  refine lv_goto (tgt := 4) hx hb d_Md_part_30 (by decide) ?_
  refine lv_iload_n hx hb d_Md_part_4 rfl (lv_at hl 0 rfl) ?_
  refine lv_bipush (v := 40) hx hb d_Md_part_5 (by decide +kernel) ?_
  refine lv_icmp_ge (tgt := 33) hx hb d_Md_part_7 (by decide) (fun h => absurd h (by decide +kernel)) (fun _ => ?_)
  refine lv_iload_n hx hb d_Md_part_10 rfl (lv_at hl 1 rfl) ?_
  refine lv_aload_n hx hb d_Md_part_11 rfl (lv_at hl 2 rfl) ?_
  refine va_get (D := (dC, dI)) (ci := 7) (v := .ref h_2) (C := R_Md) (T := F_Md) (N := 64) hx hb htb i_Md hown hK hP 0 rfl rfl 18 (by decide) (htb (.fieldLink R_Md 85 "WaterMenModel" "shares" "[Z") tw_20) (fun _ h9 => h9) rfl d_Md_part_12 ?_
  refine lv_iload_n hx hb d_Md_part_15 rfl (lv_at hl 0 rfl) ?_
  refine va_zald hx hb hK hP 2 1 rfl rfl (by unfold vp_in; decide +kernel) d_Md_part_16 ?_
  refine hb_ti 0 rfl ?_
  refine lv_if_eq (tgt := 24) hx hb d_Md_part_17 (by decide) (fun _ => ?_) (fun h => absurd (by decide +kernel) h)
  refine lv_iconst (v := 0) hx hb d_Md_part_24 (by decide +kernel) ?_
  refine lv_iadd hx hb d_Md_part_25 ?_
  refine hb_ti 0 (by decide +kernel) ?_
  refine lv_istore_n (lv' := [(2, .int 0), (3, .int 16), (0, .ref h_0), (1, .int 0)]) hx hb d_Md_part_26 rfl hl (by decide) rfl (fun ls hl => ?_)
  refine lv_iinc (v := 17) (lv' := [(3, .int 17), (2, .int 0), (0, .ref h_0), (1, .int 0)]) hx hb d_Md_part_27 hl (k := 1) rfl (by decide +kernel) (by decide) rfl (fun ls hl => ?_)
  refine lv_goto (tgt := 4) hx hb d_Md_part_30 (by decide) ?_
  refine lv_iload_n hx hb d_Md_part_4 rfl (lv_at hl 0 rfl) ?_
  refine lv_bipush (v := 40) hx hb d_Md_part_5 (by decide +kernel) ?_
  refine lv_icmp_ge (tgt := 33) hx hb d_Md_part_7 (by decide) (fun h => absurd h (by decide +kernel)) (fun _ => ?_)
  refine lv_iload_n hx hb d_Md_part_10 rfl (lv_at hl 1 rfl) ?_
  refine lv_aload_n hx hb d_Md_part_11 rfl (lv_at hl 2 rfl) ?_
  refine va_get (D := (dC, dI)) (ci := 7) (v := .ref h_2) (C := R_Md) (T := F_Md) (N := 64) hx hb htb i_Md hown hK hP 0 rfl rfl 18 (by decide) (htb (.fieldLink R_Md 85 "WaterMenModel" "shares" "[Z") tw_20) (fun _ h9 => h9) rfl d_Md_part_12 ?_
  refine lv_iload_n hx hb d_Md_part_15 rfl (lv_at hl 0 rfl) ?_
  refine va_zald hx hb hK hP 2 1 rfl rfl (by unfold vp_in; decide +kernel) d_Md_part_16 ?_
  refine hb_ti 0 rfl ?_
  refine lv_if_eq (tgt := 24) hx hb d_Md_part_17 (by decide) (fun _ => ?_) (fun h => absurd (by decide +kernel) h)
  refine lv_iconst (v := 0) hx hb d_Md_part_24 (by decide +kernel) ?_
  refine lv_iadd hx hb d_Md_part_25 ?_
  refine hb_ti 0 (by decide +kernel) ?_
  refine lv_istore_n (lv' := [(2, .int 0), (3, .int 17), (0, .ref h_0), (1, .int 0)]) hx hb d_Md_part_26 rfl hl (by decide) rfl (fun ls hl => ?_)
  refine lv_iinc (v := 18) (lv' := [(3, .int 18), (2, .int 0), (0, .ref h_0), (1, .int 0)]) hx hb d_Md_part_27 hl (k := 1) rfl (by decide +kernel) (by decide) rfl (fun ls hl => ?_)
  refine lv_goto (tgt := 4) hx hb d_Md_part_30 (by decide) ?_
  refine lv_iload_n hx hb d_Md_part_4 rfl (lv_at hl 0 rfl) ?_
  refine lv_bipush (v := 40) hx hb d_Md_part_5 (by decide +kernel) ?_
  refine lv_icmp_ge (tgt := 33) hx hb d_Md_part_7 (by decide) (fun h => absurd h (by decide +kernel)) (fun _ => ?_)
  refine lv_iload_n hx hb d_Md_part_10 rfl (lv_at hl 1 rfl) ?_
  refine lv_aload_n hx hb d_Md_part_11 rfl (lv_at hl 2 rfl) ?_
  refine va_get (D := (dC, dI)) (ci := 7) (v := .ref h_2) (C := R_Md) (T := F_Md) (N := 64) hx hb htb i_Md hown hK hP 0 rfl rfl 18 (by decide) (htb (.fieldLink R_Md 85 "WaterMenModel" "shares" "[Z") tw_20) (fun _ h9 => h9) rfl d_Md_part_12 ?_
  refine lv_iload_n hx hb d_Md_part_15 rfl (lv_at hl 0 rfl) ?_
  refine va_zald hx hb hK hP 2 1 rfl rfl (by unfold vp_in; decide +kernel) d_Md_part_16 ?_
  refine hb_ti 0 rfl ?_
  refine lv_if_eq (tgt := 24) hx hb d_Md_part_17 (by decide) (fun _ => ?_) (fun h => absurd (by decide +kernel) h)
  refine lv_iconst (v := 0) hx hb d_Md_part_24 (by decide +kernel) ?_
  refine lv_iadd hx hb d_Md_part_25 ?_
  refine hb_ti 0 (by decide +kernel) ?_
  refine lv_istore_n (lv' := [(2, .int 0), (3, .int 18), (0, .ref h_0), (1, .int 0)]) hx hb d_Md_part_26 rfl hl (by decide) rfl (fun ls hl => ?_)
  refine lv_iinc (v := 19) (lv' := [(3, .int 19), (2, .int 0), (0, .ref h_0), (1, .int 0)]) hx hb d_Md_part_27 hl (k := 1) rfl (by decide +kernel) (by decide) rfl (fun ls hl => ?_)
  refine lv_goto (tgt := 4) hx hb d_Md_part_30 (by decide) ?_
  refine lv_iload_n hx hb d_Md_part_4 rfl (lv_at hl 0 rfl) ?_
  refine lv_bipush (v := 40) hx hb d_Md_part_5 (by decide +kernel) ?_
  refine lv_icmp_ge (tgt := 33) hx hb d_Md_part_7 (by decide) (fun h => absurd h (by decide +kernel)) (fun _ => ?_)
  refine lv_iload_n hx hb d_Md_part_10 rfl (lv_at hl 1 rfl) ?_
  refine lv_aload_n hx hb d_Md_part_11 rfl (lv_at hl 2 rfl) ?_
  refine va_get (D := (dC, dI)) (ci := 7) (v := .ref h_2) (C := R_Md) (T := F_Md) (N := 64) hx hb htb i_Md hown hK hP 0 rfl rfl 18 (by decide) (htb (.fieldLink R_Md 85 "WaterMenModel" "shares" "[Z") tw_20) (fun _ h9 => h9) rfl d_Md_part_12 ?_
  refine lv_iload_n hx hb d_Md_part_15 rfl (lv_at hl 0 rfl) ?_
  refine va_zald hx hb hK hP 2 1 rfl rfl (by unfold vp_in; decide +kernel) d_Md_part_16 ?_
  refine hb_ti 0 rfl ?_
  refine lv_if_eq (tgt := 24) hx hb d_Md_part_17 (by decide) (fun _ => ?_) (fun h => absurd (by decide +kernel) h)
  refine lv_iconst (v := 0) hx hb d_Md_part_24 (by decide +kernel) ?_
  refine lv_iadd hx hb d_Md_part_25 ?_
  refine hb_ti 0 (by decide +kernel) ?_
  refine lv_istore_n (lv' := [(2, .int 0), (3, .int 19), (0, .ref h_0), (1, .int 0)]) hx hb d_Md_part_26 rfl hl (by decide) rfl (fun ls hl => ?_)
  refine lv_iinc (v := 20) (lv' := [(3, .int 20), (2, .int 0), (0, .ref h_0), (1, .int 0)]) hx hb d_Md_part_27 hl (k := 1) rfl (by decide +kernel) (by decide) rfl (fun ls hl => ?_)
  refine lv_goto (tgt := 4) hx hb d_Md_part_30 (by decide) ?_
  refine lv_iload_n hx hb d_Md_part_4 rfl (lv_at hl 0 rfl) ?_
  refine lv_bipush (v := 40) hx hb d_Md_part_5 (by decide +kernel) ?_
  refine lv_icmp_ge (tgt := 33) hx hb d_Md_part_7 (by decide) (fun h => absurd h (by decide +kernel)) (fun _ => ?_)
  refine lv_iload_n hx hb d_Md_part_10 rfl (lv_at hl 1 rfl) ?_
  refine lv_aload_n hx hb d_Md_part_11 rfl (lv_at hl 2 rfl) ?_
  refine va_get (D := (dC, dI)) (ci := 7) (v := .ref h_2) (C := R_Md) (T := F_Md) (N := 64) hx hb htb i_Md hown hK hP 0 rfl rfl 18 (by decide) (htb (.fieldLink R_Md 85 "WaterMenModel" "shares" "[Z") tw_20) (fun _ h9 => h9) rfl d_Md_part_12 ?_
  refine lv_iload_n hx hb d_Md_part_15 rfl (lv_at hl 0 rfl) ?_
  refine va_zald hx hb hK hP 2 1 rfl rfl (by unfold vp_in; decide +kernel) d_Md_part_16 ?_
  refine hb_ti 0 rfl ?_
  refine lv_if_eq (tgt := 24) hx hb d_Md_part_17 (by decide) (fun _ => ?_) (fun h => absurd (by decide +kernel) h)
  refine lv_iconst (v := 0) hx hb d_Md_part_24 (by decide +kernel) ?_
  refine lv_iadd hx hb d_Md_part_25 ?_
  refine hb_ti 0 (by decide +kernel) ?_
  refine lv_istore_n (lv' := [(2, .int 0), (3, .int 20), (0, .ref h_0), (1, .int 0)]) hx hb d_Md_part_26 rfl hl (by decide) rfl (fun ls hl => ?_)
  refine lv_iinc (v := 21) (lv' := [(3, .int 21), (2, .int 0), (0, .ref h_0), (1, .int 0)]) hx hb d_Md_part_27 hl (k := 1) rfl (by decide +kernel) (by decide) rfl (fun ls hl => ?_)
  refine lv_goto (tgt := 4) hx hb d_Md_part_30 (by decide) ?_
  refine lv_iload_n hx hb d_Md_part_4 rfl (lv_at hl 0 rfl) ?_
  refine lv_bipush (v := 40) hx hb d_Md_part_5 (by decide +kernel) ?_
  refine lv_icmp_ge (tgt := 33) hx hb d_Md_part_7 (by decide) (fun h => absurd h (by decide +kernel)) (fun _ => ?_)
  refine lv_iload_n hx hb d_Md_part_10 rfl (lv_at hl 1 rfl) ?_
  refine lv_aload_n hx hb d_Md_part_11 rfl (lv_at hl 2 rfl) ?_
  refine va_get (D := (dC, dI)) (ci := 7) (v := .ref h_2) (C := R_Md) (T := F_Md) (N := 64) hx hb htb i_Md hown hK hP 0 rfl rfl 18 (by decide) (htb (.fieldLink R_Md 85 "WaterMenModel" "shares" "[Z") tw_20) (fun _ h9 => h9) rfl d_Md_part_12 ?_
  refine lv_iload_n hx hb d_Md_part_15 rfl (lv_at hl 0 rfl) ?_
  refine va_zald hx hb hK hP 2 1 rfl rfl (by unfold vp_in; decide +kernel) d_Md_part_16 ?_
  refine hb_ti 0 rfl ?_
  refine lv_if_eq (tgt := 24) hx hb d_Md_part_17 (by decide) (fun _ => ?_) (fun h => absurd (by decide +kernel) h)
  refine lv_iconst (v := 0) hx hb d_Md_part_24 (by decide +kernel) ?_
  refine lv_iadd hx hb d_Md_part_25 ?_
  refine hb_ti 0 (by decide +kernel) ?_
  refine lv_istore_n (lv' := [(2, .int 0), (3, .int 21), (0, .ref h_0), (1, .int 0)]) hx hb d_Md_part_26 rfl hl (by decide) rfl (fun ls hl => ?_)
  refine lv_iinc (v := 22) (lv' := [(3, .int 22), (2, .int 0), (0, .ref h_0), (1, .int 0)]) hx hb d_Md_part_27 hl (k := 1) rfl (by decide +kernel) (by decide) rfl (fun ls hl => ?_)
  refine lv_goto (tgt := 4) hx hb d_Md_part_30 (by decide) ?_
  refine lv_iload_n hx hb d_Md_part_4 rfl (lv_at hl 0 rfl) ?_
  refine lv_bipush (v := 40) hx hb d_Md_part_5 (by decide +kernel) ?_
  refine lv_icmp_ge (tgt := 33) hx hb d_Md_part_7 (by decide) (fun h => absurd h (by decide +kernel)) (fun _ => ?_)
  refine lv_iload_n hx hb d_Md_part_10 rfl (lv_at hl 1 rfl) ?_
  refine lv_aload_n hx hb d_Md_part_11 rfl (lv_at hl 2 rfl) ?_
  refine va_get (D := (dC, dI)) (ci := 7) (v := .ref h_2) (C := R_Md) (T := F_Md) (N := 64) hx hb htb i_Md hown hK hP 0 rfl rfl 18 (by decide) (htb (.fieldLink R_Md 85 "WaterMenModel" "shares" "[Z") tw_20) (fun _ h9 => h9) rfl d_Md_part_12 ?_
  refine lv_iload_n hx hb d_Md_part_15 rfl (lv_at hl 0 rfl) ?_
  refine va_zald hx hb hK hP 2 1 rfl rfl (by unfold vp_in; decide +kernel) d_Md_part_16 ?_
  refine hb_ti 0 rfl ?_
  refine lv_if_eq (tgt := 24) hx hb d_Md_part_17 (by decide) (fun _ => ?_) (fun h => absurd (by decide +kernel) h)
  refine lv_iconst (v := 0) hx hb d_Md_part_24 (by decide +kernel) ?_
  refine lv_iadd hx hb d_Md_part_25 ?_
  refine hb_ti 0 (by decide +kernel) ?_
  refine lv_istore_n (lv' := [(2, .int 0), (3, .int 22), (0, .ref h_0), (1, .int 0)]) hx hb d_Md_part_26 rfl hl (by decide) rfl (fun ls hl => ?_)
  refine lv_iinc (v := 23) (lv' := [(3, .int 23), (2, .int 0), (0, .ref h_0), (1, .int 0)]) hx hb d_Md_part_27 hl (k := 1) rfl (by decide +kernel) (by decide) rfl (fun ls hl => ?_)
  refine lv_goto (tgt := 4) hx hb d_Md_part_30 (by decide) ?_
  refine lv_iload_n hx hb d_Md_part_4 rfl (lv_at hl 0 rfl) ?_
  refine lv_bipush (v := 40) hx hb d_Md_part_5 (by decide +kernel) ?_
  refine lv_icmp_ge (tgt := 33) hx hb d_Md_part_7 (by decide) (fun h => absurd h (by decide +kernel)) (fun _ => ?_)
  refine lv_iload_n hx hb d_Md_part_10 rfl (lv_at hl 1 rfl) ?_
  refine lv_aload_n hx hb d_Md_part_11 rfl (lv_at hl 2 rfl) ?_
  refine va_get (D := (dC, dI)) (ci := 7) (v := .ref h_2) (C := R_Md) (T := F_Md) (N := 64) hx hb htb i_Md hown hK hP 0 rfl rfl 18 (by decide) (htb (.fieldLink R_Md 85 "WaterMenModel" "shares" "[Z") tw_20) (fun _ h9 => h9) rfl d_Md_part_12 ?_
  refine lv_iload_n hx hb d_Md_part_15 rfl (lv_at hl 0 rfl) ?_
  refine va_zald hx hb hK hP 2 1 rfl rfl (by unfold vp_in; decide +kernel) d_Md_part_16 ?_
  refine hb_ti 0 rfl ?_
  refine lv_if_eq (tgt := 24) hx hb d_Md_part_17 (by decide) (fun _ => ?_) (fun h => absurd (by decide +kernel) h)
  refine lv_iconst (v := 0) hx hb d_Md_part_24 (by decide +kernel) ?_
  refine lv_iadd hx hb d_Md_part_25 ?_
  refine hb_ti 0 (by decide +kernel) ?_
  refine lv_istore_n (lv' := [(2, .int 0), (3, .int 23), (0, .ref h_0), (1, .int 0)]) hx hb d_Md_part_26 rfl hl (by decide) rfl (fun ls hl => ?_)
  refine lv_iinc (v := 24) (lv' := [(3, .int 24), (2, .int 0), (0, .ref h_0), (1, .int 0)]) hx hb d_Md_part_27 hl (k := 1) rfl (by decide +kernel) (by decide) rfl (fun ls hl => ?_)
  refine lv_goto (tgt := 4) hx hb d_Md_part_30 (by decide) ?_
  refine lv_iload_n hx hb d_Md_part_4 rfl (lv_at hl 0 rfl) ?_
  refine lv_bipush (v := 40) hx hb d_Md_part_5 (by decide +kernel) ?_
  refine lv_icmp_ge (tgt := 33) hx hb d_Md_part_7 (by decide) (fun h => absurd h (by decide +kernel)) (fun _ => ?_)
  refine lv_iload_n hx hb d_Md_part_10 rfl (lv_at hl 1 rfl) ?_
  refine lv_aload_n hx hb d_Md_part_11 rfl (lv_at hl 2 rfl) ?_
  refine va_get (D := (dC, dI)) (ci := 7) (v := .ref h_2) (C := R_Md) (T := F_Md) (N := 64) hx hb htb i_Md hown hK hP 0 rfl rfl 18 (by decide) (htb (.fieldLink R_Md 85 "WaterMenModel" "shares" "[Z") tw_20) (fun _ h9 => h9) rfl d_Md_part_12 ?_
  refine lv_iload_n hx hb d_Md_part_15 rfl (lv_at hl 0 rfl) ?_
  refine va_zald hx hb hK hP 2 1 rfl rfl (by unfold vp_in; decide +kernel) d_Md_part_16 ?_
  refine hb_ti 0 rfl ?_
  refine lv_if_eq (tgt := 24) hx hb d_Md_part_17 (by decide) (fun _ => ?_) (fun h => absurd (by decide +kernel) h)
  refine lv_iconst (v := 0) hx hb d_Md_part_24 (by decide +kernel) ?_
  refine lv_iadd hx hb d_Md_part_25 ?_
  refine hb_ti 0 (by decide +kernel) ?_
  refine lv_istore_n (lv' := [(2, .int 0), (3, .int 24), (0, .ref h_0), (1, .int 0)]) hx hb d_Md_part_26 rfl hl (by decide) rfl (fun ls hl => ?_)
  refine lv_iinc (v := 25) (lv' := [(3, .int 25), (2, .int 0), (0, .ref h_0), (1, .int 0)]) hx hb d_Md_part_27 hl (k := 1) rfl (by decide +kernel) (by decide) rfl (fun ls hl => ?_)
  refine lv_goto (tgt := 4) hx hb d_Md_part_30 (by decide) ?_
  refine lv_iload_n hx hb d_Md_part_4 rfl (lv_at hl 0 rfl) ?_
  refine lv_bipush (v := 40) hx hb d_Md_part_5 (by decide +kernel) ?_
  refine lv_icmp_ge (tgt := 33) hx hb d_Md_part_7 (by decide) (fun h => absurd h (by decide +kernel)) (fun _ => ?_)
  refine lv_iload_n hx hb d_Md_part_10 rfl (lv_at hl 1 rfl) ?_
  refine lv_aload_n hx hb d_Md_part_11 rfl (lv_at hl 2 rfl) ?_
  refine va_get (D := (dC, dI)) (ci := 7) (v := .ref h_2) (C := R_Md) (T := F_Md) (N := 64) hx hb htb i_Md hown hK hP 0 rfl rfl 18 (by decide) (htb (.fieldLink R_Md 85 "WaterMenModel" "shares" "[Z") tw_20) (fun _ h9 => h9) rfl d_Md_part_12 ?_
  refine lv_iload_n hx hb d_Md_part_15 rfl (lv_at hl 0 rfl) ?_
  refine va_zald hx hb hK hP 2 1 rfl rfl (by unfold vp_in; decide +kernel) d_Md_part_16 ?_
  refine hb_ti 0 rfl ?_
  refine lv_if_eq (tgt := 24) hx hb d_Md_part_17 (by decide) (fun _ => ?_) (fun h => absurd (by decide +kernel) h)
  refine lv_iconst (v := 0) hx hb d_Md_part_24 (by decide +kernel) ?_
  refine lv_iadd hx hb d_Md_part_25 ?_
  refine hb_ti 0 (by decide +kernel) ?_
  refine lv_istore_n (lv' := [(2, .int 0), (3, .int 25), (0, .ref h_0), (1, .int 0)]) hx hb d_Md_part_26 rfl hl (by decide) rfl (fun ls hl => ?_)
  refine lv_iinc (v := 26) (lv' := [(3, .int 26), (2, .int 0), (0, .ref h_0), (1, .int 0)]) hx hb d_Md_part_27 hl (k := 1) rfl (by decide +kernel) (by decide) rfl (fun ls hl => ?_)
  refine lv_goto (tgt := 4) hx hb d_Md_part_30 (by decide) ?_
  refine lv_iload_n hx hb d_Md_part_4 rfl (lv_at hl 0 rfl) ?_
  refine lv_bipush (v := 40) hx hb d_Md_part_5 (by decide +kernel) ?_
  refine lv_icmp_ge (tgt := 33) hx hb d_Md_part_7 (by decide) (fun h => absurd h (by decide +kernel)) (fun _ => ?_)
  refine lv_iload_n hx hb d_Md_part_10 rfl (lv_at hl 1 rfl) ?_
  refine lv_aload_n hx hb d_Md_part_11 rfl (lv_at hl 2 rfl) ?_
  refine va_get (D := (dC, dI)) (ci := 7) (v := .ref h_2) (C := R_Md) (T := F_Md) (N := 64) hx hb htb i_Md hown hK hP 0 rfl rfl 18 (by decide) (htb (.fieldLink R_Md 85 "WaterMenModel" "shares" "[Z") tw_20) (fun _ h9 => h9) rfl d_Md_part_12 ?_
  refine lv_iload_n hx hb d_Md_part_15 rfl (lv_at hl 0 rfl) ?_
  refine va_zald hx hb hK hP 2 1 rfl rfl (by unfold vp_in; decide +kernel) d_Md_part_16 ?_
  refine hb_ti 0 rfl ?_
  refine lv_if_eq (tgt := 24) hx hb d_Md_part_17 (by decide) (fun _ => ?_) (fun h => absurd (by decide +kernel) h)
  refine lv_iconst (v := 0) hx hb d_Md_part_24 (by decide +kernel) ?_
  refine lv_iadd hx hb d_Md_part_25 ?_
  refine hb_ti 0 (by decide +kernel) ?_
  refine lv_istore_n (lv' := [(2, .int 0), (3, .int 26), (0, .ref h_0), (1, .int 0)]) hx hb d_Md_part_26 rfl hl (by decide) rfl (fun ls hl => ?_)
  refine lv_iinc (v := 27) (lv' := [(3, .int 27), (2, .int 0), (0, .ref h_0), (1, .int 0)]) hx hb d_Md_part_27 hl (k := 1) rfl (by decide +kernel) (by decide) rfl (fun ls hl => ?_)
  refine lv_goto (tgt := 4) hx hb d_Md_part_30 (by decide) ?_
  refine lv_iload_n hx hb d_Md_part_4 rfl (lv_at hl 0 rfl) ?_
  refine lv_bipush (v := 40) hx hb d_Md_part_5 (by decide +kernel) ?_
  refine lv_icmp_ge (tgt := 33) hx hb d_Md_part_7 (by decide) (fun h => absurd h (by decide +kernel)) (fun _ => ?_)
  refine lv_iload_n hx hb d_Md_part_10 rfl (lv_at hl 1 rfl) ?_
  refine lv_aload_n hx hb d_Md_part_11 rfl (lv_at hl 2 rfl) ?_
  refine va_get (D := (dC, dI)) (ci := 7) (v := .ref h_2) (C := R_Md) (T := F_Md) (N := 64) hx hb htb i_Md hown hK hP 0 rfl rfl 18 (by decide) (htb (.fieldLink R_Md 85 "WaterMenModel" "shares" "[Z") tw_20) (fun _ h9 => h9) rfl d_Md_part_12 ?_
  refine lv_iload_n hx hb d_Md_part_15 rfl (lv_at hl 0 rfl) ?_
  refine va_zald hx hb hK hP 2 1 rfl rfl (by unfold vp_in; decide +kernel) d_Md_part_16 ?_
  refine hb_ti 0 rfl ?_
  refine lv_if_eq (tgt := 24) hx hb d_Md_part_17 (by decide) (fun _ => ?_) (fun h => absurd (by decide +kernel) h)
  refine lv_iconst (v := 0) hx hb d_Md_part_24 (by decide +kernel) ?_
  refine lv_iadd hx hb d_Md_part_25 ?_
  refine hb_ti 0 (by decide +kernel) ?_
  refine lv_istore_n (lv' := [(2, .int 0), (3, .int 27), (0, .ref h_0), (1, .int 0)]) hx hb d_Md_part_26 rfl hl (by decide) rfl (fun ls hl => ?_)
  refine lv_iinc (v := 28) (lv' := [(3, .int 28), (2, .int 0), (0, .ref h_0), (1, .int 0)]) hx hb d_Md_part_27 hl (k := 1) rfl (by decide +kernel) (by decide) rfl (fun ls hl => ?_)
  refine lv_goto (tgt := 4) hx hb d_Md_part_30 (by decide) ?_
  refine lv_iload_n hx hb d_Md_part_4 rfl (lv_at hl 0 rfl) ?_
  refine lv_bipush (v := 40) hx hb d_Md_part_5 (by decide +kernel) ?_
  refine lv_icmp_ge (tgt := 33) hx hb d_Md_part_7 (by decide) (fun h => absurd h (by decide +kernel)) (fun _ => ?_)
  refine lv_iload_n hx hb d_Md_part_10 rfl (lv_at hl 1 rfl) ?_
  refine lv_aload_n hx hb d_Md_part_11 rfl (lv_at hl 2 rfl) ?_
  refine va_get (D := (dC, dI)) (ci := 7) (v := .ref h_2) (C := R_Md) (T := F_Md) (N := 64) hx hb htb i_Md hown hK hP 0 rfl rfl 18 (by decide) (htb (.fieldLink R_Md 85 "WaterMenModel" "shares" "[Z") tw_20) (fun _ h9 => h9) rfl d_Md_part_12 ?_
  refine lv_iload_n hx hb d_Md_part_15 rfl (lv_at hl 0 rfl) ?_
  refine va_zald hx hb hK hP 2 1 rfl rfl (by unfold vp_in; decide +kernel) d_Md_part_16 ?_
  refine hb_ti 0 rfl ?_
  refine lv_if_eq (tgt := 24) hx hb d_Md_part_17 (by decide) (fun _ => ?_) (fun h => absurd (by decide +kernel) h)
  refine lv_iconst (v := 0) hx hb d_Md_part_24 (by decide +kernel) ?_
  refine lv_iadd hx hb d_Md_part_25 ?_
  refine hb_ti 0 (by decide +kernel) ?_
  refine lv_istore_n (lv' := [(2, .int 0), (3, .int 28), (0, .ref h_0), (1, .int 0)]) hx hb d_Md_part_26 rfl hl (by decide) rfl (fun ls hl => ?_)
  refine lv_iinc (v := 29) (lv' := [(3, .int 29), (2, .int 0), (0, .ref h_0), (1, .int 0)]) hx hb d_Md_part_27 hl (k := 1) rfl (by decide +kernel) (by decide) rfl (fun ls hl => ?_)
  refine lv_goto (tgt := 4) hx hb d_Md_part_30 (by decide) ?_
  refine lv_iload_n hx hb d_Md_part_4 rfl (lv_at hl 0 rfl) ?_
  refine lv_bipush (v := 40) hx hb d_Md_part_5 (by decide +kernel) ?_
  refine lv_icmp_ge (tgt := 33) hx hb d_Md_part_7 (by decide) (fun h => absurd h (by decide +kernel)) (fun _ => ?_)
  refine lv_iload_n hx hb d_Md_part_10 rfl (lv_at hl 1 rfl) ?_
  refine lv_aload_n hx hb d_Md_part_11 rfl (lv_at hl 2 rfl) ?_
  refine va_get (D := (dC, dI)) (ci := 7) (v := .ref h_2) (C := R_Md) (T := F_Md) (N := 64) hx hb htb i_Md hown hK hP 0 rfl rfl 18 (by decide) (htb (.fieldLink R_Md 85 "WaterMenModel" "shares" "[Z") tw_20) (fun _ h9 => h9) rfl d_Md_part_12 ?_
  refine lv_iload_n hx hb d_Md_part_15 rfl (lv_at hl 0 rfl) ?_
  refine va_zald hx hb hK hP 2 1 rfl rfl (by unfold vp_in; decide +kernel) d_Md_part_16 ?_
  refine hb_ti 0 rfl ?_
  refine lv_if_eq (tgt := 24) hx hb d_Md_part_17 (by decide) (fun _ => ?_) (fun h => absurd (by decide +kernel) h)
  refine lv_iconst (v := 0) hx hb d_Md_part_24 (by decide +kernel) ?_
  refine lv_iadd hx hb d_Md_part_25 ?_
  refine hb_ti 0 (by decide +kernel) ?_
  refine lv_istore_n (lv' := [(2, .int 0), (3, .int 29), (0, .ref h_0), (1, .int 0)]) hx hb d_Md_part_26 rfl hl (by decide) rfl (fun ls hl => ?_)
  refine lv_iinc (v := 30) (lv' := [(3, .int 30), (2, .int 0), (0, .ref h_0), (1, .int 0)]) hx hb d_Md_part_27 hl (k := 1) rfl (by decide +kernel) (by decide) rfl (fun ls hl => ?_)
  refine lv_goto (tgt := 4) hx hb d_Md_part_30 (by decide) ?_
  refine lv_iload_n hx hb d_Md_part_4 rfl (lv_at hl 0 rfl) ?_
  refine lv_bipush (v := 40) hx hb d_Md_part_5 (by decide +kernel) ?_
  refine lv_icmp_ge (tgt := 33) hx hb d_Md_part_7 (by decide) (fun h => absurd h (by decide +kernel)) (fun _ => ?_)
  refine lv_iload_n hx hb d_Md_part_10 rfl (lv_at hl 1 rfl) ?_
  refine lv_aload_n hx hb d_Md_part_11 rfl (lv_at hl 2 rfl) ?_
  refine va_get (D := (dC, dI)) (ci := 7) (v := .ref h_2) (C := R_Md) (T := F_Md) (N := 64) hx hb htb i_Md hown hK hP 0 rfl rfl 18 (by decide) (htb (.fieldLink R_Md 85 "WaterMenModel" "shares" "[Z") tw_20) (fun _ h9 => h9) rfl d_Md_part_12 ?_
  refine lv_iload_n hx hb d_Md_part_15 rfl (lv_at hl 0 rfl) ?_
  refine va_zald hx hb hK hP 2 1 rfl rfl (by unfold vp_in; decide +kernel) d_Md_part_16 ?_
  refine hb_ti 0 rfl ?_
  refine lv_if_eq (tgt := 24) hx hb d_Md_part_17 (by decide) (fun _ => ?_) (fun h => absurd (by decide +kernel) h)
  refine lv_iconst (v := 0) hx hb d_Md_part_24 (by decide +kernel) ?_
  refine lv_iadd hx hb d_Md_part_25 ?_
  refine hb_ti 0 (by decide +kernel) ?_
  refine lv_istore_n (lv' := [(2, .int 0), (3, .int 30), (0, .ref h_0), (1, .int 0)]) hx hb d_Md_part_26 rfl hl (by decide) rfl (fun ls hl => ?_)
  refine lv_iinc (v := 31) (lv' := [(3, .int 31), (2, .int 0), (0, .ref h_0), (1, .int 0)]) hx hb d_Md_part_27 hl (k := 1) rfl (by decide +kernel) (by decide) rfl (fun ls hl => ?_)
  refine lv_goto (tgt := 4) hx hb d_Md_part_30 (by decide) ?_
  refine lv_iload_n hx hb d_Md_part_4 rfl (lv_at hl 0 rfl) ?_
  refine lv_bipush (v := 40) hx hb d_Md_part_5 (by decide +kernel) ?_
  refine lv_icmp_ge (tgt := 33) hx hb d_Md_part_7 (by decide) (fun h => absurd h (by decide +kernel)) (fun _ => ?_)
  refine lv_iload_n hx hb d_Md_part_10 rfl (lv_at hl 1 rfl) ?_
  refine lv_aload_n hx hb d_Md_part_11 rfl (lv_at hl 2 rfl) ?_
  refine va_get (D := (dC, dI)) (ci := 7) (v := .ref h_2) (C := R_Md) (T := F_Md) (N := 64) hx hb htb i_Md hown hK hP 0 rfl rfl 18 (by decide) (htb (.fieldLink R_Md 85 "WaterMenModel" "shares" "[Z") tw_20) (fun _ h9 => h9) rfl d_Md_part_12 ?_
  refine lv_iload_n hx hb d_Md_part_15 rfl (lv_at hl 0 rfl) ?_
  refine va_zald hx hb hK hP 2 1 rfl rfl (by unfold vp_in; decide +kernel) d_Md_part_16 ?_
  refine hb_ti 0 rfl ?_
  refine lv_if_eq (tgt := 24) hx hb d_Md_part_17 (by decide) (fun _ => ?_) (fun h => absurd (by decide +kernel) h)
  refine lv_iconst (v := 0) hx hb d_Md_part_24 (by decide +kernel) ?_
  refine lv_iadd hx hb d_Md_part_25 ?_
  refine hb_ti 0 (by decide +kernel) ?_
  refine lv_istore_n (lv' := [(2, .int 0), (3, .int 31), (0, .ref h_0), (1, .int 0)]) hx hb d_Md_part_26 rfl hl (by decide) rfl (fun ls hl => ?_)
  refine lv_iinc (v := 32) (lv' := [(3, .int 32), (2, .int 0), (0, .ref h_0), (1, .int 0)]) hx hb d_Md_part_27 hl (k := 1) rfl (by decide +kernel) (by decide) rfl (fun ls hl => ?_)
  refine lv_goto (tgt := 4) hx hb d_Md_part_30 (by decide) ?_
  refine lv_iload_n hx hb d_Md_part_4 rfl (lv_at hl 0 rfl) ?_
  refine lv_bipush (v := 40) hx hb d_Md_part_5 (by decide +kernel) ?_
  refine lv_icmp_ge (tgt := 33) hx hb d_Md_part_7 (by decide) (fun h => absurd h (by decide +kernel)) (fun _ => ?_)
  refine lv_iload_n hx hb d_Md_part_10 rfl (lv_at hl 1 rfl) ?_
  refine lv_aload_n hx hb d_Md_part_11 rfl (lv_at hl 2 rfl) ?_
  refine va_get (D := (dC, dI)) (ci := 7) (v := .ref h_2) (C := R_Md) (T := F_Md) (N := 64) hx hb htb i_Md hown hK hP 0 rfl rfl 18 (by decide) (htb (.fieldLink R_Md 85 "WaterMenModel" "shares" "[Z") tw_20) (fun _ h9 => h9) rfl d_Md_part_12 ?_
  refine lv_iload_n hx hb d_Md_part_15 rfl (lv_at hl 0 rfl) ?_
  refine va_zald hx hb hK hP 2 1 rfl rfl (by unfold vp_in; decide +kernel) d_Md_part_16 ?_
  refine hb_ti 0 rfl ?_
  refine lv_if_eq (tgt := 24) hx hb d_Md_part_17 (by decide) (fun _ => ?_) (fun h => absurd (by decide +kernel) h)
  refine lv_iconst (v := 0) hx hb d_Md_part_24 (by decide +kernel) ?_
  refine lv_iadd hx hb d_Md_part_25 ?_
  refine hb_ti 0 (by decide +kernel) ?_
  refine lv_istore_n (lv' := [(2, .int 0), (3, .int 32), (0, .ref h_0), (1, .int 0)]) hx hb d_Md_part_26 rfl hl (by decide) rfl (fun ls hl => ?_)
  refine lv_iinc (v := 33) (lv' := [(3, .int 33), (2, .int 0), (0, .ref h_0), (1, .int 0)]) hx hb d_Md_part_27 hl (k := 1) rfl (by decide +kernel) (by decide) rfl (fun ls hl => ?_)
  refine lv_goto (tgt := 4) hx hb d_Md_part_30 (by decide) ?_
  refine lv_iload_n hx hb d_Md_part_4 rfl (lv_at hl 0 rfl) ?_
  refine lv_bipush (v := 40) hx hb d_Md_part_5 (by decide +kernel) ?_
  refine lv_icmp_ge (tgt := 33) hx hb d_Md_part_7 (by decide) (fun h => absurd h (by decide +kernel)) (fun _ => ?_)
  refine lv_iload_n hx hb d_Md_part_10 rfl (lv_at hl 1 rfl) ?_
  refine lv_aload_n hx hb d_Md_part_11 rfl (lv_at hl 2 rfl) ?_
  refine va_get (D := (dC, dI)) (ci := 7) (v := .ref h_2) (C := R_Md) (T := F_Md) (N := 64) hx hb htb i_Md hown hK hP 0 rfl rfl 18 (by decide) (htb (.fieldLink R_Md 85 "WaterMenModel" "shares" "[Z") tw_20) (fun _ h9 => h9) rfl d_Md_part_12 ?_
  refine lv_iload_n hx hb d_Md_part_15 rfl (lv_at hl 0 rfl) ?_
  refine va_zald hx hb hK hP 2 1 rfl rfl (by unfold vp_in; decide +kernel) d_Md_part_16 ?_
  refine hb_ti 0 rfl ?_
  refine lv_if_eq (tgt := 24) hx hb d_Md_part_17 (by decide) (fun _ => ?_) (fun h => absurd (by decide +kernel) h)
  refine lv_iconst (v := 0) hx hb d_Md_part_24 (by decide +kernel) ?_
  refine lv_iadd hx hb d_Md_part_25 ?_
  refine hb_ti 0 (by decide +kernel) ?_
  refine lv_istore_n (lv' := [(2, .int 0), (3, .int 33), (0, .ref h_0), (1, .int 0)]) hx hb d_Md_part_26 rfl hl (by decide) rfl (fun ls hl => ?_)
  refine lv_iinc (v := 34) (lv' := [(3, .int 34), (2, .int 0), (0, .ref h_0), (1, .int 0)]) hx hb d_Md_part_27 hl (k := 1) rfl (by decide +kernel) (by decide) rfl (fun ls hl => ?_)
  refine lv_goto (tgt := 4) hx hb d_Md_part_30 (by decide) ?_
  refine lv_iload_n hx hb d_Md_part_4 rfl (lv_at hl 0 rfl) ?_
  refine lv_bipush (v := 40) hx hb d_Md_part_5 (by decide +kernel) ?_
  refine lv_icmp_ge (tgt := 33) hx hb d_Md_part_7 (by decide) (fun h => absurd h (by decide +kernel)) (fun _ => ?_)
  refine lv_iload_n hx hb d_Md_part_10 rfl (lv_at hl 1 rfl) ?_
  refine lv_aload_n hx hb d_Md_part_11 rfl (lv_at hl 2 rfl) ?_
  refine va_get (D := (dC, dI)) (ci := 7) (v := .ref h_2) (C := R_Md) (T := F_Md) (N := 64) hx hb htb i_Md hown hK hP 0 rfl rfl 18 (by decide) (htb (.fieldLink R_Md 85 "WaterMenModel" "shares" "[Z") tw_20) (fun _ h9 => h9) rfl d_Md_part_12 ?_
  refine lv_iload_n hx hb d_Md_part_15 rfl (lv_at hl 0 rfl) ?_
  refine va_zald hx hb hK hP 2 1 rfl rfl (by unfold vp_in; decide +kernel) d_Md_part_16 ?_
  refine hb_ti 0 rfl ?_
  refine lv_if_eq (tgt := 24) hx hb d_Md_part_17 (by decide) (fun _ => ?_) (fun h => absurd (by decide +kernel) h)
  refine lv_iconst (v := 0) hx hb d_Md_part_24 (by decide +kernel) ?_
  refine lv_iadd hx hb d_Md_part_25 ?_
  refine hb_ti 0 (by decide +kernel) ?_
  refine lv_istore_n (lv' := [(2, .int 0), (3, .int 34), (0, .ref h_0), (1, .int 0)]) hx hb d_Md_part_26 rfl hl (by decide) rfl (fun ls hl => ?_)
  refine lv_iinc (v := 35) (lv' := [(3, .int 35), (2, .int 0), (0, .ref h_0), (1, .int 0)]) hx hb d_Md_part_27 hl (k := 1) rfl (by decide +kernel) (by decide) rfl (fun ls hl => ?_)
  refine lv_goto (tgt := 4) hx hb d_Md_part_30 (by decide) ?_
  refine lv_iload_n hx hb d_Md_part_4 rfl (lv_at hl 0 rfl) ?_
  refine lv_bipush (v := 40) hx hb d_Md_part_5 (by decide +kernel) ?_
  refine lv_icmp_ge (tgt := 33) hx hb d_Md_part_7 (by decide) (fun h => absurd h (by decide +kernel)) (fun _ => ?_)
  refine lv_iload_n hx hb d_Md_part_10 rfl (lv_at hl 1 rfl) ?_
  refine lv_aload_n hx hb d_Md_part_11 rfl (lv_at hl 2 rfl) ?_
  refine va_get (D := (dC, dI)) (ci := 7) (v := .ref h_2) (C := R_Md) (T := F_Md) (N := 64) hx hb htb i_Md hown hK hP 0 rfl rfl 18 (by decide) (htb (.fieldLink R_Md 85 "WaterMenModel" "shares" "[Z") tw_20) (fun _ h9 => h9) rfl d_Md_part_12 ?_
  refine lv_iload_n hx hb d_Md_part_15 rfl (lv_at hl 0 rfl) ?_
  refine va_zald hx hb hK hP 2 1 rfl rfl (by unfold vp_in; decide +kernel) d_Md_part_16 ?_
  refine hb_ti 0 rfl ?_
  refine lv_if_eq (tgt := 24) hx hb d_Md_part_17 (by decide) (fun _ => ?_) (fun h => absurd (by decide +kernel) h)
  refine lv_iconst (v := 0) hx hb d_Md_part_24 (by decide +kernel) ?_
  refine lv_iadd hx hb d_Md_part_25 ?_
  refine hb_ti 0 (by decide +kernel) ?_
  refine lv_istore_n (lv' := [(2, .int 0), (3, .int 35), (0, .ref h_0), (1, .int 0)]) hx hb d_Md_part_26 rfl hl (by decide) rfl (fun ls hl => ?_)
  refine lv_iinc (v := 36) (lv' := [(3, .int 36), (2, .int 0), (0, .ref h_0), (1, .int 0)]) hx hb d_Md_part_27 hl (k := 1) rfl (by decide +kernel) (by decide) rfl (fun ls hl => ?_)
  refine lv_goto (tgt := 4) hx hb d_Md_part_30 (by decide) ?_
  refine lv_iload_n hx hb d_Md_part_4 rfl (lv_at hl 0 rfl) ?_
  refine lv_bipush (v := 40) hx hb d_Md_part_5 (by decide +kernel) ?_
  refine lv_icmp_ge (tgt := 33) hx hb d_Md_part_7 (by decide) (fun h => absurd h (by decide +kernel)) (fun _ => ?_)
  refine lv_iload_n hx hb d_Md_part_10 rfl (lv_at hl 1 rfl) ?_
  refine lv_aload_n hx hb d_Md_part_11 rfl (lv_at hl 2 rfl) ?_
  refine va_get (D := (dC, dI)) (ci := 7) (v := .ref h_2) (C := R_Md) (T := F_Md) (N := 64) hx hb htb i_Md hown hK hP 0 rfl rfl 18 (by decide) (htb (.fieldLink R_Md 85 "WaterMenModel" "shares" "[Z") tw_20) (fun _ h9 => h9) rfl d_Md_part_12 ?_
  refine lv_iload_n hx hb d_Md_part_15 rfl (lv_at hl 0 rfl) ?_
  refine va_zald hx hb hK hP 2 1 rfl rfl (by unfold vp_in; decide +kernel) d_Md_part_16 ?_
  refine hb_ti 0 rfl ?_
  refine lv_if_eq (tgt := 24) hx hb d_Md_part_17 (by decide) (fun _ => ?_) (fun h => absurd (by decide +kernel) h)
  refine lv_iconst (v := 0) hx hb d_Md_part_24 (by decide +kernel) ?_
  refine lv_iadd hx hb d_Md_part_25 ?_
  refine hb_ti 0 (by decide +kernel) ?_
  refine lv_istore_n (lv' := [(2, .int 0), (3, .int 36), (0, .ref h_0), (1, .int 0)]) hx hb d_Md_part_26 rfl hl (by decide) rfl (fun ls hl => ?_)
  refine lv_iinc (v := 37) (lv' := [(3, .int 37), (2, .int 0), (0, .ref h_0), (1, .int 0)]) hx hb d_Md_part_27 hl (k := 1) rfl (by decide +kernel) (by decide) rfl (fun ls hl => ?_)
  refine lv_goto (tgt := 4) hx hb d_Md_part_30 (by decide) ?_
  refine lv_iload_n hx hb d_Md_part_4 rfl (lv_at hl 0 rfl) ?_
  refine lv_bipush (v := 40) hx hb d_Md_part_5 (by decide +kernel) ?_
  refine lv_icmp_ge (tgt := 33) hx hb d_Md_part_7 (by decide) (fun h => absurd h (by decide +kernel)) (fun _ => ?_)
  refine lv_iload_n hx hb d_Md_part_10 rfl (lv_at hl 1 rfl) ?_
  refine lv_aload_n hx hb d_Md_part_11 rfl (lv_at hl 2 rfl) ?_
  refine va_get (D := (dC, dI)) (ci := 7) (v := .ref h_2) (C := R_Md) (T := F_Md) (N := 64) hx hb htb i_Md hown hK hP 0 rfl rfl 18 (by decide) (htb (.fieldLink R_Md 85 "WaterMenModel" "shares" "[Z") tw_20) (fun _ h9 => h9) rfl d_Md_part_12 ?_
  refine lv_iload_n hx hb d_Md_part_15 rfl (lv_at hl 0 rfl) ?_
  refine va_zald hx hb hK hP 2 1 rfl rfl (by unfold vp_in; decide +kernel) d_Md_part_16 ?_
  refine hb_ti 0 rfl ?_
  refine lv_if_eq (tgt := 24) hx hb d_Md_part_17 (by decide) (fun _ => ?_) (fun h => absurd (by decide +kernel) h)
  refine lv_iconst (v := 0) hx hb d_Md_part_24 (by decide +kernel) ?_
  refine lv_iadd hx hb d_Md_part_25 ?_
  refine hb_ti 0 (by decide +kernel) ?_
  refine lv_istore_n (lv' := [(2, .int 0), (3, .int 37), (0, .ref h_0), (1, .int 0)]) hx hb d_Md_part_26 rfl hl (by decide) rfl (fun ls hl => ?_)
  refine lv_iinc (v := 38) (lv' := [(3, .int 38), (2, .int 0), (0, .ref h_0), (1, .int 0)]) hx hb d_Md_part_27 hl (k := 1) rfl (by decide +kernel) (by decide) rfl (fun ls hl => ?_)
  refine lv_goto (tgt := 4) hx hb d_Md_part_30 (by decide) ?_
  refine lv_iload_n hx hb d_Md_part_4 rfl (lv_at hl 0 rfl) ?_
  refine lv_bipush (v := 40) hx hb d_Md_part_5 (by decide +kernel) ?_
  refine lv_icmp_ge (tgt := 33) hx hb d_Md_part_7 (by decide) (fun h => absurd h (by decide +kernel)) (fun _ => ?_)
  refine lv_iload_n hx hb d_Md_part_10 rfl (lv_at hl 1 rfl) ?_
  refine lv_aload_n hx hb d_Md_part_11 rfl (lv_at hl 2 rfl) ?_
  refine va_get (D := (dC, dI)) (ci := 7) (v := .ref h_2) (C := R_Md) (T := F_Md) (N := 64) hx hb htb i_Md hown hK hP 0 rfl rfl 18 (by decide) (htb (.fieldLink R_Md 85 "WaterMenModel" "shares" "[Z") tw_20) (fun _ h9 => h9) rfl d_Md_part_12 ?_
  refine lv_iload_n hx hb d_Md_part_15 rfl (lv_at hl 0 rfl) ?_
  refine va_zald hx hb hK hP 2 1 rfl rfl (by unfold vp_in; decide +kernel) d_Md_part_16 ?_
  refine hb_ti 0 rfl ?_
  refine lv_if_eq (tgt := 24) hx hb d_Md_part_17 (by decide) (fun _ => ?_) (fun h => absurd (by decide +kernel) h)
  refine lv_iconst (v := 0) hx hb d_Md_part_24 (by decide +kernel) ?_
  refine lv_iadd hx hb d_Md_part_25 ?_
  refine hb_ti 0 (by decide +kernel) ?_
  refine lv_istore_n (lv' := [(2, .int 0), (3, .int 38), (0, .ref h_0), (1, .int 0)]) hx hb d_Md_part_26 rfl hl (by decide) rfl (fun ls hl => ?_)
  refine lv_iinc (v := 39) (lv' := [(3, .int 39), (2, .int 0), (0, .ref h_0), (1, .int 0)]) hx hb d_Md_part_27 hl (k := 1) rfl (by decide +kernel) (by decide) rfl (fun ls hl => ?_)
  refine lv_goto (tgt := 4) hx hb d_Md_part_30 (by decide) ?_
  refine lv_iload_n hx hb d_Md_part_4 rfl (lv_at hl 0 rfl) ?_
  refine lv_bipush (v := 40) hx hb d_Md_part_5 (by decide +kernel) ?_
  refine lv_icmp_ge (tgt := 33) hx hb d_Md_part_7 (by decide) (fun h => absurd h (by decide +kernel)) (fun _ => ?_)
  refine lv_iload_n hx hb d_Md_part_10 rfl (lv_at hl 1 rfl) ?_
  refine lv_aload_n hx hb d_Md_part_11 rfl (lv_at hl 2 rfl) ?_
  refine va_get (D := (dC, dI)) (ci := 7) (v := .ref h_2) (C := R_Md) (T := F_Md) (N := 64) hx hb htb i_Md hown hK hP 0 rfl rfl 18 (by decide) (htb (.fieldLink R_Md 85 "WaterMenModel" "shares" "[Z") tw_20) (fun _ h9 => h9) rfl d_Md_part_12 ?_
  refine lv_iload_n hx hb d_Md_part_15 rfl (lv_at hl 0 rfl) ?_
  refine va_zald hx hb hK hP 2 1 rfl rfl (by unfold vp_in; decide +kernel) d_Md_part_16 ?_
  refine hb_ti 0 rfl ?_
  refine lv_if_eq (tgt := 24) hx hb d_Md_part_17 (by decide) (fun _ => ?_) (fun h => absurd (by decide +kernel) h)
  refine lv_iconst (v := 0) hx hb d_Md_part_24 (by decide +kernel) ?_
  refine lv_iadd hx hb d_Md_part_25 ?_
  refine hb_ti 0 (by decide +kernel) ?_
  refine lv_istore_n (lv' := [(2, .int 0), (3, .int 39), (0, .ref h_0), (1, .int 0)]) hx hb d_Md_part_26 rfl hl (by decide) rfl (fun ls hl => ?_)
  refine lv_iinc (v := 40) (lv' := [(3, .int 40), (2, .int 0), (0, .ref h_0), (1, .int 0)]) hx hb d_Md_part_27 hl (k := 1) rfl (by decide +kernel) (by decide) rfl (fun ls hl => ?_)
  refine lv_goto (tgt := 4) hx hb d_Md_part_30 (by decide) ?_
  refine lv_iload_n hx hb d_Md_part_4 rfl (lv_at hl 0 rfl) ?_
  refine lv_bipush (v := 40) hx hb d_Md_part_5 (by decide +kernel) ?_
  refine lv_icmp_ge (tgt := 33) hx hb d_Md_part_7 (by decide) (fun _ => ?_) (fun h => absurd (by decide +kernel) h)
  refine lv_iload_n hx hb d_Md_part_33 rfl (lv_at hl 1 rfl) ?_
  refine lv_if_ne (tgt := 41) hx hb d_Md_part_34 (by decide) (fun h => absurd (by decide +kernel) h) (fun _ => ?_)
  refine lv_lconst (v := 0) hx hb d_Md_part_37 (by decide +kernel) ?_
  refine lv_goto (tgt := 48) hx hb d_Md_part_38 (by decide) ?_
  refine lv_lstore_n (lv' := [(3, .long 0), (2, .int 0), (0, .ref h_0), (1, .int 0)]) hx hb d_Md_part_48 rfl hl (by decide) rfl (fun ls hl => ?_)
  refine lv_iconst (v := 0) hx hb d_Md_part_49 (by decide +kernel) ?_
  refine lv_istore (lv' := [(5, .int 0), (3, .long 0), (2, .int 0), (0, .ref h_0), (1, .int 0)]) hx hb d_Md_part_50 hl (by decide) rfl (fun ls hl => ?_)
  refine lv_iload hx hb d_Md_part_52 (lv_at hl 0 rfl) ?_
  refine lv_bipush (v := 40) hx hb d_Md_part_54 (by decide +kernel) ?_
  refine lv_icmp_ge (tgt := 95) hx hb d_Md_part_56 (by decide) (fun h => absurd h (by decide +kernel)) (fun _ => ?_)
  refine lv_aload_n hx hb d_Md_part_59 rfl (lv_at hl 3 rfl) ?_
  refine va_get (D := (dC, dI)) (ci := 7) (v := .ref h_2) (C := R_Md) (T := F_Md) (N := 64) hx hb htb i_Md hown hK hP 0 rfl rfl 18 (by decide) (htb (.fieldLink R_Md 85 "WaterMenModel" "shares" "[Z") tw_20) (fun _ h9 => h9) rfl d_Md_part_60 ?_
  refine lv_iload hx hb d_Md_part_63 (lv_at hl 0 rfl) ?_
  refine va_zald hx hb hK hP 2 1 rfl rfl (by unfold vp_in; decide +kernel) d_Md_part_65 ?_
  refine hb_ti 0 rfl ?_
  refine lv_if_eq (tgt := 81) hx hb d_Md_part_66 (by decide) (fun _ => ?_) (fun h => absurd (by decide +kernel) h)
  refine lv_aload_n hx hb d_Md_part_81 rfl (lv_at hl 3 rfl) ?_
  refine va_get (D := (dC, dI)) (ci := 7) (v := .ref h_2) (C := R_Md) (T := F_Md) (N := 64) hx hb htb i_Md hown hK hP 0 rfl rfl 18 (by decide) (htb (.fieldLink R_Md 85 "WaterMenModel" "shares" "[Z") tw_20) (fun _ h9 => h9) rfl d_Md_part_82 ?_
  refine lv_iload hx hb d_Md_part_85 (lv_at hl 0 rfl) ?_
  refine lv_iconst (v := 0) hx hb d_Md_part_87 (by decide +kernel) ?_
  refine va_zast hx hb hK hP hD hS 2 1 rfl rfl (by unfold vp_in; decide +kernel) d_Md_part_88 (fun H locs hP hD hS => ?_)
  rw [hb_upd0 0 (0 : Int32).toNatClampNeg (vp_nar .boolean 0) (by decide +kernel)] at hP hD
  have hP : va_P (dC, dI) vwCl [(h_0, .inr (7, [.int 0, .int 720, .int 0, .ref y_0_3, .int (-1), .ref y_0_5, .ref y_0_6, .ref y_0_7, .ref y_0_8, .ref y_0_9, .ref y_0_10, .ref y_0_11, .ref y_0_12, .ref y_0_13, .ref y_0_14, .ref h_1, .ref y_0_16, .ref y_0_17, .ref h_2, .ref y_0_19, .ref y_0_20, .int 0, .ref y_0_22, .ref y_0_23, .ref y_0_24, .ref y_0_25, .ref y_0_26, .ref y_0_27, .int 0, .int 0, .ref y_0_30, .ref y_0_31, .ref y_0_32, .ref y_0_33, .ref y_0_34, .ref y_0_35, .ref y_0_36, .ref y_0_37, .ref y_0_38, .ref y_0_39, .ref y_0_40, .ref y_0_41, .int 0, .int 0, .int 0, .int 0, .int 0, .int 0, .ref y_0_48, .ref y_0_49, .ref y_0_50, .ref y_0_51, .ref y_0_52, .ref y_0_53, .ref y_0_54, .ref y_0_55, .long 0, .long 0, .long 0, .ref h_3, .int 0, .ref y_0_61, .ref y_0_62, .ref y_0_63])), (h_1, .inl (kk_1, 40, .inl (fun _ => 0))), (h_2, .inl (kk_2, 40, .inl (fun _ => 0))), (h_3, .inl (kk_3, 500, .inr (.inl (fun _ => 0))))] H := hP
  have hD : va_D A [(h_0, .inr (7, [.int 0, .int 720, .int 0, .ref y_0_3, .int (-1), .ref y_0_5, .ref y_0_6, .ref y_0_7, .ref y_0_8, .ref y_0_9, .ref y_0_10, .ref y_0_11, .ref y_0_12, .ref y_0_13, .ref y_0_14, .ref h_1, .ref y_0_16, .ref y_0_17, .ref h_2, .ref y_0_19, .ref y_0_20, .int 0, .ref y_0_22, .ref y_0_23, .ref y_0_24, .ref y_0_25, .ref y_0_26, .ref y_0_27, .int 0, .int 0, .ref y_0_30, .ref y_0_31, .ref y_0_32, .ref y_0_33, .ref y_0_34, .ref y_0_35, .ref y_0_36, .ref y_0_37, .ref y_0_38, .ref y_0_39, .ref y_0_40, .ref y_0_41, .int 0, .int 0, .int 0, .int 0, .int 0, .int 0, .ref y_0_48, .ref y_0_49, .ref y_0_50, .ref y_0_51, .ref y_0_52, .ref y_0_53, .ref y_0_54, .ref y_0_55, .long 0, .long 0, .long 0, .ref h_3, .int 0, .ref y_0_61, .ref y_0_62, .ref y_0_63])), (h_1, .inl (kk_1, 40, .inl (fun _ => 0))), (h_2, .inl (kk_2, 40, .inl (fun _ => 0))), (h_3, .inl (kk_3, 500, .inr (.inl (fun _ => 0))))] := hD
  refine lv_iinc (v := 1) (lv' := [(5, .int 1), (3, .long 0), (2, .int 0), (0, .ref h_0), (1, .int 0)]) hx hb d_Md_part_89 hl (k := 0) rfl (by decide +kernel) (by decide) rfl (fun ls hl => ?_)
  refine lv_goto (tgt := 52) hx hb d_Md_part_92 (by decide) ?_
  refine lv_iload hx hb d_Md_part_52 (lv_at hl 0 rfl) ?_
  refine lv_bipush (v := 40) hx hb d_Md_part_54 (by decide +kernel) ?_
  refine lv_icmp_ge (tgt := 95) hx hb d_Md_part_56 (by decide) (fun h => absurd h (by decide +kernel)) (fun _ => ?_)
  refine lv_aload_n hx hb d_Md_part_59 rfl (lv_at hl 3 rfl) ?_
  refine va_get (D := (dC, dI)) (ci := 7) (v := .ref h_2) (C := R_Md) (T := F_Md) (N := 64) hx hb htb i_Md hown hK hP 0 rfl rfl 18 (by decide) (htb (.fieldLink R_Md 85 "WaterMenModel" "shares" "[Z") tw_20) (fun _ h9 => h9) rfl d_Md_part_60 ?_
  refine lv_iload hx hb d_Md_part_63 (lv_at hl 0 rfl) ?_
  refine va_zald hx hb hK hP 2 1 rfl rfl (by unfold vp_in; decide +kernel) d_Md_part_65 ?_
  refine hb_ti 0 rfl ?_
  refine lv_if_eq (tgt := 81) hx hb d_Md_part_66 (by decide) (fun _ => ?_) (fun h => absurd (by decide +kernel) h)
  refine lv_aload_n hx hb d_Md_part_81 rfl (lv_at hl 3 rfl) ?_
  refine va_get (D := (dC, dI)) (ci := 7) (v := .ref h_2) (C := R_Md) (T := F_Md) (N := 64) hx hb htb i_Md hown hK hP 0 rfl rfl 18 (by decide) (htb (.fieldLink R_Md 85 "WaterMenModel" "shares" "[Z") tw_20) (fun _ h9 => h9) rfl d_Md_part_82 ?_
  refine lv_iload hx hb d_Md_part_85 (lv_at hl 0 rfl) ?_
  refine lv_iconst (v := 0) hx hb d_Md_part_87 (by decide +kernel) ?_
  refine va_zast hx hb hK hP hD hS 2 1 rfl rfl (by unfold vp_in; decide +kernel) d_Md_part_88 (fun H locs hP hD hS => ?_)
  rw [hb_upd0 0 (1 : Int32).toNatClampNeg (vp_nar .boolean 0) (by decide +kernel)] at hP hD
  have hP : va_P (dC, dI) vwCl [(h_0, .inr (7, [.int 0, .int 720, .int 0, .ref y_0_3, .int (-1), .ref y_0_5, .ref y_0_6, .ref y_0_7, .ref y_0_8, .ref y_0_9, .ref y_0_10, .ref y_0_11, .ref y_0_12, .ref y_0_13, .ref y_0_14, .ref h_1, .ref y_0_16, .ref y_0_17, .ref h_2, .ref y_0_19, .ref y_0_20, .int 0, .ref y_0_22, .ref y_0_23, .ref y_0_24, .ref y_0_25, .ref y_0_26, .ref y_0_27, .int 0, .int 0, .ref y_0_30, .ref y_0_31, .ref y_0_32, .ref y_0_33, .ref y_0_34, .ref y_0_35, .ref y_0_36, .ref y_0_37, .ref y_0_38, .ref y_0_39, .ref y_0_40, .ref y_0_41, .int 0, .int 0, .int 0, .int 0, .int 0, .int 0, .ref y_0_48, .ref y_0_49, .ref y_0_50, .ref y_0_51, .ref y_0_52, .ref y_0_53, .ref y_0_54, .ref y_0_55, .long 0, .long 0, .long 0, .ref h_3, .int 0, .ref y_0_61, .ref y_0_62, .ref y_0_63])), (h_1, .inl (kk_1, 40, .inl (fun _ => 0))), (h_2, .inl (kk_2, 40, .inl (fun _ => 0))), (h_3, .inl (kk_3, 500, .inr (.inl (fun _ => 0))))] H := hP
  have hD : va_D A [(h_0, .inr (7, [.int 0, .int 720, .int 0, .ref y_0_3, .int (-1), .ref y_0_5, .ref y_0_6, .ref y_0_7, .ref y_0_8, .ref y_0_9, .ref y_0_10, .ref y_0_11, .ref y_0_12, .ref y_0_13, .ref y_0_14, .ref h_1, .ref y_0_16, .ref y_0_17, .ref h_2, .ref y_0_19, .ref y_0_20, .int 0, .ref y_0_22, .ref y_0_23, .ref y_0_24, .ref y_0_25, .ref y_0_26, .ref y_0_27, .int 0, .int 0, .ref y_0_30, .ref y_0_31, .ref y_0_32, .ref y_0_33, .ref y_0_34, .ref y_0_35, .ref y_0_36, .ref y_0_37, .ref y_0_38, .ref y_0_39, .ref y_0_40, .ref y_0_41, .int 0, .int 0, .int 0, .int 0, .int 0, .int 0, .ref y_0_48, .ref y_0_49, .ref y_0_50, .ref y_0_51, .ref y_0_52, .ref y_0_53, .ref y_0_54, .ref y_0_55, .long 0, .long 0, .long 0, .ref h_3, .int 0, .ref y_0_61, .ref y_0_62, .ref y_0_63])), (h_1, .inl (kk_1, 40, .inl (fun _ => 0))), (h_2, .inl (kk_2, 40, .inl (fun _ => 0))), (h_3, .inl (kk_3, 500, .inr (.inl (fun _ => 0))))] := hD
  refine lv_iinc (v := 2) (lv' := [(5, .int 2), (3, .long 0), (2, .int 0), (0, .ref h_0), (1, .int 0)]) hx hb d_Md_part_89 hl (k := 0) rfl (by decide +kernel) (by decide) rfl (fun ls hl => ?_)
  refine lv_goto (tgt := 52) hx hb d_Md_part_92 (by decide) ?_
  refine lv_iload hx hb d_Md_part_52 (lv_at hl 0 rfl) ?_
  refine lv_bipush (v := 40) hx hb d_Md_part_54 (by decide +kernel) ?_
  refine lv_icmp_ge (tgt := 95) hx hb d_Md_part_56 (by decide) (fun h => absurd h (by decide +kernel)) (fun _ => ?_)
  refine lv_aload_n hx hb d_Md_part_59 rfl (lv_at hl 3 rfl) ?_
  refine va_get (D := (dC, dI)) (ci := 7) (v := .ref h_2) (C := R_Md) (T := F_Md) (N := 64) hx hb htb i_Md hown hK hP 0 rfl rfl 18 (by decide) (htb (.fieldLink R_Md 85 "WaterMenModel" "shares" "[Z") tw_20) (fun _ h9 => h9) rfl d_Md_part_60 ?_
  refine lv_iload hx hb d_Md_part_63 (lv_at hl 0 rfl) ?_
  refine va_zald hx hb hK hP 2 1 rfl rfl (by unfold vp_in; decide +kernel) d_Md_part_65 ?_
  refine hb_ti 0 rfl ?_
  refine lv_if_eq (tgt := 81) hx hb d_Md_part_66 (by decide) (fun _ => ?_) (fun h => absurd (by decide +kernel) h)
  refine lv_aload_n hx hb d_Md_part_81 rfl (lv_at hl 3 rfl) ?_
  refine va_get (D := (dC, dI)) (ci := 7) (v := .ref h_2) (C := R_Md) (T := F_Md) (N := 64) hx hb htb i_Md hown hK hP 0 rfl rfl 18 (by decide) (htb (.fieldLink R_Md 85 "WaterMenModel" "shares" "[Z") tw_20) (fun _ h9 => h9) rfl d_Md_part_82 ?_
  refine lv_iload hx hb d_Md_part_85 (lv_at hl 0 rfl) ?_
  refine lv_iconst (v := 0) hx hb d_Md_part_87 (by decide +kernel) ?_
  refine va_zast hx hb hK hP hD hS 2 1 rfl rfl (by unfold vp_in; decide +kernel) d_Md_part_88 (fun H locs hP hD hS => ?_)
  rw [hb_upd0 0 (2 : Int32).toNatClampNeg (vp_nar .boolean 0) (by decide +kernel)] at hP hD
  have hP : va_P (dC, dI) vwCl [(h_0, .inr (7, [.int 0, .int 720, .int 0, .ref y_0_3, .int (-1), .ref y_0_5, .ref y_0_6, .ref y_0_7, .ref y_0_8, .ref y_0_9, .ref y_0_10, .ref y_0_11, .ref y_0_12, .ref y_0_13, .ref y_0_14, .ref h_1, .ref y_0_16, .ref y_0_17, .ref h_2, .ref y_0_19, .ref y_0_20, .int 0, .ref y_0_22, .ref y_0_23, .ref y_0_24, .ref y_0_25, .ref y_0_26, .ref y_0_27, .int 0, .int 0, .ref y_0_30, .ref y_0_31, .ref y_0_32, .ref y_0_33, .ref y_0_34, .ref y_0_35, .ref y_0_36, .ref y_0_37, .ref y_0_38, .ref y_0_39, .ref y_0_40, .ref y_0_41, .int 0, .int 0, .int 0, .int 0, .int 0, .int 0, .ref y_0_48, .ref y_0_49, .ref y_0_50, .ref y_0_51, .ref y_0_52, .ref y_0_53, .ref y_0_54, .ref y_0_55, .long 0, .long 0, .long 0, .ref h_3, .int 0, .ref y_0_61, .ref y_0_62, .ref y_0_63])), (h_1, .inl (kk_1, 40, .inl (fun _ => 0))), (h_2, .inl (kk_2, 40, .inl (fun _ => 0))), (h_3, .inl (kk_3, 500, .inr (.inl (fun _ => 0))))] H := hP
  have hD : va_D A [(h_0, .inr (7, [.int 0, .int 720, .int 0, .ref y_0_3, .int (-1), .ref y_0_5, .ref y_0_6, .ref y_0_7, .ref y_0_8, .ref y_0_9, .ref y_0_10, .ref y_0_11, .ref y_0_12, .ref y_0_13, .ref y_0_14, .ref h_1, .ref y_0_16, .ref y_0_17, .ref h_2, .ref y_0_19, .ref y_0_20, .int 0, .ref y_0_22, .ref y_0_23, .ref y_0_24, .ref y_0_25, .ref y_0_26, .ref y_0_27, .int 0, .int 0, .ref y_0_30, .ref y_0_31, .ref y_0_32, .ref y_0_33, .ref y_0_34, .ref y_0_35, .ref y_0_36, .ref y_0_37, .ref y_0_38, .ref y_0_39, .ref y_0_40, .ref y_0_41, .int 0, .int 0, .int 0, .int 0, .int 0, .int 0, .ref y_0_48, .ref y_0_49, .ref y_0_50, .ref y_0_51, .ref y_0_52, .ref y_0_53, .ref y_0_54, .ref y_0_55, .long 0, .long 0, .long 0, .ref h_3, .int 0, .ref y_0_61, .ref y_0_62, .ref y_0_63])), (h_1, .inl (kk_1, 40, .inl (fun _ => 0))), (h_2, .inl (kk_2, 40, .inl (fun _ => 0))), (h_3, .inl (kk_3, 500, .inr (.inl (fun _ => 0))))] := hD
  refine lv_iinc (v := 3) (lv' := [(5, .int 3), (3, .long 0), (2, .int 0), (0, .ref h_0), (1, .int 0)]) hx hb d_Md_part_89 hl (k := 0) rfl (by decide +kernel) (by decide) rfl (fun ls hl => ?_)
  refine lv_goto (tgt := 52) hx hb d_Md_part_92 (by decide) ?_
  refine lv_iload hx hb d_Md_part_52 (lv_at hl 0 rfl) ?_
  refine lv_bipush (v := 40) hx hb d_Md_part_54 (by decide +kernel) ?_
  refine lv_icmp_ge (tgt := 95) hx hb d_Md_part_56 (by decide) (fun h => absurd h (by decide +kernel)) (fun _ => ?_)
  refine lv_aload_n hx hb d_Md_part_59 rfl (lv_at hl 3 rfl) ?_
  refine va_get (D := (dC, dI)) (ci := 7) (v := .ref h_2) (C := R_Md) (T := F_Md) (N := 64) hx hb htb i_Md hown hK hP 0 rfl rfl 18 (by decide) (htb (.fieldLink R_Md 85 "WaterMenModel" "shares" "[Z") tw_20) (fun _ h9 => h9) rfl d_Md_part_60 ?_
  refine lv_iload hx hb d_Md_part_63 (lv_at hl 0 rfl) ?_
  refine va_zald hx hb hK hP 2 1 rfl rfl (by unfold vp_in; decide +kernel) d_Md_part_65 ?_
  refine hb_ti 0 rfl ?_
  refine lv_if_eq (tgt := 81) hx hb d_Md_part_66 (by decide) (fun _ => ?_) (fun h => absurd (by decide +kernel) h)
  refine lv_aload_n hx hb d_Md_part_81 rfl (lv_at hl 3 rfl) ?_
  refine va_get (D := (dC, dI)) (ci := 7) (v := .ref h_2) (C := R_Md) (T := F_Md) (N := 64) hx hb htb i_Md hown hK hP 0 rfl rfl 18 (by decide) (htb (.fieldLink R_Md 85 "WaterMenModel" "shares" "[Z") tw_20) (fun _ h9 => h9) rfl d_Md_part_82 ?_
  refine lv_iload hx hb d_Md_part_85 (lv_at hl 0 rfl) ?_
  refine lv_iconst (v := 0) hx hb d_Md_part_87 (by decide +kernel) ?_
  refine va_zast hx hb hK hP hD hS 2 1 rfl rfl (by unfold vp_in; decide +kernel) d_Md_part_88 (fun H locs hP hD hS => ?_)
  rw [hb_upd0 0 (3 : Int32).toNatClampNeg (vp_nar .boolean 0) (by decide +kernel)] at hP hD
  have hP : va_P (dC, dI) vwCl [(h_0, .inr (7, [.int 0, .int 720, .int 0, .ref y_0_3, .int (-1), .ref y_0_5, .ref y_0_6, .ref y_0_7, .ref y_0_8, .ref y_0_9, .ref y_0_10, .ref y_0_11, .ref y_0_12, .ref y_0_13, .ref y_0_14, .ref h_1, .ref y_0_16, .ref y_0_17, .ref h_2, .ref y_0_19, .ref y_0_20, .int 0, .ref y_0_22, .ref y_0_23, .ref y_0_24, .ref y_0_25, .ref y_0_26, .ref y_0_27, .int 0, .int 0, .ref y_0_30, .ref y_0_31, .ref y_0_32, .ref y_0_33, .ref y_0_34, .ref y_0_35, .ref y_0_36, .ref y_0_37, .ref y_0_38, .ref y_0_39, .ref y_0_40, .ref y_0_41, .int 0, .int 0, .int 0, .int 0, .int 0, .int 0, .ref y_0_48, .ref y_0_49, .ref y_0_50, .ref y_0_51, .ref y_0_52, .ref y_0_53, .ref y_0_54, .ref y_0_55, .long 0, .long 0, .long 0, .ref h_3, .int 0, .ref y_0_61, .ref y_0_62, .ref y_0_63])), (h_1, .inl (kk_1, 40, .inl (fun _ => 0))), (h_2, .inl (kk_2, 40, .inl (fun _ => 0))), (h_3, .inl (kk_3, 500, .inr (.inl (fun _ => 0))))] H := hP
  have hD : va_D A [(h_0, .inr (7, [.int 0, .int 720, .int 0, .ref y_0_3, .int (-1), .ref y_0_5, .ref y_0_6, .ref y_0_7, .ref y_0_8, .ref y_0_9, .ref y_0_10, .ref y_0_11, .ref y_0_12, .ref y_0_13, .ref y_0_14, .ref h_1, .ref y_0_16, .ref y_0_17, .ref h_2, .ref y_0_19, .ref y_0_20, .int 0, .ref y_0_22, .ref y_0_23, .ref y_0_24, .ref y_0_25, .ref y_0_26, .ref y_0_27, .int 0, .int 0, .ref y_0_30, .ref y_0_31, .ref y_0_32, .ref y_0_33, .ref y_0_34, .ref y_0_35, .ref y_0_36, .ref y_0_37, .ref y_0_38, .ref y_0_39, .ref y_0_40, .ref y_0_41, .int 0, .int 0, .int 0, .int 0, .int 0, .int 0, .ref y_0_48, .ref y_0_49, .ref y_0_50, .ref y_0_51, .ref y_0_52, .ref y_0_53, .ref y_0_54, .ref y_0_55, .long 0, .long 0, .long 0, .ref h_3, .int 0, .ref y_0_61, .ref y_0_62, .ref y_0_63])), (h_1, .inl (kk_1, 40, .inl (fun _ => 0))), (h_2, .inl (kk_2, 40, .inl (fun _ => 0))), (h_3, .inl (kk_3, 500, .inr (.inl (fun _ => 0))))] := hD
  refine lv_iinc (v := 4) (lv' := [(5, .int 4), (3, .long 0), (2, .int 0), (0, .ref h_0), (1, .int 0)]) hx hb d_Md_part_89 hl (k := 0) rfl (by decide +kernel) (by decide) rfl (fun ls hl => ?_)
  refine lv_goto (tgt := 52) hx hb d_Md_part_92 (by decide) ?_
  refine lv_iload hx hb d_Md_part_52 (lv_at hl 0 rfl) ?_
  refine lv_bipush (v := 40) hx hb d_Md_part_54 (by decide +kernel) ?_
  refine lv_icmp_ge (tgt := 95) hx hb d_Md_part_56 (by decide) (fun h => absurd h (by decide +kernel)) (fun _ => ?_)
  refine lv_aload_n hx hb d_Md_part_59 rfl (lv_at hl 3 rfl) ?_
  refine va_get (D := (dC, dI)) (ci := 7) (v := .ref h_2) (C := R_Md) (T := F_Md) (N := 64) hx hb htb i_Md hown hK hP 0 rfl rfl 18 (by decide) (htb (.fieldLink R_Md 85 "WaterMenModel" "shares" "[Z") tw_20) (fun _ h9 => h9) rfl d_Md_part_60 ?_
  refine lv_iload hx hb d_Md_part_63 (lv_at hl 0 rfl) ?_
  refine va_zald hx hb hK hP 2 1 rfl rfl (by unfold vp_in; decide +kernel) d_Md_part_65 ?_
  refine hb_ti 0 rfl ?_
  refine lv_if_eq (tgt := 81) hx hb d_Md_part_66 (by decide) (fun _ => ?_) (fun h => absurd (by decide +kernel) h)
  refine lv_aload_n hx hb d_Md_part_81 rfl (lv_at hl 3 rfl) ?_
  refine va_get (D := (dC, dI)) (ci := 7) (v := .ref h_2) (C := R_Md) (T := F_Md) (N := 64) hx hb htb i_Md hown hK hP 0 rfl rfl 18 (by decide) (htb (.fieldLink R_Md 85 "WaterMenModel" "shares" "[Z") tw_20) (fun _ h9 => h9) rfl d_Md_part_82 ?_
  refine lv_iload hx hb d_Md_part_85 (lv_at hl 0 rfl) ?_
  refine lv_iconst (v := 0) hx hb d_Md_part_87 (by decide +kernel) ?_
  refine va_zast hx hb hK hP hD hS 2 1 rfl rfl (by unfold vp_in; decide +kernel) d_Md_part_88 (fun H locs hP hD hS => ?_)
  rw [hb_upd0 0 (4 : Int32).toNatClampNeg (vp_nar .boolean 0) (by decide +kernel)] at hP hD
  have hP : va_P (dC, dI) vwCl [(h_0, .inr (7, [.int 0, .int 720, .int 0, .ref y_0_3, .int (-1), .ref y_0_5, .ref y_0_6, .ref y_0_7, .ref y_0_8, .ref y_0_9, .ref y_0_10, .ref y_0_11, .ref y_0_12, .ref y_0_13, .ref y_0_14, .ref h_1, .ref y_0_16, .ref y_0_17, .ref h_2, .ref y_0_19, .ref y_0_20, .int 0, .ref y_0_22, .ref y_0_23, .ref y_0_24, .ref y_0_25, .ref y_0_26, .ref y_0_27, .int 0, .int 0, .ref y_0_30, .ref y_0_31, .ref y_0_32, .ref y_0_33, .ref y_0_34, .ref y_0_35, .ref y_0_36, .ref y_0_37, .ref y_0_38, .ref y_0_39, .ref y_0_40, .ref y_0_41, .int 0, .int 0, .int 0, .int 0, .int 0, .int 0, .ref y_0_48, .ref y_0_49, .ref y_0_50, .ref y_0_51, .ref y_0_52, .ref y_0_53, .ref y_0_54, .ref y_0_55, .long 0, .long 0, .long 0, .ref h_3, .int 0, .ref y_0_61, .ref y_0_62, .ref y_0_63])), (h_1, .inl (kk_1, 40, .inl (fun _ => 0))), (h_2, .inl (kk_2, 40, .inl (fun _ => 0))), (h_3, .inl (kk_3, 500, .inr (.inl (fun _ => 0))))] H := hP
  have hD : va_D A [(h_0, .inr (7, [.int 0, .int 720, .int 0, .ref y_0_3, .int (-1), .ref y_0_5, .ref y_0_6, .ref y_0_7, .ref y_0_8, .ref y_0_9, .ref y_0_10, .ref y_0_11, .ref y_0_12, .ref y_0_13, .ref y_0_14, .ref h_1, .ref y_0_16, .ref y_0_17, .ref h_2, .ref y_0_19, .ref y_0_20, .int 0, .ref y_0_22, .ref y_0_23, .ref y_0_24, .ref y_0_25, .ref y_0_26, .ref y_0_27, .int 0, .int 0, .ref y_0_30, .ref y_0_31, .ref y_0_32, .ref y_0_33, .ref y_0_34, .ref y_0_35, .ref y_0_36, .ref y_0_37, .ref y_0_38, .ref y_0_39, .ref y_0_40, .ref y_0_41, .int 0, .int 0, .int 0, .int 0, .int 0, .int 0, .ref y_0_48, .ref y_0_49, .ref y_0_50, .ref y_0_51, .ref y_0_52, .ref y_0_53, .ref y_0_54, .ref y_0_55, .long 0, .long 0, .long 0, .ref h_3, .int 0, .ref y_0_61, .ref y_0_62, .ref y_0_63])), (h_1, .inl (kk_1, 40, .inl (fun _ => 0))), (h_2, .inl (kk_2, 40, .inl (fun _ => 0))), (h_3, .inl (kk_3, 500, .inr (.inl (fun _ => 0))))] := hD
  refine lv_iinc (v := 5) (lv' := [(5, .int 5), (3, .long 0), (2, .int 0), (0, .ref h_0), (1, .int 0)]) hx hb d_Md_part_89 hl (k := 0) rfl (by decide +kernel) (by decide) rfl (fun ls hl => ?_)
  refine lv_goto (tgt := 52) hx hb d_Md_part_92 (by decide) ?_
  refine lv_iload hx hb d_Md_part_52 (lv_at hl 0 rfl) ?_
  refine lv_bipush (v := 40) hx hb d_Md_part_54 (by decide +kernel) ?_
  refine lv_icmp_ge (tgt := 95) hx hb d_Md_part_56 (by decide) (fun h => absurd h (by decide +kernel)) (fun _ => ?_)
  refine lv_aload_n hx hb d_Md_part_59 rfl (lv_at hl 3 rfl) ?_
  refine va_get (D := (dC, dI)) (ci := 7) (v := .ref h_2) (C := R_Md) (T := F_Md) (N := 64) hx hb htb i_Md hown hK hP 0 rfl rfl 18 (by decide) (htb (.fieldLink R_Md 85 "WaterMenModel" "shares" "[Z") tw_20) (fun _ h9 => h9) rfl d_Md_part_60 ?_
  refine lv_iload hx hb d_Md_part_63 (lv_at hl 0 rfl) ?_
  refine va_zald hx hb hK hP 2 1 rfl rfl (by unfold vp_in; decide +kernel) d_Md_part_65 ?_
  refine hb_ti 0 rfl ?_
  refine lv_if_eq (tgt := 81) hx hb d_Md_part_66 (by decide) (fun _ => ?_) (fun h => absurd (by decide +kernel) h)
  refine lv_aload_n hx hb d_Md_part_81 rfl (lv_at hl 3 rfl) ?_
  refine va_get (D := (dC, dI)) (ci := 7) (v := .ref h_2) (C := R_Md) (T := F_Md) (N := 64) hx hb htb i_Md hown hK hP 0 rfl rfl 18 (by decide) (htb (.fieldLink R_Md 85 "WaterMenModel" "shares" "[Z") tw_20) (fun _ h9 => h9) rfl d_Md_part_82 ?_
  refine lv_iload hx hb d_Md_part_85 (lv_at hl 0 rfl) ?_
  refine lv_iconst (v := 0) hx hb d_Md_part_87 (by decide +kernel) ?_
  refine va_zast hx hb hK hP hD hS 2 1 rfl rfl (by unfold vp_in; decide +kernel) d_Md_part_88 (fun H locs hP hD hS => ?_)
  rw [hb_upd0 0 (5 : Int32).toNatClampNeg (vp_nar .boolean 0) (by decide +kernel)] at hP hD
  have hP : va_P (dC, dI) vwCl [(h_0, .inr (7, [.int 0, .int 720, .int 0, .ref y_0_3, .int (-1), .ref y_0_5, .ref y_0_6, .ref y_0_7, .ref y_0_8, .ref y_0_9, .ref y_0_10, .ref y_0_11, .ref y_0_12, .ref y_0_13, .ref y_0_14, .ref h_1, .ref y_0_16, .ref y_0_17, .ref h_2, .ref y_0_19, .ref y_0_20, .int 0, .ref y_0_22, .ref y_0_23, .ref y_0_24, .ref y_0_25, .ref y_0_26, .ref y_0_27, .int 0, .int 0, .ref y_0_30, .ref y_0_31, .ref y_0_32, .ref y_0_33, .ref y_0_34, .ref y_0_35, .ref y_0_36, .ref y_0_37, .ref y_0_38, .ref y_0_39, .ref y_0_40, .ref y_0_41, .int 0, .int 0, .int 0, .int 0, .int 0, .int 0, .ref y_0_48, .ref y_0_49, .ref y_0_50, .ref y_0_51, .ref y_0_52, .ref y_0_53, .ref y_0_54, .ref y_0_55, .long 0, .long 0, .long 0, .ref h_3, .int 0, .ref y_0_61, .ref y_0_62, .ref y_0_63])), (h_1, .inl (kk_1, 40, .inl (fun _ => 0))), (h_2, .inl (kk_2, 40, .inl (fun _ => 0))), (h_3, .inl (kk_3, 500, .inr (.inl (fun _ => 0))))] H := hP
  have hD : va_D A [(h_0, .inr (7, [.int 0, .int 720, .int 0, .ref y_0_3, .int (-1), .ref y_0_5, .ref y_0_6, .ref y_0_7, .ref y_0_8, .ref y_0_9, .ref y_0_10, .ref y_0_11, .ref y_0_12, .ref y_0_13, .ref y_0_14, .ref h_1, .ref y_0_16, .ref y_0_17, .ref h_2, .ref y_0_19, .ref y_0_20, .int 0, .ref y_0_22, .ref y_0_23, .ref y_0_24, .ref y_0_25, .ref y_0_26, .ref y_0_27, .int 0, .int 0, .ref y_0_30, .ref y_0_31, .ref y_0_32, .ref y_0_33, .ref y_0_34, .ref y_0_35, .ref y_0_36, .ref y_0_37, .ref y_0_38, .ref y_0_39, .ref y_0_40, .ref y_0_41, .int 0, .int 0, .int 0, .int 0, .int 0, .int 0, .ref y_0_48, .ref y_0_49, .ref y_0_50, .ref y_0_51, .ref y_0_52, .ref y_0_53, .ref y_0_54, .ref y_0_55, .long 0, .long 0, .long 0, .ref h_3, .int 0, .ref y_0_61, .ref y_0_62, .ref y_0_63])), (h_1, .inl (kk_1, 40, .inl (fun _ => 0))), (h_2, .inl (kk_2, 40, .inl (fun _ => 0))), (h_3, .inl (kk_3, 500, .inr (.inl (fun _ => 0))))] := hD
  refine lv_iinc (v := 6) (lv' := [(5, .int 6), (3, .long 0), (2, .int 0), (0, .ref h_0), (1, .int 0)]) hx hb d_Md_part_89 hl (k := 0) rfl (by decide +kernel) (by decide) rfl (fun ls hl => ?_)
  refine lv_goto (tgt := 52) hx hb d_Md_part_92 (by decide) ?_
  refine lv_iload hx hb d_Md_part_52 (lv_at hl 0 rfl) ?_
  refine lv_bipush (v := 40) hx hb d_Md_part_54 (by decide +kernel) ?_
  refine lv_icmp_ge (tgt := 95) hx hb d_Md_part_56 (by decide) (fun h => absurd h (by decide +kernel)) (fun _ => ?_)
  refine lv_aload_n hx hb d_Md_part_59 rfl (lv_at hl 3 rfl) ?_
  refine va_get (D := (dC, dI)) (ci := 7) (v := .ref h_2) (C := R_Md) (T := F_Md) (N := 64) hx hb htb i_Md hown hK hP 0 rfl rfl 18 (by decide) (htb (.fieldLink R_Md 85 "WaterMenModel" "shares" "[Z") tw_20) (fun _ h9 => h9) rfl d_Md_part_60 ?_
  refine lv_iload hx hb d_Md_part_63 (lv_at hl 0 rfl) ?_
  refine va_zald hx hb hK hP 2 1 rfl rfl (by unfold vp_in; decide +kernel) d_Md_part_65 ?_
  refine hb_ti 0 rfl ?_
  refine lv_if_eq (tgt := 81) hx hb d_Md_part_66 (by decide) (fun _ => ?_) (fun h => absurd (by decide +kernel) h)
  refine lv_aload_n hx hb d_Md_part_81 rfl (lv_at hl 3 rfl) ?_
  refine va_get (D := (dC, dI)) (ci := 7) (v := .ref h_2) (C := R_Md) (T := F_Md) (N := 64) hx hb htb i_Md hown hK hP 0 rfl rfl 18 (by decide) (htb (.fieldLink R_Md 85 "WaterMenModel" "shares" "[Z") tw_20) (fun _ h9 => h9) rfl d_Md_part_82 ?_
  refine lv_iload hx hb d_Md_part_85 (lv_at hl 0 rfl) ?_
  refine lv_iconst (v := 0) hx hb d_Md_part_87 (by decide +kernel) ?_
  refine va_zast hx hb hK hP hD hS 2 1 rfl rfl (by unfold vp_in; decide +kernel) d_Md_part_88 (fun H locs hP hD hS => ?_)
  rw [hb_upd0 0 (6 : Int32).toNatClampNeg (vp_nar .boolean 0) (by decide +kernel)] at hP hD
  have hP : va_P (dC, dI) vwCl [(h_0, .inr (7, [.int 0, .int 720, .int 0, .ref y_0_3, .int (-1), .ref y_0_5, .ref y_0_6, .ref y_0_7, .ref y_0_8, .ref y_0_9, .ref y_0_10, .ref y_0_11, .ref y_0_12, .ref y_0_13, .ref y_0_14, .ref h_1, .ref y_0_16, .ref y_0_17, .ref h_2, .ref y_0_19, .ref y_0_20, .int 0, .ref y_0_22, .ref y_0_23, .ref y_0_24, .ref y_0_25, .ref y_0_26, .ref y_0_27, .int 0, .int 0, .ref y_0_30, .ref y_0_31, .ref y_0_32, .ref y_0_33, .ref y_0_34, .ref y_0_35, .ref y_0_36, .ref y_0_37, .ref y_0_38, .ref y_0_39, .ref y_0_40, .ref y_0_41, .int 0, .int 0, .int 0, .int 0, .int 0, .int 0, .ref y_0_48, .ref y_0_49, .ref y_0_50, .ref y_0_51, .ref y_0_52, .ref y_0_53, .ref y_0_54, .ref y_0_55, .long 0, .long 0, .long 0, .ref h_3, .int 0, .ref y_0_61, .ref y_0_62, .ref y_0_63])), (h_1, .inl (kk_1, 40, .inl (fun _ => 0))), (h_2, .inl (kk_2, 40, .inl (fun _ => 0))), (h_3, .inl (kk_3, 500, .inr (.inl (fun _ => 0))))] H := hP
  have hD : va_D A [(h_0, .inr (7, [.int 0, .int 720, .int 0, .ref y_0_3, .int (-1), .ref y_0_5, .ref y_0_6, .ref y_0_7, .ref y_0_8, .ref y_0_9, .ref y_0_10, .ref y_0_11, .ref y_0_12, .ref y_0_13, .ref y_0_14, .ref h_1, .ref y_0_16, .ref y_0_17, .ref h_2, .ref y_0_19, .ref y_0_20, .int 0, .ref y_0_22, .ref y_0_23, .ref y_0_24, .ref y_0_25, .ref y_0_26, .ref y_0_27, .int 0, .int 0, .ref y_0_30, .ref y_0_31, .ref y_0_32, .ref y_0_33, .ref y_0_34, .ref y_0_35, .ref y_0_36, .ref y_0_37, .ref y_0_38, .ref y_0_39, .ref y_0_40, .ref y_0_41, .int 0, .int 0, .int 0, .int 0, .int 0, .int 0, .ref y_0_48, .ref y_0_49, .ref y_0_50, .ref y_0_51, .ref y_0_52, .ref y_0_53, .ref y_0_54, .ref y_0_55, .long 0, .long 0, .long 0, .ref h_3, .int 0, .ref y_0_61, .ref y_0_62, .ref y_0_63])), (h_1, .inl (kk_1, 40, .inl (fun _ => 0))), (h_2, .inl (kk_2, 40, .inl (fun _ => 0))), (h_3, .inl (kk_3, 500, .inr (.inl (fun _ => 0))))] := hD
  refine lv_iinc (v := 7) (lv' := [(5, .int 7), (3, .long 0), (2, .int 0), (0, .ref h_0), (1, .int 0)]) hx hb d_Md_part_89 hl (k := 0) rfl (by decide +kernel) (by decide) rfl (fun ls hl => ?_)
  refine lv_goto (tgt := 52) hx hb d_Md_part_92 (by decide) ?_
  refine lv_iload hx hb d_Md_part_52 (lv_at hl 0 rfl) ?_
  refine lv_bipush (v := 40) hx hb d_Md_part_54 (by decide +kernel) ?_
  refine lv_icmp_ge (tgt := 95) hx hb d_Md_part_56 (by decide) (fun h => absurd h (by decide +kernel)) (fun _ => ?_)
  refine lv_aload_n hx hb d_Md_part_59 rfl (lv_at hl 3 rfl) ?_
  refine va_get (D := (dC, dI)) (ci := 7) (v := .ref h_2) (C := R_Md) (T := F_Md) (N := 64) hx hb htb i_Md hown hK hP 0 rfl rfl 18 (by decide) (htb (.fieldLink R_Md 85 "WaterMenModel" "shares" "[Z") tw_20) (fun _ h9 => h9) rfl d_Md_part_60 ?_
  refine lv_iload hx hb d_Md_part_63 (lv_at hl 0 rfl) ?_
  refine va_zald hx hb hK hP 2 1 rfl rfl (by unfold vp_in; decide +kernel) d_Md_part_65 ?_
  refine hb_ti 0 rfl ?_
  refine lv_if_eq (tgt := 81) hx hb d_Md_part_66 (by decide) (fun _ => ?_) (fun h => absurd (by decide +kernel) h)
  refine lv_aload_n hx hb d_Md_part_81 rfl (lv_at hl 3 rfl) ?_
  refine va_get (D := (dC, dI)) (ci := 7) (v := .ref h_2) (C := R_Md) (T := F_Md) (N := 64) hx hb htb i_Md hown hK hP 0 rfl rfl 18 (by decide) (htb (.fieldLink R_Md 85 "WaterMenModel" "shares" "[Z") tw_20) (fun _ h9 => h9) rfl d_Md_part_82 ?_
  refine lv_iload hx hb d_Md_part_85 (lv_at hl 0 rfl) ?_
  refine lv_iconst (v := 0) hx hb d_Md_part_87 (by decide +kernel) ?_
  refine va_zast hx hb hK hP hD hS 2 1 rfl rfl (by unfold vp_in; decide +kernel) d_Md_part_88 (fun H locs hP hD hS => ?_)
  rw [hb_upd0 0 (7 : Int32).toNatClampNeg (vp_nar .boolean 0) (by decide +kernel)] at hP hD
  have hP : va_P (dC, dI) vwCl [(h_0, .inr (7, [.int 0, .int 720, .int 0, .ref y_0_3, .int (-1), .ref y_0_5, .ref y_0_6, .ref y_0_7, .ref y_0_8, .ref y_0_9, .ref y_0_10, .ref y_0_11, .ref y_0_12, .ref y_0_13, .ref y_0_14, .ref h_1, .ref y_0_16, .ref y_0_17, .ref h_2, .ref y_0_19, .ref y_0_20, .int 0, .ref y_0_22, .ref y_0_23, .ref y_0_24, .ref y_0_25, .ref y_0_26, .ref y_0_27, .int 0, .int 0, .ref y_0_30, .ref y_0_31, .ref y_0_32, .ref y_0_33, .ref y_0_34, .ref y_0_35, .ref y_0_36, .ref y_0_37, .ref y_0_38, .ref y_0_39, .ref y_0_40, .ref y_0_41, .int 0, .int 0, .int 0, .int 0, .int 0, .int 0, .ref y_0_48, .ref y_0_49, .ref y_0_50, .ref y_0_51, .ref y_0_52, .ref y_0_53, .ref y_0_54, .ref y_0_55, .long 0, .long 0, .long 0, .ref h_3, .int 0, .ref y_0_61, .ref y_0_62, .ref y_0_63])), (h_1, .inl (kk_1, 40, .inl (fun _ => 0))), (h_2, .inl (kk_2, 40, .inl (fun _ => 0))), (h_3, .inl (kk_3, 500, .inr (.inl (fun _ => 0))))] H := hP
  have hD : va_D A [(h_0, .inr (7, [.int 0, .int 720, .int 0, .ref y_0_3, .int (-1), .ref y_0_5, .ref y_0_6, .ref y_0_7, .ref y_0_8, .ref y_0_9, .ref y_0_10, .ref y_0_11, .ref y_0_12, .ref y_0_13, .ref y_0_14, .ref h_1, .ref y_0_16, .ref y_0_17, .ref h_2, .ref y_0_19, .ref y_0_20, .int 0, .ref y_0_22, .ref y_0_23, .ref y_0_24, .ref y_0_25, .ref y_0_26, .ref y_0_27, .int 0, .int 0, .ref y_0_30, .ref y_0_31, .ref y_0_32, .ref y_0_33, .ref y_0_34, .ref y_0_35, .ref y_0_36, .ref y_0_37, .ref y_0_38, .ref y_0_39, .ref y_0_40, .ref y_0_41, .int 0, .int 0, .int 0, .int 0, .int 0, .int 0, .ref y_0_48, .ref y_0_49, .ref y_0_50, .ref y_0_51, .ref y_0_52, .ref y_0_53, .ref y_0_54, .ref y_0_55, .long 0, .long 0, .long 0, .ref h_3, .int 0, .ref y_0_61, .ref y_0_62, .ref y_0_63])), (h_1, .inl (kk_1, 40, .inl (fun _ => 0))), (h_2, .inl (kk_2, 40, .inl (fun _ => 0))), (h_3, .inl (kk_3, 500, .inr (.inl (fun _ => 0))))] := hD
  refine lv_iinc (v := 8) (lv' := [(5, .int 8), (3, .long 0), (2, .int 0), (0, .ref h_0), (1, .int 0)]) hx hb d_Md_part_89 hl (k := 0) rfl (by decide +kernel) (by decide) rfl (fun ls hl => ?_)
  refine lv_goto (tgt := 52) hx hb d_Md_part_92 (by decide) ?_
  refine lv_iload hx hb d_Md_part_52 (lv_at hl 0 rfl) ?_
  refine lv_bipush (v := 40) hx hb d_Md_part_54 (by decide +kernel) ?_
  refine lv_icmp_ge (tgt := 95) hx hb d_Md_part_56 (by decide) (fun h => absurd h (by decide +kernel)) (fun _ => ?_)
  refine lv_aload_n hx hb d_Md_part_59 rfl (lv_at hl 3 rfl) ?_
  refine va_get (D := (dC, dI)) (ci := 7) (v := .ref h_2) (C := R_Md) (T := F_Md) (N := 64) hx hb htb i_Md hown hK hP 0 rfl rfl 18 (by decide) (htb (.fieldLink R_Md 85 "WaterMenModel" "shares" "[Z") tw_20) (fun _ h9 => h9) rfl d_Md_part_60 ?_
  refine lv_iload hx hb d_Md_part_63 (lv_at hl 0 rfl) ?_
  refine va_zald hx hb hK hP 2 1 rfl rfl (by unfold vp_in; decide +kernel) d_Md_part_65 ?_
  refine hb_ti 0 rfl ?_
  refine lv_if_eq (tgt := 81) hx hb d_Md_part_66 (by decide) (fun _ => ?_) (fun h => absurd (by decide +kernel) h)
  refine lv_aload_n hx hb d_Md_part_81 rfl (lv_at hl 3 rfl) ?_
  refine va_get (D := (dC, dI)) (ci := 7) (v := .ref h_2) (C := R_Md) (T := F_Md) (N := 64) hx hb htb i_Md hown hK hP 0 rfl rfl 18 (by decide) (htb (.fieldLink R_Md 85 "WaterMenModel" "shares" "[Z") tw_20) (fun _ h9 => h9) rfl d_Md_part_82 ?_
  refine lv_iload hx hb d_Md_part_85 (lv_at hl 0 rfl) ?_
  refine lv_iconst (v := 0) hx hb d_Md_part_87 (by decide +kernel) ?_
  refine va_zast hx hb hK hP hD hS 2 1 rfl rfl (by unfold vp_in; decide +kernel) d_Md_part_88 (fun H locs hP hD hS => ?_)
  rw [hb_upd0 0 (8 : Int32).toNatClampNeg (vp_nar .boolean 0) (by decide +kernel)] at hP hD
  have hP : va_P (dC, dI) vwCl [(h_0, .inr (7, [.int 0, .int 720, .int 0, .ref y_0_3, .int (-1), .ref y_0_5, .ref y_0_6, .ref y_0_7, .ref y_0_8, .ref y_0_9, .ref y_0_10, .ref y_0_11, .ref y_0_12, .ref y_0_13, .ref y_0_14, .ref h_1, .ref y_0_16, .ref y_0_17, .ref h_2, .ref y_0_19, .ref y_0_20, .int 0, .ref y_0_22, .ref y_0_23, .ref y_0_24, .ref y_0_25, .ref y_0_26, .ref y_0_27, .int 0, .int 0, .ref y_0_30, .ref y_0_31, .ref y_0_32, .ref y_0_33, .ref y_0_34, .ref y_0_35, .ref y_0_36, .ref y_0_37, .ref y_0_38, .ref y_0_39, .ref y_0_40, .ref y_0_41, .int 0, .int 0, .int 0, .int 0, .int 0, .int 0, .ref y_0_48, .ref y_0_49, .ref y_0_50, .ref y_0_51, .ref y_0_52, .ref y_0_53, .ref y_0_54, .ref y_0_55, .long 0, .long 0, .long 0, .ref h_3, .int 0, .ref y_0_61, .ref y_0_62, .ref y_0_63])), (h_1, .inl (kk_1, 40, .inl (fun _ => 0))), (h_2, .inl (kk_2, 40, .inl (fun _ => 0))), (h_3, .inl (kk_3, 500, .inr (.inl (fun _ => 0))))] H := hP
  have hD : va_D A [(h_0, .inr (7, [.int 0, .int 720, .int 0, .ref y_0_3, .int (-1), .ref y_0_5, .ref y_0_6, .ref y_0_7, .ref y_0_8, .ref y_0_9, .ref y_0_10, .ref y_0_11, .ref y_0_12, .ref y_0_13, .ref y_0_14, .ref h_1, .ref y_0_16, .ref y_0_17, .ref h_2, .ref y_0_19, .ref y_0_20, .int 0, .ref y_0_22, .ref y_0_23, .ref y_0_24, .ref y_0_25, .ref y_0_26, .ref y_0_27, .int 0, .int 0, .ref y_0_30, .ref y_0_31, .ref y_0_32, .ref y_0_33, .ref y_0_34, .ref y_0_35, .ref y_0_36, .ref y_0_37, .ref y_0_38, .ref y_0_39, .ref y_0_40, .ref y_0_41, .int 0, .int 0, .int 0, .int 0, .int 0, .int 0, .ref y_0_48, .ref y_0_49, .ref y_0_50, .ref y_0_51, .ref y_0_52, .ref y_0_53, .ref y_0_54, .ref y_0_55, .long 0, .long 0, .long 0, .ref h_3, .int 0, .ref y_0_61, .ref y_0_62, .ref y_0_63])), (h_1, .inl (kk_1, 40, .inl (fun _ => 0))), (h_2, .inl (kk_2, 40, .inl (fun _ => 0))), (h_3, .inl (kk_3, 500, .inr (.inl (fun _ => 0))))] := hD
  refine lv_iinc (v := 9) (lv' := [(5, .int 9), (3, .long 0), (2, .int 0), (0, .ref h_0), (1, .int 0)]) hx hb d_Md_part_89 hl (k := 0) rfl (by decide +kernel) (by decide) rfl (fun ls hl => ?_)
  refine lv_goto (tgt := 52) hx hb d_Md_part_92 (by decide) ?_
  refine lv_iload hx hb d_Md_part_52 (lv_at hl 0 rfl) ?_
  refine lv_bipush (v := 40) hx hb d_Md_part_54 (by decide +kernel) ?_
  refine lv_icmp_ge (tgt := 95) hx hb d_Md_part_56 (by decide) (fun h => absurd h (by decide +kernel)) (fun _ => ?_)
  refine lv_aload_n hx hb d_Md_part_59 rfl (lv_at hl 3 rfl) ?_
  refine va_get (D := (dC, dI)) (ci := 7) (v := .ref h_2) (C := R_Md) (T := F_Md) (N := 64) hx hb htb i_Md hown hK hP 0 rfl rfl 18 (by decide) (htb (.fieldLink R_Md 85 "WaterMenModel" "shares" "[Z") tw_20) (fun _ h9 => h9) rfl d_Md_part_60 ?_
  refine lv_iload hx hb d_Md_part_63 (lv_at hl 0 rfl) ?_
  refine va_zald hx hb hK hP 2 1 rfl rfl (by unfold vp_in; decide +kernel) d_Md_part_65 ?_
  refine hb_ti 0 rfl ?_
  refine lv_if_eq (tgt := 81) hx hb d_Md_part_66 (by decide) (fun _ => ?_) (fun h => absurd (by decide +kernel) h)
  refine lv_aload_n hx hb d_Md_part_81 rfl (lv_at hl 3 rfl) ?_
  refine va_get (D := (dC, dI)) (ci := 7) (v := .ref h_2) (C := R_Md) (T := F_Md) (N := 64) hx hb htb i_Md hown hK hP 0 rfl rfl 18 (by decide) (htb (.fieldLink R_Md 85 "WaterMenModel" "shares" "[Z") tw_20) (fun _ h9 => h9) rfl d_Md_part_82 ?_
  refine lv_iload hx hb d_Md_part_85 (lv_at hl 0 rfl) ?_
  refine lv_iconst (v := 0) hx hb d_Md_part_87 (by decide +kernel) ?_
  refine va_zast hx hb hK hP hD hS 2 1 rfl rfl (by unfold vp_in; decide +kernel) d_Md_part_88 (fun H locs hP hD hS => ?_)
  rw [hb_upd0 0 (9 : Int32).toNatClampNeg (vp_nar .boolean 0) (by decide +kernel)] at hP hD
  have hP : va_P (dC, dI) vwCl [(h_0, .inr (7, [.int 0, .int 720, .int 0, .ref y_0_3, .int (-1), .ref y_0_5, .ref y_0_6, .ref y_0_7, .ref y_0_8, .ref y_0_9, .ref y_0_10, .ref y_0_11, .ref y_0_12, .ref y_0_13, .ref y_0_14, .ref h_1, .ref y_0_16, .ref y_0_17, .ref h_2, .ref y_0_19, .ref y_0_20, .int 0, .ref y_0_22, .ref y_0_23, .ref y_0_24, .ref y_0_25, .ref y_0_26, .ref y_0_27, .int 0, .int 0, .ref y_0_30, .ref y_0_31, .ref y_0_32, .ref y_0_33, .ref y_0_34, .ref y_0_35, .ref y_0_36, .ref y_0_37, .ref y_0_38, .ref y_0_39, .ref y_0_40, .ref y_0_41, .int 0, .int 0, .int 0, .int 0, .int 0, .int 0, .ref y_0_48, .ref y_0_49, .ref y_0_50, .ref y_0_51, .ref y_0_52, .ref y_0_53, .ref y_0_54, .ref y_0_55, .long 0, .long 0, .long 0, .ref h_3, .int 0, .ref y_0_61, .ref y_0_62, .ref y_0_63])), (h_1, .inl (kk_1, 40, .inl (fun _ => 0))), (h_2, .inl (kk_2, 40, .inl (fun _ => 0))), (h_3, .inl (kk_3, 500, .inr (.inl (fun _ => 0))))] H := hP
  have hD : va_D A [(h_0, .inr (7, [.int 0, .int 720, .int 0, .ref y_0_3, .int (-1), .ref y_0_5, .ref y_0_6, .ref y_0_7, .ref y_0_8, .ref y_0_9, .ref y_0_10, .ref y_0_11, .ref y_0_12, .ref y_0_13, .ref y_0_14, .ref h_1, .ref y_0_16, .ref y_0_17, .ref h_2, .ref y_0_19, .ref y_0_20, .int 0, .ref y_0_22, .ref y_0_23, .ref y_0_24, .ref y_0_25, .ref y_0_26, .ref y_0_27, .int 0, .int 0, .ref y_0_30, .ref y_0_31, .ref y_0_32, .ref y_0_33, .ref y_0_34, .ref y_0_35, .ref y_0_36, .ref y_0_37, .ref y_0_38, .ref y_0_39, .ref y_0_40, .ref y_0_41, .int 0, .int 0, .int 0, .int 0, .int 0, .int 0, .ref y_0_48, .ref y_0_49, .ref y_0_50, .ref y_0_51, .ref y_0_52, .ref y_0_53, .ref y_0_54, .ref y_0_55, .long 0, .long 0, .long 0, .ref h_3, .int 0, .ref y_0_61, .ref y_0_62, .ref y_0_63])), (h_1, .inl (kk_1, 40, .inl (fun _ => 0))), (h_2, .inl (kk_2, 40, .inl (fun _ => 0))), (h_3, .inl (kk_3, 500, .inr (.inl (fun _ => 0))))] := hD
  refine lv_iinc (v := 10) (lv' := [(5, .int 10), (3, .long 0), (2, .int 0), (0, .ref h_0), (1, .int 0)]) hx hb d_Md_part_89 hl (k := 0) rfl (by decide +kernel) (by decide) rfl (fun ls hl => ?_)
  refine lv_goto (tgt := 52) hx hb d_Md_part_92 (by decide) ?_
  refine lv_iload hx hb d_Md_part_52 (lv_at hl 0 rfl) ?_
  refine lv_bipush (v := 40) hx hb d_Md_part_54 (by decide +kernel) ?_
  refine lv_icmp_ge (tgt := 95) hx hb d_Md_part_56 (by decide) (fun h => absurd h (by decide +kernel)) (fun _ => ?_)
  refine lv_aload_n hx hb d_Md_part_59 rfl (lv_at hl 3 rfl) ?_
  refine va_get (D := (dC, dI)) (ci := 7) (v := .ref h_2) (C := R_Md) (T := F_Md) (N := 64) hx hb htb i_Md hown hK hP 0 rfl rfl 18 (by decide) (htb (.fieldLink R_Md 85 "WaterMenModel" "shares" "[Z") tw_20) (fun _ h9 => h9) rfl d_Md_part_60 ?_
  refine lv_iload hx hb d_Md_part_63 (lv_at hl 0 rfl) ?_
  refine va_zald hx hb hK hP 2 1 rfl rfl (by unfold vp_in; decide +kernel) d_Md_part_65 ?_
  refine hb_ti 0 rfl ?_
  refine lv_if_eq (tgt := 81) hx hb d_Md_part_66 (by decide) (fun _ => ?_) (fun h => absurd (by decide +kernel) h)
  refine lv_aload_n hx hb d_Md_part_81 rfl (lv_at hl 3 rfl) ?_
  refine va_get (D := (dC, dI)) (ci := 7) (v := .ref h_2) (C := R_Md) (T := F_Md) (N := 64) hx hb htb i_Md hown hK hP 0 rfl rfl 18 (by decide) (htb (.fieldLink R_Md 85 "WaterMenModel" "shares" "[Z") tw_20) (fun _ h9 => h9) rfl d_Md_part_82 ?_
  refine lv_iload hx hb d_Md_part_85 (lv_at hl 0 rfl) ?_
  refine lv_iconst (v := 0) hx hb d_Md_part_87 (by decide +kernel) ?_
  refine va_zast hx hb hK hP hD hS 2 1 rfl rfl (by unfold vp_in; decide +kernel) d_Md_part_88 (fun H locs hP hD hS => ?_)
  rw [hb_upd0 0 (10 : Int32).toNatClampNeg (vp_nar .boolean 0) (by decide +kernel)] at hP hD
  have hP : va_P (dC, dI) vwCl [(h_0, .inr (7, [.int 0, .int 720, .int 0, .ref y_0_3, .int (-1), .ref y_0_5, .ref y_0_6, .ref y_0_7, .ref y_0_8, .ref y_0_9, .ref y_0_10, .ref y_0_11, .ref y_0_12, .ref y_0_13, .ref y_0_14, .ref h_1, .ref y_0_16, .ref y_0_17, .ref h_2, .ref y_0_19, .ref y_0_20, .int 0, .ref y_0_22, .ref y_0_23, .ref y_0_24, .ref y_0_25, .ref y_0_26, .ref y_0_27, .int 0, .int 0, .ref y_0_30, .ref y_0_31, .ref y_0_32, .ref y_0_33, .ref y_0_34, .ref y_0_35, .ref y_0_36, .ref y_0_37, .ref y_0_38, .ref y_0_39, .ref y_0_40, .ref y_0_41, .int 0, .int 0, .int 0, .int 0, .int 0, .int 0, .ref y_0_48, .ref y_0_49, .ref y_0_50, .ref y_0_51, .ref y_0_52, .ref y_0_53, .ref y_0_54, .ref y_0_55, .long 0, .long 0, .long 0, .ref h_3, .int 0, .ref y_0_61, .ref y_0_62, .ref y_0_63])), (h_1, .inl (kk_1, 40, .inl (fun _ => 0))), (h_2, .inl (kk_2, 40, .inl (fun _ => 0))), (h_3, .inl (kk_3, 500, .inr (.inl (fun _ => 0))))] H := hP
  have hD : va_D A [(h_0, .inr (7, [.int 0, .int 720, .int 0, .ref y_0_3, .int (-1), .ref y_0_5, .ref y_0_6, .ref y_0_7, .ref y_0_8, .ref y_0_9, .ref y_0_10, .ref y_0_11, .ref y_0_12, .ref y_0_13, .ref y_0_14, .ref h_1, .ref y_0_16, .ref y_0_17, .ref h_2, .ref y_0_19, .ref y_0_20, .int 0, .ref y_0_22, .ref y_0_23, .ref y_0_24, .ref y_0_25, .ref y_0_26, .ref y_0_27, .int 0, .int 0, .ref y_0_30, .ref y_0_31, .ref y_0_32, .ref y_0_33, .ref y_0_34, .ref y_0_35, .ref y_0_36, .ref y_0_37, .ref y_0_38, .ref y_0_39, .ref y_0_40, .ref y_0_41, .int 0, .int 0, .int 0, .int 0, .int 0, .int 0, .ref y_0_48, .ref y_0_49, .ref y_0_50, .ref y_0_51, .ref y_0_52, .ref y_0_53, .ref y_0_54, .ref y_0_55, .long 0, .long 0, .long 0, .ref h_3, .int 0, .ref y_0_61, .ref y_0_62, .ref y_0_63])), (h_1, .inl (kk_1, 40, .inl (fun _ => 0))), (h_2, .inl (kk_2, 40, .inl (fun _ => 0))), (h_3, .inl (kk_3, 500, .inr (.inl (fun _ => 0))))] := hD
  refine lv_iinc (v := 11) (lv' := [(5, .int 11), (3, .long 0), (2, .int 0), (0, .ref h_0), (1, .int 0)]) hx hb d_Md_part_89 hl (k := 0) rfl (by decide +kernel) (by decide) rfl (fun ls hl => ?_)
  refine lv_goto (tgt := 52) hx hb d_Md_part_92 (by decide) ?_
  refine lv_iload hx hb d_Md_part_52 (lv_at hl 0 rfl) ?_
  refine lv_bipush (v := 40) hx hb d_Md_part_54 (by decide +kernel) ?_
  refine lv_icmp_ge (tgt := 95) hx hb d_Md_part_56 (by decide) (fun h => absurd h (by decide +kernel)) (fun _ => ?_)
  refine lv_aload_n hx hb d_Md_part_59 rfl (lv_at hl 3 rfl) ?_
  refine va_get (D := (dC, dI)) (ci := 7) (v := .ref h_2) (C := R_Md) (T := F_Md) (N := 64) hx hb htb i_Md hown hK hP 0 rfl rfl 18 (by decide) (htb (.fieldLink R_Md 85 "WaterMenModel" "shares" "[Z") tw_20) (fun _ h9 => h9) rfl d_Md_part_60 ?_
  refine lv_iload hx hb d_Md_part_63 (lv_at hl 0 rfl) ?_
  refine va_zald hx hb hK hP 2 1 rfl rfl (by unfold vp_in; decide +kernel) d_Md_part_65 ?_
  refine hb_ti 0 rfl ?_
  refine lv_if_eq (tgt := 81) hx hb d_Md_part_66 (by decide) (fun _ => ?_) (fun h => absurd (by decide +kernel) h)
  refine lv_aload_n hx hb d_Md_part_81 rfl (lv_at hl 3 rfl) ?_
  refine va_get (D := (dC, dI)) (ci := 7) (v := .ref h_2) (C := R_Md) (T := F_Md) (N := 64) hx hb htb i_Md hown hK hP 0 rfl rfl 18 (by decide) (htb (.fieldLink R_Md 85 "WaterMenModel" "shares" "[Z") tw_20) (fun _ h9 => h9) rfl d_Md_part_82 ?_
  refine lv_iload hx hb d_Md_part_85 (lv_at hl 0 rfl) ?_
  refine lv_iconst (v := 0) hx hb d_Md_part_87 (by decide +kernel) ?_
  refine va_zast hx hb hK hP hD hS 2 1 rfl rfl (by unfold vp_in; decide +kernel) d_Md_part_88 (fun H locs hP hD hS => ?_)
  rw [hb_upd0 0 (11 : Int32).toNatClampNeg (vp_nar .boolean 0) (by decide +kernel)] at hP hD
  have hP : va_P (dC, dI) vwCl [(h_0, .inr (7, [.int 0, .int 720, .int 0, .ref y_0_3, .int (-1), .ref y_0_5, .ref y_0_6, .ref y_0_7, .ref y_0_8, .ref y_0_9, .ref y_0_10, .ref y_0_11, .ref y_0_12, .ref y_0_13, .ref y_0_14, .ref h_1, .ref y_0_16, .ref y_0_17, .ref h_2, .ref y_0_19, .ref y_0_20, .int 0, .ref y_0_22, .ref y_0_23, .ref y_0_24, .ref y_0_25, .ref y_0_26, .ref y_0_27, .int 0, .int 0, .ref y_0_30, .ref y_0_31, .ref y_0_32, .ref y_0_33, .ref y_0_34, .ref y_0_35, .ref y_0_36, .ref y_0_37, .ref y_0_38, .ref y_0_39, .ref y_0_40, .ref y_0_41, .int 0, .int 0, .int 0, .int 0, .int 0, .int 0, .ref y_0_48, .ref y_0_49, .ref y_0_50, .ref y_0_51, .ref y_0_52, .ref y_0_53, .ref y_0_54, .ref y_0_55, .long 0, .long 0, .long 0, .ref h_3, .int 0, .ref y_0_61, .ref y_0_62, .ref y_0_63])), (h_1, .inl (kk_1, 40, .inl (fun _ => 0))), (h_2, .inl (kk_2, 40, .inl (fun _ => 0))), (h_3, .inl (kk_3, 500, .inr (.inl (fun _ => 0))))] H := hP
  have hD : va_D A [(h_0, .inr (7, [.int 0, .int 720, .int 0, .ref y_0_3, .int (-1), .ref y_0_5, .ref y_0_6, .ref y_0_7, .ref y_0_8, .ref y_0_9, .ref y_0_10, .ref y_0_11, .ref y_0_12, .ref y_0_13, .ref y_0_14, .ref h_1, .ref y_0_16, .ref y_0_17, .ref h_2, .ref y_0_19, .ref y_0_20, .int 0, .ref y_0_22, .ref y_0_23, .ref y_0_24, .ref y_0_25, .ref y_0_26, .ref y_0_27, .int 0, .int 0, .ref y_0_30, .ref y_0_31, .ref y_0_32, .ref y_0_33, .ref y_0_34, .ref y_0_35, .ref y_0_36, .ref y_0_37, .ref y_0_38, .ref y_0_39, .ref y_0_40, .ref y_0_41, .int 0, .int 0, .int 0, .int 0, .int 0, .int 0, .ref y_0_48, .ref y_0_49, .ref y_0_50, .ref y_0_51, .ref y_0_52, .ref y_0_53, .ref y_0_54, .ref y_0_55, .long 0, .long 0, .long 0, .ref h_3, .int 0, .ref y_0_61, .ref y_0_62, .ref y_0_63])), (h_1, .inl (kk_1, 40, .inl (fun _ => 0))), (h_2, .inl (kk_2, 40, .inl (fun _ => 0))), (h_3, .inl (kk_3, 500, .inr (.inl (fun _ => 0))))] := hD
  refine lv_iinc (v := 12) (lv' := [(5, .int 12), (3, .long 0), (2, .int 0), (0, .ref h_0), (1, .int 0)]) hx hb d_Md_part_89 hl (k := 0) rfl (by decide +kernel) (by decide) rfl (fun ls hl => ?_)
  refine lv_goto (tgt := 52) hx hb d_Md_part_92 (by decide) ?_
  refine lv_iload hx hb d_Md_part_52 (lv_at hl 0 rfl) ?_
  refine lv_bipush (v := 40) hx hb d_Md_part_54 (by decide +kernel) ?_
  refine lv_icmp_ge (tgt := 95) hx hb d_Md_part_56 (by decide) (fun h => absurd h (by decide +kernel)) (fun _ => ?_)
  refine lv_aload_n hx hb d_Md_part_59 rfl (lv_at hl 3 rfl) ?_
  refine va_get (D := (dC, dI)) (ci := 7) (v := .ref h_2) (C := R_Md) (T := F_Md) (N := 64) hx hb htb i_Md hown hK hP 0 rfl rfl 18 (by decide) (htb (.fieldLink R_Md 85 "WaterMenModel" "shares" "[Z") tw_20) (fun _ h9 => h9) rfl d_Md_part_60 ?_
  refine lv_iload hx hb d_Md_part_63 (lv_at hl 0 rfl) ?_
  refine va_zald hx hb hK hP 2 1 rfl rfl (by unfold vp_in; decide +kernel) d_Md_part_65 ?_
  refine hb_ti 0 rfl ?_
  refine lv_if_eq (tgt := 81) hx hb d_Md_part_66 (by decide) (fun _ => ?_) (fun h => absurd (by decide +kernel) h)
  refine lv_aload_n hx hb d_Md_part_81 rfl (lv_at hl 3 rfl) ?_
  refine va_get (D := (dC, dI)) (ci := 7) (v := .ref h_2) (C := R_Md) (T := F_Md) (N := 64) hx hb htb i_Md hown hK hP 0 rfl rfl 18 (by decide) (htb (.fieldLink R_Md 85 "WaterMenModel" "shares" "[Z") tw_20) (fun _ h9 => h9) rfl d_Md_part_82 ?_
  refine lv_iload hx hb d_Md_part_85 (lv_at hl 0 rfl) ?_
  refine lv_iconst (v := 0) hx hb d_Md_part_87 (by decide +kernel) ?_
  refine va_zast hx hb hK hP hD hS 2 1 rfl rfl (by unfold vp_in; decide +kernel) d_Md_part_88 (fun H locs hP hD hS => ?_)
  rw [hb_upd0 0 (12 : Int32).toNatClampNeg (vp_nar .boolean 0) (by decide +kernel)] at hP hD
  have hP : va_P (dC, dI) vwCl [(h_0, .inr (7, [.int 0, .int 720, .int 0, .ref y_0_3, .int (-1), .ref y_0_5, .ref y_0_6, .ref y_0_7, .ref y_0_8, .ref y_0_9, .ref y_0_10, .ref y_0_11, .ref y_0_12, .ref y_0_13, .ref y_0_14, .ref h_1, .ref y_0_16, .ref y_0_17, .ref h_2, .ref y_0_19, .ref y_0_20, .int 0, .ref y_0_22, .ref y_0_23, .ref y_0_24, .ref y_0_25, .ref y_0_26, .ref y_0_27, .int 0, .int 0, .ref y_0_30, .ref y_0_31, .ref y_0_32, .ref y_0_33, .ref y_0_34, .ref y_0_35, .ref y_0_36, .ref y_0_37, .ref y_0_38, .ref y_0_39, .ref y_0_40, .ref y_0_41, .int 0, .int 0, .int 0, .int 0, .int 0, .int 0, .ref y_0_48, .ref y_0_49, .ref y_0_50, .ref y_0_51, .ref y_0_52, .ref y_0_53, .ref y_0_54, .ref y_0_55, .long 0, .long 0, .long 0, .ref h_3, .int 0, .ref y_0_61, .ref y_0_62, .ref y_0_63])), (h_1, .inl (kk_1, 40, .inl (fun _ => 0))), (h_2, .inl (kk_2, 40, .inl (fun _ => 0))), (h_3, .inl (kk_3, 500, .inr (.inl (fun _ => 0))))] H := hP
  have hD : va_D A [(h_0, .inr (7, [.int 0, .int 720, .int 0, .ref y_0_3, .int (-1), .ref y_0_5, .ref y_0_6, .ref y_0_7, .ref y_0_8, .ref y_0_9, .ref y_0_10, .ref y_0_11, .ref y_0_12, .ref y_0_13, .ref y_0_14, .ref h_1, .ref y_0_16, .ref y_0_17, .ref h_2, .ref y_0_19, .ref y_0_20, .int 0, .ref y_0_22, .ref y_0_23, .ref y_0_24, .ref y_0_25, .ref y_0_26, .ref y_0_27, .int 0, .int 0, .ref y_0_30, .ref y_0_31, .ref y_0_32, .ref y_0_33, .ref y_0_34, .ref y_0_35, .ref y_0_36, .ref y_0_37, .ref y_0_38, .ref y_0_39, .ref y_0_40, .ref y_0_41, .int 0, .int 0, .int 0, .int 0, .int 0, .int 0, .ref y_0_48, .ref y_0_49, .ref y_0_50, .ref y_0_51, .ref y_0_52, .ref y_0_53, .ref y_0_54, .ref y_0_55, .long 0, .long 0, .long 0, .ref h_3, .int 0, .ref y_0_61, .ref y_0_62, .ref y_0_63])), (h_1, .inl (kk_1, 40, .inl (fun _ => 0))), (h_2, .inl (kk_2, 40, .inl (fun _ => 0))), (h_3, .inl (kk_3, 500, .inr (.inl (fun _ => 0))))] := hD
  refine lv_iinc (v := 13) (lv' := [(5, .int 13), (3, .long 0), (2, .int 0), (0, .ref h_0), (1, .int 0)]) hx hb d_Md_part_89 hl (k := 0) rfl (by decide +kernel) (by decide) rfl (fun ls hl => ?_)
  refine lv_goto (tgt := 52) hx hb d_Md_part_92 (by decide) ?_
  refine lv_iload hx hb d_Md_part_52 (lv_at hl 0 rfl) ?_
  refine lv_bipush (v := 40) hx hb d_Md_part_54 (by decide +kernel) ?_
  refine lv_icmp_ge (tgt := 95) hx hb d_Md_part_56 (by decide) (fun h => absurd h (by decide +kernel)) (fun _ => ?_)
  refine lv_aload_n hx hb d_Md_part_59 rfl (lv_at hl 3 rfl) ?_
  refine va_get (D := (dC, dI)) (ci := 7) (v := .ref h_2) (C := R_Md) (T := F_Md) (N := 64) hx hb htb i_Md hown hK hP 0 rfl rfl 18 (by decide) (htb (.fieldLink R_Md 85 "WaterMenModel" "shares" "[Z") tw_20) (fun _ h9 => h9) rfl d_Md_part_60 ?_
  refine lv_iload hx hb d_Md_part_63 (lv_at hl 0 rfl) ?_
  refine va_zald hx hb hK hP 2 1 rfl rfl (by unfold vp_in; decide +kernel) d_Md_part_65 ?_
  refine hb_ti 0 rfl ?_
  refine lv_if_eq (tgt := 81) hx hb d_Md_part_66 (by decide) (fun _ => ?_) (fun h => absurd (by decide +kernel) h)
  refine lv_aload_n hx hb d_Md_part_81 rfl (lv_at hl 3 rfl) ?_
  refine va_get (D := (dC, dI)) (ci := 7) (v := .ref h_2) (C := R_Md) (T := F_Md) (N := 64) hx hb htb i_Md hown hK hP 0 rfl rfl 18 (by decide) (htb (.fieldLink R_Md 85 "WaterMenModel" "shares" "[Z") tw_20) (fun _ h9 => h9) rfl d_Md_part_82 ?_
  refine lv_iload hx hb d_Md_part_85 (lv_at hl 0 rfl) ?_
  refine lv_iconst (v := 0) hx hb d_Md_part_87 (by decide +kernel) ?_
  refine va_zast hx hb hK hP hD hS 2 1 rfl rfl (by unfold vp_in; decide +kernel) d_Md_part_88 (fun H locs hP hD hS => ?_)
  rw [hb_upd0 0 (13 : Int32).toNatClampNeg (vp_nar .boolean 0) (by decide +kernel)] at hP hD
  have hP : va_P (dC, dI) vwCl [(h_0, .inr (7, [.int 0, .int 720, .int 0, .ref y_0_3, .int (-1), .ref y_0_5, .ref y_0_6, .ref y_0_7, .ref y_0_8, .ref y_0_9, .ref y_0_10, .ref y_0_11, .ref y_0_12, .ref y_0_13, .ref y_0_14, .ref h_1, .ref y_0_16, .ref y_0_17, .ref h_2, .ref y_0_19, .ref y_0_20, .int 0, .ref y_0_22, .ref y_0_23, .ref y_0_24, .ref y_0_25, .ref y_0_26, .ref y_0_27, .int 0, .int 0, .ref y_0_30, .ref y_0_31, .ref y_0_32, .ref y_0_33, .ref y_0_34, .ref y_0_35, .ref y_0_36, .ref y_0_37, .ref y_0_38, .ref y_0_39, .ref y_0_40, .ref y_0_41, .int 0, .int 0, .int 0, .int 0, .int 0, .int 0, .ref y_0_48, .ref y_0_49, .ref y_0_50, .ref y_0_51, .ref y_0_52, .ref y_0_53, .ref y_0_54, .ref y_0_55, .long 0, .long 0, .long 0, .ref h_3, .int 0, .ref y_0_61, .ref y_0_62, .ref y_0_63])), (h_1, .inl (kk_1, 40, .inl (fun _ => 0))), (h_2, .inl (kk_2, 40, .inl (fun _ => 0))), (h_3, .inl (kk_3, 500, .inr (.inl (fun _ => 0))))] H := hP
  have hD : va_D A [(h_0, .inr (7, [.int 0, .int 720, .int 0, .ref y_0_3, .int (-1), .ref y_0_5, .ref y_0_6, .ref y_0_7, .ref y_0_8, .ref y_0_9, .ref y_0_10, .ref y_0_11, .ref y_0_12, .ref y_0_13, .ref y_0_14, .ref h_1, .ref y_0_16, .ref y_0_17, .ref h_2, .ref y_0_19, .ref y_0_20, .int 0, .ref y_0_22, .ref y_0_23, .ref y_0_24, .ref y_0_25, .ref y_0_26, .ref y_0_27, .int 0, .int 0, .ref y_0_30, .ref y_0_31, .ref y_0_32, .ref y_0_33, .ref y_0_34, .ref y_0_35, .ref y_0_36, .ref y_0_37, .ref y_0_38, .ref y_0_39, .ref y_0_40, .ref y_0_41, .int 0, .int 0, .int 0, .int 0, .int 0, .int 0, .ref y_0_48, .ref y_0_49, .ref y_0_50, .ref y_0_51, .ref y_0_52, .ref y_0_53, .ref y_0_54, .ref y_0_55, .long 0, .long 0, .long 0, .ref h_3, .int 0, .ref y_0_61, .ref y_0_62, .ref y_0_63])), (h_1, .inl (kk_1, 40, .inl (fun _ => 0))), (h_2, .inl (kk_2, 40, .inl (fun _ => 0))), (h_3, .inl (kk_3, 500, .inr (.inl (fun _ => 0))))] := hD
  refine lv_iinc (v := 14) (lv' := [(5, .int 14), (3, .long 0), (2, .int 0), (0, .ref h_0), (1, .int 0)]) hx hb d_Md_part_89 hl (k := 0) rfl (by decide +kernel) (by decide) rfl (fun ls hl => ?_)
  refine lv_goto (tgt := 52) hx hb d_Md_part_92 (by decide) ?_
  refine lv_iload hx hb d_Md_part_52 (lv_at hl 0 rfl) ?_
  refine lv_bipush (v := 40) hx hb d_Md_part_54 (by decide +kernel) ?_
  refine lv_icmp_ge (tgt := 95) hx hb d_Md_part_56 (by decide) (fun h => absurd h (by decide +kernel)) (fun _ => ?_)
  refine lv_aload_n hx hb d_Md_part_59 rfl (lv_at hl 3 rfl) ?_
  refine va_get (D := (dC, dI)) (ci := 7) (v := .ref h_2) (C := R_Md) (T := F_Md) (N := 64) hx hb htb i_Md hown hK hP 0 rfl rfl 18 (by decide) (htb (.fieldLink R_Md 85 "WaterMenModel" "shares" "[Z") tw_20) (fun _ h9 => h9) rfl d_Md_part_60 ?_
  refine lv_iload hx hb d_Md_part_63 (lv_at hl 0 rfl) ?_
  refine va_zald hx hb hK hP 2 1 rfl rfl (by unfold vp_in; decide +kernel) d_Md_part_65 ?_
  refine hb_ti 0 rfl ?_
  refine lv_if_eq (tgt := 81) hx hb d_Md_part_66 (by decide) (fun _ => ?_) (fun h => absurd (by decide +kernel) h)
  refine lv_aload_n hx hb d_Md_part_81 rfl (lv_at hl 3 rfl) ?_
  refine va_get (D := (dC, dI)) (ci := 7) (v := .ref h_2) (C := R_Md) (T := F_Md) (N := 64) hx hb htb i_Md hown hK hP 0 rfl rfl 18 (by decide) (htb (.fieldLink R_Md 85 "WaterMenModel" "shares" "[Z") tw_20) (fun _ h9 => h9) rfl d_Md_part_82 ?_
  refine lv_iload hx hb d_Md_part_85 (lv_at hl 0 rfl) ?_
  refine lv_iconst (v := 0) hx hb d_Md_part_87 (by decide +kernel) ?_
  refine va_zast hx hb hK hP hD hS 2 1 rfl rfl (by unfold vp_in; decide +kernel) d_Md_part_88 (fun H locs hP hD hS => ?_)
  rw [hb_upd0 0 (14 : Int32).toNatClampNeg (vp_nar .boolean 0) (by decide +kernel)] at hP hD
  have hP : va_P (dC, dI) vwCl [(h_0, .inr (7, [.int 0, .int 720, .int 0, .ref y_0_3, .int (-1), .ref y_0_5, .ref y_0_6, .ref y_0_7, .ref y_0_8, .ref y_0_9, .ref y_0_10, .ref y_0_11, .ref y_0_12, .ref y_0_13, .ref y_0_14, .ref h_1, .ref y_0_16, .ref y_0_17, .ref h_2, .ref y_0_19, .ref y_0_20, .int 0, .ref y_0_22, .ref y_0_23, .ref y_0_24, .ref y_0_25, .ref y_0_26, .ref y_0_27, .int 0, .int 0, .ref y_0_30, .ref y_0_31, .ref y_0_32, .ref y_0_33, .ref y_0_34, .ref y_0_35, .ref y_0_36, .ref y_0_37, .ref y_0_38, .ref y_0_39, .ref y_0_40, .ref y_0_41, .int 0, .int 0, .int 0, .int 0, .int 0, .int 0, .ref y_0_48, .ref y_0_49, .ref y_0_50, .ref y_0_51, .ref y_0_52, .ref y_0_53, .ref y_0_54, .ref y_0_55, .long 0, .long 0, .long 0, .ref h_3, .int 0, .ref y_0_61, .ref y_0_62, .ref y_0_63])), (h_1, .inl (kk_1, 40, .inl (fun _ => 0))), (h_2, .inl (kk_2, 40, .inl (fun _ => 0))), (h_3, .inl (kk_3, 500, .inr (.inl (fun _ => 0))))] H := hP
  have hD : va_D A [(h_0, .inr (7, [.int 0, .int 720, .int 0, .ref y_0_3, .int (-1), .ref y_0_5, .ref y_0_6, .ref y_0_7, .ref y_0_8, .ref y_0_9, .ref y_0_10, .ref y_0_11, .ref y_0_12, .ref y_0_13, .ref y_0_14, .ref h_1, .ref y_0_16, .ref y_0_17, .ref h_2, .ref y_0_19, .ref y_0_20, .int 0, .ref y_0_22, .ref y_0_23, .ref y_0_24, .ref y_0_25, .ref y_0_26, .ref y_0_27, .int 0, .int 0, .ref y_0_30, .ref y_0_31, .ref y_0_32, .ref y_0_33, .ref y_0_34, .ref y_0_35, .ref y_0_36, .ref y_0_37, .ref y_0_38, .ref y_0_39, .ref y_0_40, .ref y_0_41, .int 0, .int 0, .int 0, .int 0, .int 0, .int 0, .ref y_0_48, .ref y_0_49, .ref y_0_50, .ref y_0_51, .ref y_0_52, .ref y_0_53, .ref y_0_54, .ref y_0_55, .long 0, .long 0, .long 0, .ref h_3, .int 0, .ref y_0_61, .ref y_0_62, .ref y_0_63])), (h_1, .inl (kk_1, 40, .inl (fun _ => 0))), (h_2, .inl (kk_2, 40, .inl (fun _ => 0))), (h_3, .inl (kk_3, 500, .inr (.inl (fun _ => 0))))] := hD
  refine lv_iinc (v := 15) (lv' := [(5, .int 15), (3, .long 0), (2, .int 0), (0, .ref h_0), (1, .int 0)]) hx hb d_Md_part_89 hl (k := 0) rfl (by decide +kernel) (by decide) rfl (fun ls hl => ?_)
  refine lv_goto (tgt := 52) hx hb d_Md_part_92 (by decide) ?_
  refine lv_iload hx hb d_Md_part_52 (lv_at hl 0 rfl) ?_
  refine lv_bipush (v := 40) hx hb d_Md_part_54 (by decide +kernel) ?_
  refine lv_icmp_ge (tgt := 95) hx hb d_Md_part_56 (by decide) (fun h => absurd h (by decide +kernel)) (fun _ => ?_)
  refine lv_aload_n hx hb d_Md_part_59 rfl (lv_at hl 3 rfl) ?_
  refine va_get (D := (dC, dI)) (ci := 7) (v := .ref h_2) (C := R_Md) (T := F_Md) (N := 64) hx hb htb i_Md hown hK hP 0 rfl rfl 18 (by decide) (htb (.fieldLink R_Md 85 "WaterMenModel" "shares" "[Z") tw_20) (fun _ h9 => h9) rfl d_Md_part_60 ?_
  refine lv_iload hx hb d_Md_part_63 (lv_at hl 0 rfl) ?_
  refine va_zald hx hb hK hP 2 1 rfl rfl (by unfold vp_in; decide +kernel) d_Md_part_65 ?_
  refine hb_ti 0 rfl ?_
  refine lv_if_eq (tgt := 81) hx hb d_Md_part_66 (by decide) (fun _ => ?_) (fun h => absurd (by decide +kernel) h)
  refine lv_aload_n hx hb d_Md_part_81 rfl (lv_at hl 3 rfl) ?_
  refine va_get (D := (dC, dI)) (ci := 7) (v := .ref h_2) (C := R_Md) (T := F_Md) (N := 64) hx hb htb i_Md hown hK hP 0 rfl rfl 18 (by decide) (htb (.fieldLink R_Md 85 "WaterMenModel" "shares" "[Z") tw_20) (fun _ h9 => h9) rfl d_Md_part_82 ?_
  refine lv_iload hx hb d_Md_part_85 (lv_at hl 0 rfl) ?_
  refine lv_iconst (v := 0) hx hb d_Md_part_87 (by decide +kernel) ?_
  refine va_zast hx hb hK hP hD hS 2 1 rfl rfl (by unfold vp_in; decide +kernel) d_Md_part_88 (fun H locs hP hD hS => ?_)
  rw [hb_upd0 0 (15 : Int32).toNatClampNeg (vp_nar .boolean 0) (by decide +kernel)] at hP hD
  have hP : va_P (dC, dI) vwCl [(h_0, .inr (7, [.int 0, .int 720, .int 0, .ref y_0_3, .int (-1), .ref y_0_5, .ref y_0_6, .ref y_0_7, .ref y_0_8, .ref y_0_9, .ref y_0_10, .ref y_0_11, .ref y_0_12, .ref y_0_13, .ref y_0_14, .ref h_1, .ref y_0_16, .ref y_0_17, .ref h_2, .ref y_0_19, .ref y_0_20, .int 0, .ref y_0_22, .ref y_0_23, .ref y_0_24, .ref y_0_25, .ref y_0_26, .ref y_0_27, .int 0, .int 0, .ref y_0_30, .ref y_0_31, .ref y_0_32, .ref y_0_33, .ref y_0_34, .ref y_0_35, .ref y_0_36, .ref y_0_37, .ref y_0_38, .ref y_0_39, .ref y_0_40, .ref y_0_41, .int 0, .int 0, .int 0, .int 0, .int 0, .int 0, .ref y_0_48, .ref y_0_49, .ref y_0_50, .ref y_0_51, .ref y_0_52, .ref y_0_53, .ref y_0_54, .ref y_0_55, .long 0, .long 0, .long 0, .ref h_3, .int 0, .ref y_0_61, .ref y_0_62, .ref y_0_63])), (h_1, .inl (kk_1, 40, .inl (fun _ => 0))), (h_2, .inl (kk_2, 40, .inl (fun _ => 0))), (h_3, .inl (kk_3, 500, .inr (.inl (fun _ => 0))))] H := hP
  have hD : va_D A [(h_0, .inr (7, [.int 0, .int 720, .int 0, .ref y_0_3, .int (-1), .ref y_0_5, .ref y_0_6, .ref y_0_7, .ref y_0_8, .ref y_0_9, .ref y_0_10, .ref y_0_11, .ref y_0_12, .ref y_0_13, .ref y_0_14, .ref h_1, .ref y_0_16, .ref y_0_17, .ref h_2, .ref y_0_19, .ref y_0_20, .int 0, .ref y_0_22, .ref y_0_23, .ref y_0_24, .ref y_0_25, .ref y_0_26, .ref y_0_27, .int 0, .int 0, .ref y_0_30, .ref y_0_31, .ref y_0_32, .ref y_0_33, .ref y_0_34, .ref y_0_35, .ref y_0_36, .ref y_0_37, .ref y_0_38, .ref y_0_39, .ref y_0_40, .ref y_0_41, .int 0, .int 0, .int 0, .int 0, .int 0, .int 0, .ref y_0_48, .ref y_0_49, .ref y_0_50, .ref y_0_51, .ref y_0_52, .ref y_0_53, .ref y_0_54, .ref y_0_55, .long 0, .long 0, .long 0, .ref h_3, .int 0, .ref y_0_61, .ref y_0_62, .ref y_0_63])), (h_1, .inl (kk_1, 40, .inl (fun _ => 0))), (h_2, .inl (kk_2, 40, .inl (fun _ => 0))), (h_3, .inl (kk_3, 500, .inr (.inl (fun _ => 0))))] := hD
  refine lv_iinc (v := 16) (lv' := [(5, .int 16), (3, .long 0), (2, .int 0), (0, .ref h_0), (1, .int 0)]) hx hb d_Md_part_89 hl (k := 0) rfl (by decide +kernel) (by decide) rfl (fun ls hl => ?_)
  refine lv_goto (tgt := 52) hx hb d_Md_part_92 (by decide) ?_
  refine lv_iload hx hb d_Md_part_52 (lv_at hl 0 rfl) ?_
  refine lv_bipush (v := 40) hx hb d_Md_part_54 (by decide +kernel) ?_
  refine lv_icmp_ge (tgt := 95) hx hb d_Md_part_56 (by decide) (fun h => absurd h (by decide +kernel)) (fun _ => ?_)
  refine lv_aload_n hx hb d_Md_part_59 rfl (lv_at hl 3 rfl) ?_
  refine va_get (D := (dC, dI)) (ci := 7) (v := .ref h_2) (C := R_Md) (T := F_Md) (N := 64) hx hb htb i_Md hown hK hP 0 rfl rfl 18 (by decide) (htb (.fieldLink R_Md 85 "WaterMenModel" "shares" "[Z") tw_20) (fun _ h9 => h9) rfl d_Md_part_60 ?_
  refine lv_iload hx hb d_Md_part_63 (lv_at hl 0 rfl) ?_
  refine va_zald hx hb hK hP 2 1 rfl rfl (by unfold vp_in; decide +kernel) d_Md_part_65 ?_
  refine hb_ti 0 rfl ?_
  refine lv_if_eq (tgt := 81) hx hb d_Md_part_66 (by decide) (fun _ => ?_) (fun h => absurd (by decide +kernel) h)
  refine lv_aload_n hx hb d_Md_part_81 rfl (lv_at hl 3 rfl) ?_
  refine va_get (D := (dC, dI)) (ci := 7) (v := .ref h_2) (C := R_Md) (T := F_Md) (N := 64) hx hb htb i_Md hown hK hP 0 rfl rfl 18 (by decide) (htb (.fieldLink R_Md 85 "WaterMenModel" "shares" "[Z") tw_20) (fun _ h9 => h9) rfl d_Md_part_82 ?_
  refine lv_iload hx hb d_Md_part_85 (lv_at hl 0 rfl) ?_
  refine lv_iconst (v := 0) hx hb d_Md_part_87 (by decide +kernel) ?_
  refine va_zast hx hb hK hP hD hS 2 1 rfl rfl (by unfold vp_in; decide +kernel) d_Md_part_88 (fun H locs hP hD hS => ?_)
  rw [hb_upd0 0 (16 : Int32).toNatClampNeg (vp_nar .boolean 0) (by decide +kernel)] at hP hD
  have hP : va_P (dC, dI) vwCl [(h_0, .inr (7, [.int 0, .int 720, .int 0, .ref y_0_3, .int (-1), .ref y_0_5, .ref y_0_6, .ref y_0_7, .ref y_0_8, .ref y_0_9, .ref y_0_10, .ref y_0_11, .ref y_0_12, .ref y_0_13, .ref y_0_14, .ref h_1, .ref y_0_16, .ref y_0_17, .ref h_2, .ref y_0_19, .ref y_0_20, .int 0, .ref y_0_22, .ref y_0_23, .ref y_0_24, .ref y_0_25, .ref y_0_26, .ref y_0_27, .int 0, .int 0, .ref y_0_30, .ref y_0_31, .ref y_0_32, .ref y_0_33, .ref y_0_34, .ref y_0_35, .ref y_0_36, .ref y_0_37, .ref y_0_38, .ref y_0_39, .ref y_0_40, .ref y_0_41, .int 0, .int 0, .int 0, .int 0, .int 0, .int 0, .ref y_0_48, .ref y_0_49, .ref y_0_50, .ref y_0_51, .ref y_0_52, .ref y_0_53, .ref y_0_54, .ref y_0_55, .long 0, .long 0, .long 0, .ref h_3, .int 0, .ref y_0_61, .ref y_0_62, .ref y_0_63])), (h_1, .inl (kk_1, 40, .inl (fun _ => 0))), (h_2, .inl (kk_2, 40, .inl (fun _ => 0))), (h_3, .inl (kk_3, 500, .inr (.inl (fun _ => 0))))] H := hP
  have hD : va_D A [(h_0, .inr (7, [.int 0, .int 720, .int 0, .ref y_0_3, .int (-1), .ref y_0_5, .ref y_0_6, .ref y_0_7, .ref y_0_8, .ref y_0_9, .ref y_0_10, .ref y_0_11, .ref y_0_12, .ref y_0_13, .ref y_0_14, .ref h_1, .ref y_0_16, .ref y_0_17, .ref h_2, .ref y_0_19, .ref y_0_20, .int 0, .ref y_0_22, .ref y_0_23, .ref y_0_24, .ref y_0_25, .ref y_0_26, .ref y_0_27, .int 0, .int 0, .ref y_0_30, .ref y_0_31, .ref y_0_32, .ref y_0_33, .ref y_0_34, .ref y_0_35, .ref y_0_36, .ref y_0_37, .ref y_0_38, .ref y_0_39, .ref y_0_40, .ref y_0_41, .int 0, .int 0, .int 0, .int 0, .int 0, .int 0, .ref y_0_48, .ref y_0_49, .ref y_0_50, .ref y_0_51, .ref y_0_52, .ref y_0_53, .ref y_0_54, .ref y_0_55, .long 0, .long 0, .long 0, .ref h_3, .int 0, .ref y_0_61, .ref y_0_62, .ref y_0_63])), (h_1, .inl (kk_1, 40, .inl (fun _ => 0))), (h_2, .inl (kk_2, 40, .inl (fun _ => 0))), (h_3, .inl (kk_3, 500, .inr (.inl (fun _ => 0))))] := hD
  refine lv_iinc (v := 17) (lv' := [(5, .int 17), (3, .long 0), (2, .int 0), (0, .ref h_0), (1, .int 0)]) hx hb d_Md_part_89 hl (k := 0) rfl (by decide +kernel) (by decide) rfl (fun ls hl => ?_)
  refine lv_goto (tgt := 52) hx hb d_Md_part_92 (by decide) ?_
  refine lv_iload hx hb d_Md_part_52 (lv_at hl 0 rfl) ?_
  refine lv_bipush (v := 40) hx hb d_Md_part_54 (by decide +kernel) ?_
  refine lv_icmp_ge (tgt := 95) hx hb d_Md_part_56 (by decide) (fun h => absurd h (by decide +kernel)) (fun _ => ?_)
  refine lv_aload_n hx hb d_Md_part_59 rfl (lv_at hl 3 rfl) ?_
  refine va_get (D := (dC, dI)) (ci := 7) (v := .ref h_2) (C := R_Md) (T := F_Md) (N := 64) hx hb htb i_Md hown hK hP 0 rfl rfl 18 (by decide) (htb (.fieldLink R_Md 85 "WaterMenModel" "shares" "[Z") tw_20) (fun _ h9 => h9) rfl d_Md_part_60 ?_
  refine lv_iload hx hb d_Md_part_63 (lv_at hl 0 rfl) ?_
  refine va_zald hx hb hK hP 2 1 rfl rfl (by unfold vp_in; decide +kernel) d_Md_part_65 ?_
  refine hb_ti 0 rfl ?_
  refine lv_if_eq (tgt := 81) hx hb d_Md_part_66 (by decide) (fun _ => ?_) (fun h => absurd (by decide +kernel) h)
  refine lv_aload_n hx hb d_Md_part_81 rfl (lv_at hl 3 rfl) ?_
  refine va_get (D := (dC, dI)) (ci := 7) (v := .ref h_2) (C := R_Md) (T := F_Md) (N := 64) hx hb htb i_Md hown hK hP 0 rfl rfl 18 (by decide) (htb (.fieldLink R_Md 85 "WaterMenModel" "shares" "[Z") tw_20) (fun _ h9 => h9) rfl d_Md_part_82 ?_
  refine lv_iload hx hb d_Md_part_85 (lv_at hl 0 rfl) ?_
  refine lv_iconst (v := 0) hx hb d_Md_part_87 (by decide +kernel) ?_
  refine va_zast hx hb hK hP hD hS 2 1 rfl rfl (by unfold vp_in; decide +kernel) d_Md_part_88 (fun H locs hP hD hS => ?_)
  rw [hb_upd0 0 (17 : Int32).toNatClampNeg (vp_nar .boolean 0) (by decide +kernel)] at hP hD
  have hP : va_P (dC, dI) vwCl [(h_0, .inr (7, [.int 0, .int 720, .int 0, .ref y_0_3, .int (-1), .ref y_0_5, .ref y_0_6, .ref y_0_7, .ref y_0_8, .ref y_0_9, .ref y_0_10, .ref y_0_11, .ref y_0_12, .ref y_0_13, .ref y_0_14, .ref h_1, .ref y_0_16, .ref y_0_17, .ref h_2, .ref y_0_19, .ref y_0_20, .int 0, .ref y_0_22, .ref y_0_23, .ref y_0_24, .ref y_0_25, .ref y_0_26, .ref y_0_27, .int 0, .int 0, .ref y_0_30, .ref y_0_31, .ref y_0_32, .ref y_0_33, .ref y_0_34, .ref y_0_35, .ref y_0_36, .ref y_0_37, .ref y_0_38, .ref y_0_39, .ref y_0_40, .ref y_0_41, .int 0, .int 0, .int 0, .int 0, .int 0, .int 0, .ref y_0_48, .ref y_0_49, .ref y_0_50, .ref y_0_51, .ref y_0_52, .ref y_0_53, .ref y_0_54, .ref y_0_55, .long 0, .long 0, .long 0, .ref h_3, .int 0, .ref y_0_61, .ref y_0_62, .ref y_0_63])), (h_1, .inl (kk_1, 40, .inl (fun _ => 0))), (h_2, .inl (kk_2, 40, .inl (fun _ => 0))), (h_3, .inl (kk_3, 500, .inr (.inl (fun _ => 0))))] H := hP
  have hD : va_D A [(h_0, .inr (7, [.int 0, .int 720, .int 0, .ref y_0_3, .int (-1), .ref y_0_5, .ref y_0_6, .ref y_0_7, .ref y_0_8, .ref y_0_9, .ref y_0_10, .ref y_0_11, .ref y_0_12, .ref y_0_13, .ref y_0_14, .ref h_1, .ref y_0_16, .ref y_0_17, .ref h_2, .ref y_0_19, .ref y_0_20, .int 0, .ref y_0_22, .ref y_0_23, .ref y_0_24, .ref y_0_25, .ref y_0_26, .ref y_0_27, .int 0, .int 0, .ref y_0_30, .ref y_0_31, .ref y_0_32, .ref y_0_33, .ref y_0_34, .ref y_0_35, .ref y_0_36, .ref y_0_37, .ref y_0_38, .ref y_0_39, .ref y_0_40, .ref y_0_41, .int 0, .int 0, .int 0, .int 0, .int 0, .int 0, .ref y_0_48, .ref y_0_49, .ref y_0_50, .ref y_0_51, .ref y_0_52, .ref y_0_53, .ref y_0_54, .ref y_0_55, .long 0, .long 0, .long 0, .ref h_3, .int 0, .ref y_0_61, .ref y_0_62, .ref y_0_63])), (h_1, .inl (kk_1, 40, .inl (fun _ => 0))), (h_2, .inl (kk_2, 40, .inl (fun _ => 0))), (h_3, .inl (kk_3, 500, .inr (.inl (fun _ => 0))))] := hD
  refine lv_iinc (v := 18) (lv' := [(5, .int 18), (3, .long 0), (2, .int 0), (0, .ref h_0), (1, .int 0)]) hx hb d_Md_part_89 hl (k := 0) rfl (by decide +kernel) (by decide) rfl (fun ls hl => ?_)
  refine lv_goto (tgt := 52) hx hb d_Md_part_92 (by decide) ?_
  refine lv_iload hx hb d_Md_part_52 (lv_at hl 0 rfl) ?_
  refine lv_bipush (v := 40) hx hb d_Md_part_54 (by decide +kernel) ?_
  refine lv_icmp_ge (tgt := 95) hx hb d_Md_part_56 (by decide) (fun h => absurd h (by decide +kernel)) (fun _ => ?_)
  refine lv_aload_n hx hb d_Md_part_59 rfl (lv_at hl 3 rfl) ?_
  refine va_get (D := (dC, dI)) (ci := 7) (v := .ref h_2) (C := R_Md) (T := F_Md) (N := 64) hx hb htb i_Md hown hK hP 0 rfl rfl 18 (by decide) (htb (.fieldLink R_Md 85 "WaterMenModel" "shares" "[Z") tw_20) (fun _ h9 => h9) rfl d_Md_part_60 ?_
  refine lv_iload hx hb d_Md_part_63 (lv_at hl 0 rfl) ?_
  refine va_zald hx hb hK hP 2 1 rfl rfl (by unfold vp_in; decide +kernel) d_Md_part_65 ?_
  refine hb_ti 0 rfl ?_
  refine lv_if_eq (tgt := 81) hx hb d_Md_part_66 (by decide) (fun _ => ?_) (fun h => absurd (by decide +kernel) h)
  refine lv_aload_n hx hb d_Md_part_81 rfl (lv_at hl 3 rfl) ?_
  refine va_get (D := (dC, dI)) (ci := 7) (v := .ref h_2) (C := R_Md) (T := F_Md) (N := 64) hx hb htb i_Md hown hK hP 0 rfl rfl 18 (by decide) (htb (.fieldLink R_Md 85 "WaterMenModel" "shares" "[Z") tw_20) (fun _ h9 => h9) rfl d_Md_part_82 ?_
  refine lv_iload hx hb d_Md_part_85 (lv_at hl 0 rfl) ?_
  refine lv_iconst (v := 0) hx hb d_Md_part_87 (by decide +kernel) ?_
  refine va_zast hx hb hK hP hD hS 2 1 rfl rfl (by unfold vp_in; decide +kernel) d_Md_part_88 (fun H locs hP hD hS => ?_)
  rw [hb_upd0 0 (18 : Int32).toNatClampNeg (vp_nar .boolean 0) (by decide +kernel)] at hP hD
  have hP : va_P (dC, dI) vwCl [(h_0, .inr (7, [.int 0, .int 720, .int 0, .ref y_0_3, .int (-1), .ref y_0_5, .ref y_0_6, .ref y_0_7, .ref y_0_8, .ref y_0_9, .ref y_0_10, .ref y_0_11, .ref y_0_12, .ref y_0_13, .ref y_0_14, .ref h_1, .ref y_0_16, .ref y_0_17, .ref h_2, .ref y_0_19, .ref y_0_20, .int 0, .ref y_0_22, .ref y_0_23, .ref y_0_24, .ref y_0_25, .ref y_0_26, .ref y_0_27, .int 0, .int 0, .ref y_0_30, .ref y_0_31, .ref y_0_32, .ref y_0_33, .ref y_0_34, .ref y_0_35, .ref y_0_36, .ref y_0_37, .ref y_0_38, .ref y_0_39, .ref y_0_40, .ref y_0_41, .int 0, .int 0, .int 0, .int 0, .int 0, .int 0, .ref y_0_48, .ref y_0_49, .ref y_0_50, .ref y_0_51, .ref y_0_52, .ref y_0_53, .ref y_0_54, .ref y_0_55, .long 0, .long 0, .long 0, .ref h_3, .int 0, .ref y_0_61, .ref y_0_62, .ref y_0_63])), (h_1, .inl (kk_1, 40, .inl (fun _ => 0))), (h_2, .inl (kk_2, 40, .inl (fun _ => 0))), (h_3, .inl (kk_3, 500, .inr (.inl (fun _ => 0))))] H := hP
  have hD : va_D A [(h_0, .inr (7, [.int 0, .int 720, .int 0, .ref y_0_3, .int (-1), .ref y_0_5, .ref y_0_6, .ref y_0_7, .ref y_0_8, .ref y_0_9, .ref y_0_10, .ref y_0_11, .ref y_0_12, .ref y_0_13, .ref y_0_14, .ref h_1, .ref y_0_16, .ref y_0_17, .ref h_2, .ref y_0_19, .ref y_0_20, .int 0, .ref y_0_22, .ref y_0_23, .ref y_0_24, .ref y_0_25, .ref y_0_26, .ref y_0_27, .int 0, .int 0, .ref y_0_30, .ref y_0_31, .ref y_0_32, .ref y_0_33, .ref y_0_34, .ref y_0_35, .ref y_0_36, .ref y_0_37, .ref y_0_38, .ref y_0_39, .ref y_0_40, .ref y_0_41, .int 0, .int 0, .int 0, .int 0, .int 0, .int 0, .ref y_0_48, .ref y_0_49, .ref y_0_50, .ref y_0_51, .ref y_0_52, .ref y_0_53, .ref y_0_54, .ref y_0_55, .long 0, .long 0, .long 0, .ref h_3, .int 0, .ref y_0_61, .ref y_0_62, .ref y_0_63])), (h_1, .inl (kk_1, 40, .inl (fun _ => 0))), (h_2, .inl (kk_2, 40, .inl (fun _ => 0))), (h_3, .inl (kk_3, 500, .inr (.inl (fun _ => 0))))] := hD
  refine lv_iinc (v := 19) (lv' := [(5, .int 19), (3, .long 0), (2, .int 0), (0, .ref h_0), (1, .int 0)]) hx hb d_Md_part_89 hl (k := 0) rfl (by decide +kernel) (by decide) rfl (fun ls hl => ?_)
  refine lv_goto (tgt := 52) hx hb d_Md_part_92 (by decide) ?_
  refine lv_iload hx hb d_Md_part_52 (lv_at hl 0 rfl) ?_
  refine lv_bipush (v := 40) hx hb d_Md_part_54 (by decide +kernel) ?_
  refine lv_icmp_ge (tgt := 95) hx hb d_Md_part_56 (by decide) (fun h => absurd h (by decide +kernel)) (fun _ => ?_)
  refine lv_aload_n hx hb d_Md_part_59 rfl (lv_at hl 3 rfl) ?_
  refine va_get (D := (dC, dI)) (ci := 7) (v := .ref h_2) (C := R_Md) (T := F_Md) (N := 64) hx hb htb i_Md hown hK hP 0 rfl rfl 18 (by decide) (htb (.fieldLink R_Md 85 "WaterMenModel" "shares" "[Z") tw_20) (fun _ h9 => h9) rfl d_Md_part_60 ?_
  refine lv_iload hx hb d_Md_part_63 (lv_at hl 0 rfl) ?_
  refine va_zald hx hb hK hP 2 1 rfl rfl (by unfold vp_in; decide +kernel) d_Md_part_65 ?_
  refine hb_ti 0 rfl ?_
  refine lv_if_eq (tgt := 81) hx hb d_Md_part_66 (by decide) (fun _ => ?_) (fun h => absurd (by decide +kernel) h)
  refine lv_aload_n hx hb d_Md_part_81 rfl (lv_at hl 3 rfl) ?_
  refine va_get (D := (dC, dI)) (ci := 7) (v := .ref h_2) (C := R_Md) (T := F_Md) (N := 64) hx hb htb i_Md hown hK hP 0 rfl rfl 18 (by decide) (htb (.fieldLink R_Md 85 "WaterMenModel" "shares" "[Z") tw_20) (fun _ h9 => h9) rfl d_Md_part_82 ?_
  refine lv_iload hx hb d_Md_part_85 (lv_at hl 0 rfl) ?_
  refine lv_iconst (v := 0) hx hb d_Md_part_87 (by decide +kernel) ?_
  refine va_zast hx hb hK hP hD hS 2 1 rfl rfl (by unfold vp_in; decide +kernel) d_Md_part_88 (fun H locs hP hD hS => ?_)
  rw [hb_upd0 0 (19 : Int32).toNatClampNeg (vp_nar .boolean 0) (by decide +kernel)] at hP hD
  have hP : va_P (dC, dI) vwCl [(h_0, .inr (7, [.int 0, .int 720, .int 0, .ref y_0_3, .int (-1), .ref y_0_5, .ref y_0_6, .ref y_0_7, .ref y_0_8, .ref y_0_9, .ref y_0_10, .ref y_0_11, .ref y_0_12, .ref y_0_13, .ref y_0_14, .ref h_1, .ref y_0_16, .ref y_0_17, .ref h_2, .ref y_0_19, .ref y_0_20, .int 0, .ref y_0_22, .ref y_0_23, .ref y_0_24, .ref y_0_25, .ref y_0_26, .ref y_0_27, .int 0, .int 0, .ref y_0_30, .ref y_0_31, .ref y_0_32, .ref y_0_33, .ref y_0_34, .ref y_0_35, .ref y_0_36, .ref y_0_37, .ref y_0_38, .ref y_0_39, .ref y_0_40, .ref y_0_41, .int 0, .int 0, .int 0, .int 0, .int 0, .int 0, .ref y_0_48, .ref y_0_49, .ref y_0_50, .ref y_0_51, .ref y_0_52, .ref y_0_53, .ref y_0_54, .ref y_0_55, .long 0, .long 0, .long 0, .ref h_3, .int 0, .ref y_0_61, .ref y_0_62, .ref y_0_63])), (h_1, .inl (kk_1, 40, .inl (fun _ => 0))), (h_2, .inl (kk_2, 40, .inl (fun _ => 0))), (h_3, .inl (kk_3, 500, .inr (.inl (fun _ => 0))))] H := hP
  have hD : va_D A [(h_0, .inr (7, [.int 0, .int 720, .int 0, .ref y_0_3, .int (-1), .ref y_0_5, .ref y_0_6, .ref y_0_7, .ref y_0_8, .ref y_0_9, .ref y_0_10, .ref y_0_11, .ref y_0_12, .ref y_0_13, .ref y_0_14, .ref h_1, .ref y_0_16, .ref y_0_17, .ref h_2, .ref y_0_19, .ref y_0_20, .int 0, .ref y_0_22, .ref y_0_23, .ref y_0_24, .ref y_0_25, .ref y_0_26, .ref y_0_27, .int 0, .int 0, .ref y_0_30, .ref y_0_31, .ref y_0_32, .ref y_0_33, .ref y_0_34, .ref y_0_35, .ref y_0_36, .ref y_0_37, .ref y_0_38, .ref y_0_39, .ref y_0_40, .ref y_0_41, .int 0, .int 0, .int 0, .int 0, .int 0, .int 0, .ref y_0_48, .ref y_0_49, .ref y_0_50, .ref y_0_51, .ref y_0_52, .ref y_0_53, .ref y_0_54, .ref y_0_55, .long 0, .long 0, .long 0, .ref h_3, .int 0, .ref y_0_61, .ref y_0_62, .ref y_0_63])), (h_1, .inl (kk_1, 40, .inl (fun _ => 0))), (h_2, .inl (kk_2, 40, .inl (fun _ => 0))), (h_3, .inl (kk_3, 500, .inr (.inl (fun _ => 0))))] := hD
  refine lv_iinc (v := 20) (lv' := [(5, .int 20), (3, .long 0), (2, .int 0), (0, .ref h_0), (1, .int 0)]) hx hb d_Md_part_89 hl (k := 0) rfl (by decide +kernel) (by decide) rfl (fun ls hl => ?_)
  refine lv_goto (tgt := 52) hx hb d_Md_part_92 (by decide) ?_
  refine lv_iload hx hb d_Md_part_52 (lv_at hl 0 rfl) ?_
  refine lv_bipush (v := 40) hx hb d_Md_part_54 (by decide +kernel) ?_
  refine lv_icmp_ge (tgt := 95) hx hb d_Md_part_56 (by decide) (fun h => absurd h (by decide +kernel)) (fun _ => ?_)
  refine lv_aload_n hx hb d_Md_part_59 rfl (lv_at hl 3 rfl) ?_
  refine va_get (D := (dC, dI)) (ci := 7) (v := .ref h_2) (C := R_Md) (T := F_Md) (N := 64) hx hb htb i_Md hown hK hP 0 rfl rfl 18 (by decide) (htb (.fieldLink R_Md 85 "WaterMenModel" "shares" "[Z") tw_20) (fun _ h9 => h9) rfl d_Md_part_60 ?_
  refine lv_iload hx hb d_Md_part_63 (lv_at hl 0 rfl) ?_
  refine va_zald hx hb hK hP 2 1 rfl rfl (by unfold vp_in; decide +kernel) d_Md_part_65 ?_
  refine hb_ti 0 rfl ?_
  refine lv_if_eq (tgt := 81) hx hb d_Md_part_66 (by decide) (fun _ => ?_) (fun h => absurd (by decide +kernel) h)
  refine lv_aload_n hx hb d_Md_part_81 rfl (lv_at hl 3 rfl) ?_
  refine va_get (D := (dC, dI)) (ci := 7) (v := .ref h_2) (C := R_Md) (T := F_Md) (N := 64) hx hb htb i_Md hown hK hP 0 rfl rfl 18 (by decide) (htb (.fieldLink R_Md 85 "WaterMenModel" "shares" "[Z") tw_20) (fun _ h9 => h9) rfl d_Md_part_82 ?_
  refine lv_iload hx hb d_Md_part_85 (lv_at hl 0 rfl) ?_
  refine lv_iconst (v := 0) hx hb d_Md_part_87 (by decide +kernel) ?_
  refine va_zast hx hb hK hP hD hS 2 1 rfl rfl (by unfold vp_in; decide +kernel) d_Md_part_88 (fun H locs hP hD hS => ?_)
  rw [hb_upd0 0 (20 : Int32).toNatClampNeg (vp_nar .boolean 0) (by decide +kernel)] at hP hD
  have hP : va_P (dC, dI) vwCl [(h_0, .inr (7, [.int 0, .int 720, .int 0, .ref y_0_3, .int (-1), .ref y_0_5, .ref y_0_6, .ref y_0_7, .ref y_0_8, .ref y_0_9, .ref y_0_10, .ref y_0_11, .ref y_0_12, .ref y_0_13, .ref y_0_14, .ref h_1, .ref y_0_16, .ref y_0_17, .ref h_2, .ref y_0_19, .ref y_0_20, .int 0, .ref y_0_22, .ref y_0_23, .ref y_0_24, .ref y_0_25, .ref y_0_26, .ref y_0_27, .int 0, .int 0, .ref y_0_30, .ref y_0_31, .ref y_0_32, .ref y_0_33, .ref y_0_34, .ref y_0_35, .ref y_0_36, .ref y_0_37, .ref y_0_38, .ref y_0_39, .ref y_0_40, .ref y_0_41, .int 0, .int 0, .int 0, .int 0, .int 0, .int 0, .ref y_0_48, .ref y_0_49, .ref y_0_50, .ref y_0_51, .ref y_0_52, .ref y_0_53, .ref y_0_54, .ref y_0_55, .long 0, .long 0, .long 0, .ref h_3, .int 0, .ref y_0_61, .ref y_0_62, .ref y_0_63])), (h_1, .inl (kk_1, 40, .inl (fun _ => 0))), (h_2, .inl (kk_2, 40, .inl (fun _ => 0))), (h_3, .inl (kk_3, 500, .inr (.inl (fun _ => 0))))] H := hP
  have hD : va_D A [(h_0, .inr (7, [.int 0, .int 720, .int 0, .ref y_0_3, .int (-1), .ref y_0_5, .ref y_0_6, .ref y_0_7, .ref y_0_8, .ref y_0_9, .ref y_0_10, .ref y_0_11, .ref y_0_12, .ref y_0_13, .ref y_0_14, .ref h_1, .ref y_0_16, .ref y_0_17, .ref h_2, .ref y_0_19, .ref y_0_20, .int 0, .ref y_0_22, .ref y_0_23, .ref y_0_24, .ref y_0_25, .ref y_0_26, .ref y_0_27, .int 0, .int 0, .ref y_0_30, .ref y_0_31, .ref y_0_32, .ref y_0_33, .ref y_0_34, .ref y_0_35, .ref y_0_36, .ref y_0_37, .ref y_0_38, .ref y_0_39, .ref y_0_40, .ref y_0_41, .int 0, .int 0, .int 0, .int 0, .int 0, .int 0, .ref y_0_48, .ref y_0_49, .ref y_0_50, .ref y_0_51, .ref y_0_52, .ref y_0_53, .ref y_0_54, .ref y_0_55, .long 0, .long 0, .long 0, .ref h_3, .int 0, .ref y_0_61, .ref y_0_62, .ref y_0_63])), (h_1, .inl (kk_1, 40, .inl (fun _ => 0))), (h_2, .inl (kk_2, 40, .inl (fun _ => 0))), (h_3, .inl (kk_3, 500, .inr (.inl (fun _ => 0))))] := hD
  refine lv_iinc (v := 21) (lv' := [(5, .int 21), (3, .long 0), (2, .int 0), (0, .ref h_0), (1, .int 0)]) hx hb d_Md_part_89 hl (k := 0) rfl (by decide +kernel) (by decide) rfl (fun ls hl => ?_)
  refine lv_goto (tgt := 52) hx hb d_Md_part_92 (by decide) ?_
  refine lv_iload hx hb d_Md_part_52 (lv_at hl 0 rfl) ?_
  refine lv_bipush (v := 40) hx hb d_Md_part_54 (by decide +kernel) ?_
  refine lv_icmp_ge (tgt := 95) hx hb d_Md_part_56 (by decide) (fun h => absurd h (by decide +kernel)) (fun _ => ?_)
  refine lv_aload_n hx hb d_Md_part_59 rfl (lv_at hl 3 rfl) ?_
  refine va_get (D := (dC, dI)) (ci := 7) (v := .ref h_2) (C := R_Md) (T := F_Md) (N := 64) hx hb htb i_Md hown hK hP 0 rfl rfl 18 (by decide) (htb (.fieldLink R_Md 85 "WaterMenModel" "shares" "[Z") tw_20) (fun _ h9 => h9) rfl d_Md_part_60 ?_
  refine lv_iload hx hb d_Md_part_63 (lv_at hl 0 rfl) ?_
  refine va_zald hx hb hK hP 2 1 rfl rfl (by unfold vp_in; decide +kernel) d_Md_part_65 ?_
  refine hb_ti 0 rfl ?_
  refine lv_if_eq (tgt := 81) hx hb d_Md_part_66 (by decide) (fun _ => ?_) (fun h => absurd (by decide +kernel) h)
  refine lv_aload_n hx hb d_Md_part_81 rfl (lv_at hl 3 rfl) ?_
  refine va_get (D := (dC, dI)) (ci := 7) (v := .ref h_2) (C := R_Md) (T := F_Md) (N := 64) hx hb htb i_Md hown hK hP 0 rfl rfl 18 (by decide) (htb (.fieldLink R_Md 85 "WaterMenModel" "shares" "[Z") tw_20) (fun _ h9 => h9) rfl d_Md_part_82 ?_
  refine lv_iload hx hb d_Md_part_85 (lv_at hl 0 rfl) ?_
  refine lv_iconst (v := 0) hx hb d_Md_part_87 (by decide +kernel) ?_
  refine va_zast hx hb hK hP hD hS 2 1 rfl rfl (by unfold vp_in; decide +kernel) d_Md_part_88 (fun H locs hP hD hS => ?_)
  rw [hb_upd0 0 (21 : Int32).toNatClampNeg (vp_nar .boolean 0) (by decide +kernel)] at hP hD
  have hP : va_P (dC, dI) vwCl [(h_0, .inr (7, [.int 0, .int 720, .int 0, .ref y_0_3, .int (-1), .ref y_0_5, .ref y_0_6, .ref y_0_7, .ref y_0_8, .ref y_0_9, .ref y_0_10, .ref y_0_11, .ref y_0_12, .ref y_0_13, .ref y_0_14, .ref h_1, .ref y_0_16, .ref y_0_17, .ref h_2, .ref y_0_19, .ref y_0_20, .int 0, .ref y_0_22, .ref y_0_23, .ref y_0_24, .ref y_0_25, .ref y_0_26, .ref y_0_27, .int 0, .int 0, .ref y_0_30, .ref y_0_31, .ref y_0_32, .ref y_0_33, .ref y_0_34, .ref y_0_35, .ref y_0_36, .ref y_0_37, .ref y_0_38, .ref y_0_39, .ref y_0_40, .ref y_0_41, .int 0, .int 0, .int 0, .int 0, .int 0, .int 0, .ref y_0_48, .ref y_0_49, .ref y_0_50, .ref y_0_51, .ref y_0_52, .ref y_0_53, .ref y_0_54, .ref y_0_55, .long 0, .long 0, .long 0, .ref h_3, .int 0, .ref y_0_61, .ref y_0_62, .ref y_0_63])), (h_1, .inl (kk_1, 40, .inl (fun _ => 0))), (h_2, .inl (kk_2, 40, .inl (fun _ => 0))), (h_3, .inl (kk_3, 500, .inr (.inl (fun _ => 0))))] H := hP
  have hD : va_D A [(h_0, .inr (7, [.int 0, .int 720, .int 0, .ref y_0_3, .int (-1), .ref y_0_5, .ref y_0_6, .ref y_0_7, .ref y_0_8, .ref y_0_9, .ref y_0_10, .ref y_0_11, .ref y_0_12, .ref y_0_13, .ref y_0_14, .ref h_1, .ref y_0_16, .ref y_0_17, .ref h_2, .ref y_0_19, .ref y_0_20, .int 0, .ref y_0_22, .ref y_0_23, .ref y_0_24, .ref y_0_25, .ref y_0_26, .ref y_0_27, .int 0, .int 0, .ref y_0_30, .ref y_0_31, .ref y_0_32, .ref y_0_33, .ref y_0_34, .ref y_0_35, .ref y_0_36, .ref y_0_37, .ref y_0_38, .ref y_0_39, .ref y_0_40, .ref y_0_41, .int 0, .int 0, .int 0, .int 0, .int 0, .int 0, .ref y_0_48, .ref y_0_49, .ref y_0_50, .ref y_0_51, .ref y_0_52, .ref y_0_53, .ref y_0_54, .ref y_0_55, .long 0, .long 0, .long 0, .ref h_3, .int 0, .ref y_0_61, .ref y_0_62, .ref y_0_63])), (h_1, .inl (kk_1, 40, .inl (fun _ => 0))), (h_2, .inl (kk_2, 40, .inl (fun _ => 0))), (h_3, .inl (kk_3, 500, .inr (.inl (fun _ => 0))))] := hD
  refine lv_iinc (v := 22) (lv' := [(5, .int 22), (3, .long 0), (2, .int 0), (0, .ref h_0), (1, .int 0)]) hx hb d_Md_part_89 hl (k := 0) rfl (by decide +kernel) (by decide) rfl (fun ls hl => ?_)
  refine lv_goto (tgt := 52) hx hb d_Md_part_92 (by decide) ?_
  refine lv_iload hx hb d_Md_part_52 (lv_at hl 0 rfl) ?_
  refine lv_bipush (v := 40) hx hb d_Md_part_54 (by decide +kernel) ?_
  refine lv_icmp_ge (tgt := 95) hx hb d_Md_part_56 (by decide) (fun h => absurd h (by decide +kernel)) (fun _ => ?_)
  refine lv_aload_n hx hb d_Md_part_59 rfl (lv_at hl 3 rfl) ?_
  refine va_get (D := (dC, dI)) (ci := 7) (v := .ref h_2) (C := R_Md) (T := F_Md) (N := 64) hx hb htb i_Md hown hK hP 0 rfl rfl 18 (by decide) (htb (.fieldLink R_Md 85 "WaterMenModel" "shares" "[Z") tw_20) (fun _ h9 => h9) rfl d_Md_part_60 ?_
  refine lv_iload hx hb d_Md_part_63 (lv_at hl 0 rfl) ?_
  refine va_zald hx hb hK hP 2 1 rfl rfl (by unfold vp_in; decide +kernel) d_Md_part_65 ?_
  refine hb_ti 0 rfl ?_
  refine lv_if_eq (tgt := 81) hx hb d_Md_part_66 (by decide) (fun _ => ?_) (fun h => absurd (by decide +kernel) h)
  refine lv_aload_n hx hb d_Md_part_81 rfl (lv_at hl 3 rfl) ?_
  refine va_get (D := (dC, dI)) (ci := 7) (v := .ref h_2) (C := R_Md) (T := F_Md) (N := 64) hx hb htb i_Md hown hK hP 0 rfl rfl 18 (by decide) (htb (.fieldLink R_Md 85 "WaterMenModel" "shares" "[Z") tw_20) (fun _ h9 => h9) rfl d_Md_part_82 ?_
  refine lv_iload hx hb d_Md_part_85 (lv_at hl 0 rfl) ?_
  refine lv_iconst (v := 0) hx hb d_Md_part_87 (by decide +kernel) ?_
  refine va_zast hx hb hK hP hD hS 2 1 rfl rfl (by unfold vp_in; decide +kernel) d_Md_part_88 (fun H locs hP hD hS => ?_)
  rw [hb_upd0 0 (22 : Int32).toNatClampNeg (vp_nar .boolean 0) (by decide +kernel)] at hP hD
  have hP : va_P (dC, dI) vwCl [(h_0, .inr (7, [.int 0, .int 720, .int 0, .ref y_0_3, .int (-1), .ref y_0_5, .ref y_0_6, .ref y_0_7, .ref y_0_8, .ref y_0_9, .ref y_0_10, .ref y_0_11, .ref y_0_12, .ref y_0_13, .ref y_0_14, .ref h_1, .ref y_0_16, .ref y_0_17, .ref h_2, .ref y_0_19, .ref y_0_20, .int 0, .ref y_0_22, .ref y_0_23, .ref y_0_24, .ref y_0_25, .ref y_0_26, .ref y_0_27, .int 0, .int 0, .ref y_0_30, .ref y_0_31, .ref y_0_32, .ref y_0_33, .ref y_0_34, .ref y_0_35, .ref y_0_36, .ref y_0_37, .ref y_0_38, .ref y_0_39, .ref y_0_40, .ref y_0_41, .int 0, .int 0, .int 0, .int 0, .int 0, .int 0, .ref y_0_48, .ref y_0_49, .ref y_0_50, .ref y_0_51, .ref y_0_52, .ref y_0_53, .ref y_0_54, .ref y_0_55, .long 0, .long 0, .long 0, .ref h_3, .int 0, .ref y_0_61, .ref y_0_62, .ref y_0_63])), (h_1, .inl (kk_1, 40, .inl (fun _ => 0))), (h_2, .inl (kk_2, 40, .inl (fun _ => 0))), (h_3, .inl (kk_3, 500, .inr (.inl (fun _ => 0))))] H := hP
  have hD : va_D A [(h_0, .inr (7, [.int 0, .int 720, .int 0, .ref y_0_3, .int (-1), .ref y_0_5, .ref y_0_6, .ref y_0_7, .ref y_0_8, .ref y_0_9, .ref y_0_10, .ref y_0_11, .ref y_0_12, .ref y_0_13, .ref y_0_14, .ref h_1, .ref y_0_16, .ref y_0_17, .ref h_2, .ref y_0_19, .ref y_0_20, .int 0, .ref y_0_22, .ref y_0_23, .ref y_0_24, .ref y_0_25, .ref y_0_26, .ref y_0_27, .int 0, .int 0, .ref y_0_30, .ref y_0_31, .ref y_0_32, .ref y_0_33, .ref y_0_34, .ref y_0_35, .ref y_0_36, .ref y_0_37, .ref y_0_38, .ref y_0_39, .ref y_0_40, .ref y_0_41, .int 0, .int 0, .int 0, .int 0, .int 0, .int 0, .ref y_0_48, .ref y_0_49, .ref y_0_50, .ref y_0_51, .ref y_0_52, .ref y_0_53, .ref y_0_54, .ref y_0_55, .long 0, .long 0, .long 0, .ref h_3, .int 0, .ref y_0_61, .ref y_0_62, .ref y_0_63])), (h_1, .inl (kk_1, 40, .inl (fun _ => 0))), (h_2, .inl (kk_2, 40, .inl (fun _ => 0))), (h_3, .inl (kk_3, 500, .inr (.inl (fun _ => 0))))] := hD
  refine lv_iinc (v := 23) (lv' := [(5, .int 23), (3, .long 0), (2, .int 0), (0, .ref h_0), (1, .int 0)]) hx hb d_Md_part_89 hl (k := 0) rfl (by decide +kernel) (by decide) rfl (fun ls hl => ?_)
  refine lv_goto (tgt := 52) hx hb d_Md_part_92 (by decide) ?_
  refine lv_iload hx hb d_Md_part_52 (lv_at hl 0 rfl) ?_
  refine lv_bipush (v := 40) hx hb d_Md_part_54 (by decide +kernel) ?_
  refine lv_icmp_ge (tgt := 95) hx hb d_Md_part_56 (by decide) (fun h => absurd h (by decide +kernel)) (fun _ => ?_)
  refine lv_aload_n hx hb d_Md_part_59 rfl (lv_at hl 3 rfl) ?_
  refine va_get (D := (dC, dI)) (ci := 7) (v := .ref h_2) (C := R_Md) (T := F_Md) (N := 64) hx hb htb i_Md hown hK hP 0 rfl rfl 18 (by decide) (htb (.fieldLink R_Md 85 "WaterMenModel" "shares" "[Z") tw_20) (fun _ h9 => h9) rfl d_Md_part_60 ?_
  refine lv_iload hx hb d_Md_part_63 (lv_at hl 0 rfl) ?_
  refine va_zald hx hb hK hP 2 1 rfl rfl (by unfold vp_in; decide +kernel) d_Md_part_65 ?_
  refine hb_ti 0 rfl ?_
  refine lv_if_eq (tgt := 81) hx hb d_Md_part_66 (by decide) (fun _ => ?_) (fun h => absurd (by decide +kernel) h)
  refine lv_aload_n hx hb d_Md_part_81 rfl (lv_at hl 3 rfl) ?_
  refine va_get (D := (dC, dI)) (ci := 7) (v := .ref h_2) (C := R_Md) (T := F_Md) (N := 64) hx hb htb i_Md hown hK hP 0 rfl rfl 18 (by decide) (htb (.fieldLink R_Md 85 "WaterMenModel" "shares" "[Z") tw_20) (fun _ h9 => h9) rfl d_Md_part_82 ?_
  refine lv_iload hx hb d_Md_part_85 (lv_at hl 0 rfl) ?_
  refine lv_iconst (v := 0) hx hb d_Md_part_87 (by decide +kernel) ?_
  refine va_zast hx hb hK hP hD hS 2 1 rfl rfl (by unfold vp_in; decide +kernel) d_Md_part_88 (fun H locs hP hD hS => ?_)
  rw [hb_upd0 0 (23 : Int32).toNatClampNeg (vp_nar .boolean 0) (by decide +kernel)] at hP hD
  have hP : va_P (dC, dI) vwCl [(h_0, .inr (7, [.int 0, .int 720, .int 0, .ref y_0_3, .int (-1), .ref y_0_5, .ref y_0_6, .ref y_0_7, .ref y_0_8, .ref y_0_9, .ref y_0_10, .ref y_0_11, .ref y_0_12, .ref y_0_13, .ref y_0_14, .ref h_1, .ref y_0_16, .ref y_0_17, .ref h_2, .ref y_0_19, .ref y_0_20, .int 0, .ref y_0_22, .ref y_0_23, .ref y_0_24, .ref y_0_25, .ref y_0_26, .ref y_0_27, .int 0, .int 0, .ref y_0_30, .ref y_0_31, .ref y_0_32, .ref y_0_33, .ref y_0_34, .ref y_0_35, .ref y_0_36, .ref y_0_37, .ref y_0_38, .ref y_0_39, .ref y_0_40, .ref y_0_41, .int 0, .int 0, .int 0, .int 0, .int 0, .int 0, .ref y_0_48, .ref y_0_49, .ref y_0_50, .ref y_0_51, .ref y_0_52, .ref y_0_53, .ref y_0_54, .ref y_0_55, .long 0, .long 0, .long 0, .ref h_3, .int 0, .ref y_0_61, .ref y_0_62, .ref y_0_63])), (h_1, .inl (kk_1, 40, .inl (fun _ => 0))), (h_2, .inl (kk_2, 40, .inl (fun _ => 0))), (h_3, .inl (kk_3, 500, .inr (.inl (fun _ => 0))))] H := hP
  have hD : va_D A [(h_0, .inr (7, [.int 0, .int 720, .int 0, .ref y_0_3, .int (-1), .ref y_0_5, .ref y_0_6, .ref y_0_7, .ref y_0_8, .ref y_0_9, .ref y_0_10, .ref y_0_11, .ref y_0_12, .ref y_0_13, .ref y_0_14, .ref h_1, .ref y_0_16, .ref y_0_17, .ref h_2, .ref y_0_19, .ref y_0_20, .int 0, .ref y_0_22, .ref y_0_23, .ref y_0_24, .ref y_0_25, .ref y_0_26, .ref y_0_27, .int 0, .int 0, .ref y_0_30, .ref y_0_31, .ref y_0_32, .ref y_0_33, .ref y_0_34, .ref y_0_35, .ref y_0_36, .ref y_0_37, .ref y_0_38, .ref y_0_39, .ref y_0_40, .ref y_0_41, .int 0, .int 0, .int 0, .int 0, .int 0, .int 0, .ref y_0_48, .ref y_0_49, .ref y_0_50, .ref y_0_51, .ref y_0_52, .ref y_0_53, .ref y_0_54, .ref y_0_55, .long 0, .long 0, .long 0, .ref h_3, .int 0, .ref y_0_61, .ref y_0_62, .ref y_0_63])), (h_1, .inl (kk_1, 40, .inl (fun _ => 0))), (h_2, .inl (kk_2, 40, .inl (fun _ => 0))), (h_3, .inl (kk_3, 500, .inr (.inl (fun _ => 0))))] := hD
  refine lv_iinc (v := 24) (lv' := [(5, .int 24), (3, .long 0), (2, .int 0), (0, .ref h_0), (1, .int 0)]) hx hb d_Md_part_89 hl (k := 0) rfl (by decide +kernel) (by decide) rfl (fun ls hl => ?_)
  refine lv_goto (tgt := 52) hx hb d_Md_part_92 (by decide) ?_
  refine lv_iload hx hb d_Md_part_52 (lv_at hl 0 rfl) ?_
  refine lv_bipush (v := 40) hx hb d_Md_part_54 (by decide +kernel) ?_
  refine lv_icmp_ge (tgt := 95) hx hb d_Md_part_56 (by decide) (fun h => absurd h (by decide +kernel)) (fun _ => ?_)
  refine lv_aload_n hx hb d_Md_part_59 rfl (lv_at hl 3 rfl) ?_
  refine va_get (D := (dC, dI)) (ci := 7) (v := .ref h_2) (C := R_Md) (T := F_Md) (N := 64) hx hb htb i_Md hown hK hP 0 rfl rfl 18 (by decide) (htb (.fieldLink R_Md 85 "WaterMenModel" "shares" "[Z") tw_20) (fun _ h9 => h9) rfl d_Md_part_60 ?_
  refine lv_iload hx hb d_Md_part_63 (lv_at hl 0 rfl) ?_
  refine va_zald hx hb hK hP 2 1 rfl rfl (by unfold vp_in; decide +kernel) d_Md_part_65 ?_
  refine hb_ti 0 rfl ?_
  refine lv_if_eq (tgt := 81) hx hb d_Md_part_66 (by decide) (fun _ => ?_) (fun h => absurd (by decide +kernel) h)
  refine lv_aload_n hx hb d_Md_part_81 rfl (lv_at hl 3 rfl) ?_
  refine va_get (D := (dC, dI)) (ci := 7) (v := .ref h_2) (C := R_Md) (T := F_Md) (N := 64) hx hb htb i_Md hown hK hP 0 rfl rfl 18 (by decide) (htb (.fieldLink R_Md 85 "WaterMenModel" "shares" "[Z") tw_20) (fun _ h9 => h9) rfl d_Md_part_82 ?_
  refine lv_iload hx hb d_Md_part_85 (lv_at hl 0 rfl) ?_
  refine lv_iconst (v := 0) hx hb d_Md_part_87 (by decide +kernel) ?_
  refine va_zast hx hb hK hP hD hS 2 1 rfl rfl (by unfold vp_in; decide +kernel) d_Md_part_88 (fun H locs hP hD hS => ?_)
  rw [hb_upd0 0 (24 : Int32).toNatClampNeg (vp_nar .boolean 0) (by decide +kernel)] at hP hD
  have hP : va_P (dC, dI) vwCl [(h_0, .inr (7, [.int 0, .int 720, .int 0, .ref y_0_3, .int (-1), .ref y_0_5, .ref y_0_6, .ref y_0_7, .ref y_0_8, .ref y_0_9, .ref y_0_10, .ref y_0_11, .ref y_0_12, .ref y_0_13, .ref y_0_14, .ref h_1, .ref y_0_16, .ref y_0_17, .ref h_2, .ref y_0_19, .ref y_0_20, .int 0, .ref y_0_22, .ref y_0_23, .ref y_0_24, .ref y_0_25, .ref y_0_26, .ref y_0_27, .int 0, .int 0, .ref y_0_30, .ref y_0_31, .ref y_0_32, .ref y_0_33, .ref y_0_34, .ref y_0_35, .ref y_0_36, .ref y_0_37, .ref y_0_38, .ref y_0_39, .ref y_0_40, .ref y_0_41, .int 0, .int 0, .int 0, .int 0, .int 0, .int 0, .ref y_0_48, .ref y_0_49, .ref y_0_50, .ref y_0_51, .ref y_0_52, .ref y_0_53, .ref y_0_54, .ref y_0_55, .long 0, .long 0, .long 0, .ref h_3, .int 0, .ref y_0_61, .ref y_0_62, .ref y_0_63])), (h_1, .inl (kk_1, 40, .inl (fun _ => 0))), (h_2, .inl (kk_2, 40, .inl (fun _ => 0))), (h_3, .inl (kk_3, 500, .inr (.inl (fun _ => 0))))] H := hP
  have hD : va_D A [(h_0, .inr (7, [.int 0, .int 720, .int 0, .ref y_0_3, .int (-1), .ref y_0_5, .ref y_0_6, .ref y_0_7, .ref y_0_8, .ref y_0_9, .ref y_0_10, .ref y_0_11, .ref y_0_12, .ref y_0_13, .ref y_0_14, .ref h_1, .ref y_0_16, .ref y_0_17, .ref h_2, .ref y_0_19, .ref y_0_20, .int 0, .ref y_0_22, .ref y_0_23, .ref y_0_24, .ref y_0_25, .ref y_0_26, .ref y_0_27, .int 0, .int 0, .ref y_0_30, .ref y_0_31, .ref y_0_32, .ref y_0_33, .ref y_0_34, .ref y_0_35, .ref y_0_36, .ref y_0_37, .ref y_0_38, .ref y_0_39, .ref y_0_40, .ref y_0_41, .int 0, .int 0, .int 0, .int 0, .int 0, .int 0, .ref y_0_48, .ref y_0_49, .ref y_0_50, .ref y_0_51, .ref y_0_52, .ref y_0_53, .ref y_0_54, .ref y_0_55, .long 0, .long 0, .long 0, .ref h_3, .int 0, .ref y_0_61, .ref y_0_62, .ref y_0_63])), (h_1, .inl (kk_1, 40, .inl (fun _ => 0))), (h_2, .inl (kk_2, 40, .inl (fun _ => 0))), (h_3, .inl (kk_3, 500, .inr (.inl (fun _ => 0))))] := hD
  refine lv_iinc (v := 25) (lv' := [(5, .int 25), (3, .long 0), (2, .int 0), (0, .ref h_0), (1, .int 0)]) hx hb d_Md_part_89 hl (k := 0) rfl (by decide +kernel) (by decide) rfl (fun ls hl => ?_)
  refine lv_goto (tgt := 52) hx hb d_Md_part_92 (by decide) ?_
  refine lv_iload hx hb d_Md_part_52 (lv_at hl 0 rfl) ?_
  refine lv_bipush (v := 40) hx hb d_Md_part_54 (by decide +kernel) ?_
  refine lv_icmp_ge (tgt := 95) hx hb d_Md_part_56 (by decide) (fun h => absurd h (by decide +kernel)) (fun _ => ?_)
  refine lv_aload_n hx hb d_Md_part_59 rfl (lv_at hl 3 rfl) ?_
  refine va_get (D := (dC, dI)) (ci := 7) (v := .ref h_2) (C := R_Md) (T := F_Md) (N := 64) hx hb htb i_Md hown hK hP 0 rfl rfl 18 (by decide) (htb (.fieldLink R_Md 85 "WaterMenModel" "shares" "[Z") tw_20) (fun _ h9 => h9) rfl d_Md_part_60 ?_
  refine lv_iload hx hb d_Md_part_63 (lv_at hl 0 rfl) ?_
  refine va_zald hx hb hK hP 2 1 rfl rfl (by unfold vp_in; decide +kernel) d_Md_part_65 ?_
  refine hb_ti 0 rfl ?_
  refine lv_if_eq (tgt := 81) hx hb d_Md_part_66 (by decide) (fun _ => ?_) (fun h => absurd (by decide +kernel) h)
  refine lv_aload_n hx hb d_Md_part_81 rfl (lv_at hl 3 rfl) ?_
  refine va_get (D := (dC, dI)) (ci := 7) (v := .ref h_2) (C := R_Md) (T := F_Md) (N := 64) hx hb htb i_Md hown hK hP 0 rfl rfl 18 (by decide) (htb (.fieldLink R_Md 85 "WaterMenModel" "shares" "[Z") tw_20) (fun _ h9 => h9) rfl d_Md_part_82 ?_
  refine lv_iload hx hb d_Md_part_85 (lv_at hl 0 rfl) ?_
  refine lv_iconst (v := 0) hx hb d_Md_part_87 (by decide +kernel) ?_
  refine va_zast hx hb hK hP hD hS 2 1 rfl rfl (by unfold vp_in; decide +kernel) d_Md_part_88 (fun H locs hP hD hS => ?_)
  rw [hb_upd0 0 (25 : Int32).toNatClampNeg (vp_nar .boolean 0) (by decide +kernel)] at hP hD
  have hP : va_P (dC, dI) vwCl [(h_0, .inr (7, [.int 0, .int 720, .int 0, .ref y_0_3, .int (-1), .ref y_0_5, .ref y_0_6, .ref y_0_7, .ref y_0_8, .ref y_0_9, .ref y_0_10, .ref y_0_11, .ref y_0_12, .ref y_0_13, .ref y_0_14, .ref h_1, .ref y_0_16, .ref y_0_17, .ref h_2, .ref y_0_19, .ref y_0_20, .int 0, .ref y_0_22, .ref y_0_23, .ref y_0_24, .ref y_0_25, .ref y_0_26, .ref y_0_27, .int 0, .int 0, .ref y_0_30, .ref y_0_31, .ref y_0_32, .ref y_0_33, .ref y_0_34, .ref y_0_35, .ref y_0_36, .ref y_0_37, .ref y_0_38, .ref y_0_39, .ref y_0_40, .ref y_0_41, .int 0, .int 0, .int 0, .int 0, .int 0, .int 0, .ref y_0_48, .ref y_0_49, .ref y_0_50, .ref y_0_51, .ref y_0_52, .ref y_0_53, .ref y_0_54, .ref y_0_55, .long 0, .long 0, .long 0, .ref h_3, .int 0, .ref y_0_61, .ref y_0_62, .ref y_0_63])), (h_1, .inl (kk_1, 40, .inl (fun _ => 0))), (h_2, .inl (kk_2, 40, .inl (fun _ => 0))), (h_3, .inl (kk_3, 500, .inr (.inl (fun _ => 0))))] H := hP
  have hD : va_D A [(h_0, .inr (7, [.int 0, .int 720, .int 0, .ref y_0_3, .int (-1), .ref y_0_5, .ref y_0_6, .ref y_0_7, .ref y_0_8, .ref y_0_9, .ref y_0_10, .ref y_0_11, .ref y_0_12, .ref y_0_13, .ref y_0_14, .ref h_1, .ref y_0_16, .ref y_0_17, .ref h_2, .ref y_0_19, .ref y_0_20, .int 0, .ref y_0_22, .ref y_0_23, .ref y_0_24, .ref y_0_25, .ref y_0_26, .ref y_0_27, .int 0, .int 0, .ref y_0_30, .ref y_0_31, .ref y_0_32, .ref y_0_33, .ref y_0_34, .ref y_0_35, .ref y_0_36, .ref y_0_37, .ref y_0_38, .ref y_0_39, .ref y_0_40, .ref y_0_41, .int 0, .int 0, .int 0, .int 0, .int 0, .int 0, .ref y_0_48, .ref y_0_49, .ref y_0_50, .ref y_0_51, .ref y_0_52, .ref y_0_53, .ref y_0_54, .ref y_0_55, .long 0, .long 0, .long 0, .ref h_3, .int 0, .ref y_0_61, .ref y_0_62, .ref y_0_63])), (h_1, .inl (kk_1, 40, .inl (fun _ => 0))), (h_2, .inl (kk_2, 40, .inl (fun _ => 0))), (h_3, .inl (kk_3, 500, .inr (.inl (fun _ => 0))))] := hD
  refine lv_iinc (v := 26) (lv' := [(5, .int 26), (3, .long 0), (2, .int 0), (0, .ref h_0), (1, .int 0)]) hx hb d_Md_part_89 hl (k := 0) rfl (by decide +kernel) (by decide) rfl (fun ls hl => ?_)
  refine lv_goto (tgt := 52) hx hb d_Md_part_92 (by decide) ?_
  refine lv_iload hx hb d_Md_part_52 (lv_at hl 0 rfl) ?_
  refine lv_bipush (v := 40) hx hb d_Md_part_54 (by decide +kernel) ?_
  refine lv_icmp_ge (tgt := 95) hx hb d_Md_part_56 (by decide) (fun h => absurd h (by decide +kernel)) (fun _ => ?_)
  refine lv_aload_n hx hb d_Md_part_59 rfl (lv_at hl 3 rfl) ?_
  refine va_get (D := (dC, dI)) (ci := 7) (v := .ref h_2) (C := R_Md) (T := F_Md) (N := 64) hx hb htb i_Md hown hK hP 0 rfl rfl 18 (by decide) (htb (.fieldLink R_Md 85 "WaterMenModel" "shares" "[Z") tw_20) (fun _ h9 => h9) rfl d_Md_part_60 ?_
  refine lv_iload hx hb d_Md_part_63 (lv_at hl 0 rfl) ?_
  refine va_zald hx hb hK hP 2 1 rfl rfl (by unfold vp_in; decide +kernel) d_Md_part_65 ?_
  refine hb_ti 0 rfl ?_
  refine lv_if_eq (tgt := 81) hx hb d_Md_part_66 (by decide) (fun _ => ?_) (fun h => absurd (by decide +kernel) h)
  refine lv_aload_n hx hb d_Md_part_81 rfl (lv_at hl 3 rfl) ?_
  refine va_get (D := (dC, dI)) (ci := 7) (v := .ref h_2) (C := R_Md) (T := F_Md) (N := 64) hx hb htb i_Md hown hK hP 0 rfl rfl 18 (by decide) (htb (.fieldLink R_Md 85 "WaterMenModel" "shares" "[Z") tw_20) (fun _ h9 => h9) rfl d_Md_part_82 ?_
  refine lv_iload hx hb d_Md_part_85 (lv_at hl 0 rfl) ?_
  refine lv_iconst (v := 0) hx hb d_Md_part_87 (by decide +kernel) ?_
  refine va_zast hx hb hK hP hD hS 2 1 rfl rfl (by unfold vp_in; decide +kernel) d_Md_part_88 (fun H locs hP hD hS => ?_)
  rw [hb_upd0 0 (26 : Int32).toNatClampNeg (vp_nar .boolean 0) (by decide +kernel)] at hP hD
  have hP : va_P (dC, dI) vwCl [(h_0, .inr (7, [.int 0, .int 720, .int 0, .ref y_0_3, .int (-1), .ref y_0_5, .ref y_0_6, .ref y_0_7, .ref y_0_8, .ref y_0_9, .ref y_0_10, .ref y_0_11, .ref y_0_12, .ref y_0_13, .ref y_0_14, .ref h_1, .ref y_0_16, .ref y_0_17, .ref h_2, .ref y_0_19, .ref y_0_20, .int 0, .ref y_0_22, .ref y_0_23, .ref y_0_24, .ref y_0_25, .ref y_0_26, .ref y_0_27, .int 0, .int 0, .ref y_0_30, .ref y_0_31, .ref y_0_32, .ref y_0_33, .ref y_0_34, .ref y_0_35, .ref y_0_36, .ref y_0_37, .ref y_0_38, .ref y_0_39, .ref y_0_40, .ref y_0_41, .int 0, .int 0, .int 0, .int 0, .int 0, .int 0, .ref y_0_48, .ref y_0_49, .ref y_0_50, .ref y_0_51, .ref y_0_52, .ref y_0_53, .ref y_0_54, .ref y_0_55, .long 0, .long 0, .long 0, .ref h_3, .int 0, .ref y_0_61, .ref y_0_62, .ref y_0_63])), (h_1, .inl (kk_1, 40, .inl (fun _ => 0))), (h_2, .inl (kk_2, 40, .inl (fun _ => 0))), (h_3, .inl (kk_3, 500, .inr (.inl (fun _ => 0))))] H := hP
  have hD : va_D A [(h_0, .inr (7, [.int 0, .int 720, .int 0, .ref y_0_3, .int (-1), .ref y_0_5, .ref y_0_6, .ref y_0_7, .ref y_0_8, .ref y_0_9, .ref y_0_10, .ref y_0_11, .ref y_0_12, .ref y_0_13, .ref y_0_14, .ref h_1, .ref y_0_16, .ref y_0_17, .ref h_2, .ref y_0_19, .ref y_0_20, .int 0, .ref y_0_22, .ref y_0_23, .ref y_0_24, .ref y_0_25, .ref y_0_26, .ref y_0_27, .int 0, .int 0, .ref y_0_30, .ref y_0_31, .ref y_0_32, .ref y_0_33, .ref y_0_34, .ref y_0_35, .ref y_0_36, .ref y_0_37, .ref y_0_38, .ref y_0_39, .ref y_0_40, .ref y_0_41, .int 0, .int 0, .int 0, .int 0, .int 0, .int 0, .ref y_0_48, .ref y_0_49, .ref y_0_50, .ref y_0_51, .ref y_0_52, .ref y_0_53, .ref y_0_54, .ref y_0_55, .long 0, .long 0, .long 0, .ref h_3, .int 0, .ref y_0_61, .ref y_0_62, .ref y_0_63])), (h_1, .inl (kk_1, 40, .inl (fun _ => 0))), (h_2, .inl (kk_2, 40, .inl (fun _ => 0))), (h_3, .inl (kk_3, 500, .inr (.inl (fun _ => 0))))] := hD
  refine lv_iinc (v := 27) (lv' := [(5, .int 27), (3, .long 0), (2, .int 0), (0, .ref h_0), (1, .int 0)]) hx hb d_Md_part_89 hl (k := 0) rfl (by decide +kernel) (by decide) rfl (fun ls hl => ?_)
  refine lv_goto (tgt := 52) hx hb d_Md_part_92 (by decide) ?_
  refine lv_iload hx hb d_Md_part_52 (lv_at hl 0 rfl) ?_
  refine lv_bipush (v := 40) hx hb d_Md_part_54 (by decide +kernel) ?_
  refine lv_icmp_ge (tgt := 95) hx hb d_Md_part_56 (by decide) (fun h => absurd h (by decide +kernel)) (fun _ => ?_)
  refine lv_aload_n hx hb d_Md_part_59 rfl (lv_at hl 3 rfl) ?_
  refine va_get (D := (dC, dI)) (ci := 7) (v := .ref h_2) (C := R_Md) (T := F_Md) (N := 64) hx hb htb i_Md hown hK hP 0 rfl rfl 18 (by decide) (htb (.fieldLink R_Md 85 "WaterMenModel" "shares" "[Z") tw_20) (fun _ h9 => h9) rfl d_Md_part_60 ?_
  refine lv_iload hx hb d_Md_part_63 (lv_at hl 0 rfl) ?_
  refine va_zald hx hb hK hP 2 1 rfl rfl (by unfold vp_in; decide +kernel) d_Md_part_65 ?_
  refine hb_ti 0 rfl ?_
  refine lv_if_eq (tgt := 81) hx hb d_Md_part_66 (by decide) (fun _ => ?_) (fun h => absurd (by decide +kernel) h)
  refine lv_aload_n hx hb d_Md_part_81 rfl (lv_at hl 3 rfl) ?_
  refine va_get (D := (dC, dI)) (ci := 7) (v := .ref h_2) (C := R_Md) (T := F_Md) (N := 64) hx hb htb i_Md hown hK hP 0 rfl rfl 18 (by decide) (htb (.fieldLink R_Md 85 "WaterMenModel" "shares" "[Z") tw_20) (fun _ h9 => h9) rfl d_Md_part_82 ?_
  refine lv_iload hx hb d_Md_part_85 (lv_at hl 0 rfl) ?_
  refine lv_iconst (v := 0) hx hb d_Md_part_87 (by decide +kernel) ?_
  refine va_zast hx hb hK hP hD hS 2 1 rfl rfl (by unfold vp_in; decide +kernel) d_Md_part_88 (fun H locs hP hD hS => ?_)
  rw [hb_upd0 0 (27 : Int32).toNatClampNeg (vp_nar .boolean 0) (by decide +kernel)] at hP hD
  have hP : va_P (dC, dI) vwCl [(h_0, .inr (7, [.int 0, .int 720, .int 0, .ref y_0_3, .int (-1), .ref y_0_5, .ref y_0_6, .ref y_0_7, .ref y_0_8, .ref y_0_9, .ref y_0_10, .ref y_0_11, .ref y_0_12, .ref y_0_13, .ref y_0_14, .ref h_1, .ref y_0_16, .ref y_0_17, .ref h_2, .ref y_0_19, .ref y_0_20, .int 0, .ref y_0_22, .ref y_0_23, .ref y_0_24, .ref y_0_25, .ref y_0_26, .ref y_0_27, .int 0, .int 0, .ref y_0_30, .ref y_0_31, .ref y_0_32, .ref y_0_33, .ref y_0_34, .ref y_0_35, .ref y_0_36, .ref y_0_37, .ref y_0_38, .ref y_0_39, .ref y_0_40, .ref y_0_41, .int 0, .int 0, .int 0, .int 0, .int 0, .int 0, .ref y_0_48, .ref y_0_49, .ref y_0_50, .ref y_0_51, .ref y_0_52, .ref y_0_53, .ref y_0_54, .ref y_0_55, .long 0, .long 0, .long 0, .ref h_3, .int 0, .ref y_0_61, .ref y_0_62, .ref y_0_63])), (h_1, .inl (kk_1, 40, .inl (fun _ => 0))), (h_2, .inl (kk_2, 40, .inl (fun _ => 0))), (h_3, .inl (kk_3, 500, .inr (.inl (fun _ => 0))))] H := hP
  have hD : va_D A [(h_0, .inr (7, [.int 0, .int 720, .int 0, .ref y_0_3, .int (-1), .ref y_0_5, .ref y_0_6, .ref y_0_7, .ref y_0_8, .ref y_0_9, .ref y_0_10, .ref y_0_11, .ref y_0_12, .ref y_0_13, .ref y_0_14, .ref h_1, .ref y_0_16, .ref y_0_17, .ref h_2, .ref y_0_19, .ref y_0_20, .int 0, .ref y_0_22, .ref y_0_23, .ref y_0_24, .ref y_0_25, .ref y_0_26, .ref y_0_27, .int 0, .int 0, .ref y_0_30, .ref y_0_31, .ref y_0_32, .ref y_0_33, .ref y_0_34, .ref y_0_35, .ref y_0_36, .ref y_0_37, .ref y_0_38, .ref y_0_39, .ref y_0_40, .ref y_0_41, .int 0, .int 0, .int 0, .int 0, .int 0, .int 0, .ref y_0_48, .ref y_0_49, .ref y_0_50, .ref y_0_51, .ref y_0_52, .ref y_0_53, .ref y_0_54, .ref y_0_55, .long 0, .long 0, .long 0, .ref h_3, .int 0, .ref y_0_61, .ref y_0_62, .ref y_0_63])), (h_1, .inl (kk_1, 40, .inl (fun _ => 0))), (h_2, .inl (kk_2, 40, .inl (fun _ => 0))), (h_3, .inl (kk_3, 500, .inr (.inl (fun _ => 0))))] := hD
  refine lv_iinc (v := 28) (lv' := [(5, .int 28), (3, .long 0), (2, .int 0), (0, .ref h_0), (1, .int 0)]) hx hb d_Md_part_89 hl (k := 0) rfl (by decide +kernel) (by decide) rfl (fun ls hl => ?_)
  refine lv_goto (tgt := 52) hx hb d_Md_part_92 (by decide) ?_
  refine lv_iload hx hb d_Md_part_52 (lv_at hl 0 rfl) ?_
  refine lv_bipush (v := 40) hx hb d_Md_part_54 (by decide +kernel) ?_
  refine lv_icmp_ge (tgt := 95) hx hb d_Md_part_56 (by decide) (fun h => absurd h (by decide +kernel)) (fun _ => ?_)
  refine lv_aload_n hx hb d_Md_part_59 rfl (lv_at hl 3 rfl) ?_
  refine va_get (D := (dC, dI)) (ci := 7) (v := .ref h_2) (C := R_Md) (T := F_Md) (N := 64) hx hb htb i_Md hown hK hP 0 rfl rfl 18 (by decide) (htb (.fieldLink R_Md 85 "WaterMenModel" "shares" "[Z") tw_20) (fun _ h9 => h9) rfl d_Md_part_60 ?_
  refine lv_iload hx hb d_Md_part_63 (lv_at hl 0 rfl) ?_
  refine va_zald hx hb hK hP 2 1 rfl rfl (by unfold vp_in; decide +kernel) d_Md_part_65 ?_
  refine hb_ti 0 rfl ?_
  refine lv_if_eq (tgt := 81) hx hb d_Md_part_66 (by decide) (fun _ => ?_) (fun h => absurd (by decide +kernel) h)
  refine lv_aload_n hx hb d_Md_part_81 rfl (lv_at hl 3 rfl) ?_
  refine va_get (D := (dC, dI)) (ci := 7) (v := .ref h_2) (C := R_Md) (T := F_Md) (N := 64) hx hb htb i_Md hown hK hP 0 rfl rfl 18 (by decide) (htb (.fieldLink R_Md 85 "WaterMenModel" "shares" "[Z") tw_20) (fun _ h9 => h9) rfl d_Md_part_82 ?_
  refine lv_iload hx hb d_Md_part_85 (lv_at hl 0 rfl) ?_
  refine lv_iconst (v := 0) hx hb d_Md_part_87 (by decide +kernel) ?_
  refine va_zast hx hb hK hP hD hS 2 1 rfl rfl (by unfold vp_in; decide +kernel) d_Md_part_88 (fun H locs hP hD hS => ?_)
  rw [hb_upd0 0 (28 : Int32).toNatClampNeg (vp_nar .boolean 0) (by decide +kernel)] at hP hD
  have hP : va_P (dC, dI) vwCl [(h_0, .inr (7, [.int 0, .int 720, .int 0, .ref y_0_3, .int (-1), .ref y_0_5, .ref y_0_6, .ref y_0_7, .ref y_0_8, .ref y_0_9, .ref y_0_10, .ref y_0_11, .ref y_0_12, .ref y_0_13, .ref y_0_14, .ref h_1, .ref y_0_16, .ref y_0_17, .ref h_2, .ref y_0_19, .ref y_0_20, .int 0, .ref y_0_22, .ref y_0_23, .ref y_0_24, .ref y_0_25, .ref y_0_26, .ref y_0_27, .int 0, .int 0, .ref y_0_30, .ref y_0_31, .ref y_0_32, .ref y_0_33, .ref y_0_34, .ref y_0_35, .ref y_0_36, .ref y_0_37, .ref y_0_38, .ref y_0_39, .ref y_0_40, .ref y_0_41, .int 0, .int 0, .int 0, .int 0, .int 0, .int 0, .ref y_0_48, .ref y_0_49, .ref y_0_50, .ref y_0_51, .ref y_0_52, .ref y_0_53, .ref y_0_54, .ref y_0_55, .long 0, .long 0, .long 0, .ref h_3, .int 0, .ref y_0_61, .ref y_0_62, .ref y_0_63])), (h_1, .inl (kk_1, 40, .inl (fun _ => 0))), (h_2, .inl (kk_2, 40, .inl (fun _ => 0))), (h_3, .inl (kk_3, 500, .inr (.inl (fun _ => 0))))] H := hP
  have hD : va_D A [(h_0, .inr (7, [.int 0, .int 720, .int 0, .ref y_0_3, .int (-1), .ref y_0_5, .ref y_0_6, .ref y_0_7, .ref y_0_8, .ref y_0_9, .ref y_0_10, .ref y_0_11, .ref y_0_12, .ref y_0_13, .ref y_0_14, .ref h_1, .ref y_0_16, .ref y_0_17, .ref h_2, .ref y_0_19, .ref y_0_20, .int 0, .ref y_0_22, .ref y_0_23, .ref y_0_24, .ref y_0_25, .ref y_0_26, .ref y_0_27, .int 0, .int 0, .ref y_0_30, .ref y_0_31, .ref y_0_32, .ref y_0_33, .ref y_0_34, .ref y_0_35, .ref y_0_36, .ref y_0_37, .ref y_0_38, .ref y_0_39, .ref y_0_40, .ref y_0_41, .int 0, .int 0, .int 0, .int 0, .int 0, .int 0, .ref y_0_48, .ref y_0_49, .ref y_0_50, .ref y_0_51, .ref y_0_52, .ref y_0_53, .ref y_0_54, .ref y_0_55, .long 0, .long 0, .long 0, .ref h_3, .int 0, .ref y_0_61, .ref y_0_62, .ref y_0_63])), (h_1, .inl (kk_1, 40, .inl (fun _ => 0))), (h_2, .inl (kk_2, 40, .inl (fun _ => 0))), (h_3, .inl (kk_3, 500, .inr (.inl (fun _ => 0))))] := hD
  refine lv_iinc (v := 29) (lv' := [(5, .int 29), (3, .long 0), (2, .int 0), (0, .ref h_0), (1, .int 0)]) hx hb d_Md_part_89 hl (k := 0) rfl (by decide +kernel) (by decide) rfl (fun ls hl => ?_)
  refine lv_goto (tgt := 52) hx hb d_Md_part_92 (by decide) ?_
  refine lv_iload hx hb d_Md_part_52 (lv_at hl 0 rfl) ?_
  refine lv_bipush (v := 40) hx hb d_Md_part_54 (by decide +kernel) ?_
  refine lv_icmp_ge (tgt := 95) hx hb d_Md_part_56 (by decide) (fun h => absurd h (by decide +kernel)) (fun _ => ?_)
  refine lv_aload_n hx hb d_Md_part_59 rfl (lv_at hl 3 rfl) ?_
  refine va_get (D := (dC, dI)) (ci := 7) (v := .ref h_2) (C := R_Md) (T := F_Md) (N := 64) hx hb htb i_Md hown hK hP 0 rfl rfl 18 (by decide) (htb (.fieldLink R_Md 85 "WaterMenModel" "shares" "[Z") tw_20) (fun _ h9 => h9) rfl d_Md_part_60 ?_
  refine lv_iload hx hb d_Md_part_63 (lv_at hl 0 rfl) ?_
  refine va_zald hx hb hK hP 2 1 rfl rfl (by unfold vp_in; decide +kernel) d_Md_part_65 ?_
  refine hb_ti 0 rfl ?_
  refine lv_if_eq (tgt := 81) hx hb d_Md_part_66 (by decide) (fun _ => ?_) (fun h => absurd (by decide +kernel) h)
  refine lv_aload_n hx hb d_Md_part_81 rfl (lv_at hl 3 rfl) ?_
  refine va_get (D := (dC, dI)) (ci := 7) (v := .ref h_2) (C := R_Md) (T := F_Md) (N := 64) hx hb htb i_Md hown hK hP 0 rfl rfl 18 (by decide) (htb (.fieldLink R_Md 85 "WaterMenModel" "shares" "[Z") tw_20) (fun _ h9 => h9) rfl d_Md_part_82 ?_
  refine lv_iload hx hb d_Md_part_85 (lv_at hl 0 rfl) ?_
  refine lv_iconst (v := 0) hx hb d_Md_part_87 (by decide +kernel) ?_
  refine va_zast hx hb hK hP hD hS 2 1 rfl rfl (by unfold vp_in; decide +kernel) d_Md_part_88 (fun H locs hP hD hS => ?_)
  rw [hb_upd0 0 (29 : Int32).toNatClampNeg (vp_nar .boolean 0) (by decide +kernel)] at hP hD
  have hP : va_P (dC, dI) vwCl [(h_0, .inr (7, [.int 0, .int 720, .int 0, .ref y_0_3, .int (-1), .ref y_0_5, .ref y_0_6, .ref y_0_7, .ref y_0_8, .ref y_0_9, .ref y_0_10, .ref y_0_11, .ref y_0_12, .ref y_0_13, .ref y_0_14, .ref h_1, .ref y_0_16, .ref y_0_17, .ref h_2, .ref y_0_19, .ref y_0_20, .int 0, .ref y_0_22, .ref y_0_23, .ref y_0_24, .ref y_0_25, .ref y_0_26, .ref y_0_27, .int 0, .int 0, .ref y_0_30, .ref y_0_31, .ref y_0_32, .ref y_0_33, .ref y_0_34, .ref y_0_35, .ref y_0_36, .ref y_0_37, .ref y_0_38, .ref y_0_39, .ref y_0_40, .ref y_0_41, .int 0, .int 0, .int 0, .int 0, .int 0, .int 0, .ref y_0_48, .ref y_0_49, .ref y_0_50, .ref y_0_51, .ref y_0_52, .ref y_0_53, .ref y_0_54, .ref y_0_55, .long 0, .long 0, .long 0, .ref h_3, .int 0, .ref y_0_61, .ref y_0_62, .ref y_0_63])), (h_1, .inl (kk_1, 40, .inl (fun _ => 0))), (h_2, .inl (kk_2, 40, .inl (fun _ => 0))), (h_3, .inl (kk_3, 500, .inr (.inl (fun _ => 0))))] H := hP
  have hD : va_D A [(h_0, .inr (7, [.int 0, .int 720, .int 0, .ref y_0_3, .int (-1), .ref y_0_5, .ref y_0_6, .ref y_0_7, .ref y_0_8, .ref y_0_9, .ref y_0_10, .ref y_0_11, .ref y_0_12, .ref y_0_13, .ref y_0_14, .ref h_1, .ref y_0_16, .ref y_0_17, .ref h_2, .ref y_0_19, .ref y_0_20, .int 0, .ref y_0_22, .ref y_0_23, .ref y_0_24, .ref y_0_25, .ref y_0_26, .ref y_0_27, .int 0, .int 0, .ref y_0_30, .ref y_0_31, .ref y_0_32, .ref y_0_33, .ref y_0_34, .ref y_0_35, .ref y_0_36, .ref y_0_37, .ref y_0_38, .ref y_0_39, .ref y_0_40, .ref y_0_41, .int 0, .int 0, .int 0, .int 0, .int 0, .int 0, .ref y_0_48, .ref y_0_49, .ref y_0_50, .ref y_0_51, .ref y_0_52, .ref y_0_53, .ref y_0_54, .ref y_0_55, .long 0, .long 0, .long 0, .ref h_3, .int 0, .ref y_0_61, .ref y_0_62, .ref y_0_63])), (h_1, .inl (kk_1, 40, .inl (fun _ => 0))), (h_2, .inl (kk_2, 40, .inl (fun _ => 0))), (h_3, .inl (kk_3, 500, .inr (.inl (fun _ => 0))))] := hD
  refine lv_iinc (v := 30) (lv' := [(5, .int 30), (3, .long 0), (2, .int 0), (0, .ref h_0), (1, .int 0)]) hx hb d_Md_part_89 hl (k := 0) rfl (by decide +kernel) (by decide) rfl (fun ls hl => ?_)
  refine lv_goto (tgt := 52) hx hb d_Md_part_92 (by decide) ?_
  refine lv_iload hx hb d_Md_part_52 (lv_at hl 0 rfl) ?_
  refine lv_bipush (v := 40) hx hb d_Md_part_54 (by decide +kernel) ?_
  refine lv_icmp_ge (tgt := 95) hx hb d_Md_part_56 (by decide) (fun h => absurd h (by decide +kernel)) (fun _ => ?_)
  refine lv_aload_n hx hb d_Md_part_59 rfl (lv_at hl 3 rfl) ?_
  refine va_get (D := (dC, dI)) (ci := 7) (v := .ref h_2) (C := R_Md) (T := F_Md) (N := 64) hx hb htb i_Md hown hK hP 0 rfl rfl 18 (by decide) (htb (.fieldLink R_Md 85 "WaterMenModel" "shares" "[Z") tw_20) (fun _ h9 => h9) rfl d_Md_part_60 ?_
  refine lv_iload hx hb d_Md_part_63 (lv_at hl 0 rfl) ?_
  refine va_zald hx hb hK hP 2 1 rfl rfl (by unfold vp_in; decide +kernel) d_Md_part_65 ?_
  refine hb_ti 0 rfl ?_
  refine lv_if_eq (tgt := 81) hx hb d_Md_part_66 (by decide) (fun _ => ?_) (fun h => absurd (by decide +kernel) h)
  refine lv_aload_n hx hb d_Md_part_81 rfl (lv_at hl 3 rfl) ?_
  refine va_get (D := (dC, dI)) (ci := 7) (v := .ref h_2) (C := R_Md) (T := F_Md) (N := 64) hx hb htb i_Md hown hK hP 0 rfl rfl 18 (by decide) (htb (.fieldLink R_Md 85 "WaterMenModel" "shares" "[Z") tw_20) (fun _ h9 => h9) rfl d_Md_part_82 ?_
  refine lv_iload hx hb d_Md_part_85 (lv_at hl 0 rfl) ?_
  refine lv_iconst (v := 0) hx hb d_Md_part_87 (by decide +kernel) ?_
  refine va_zast hx hb hK hP hD hS 2 1 rfl rfl (by unfold vp_in; decide +kernel) d_Md_part_88 (fun H locs hP hD hS => ?_)
  rw [hb_upd0 0 (30 : Int32).toNatClampNeg (vp_nar .boolean 0) (by decide +kernel)] at hP hD
  have hP : va_P (dC, dI) vwCl [(h_0, .inr (7, [.int 0, .int 720, .int 0, .ref y_0_3, .int (-1), .ref y_0_5, .ref y_0_6, .ref y_0_7, .ref y_0_8, .ref y_0_9, .ref y_0_10, .ref y_0_11, .ref y_0_12, .ref y_0_13, .ref y_0_14, .ref h_1, .ref y_0_16, .ref y_0_17, .ref h_2, .ref y_0_19, .ref y_0_20, .int 0, .ref y_0_22, .ref y_0_23, .ref y_0_24, .ref y_0_25, .ref y_0_26, .ref y_0_27, .int 0, .int 0, .ref y_0_30, .ref y_0_31, .ref y_0_32, .ref y_0_33, .ref y_0_34, .ref y_0_35, .ref y_0_36, .ref y_0_37, .ref y_0_38, .ref y_0_39, .ref y_0_40, .ref y_0_41, .int 0, .int 0, .int 0, .int 0, .int 0, .int 0, .ref y_0_48, .ref y_0_49, .ref y_0_50, .ref y_0_51, .ref y_0_52, .ref y_0_53, .ref y_0_54, .ref y_0_55, .long 0, .long 0, .long 0, .ref h_3, .int 0, .ref y_0_61, .ref y_0_62, .ref y_0_63])), (h_1, .inl (kk_1, 40, .inl (fun _ => 0))), (h_2, .inl (kk_2, 40, .inl (fun _ => 0))), (h_3, .inl (kk_3, 500, .inr (.inl (fun _ => 0))))] H := hP
  have hD : va_D A [(h_0, .inr (7, [.int 0, .int 720, .int 0, .ref y_0_3, .int (-1), .ref y_0_5, .ref y_0_6, .ref y_0_7, .ref y_0_8, .ref y_0_9, .ref y_0_10, .ref y_0_11, .ref y_0_12, .ref y_0_13, .ref y_0_14, .ref h_1, .ref y_0_16, .ref y_0_17, .ref h_2, .ref y_0_19, .ref y_0_20, .int 0, .ref y_0_22, .ref y_0_23, .ref y_0_24, .ref y_0_25, .ref y_0_26, .ref y_0_27, .int 0, .int 0, .ref y_0_30, .ref y_0_31, .ref y_0_32, .ref y_0_33, .ref y_0_34, .ref y_0_35, .ref y_0_36, .ref y_0_37, .ref y_0_38, .ref y_0_39, .ref y_0_40, .ref y_0_41, .int 0, .int 0, .int 0, .int 0, .int 0, .int 0, .ref y_0_48, .ref y_0_49, .ref y_0_50, .ref y_0_51, .ref y_0_52, .ref y_0_53, .ref y_0_54, .ref y_0_55, .long 0, .long 0, .long 0, .ref h_3, .int 0, .ref y_0_61, .ref y_0_62, .ref y_0_63])), (h_1, .inl (kk_1, 40, .inl (fun _ => 0))), (h_2, .inl (kk_2, 40, .inl (fun _ => 0))), (h_3, .inl (kk_3, 500, .inr (.inl (fun _ => 0))))] := hD
  refine lv_iinc (v := 31) (lv' := [(5, .int 31), (3, .long 0), (2, .int 0), (0, .ref h_0), (1, .int 0)]) hx hb d_Md_part_89 hl (k := 0) rfl (by decide +kernel) (by decide) rfl (fun ls hl => ?_)
  refine lv_goto (tgt := 52) hx hb d_Md_part_92 (by decide) ?_
  refine lv_iload hx hb d_Md_part_52 (lv_at hl 0 rfl) ?_
  refine lv_bipush (v := 40) hx hb d_Md_part_54 (by decide +kernel) ?_
  refine lv_icmp_ge (tgt := 95) hx hb d_Md_part_56 (by decide) (fun h => absurd h (by decide +kernel)) (fun _ => ?_)
  refine lv_aload_n hx hb d_Md_part_59 rfl (lv_at hl 3 rfl) ?_
  refine va_get (D := (dC, dI)) (ci := 7) (v := .ref h_2) (C := R_Md) (T := F_Md) (N := 64) hx hb htb i_Md hown hK hP 0 rfl rfl 18 (by decide) (htb (.fieldLink R_Md 85 "WaterMenModel" "shares" "[Z") tw_20) (fun _ h9 => h9) rfl d_Md_part_60 ?_
  refine lv_iload hx hb d_Md_part_63 (lv_at hl 0 rfl) ?_
  refine va_zald hx hb hK hP 2 1 rfl rfl (by unfold vp_in; decide +kernel) d_Md_part_65 ?_
  refine hb_ti 0 rfl ?_
  refine lv_if_eq (tgt := 81) hx hb d_Md_part_66 (by decide) (fun _ => ?_) (fun h => absurd (by decide +kernel) h)
  refine lv_aload_n hx hb d_Md_part_81 rfl (lv_at hl 3 rfl) ?_
  refine va_get (D := (dC, dI)) (ci := 7) (v := .ref h_2) (C := R_Md) (T := F_Md) (N := 64) hx hb htb i_Md hown hK hP 0 rfl rfl 18 (by decide) (htb (.fieldLink R_Md 85 "WaterMenModel" "shares" "[Z") tw_20) (fun _ h9 => h9) rfl d_Md_part_82 ?_
  refine lv_iload hx hb d_Md_part_85 (lv_at hl 0 rfl) ?_
  refine lv_iconst (v := 0) hx hb d_Md_part_87 (by decide +kernel) ?_
  refine va_zast hx hb hK hP hD hS 2 1 rfl rfl (by unfold vp_in; decide +kernel) d_Md_part_88 (fun H locs hP hD hS => ?_)
  rw [hb_upd0 0 (31 : Int32).toNatClampNeg (vp_nar .boolean 0) (by decide +kernel)] at hP hD
  have hP : va_P (dC, dI) vwCl [(h_0, .inr (7, [.int 0, .int 720, .int 0, .ref y_0_3, .int (-1), .ref y_0_5, .ref y_0_6, .ref y_0_7, .ref y_0_8, .ref y_0_9, .ref y_0_10, .ref y_0_11, .ref y_0_12, .ref y_0_13, .ref y_0_14, .ref h_1, .ref y_0_16, .ref y_0_17, .ref h_2, .ref y_0_19, .ref y_0_20, .int 0, .ref y_0_22, .ref y_0_23, .ref y_0_24, .ref y_0_25, .ref y_0_26, .ref y_0_27, .int 0, .int 0, .ref y_0_30, .ref y_0_31, .ref y_0_32, .ref y_0_33, .ref y_0_34, .ref y_0_35, .ref y_0_36, .ref y_0_37, .ref y_0_38, .ref y_0_39, .ref y_0_40, .ref y_0_41, .int 0, .int 0, .int 0, .int 0, .int 0, .int 0, .ref y_0_48, .ref y_0_49, .ref y_0_50, .ref y_0_51, .ref y_0_52, .ref y_0_53, .ref y_0_54, .ref y_0_55, .long 0, .long 0, .long 0, .ref h_3, .int 0, .ref y_0_61, .ref y_0_62, .ref y_0_63])), (h_1, .inl (kk_1, 40, .inl (fun _ => 0))), (h_2, .inl (kk_2, 40, .inl (fun _ => 0))), (h_3, .inl (kk_3, 500, .inr (.inl (fun _ => 0))))] H := hP
  have hD : va_D A [(h_0, .inr (7, [.int 0, .int 720, .int 0, .ref y_0_3, .int (-1), .ref y_0_5, .ref y_0_6, .ref y_0_7, .ref y_0_8, .ref y_0_9, .ref y_0_10, .ref y_0_11, .ref y_0_12, .ref y_0_13, .ref y_0_14, .ref h_1, .ref y_0_16, .ref y_0_17, .ref h_2, .ref y_0_19, .ref y_0_20, .int 0, .ref y_0_22, .ref y_0_23, .ref y_0_24, .ref y_0_25, .ref y_0_26, .ref y_0_27, .int 0, .int 0, .ref y_0_30, .ref y_0_31, .ref y_0_32, .ref y_0_33, .ref y_0_34, .ref y_0_35, .ref y_0_36, .ref y_0_37, .ref y_0_38, .ref y_0_39, .ref y_0_40, .ref y_0_41, .int 0, .int 0, .int 0, .int 0, .int 0, .int 0, .ref y_0_48, .ref y_0_49, .ref y_0_50, .ref y_0_51, .ref y_0_52, .ref y_0_53, .ref y_0_54, .ref y_0_55, .long 0, .long 0, .long 0, .ref h_3, .int 0, .ref y_0_61, .ref y_0_62, .ref y_0_63])), (h_1, .inl (kk_1, 40, .inl (fun _ => 0))), (h_2, .inl (kk_2, 40, .inl (fun _ => 0))), (h_3, .inl (kk_3, 500, .inr (.inl (fun _ => 0))))] := hD
  refine lv_iinc (v := 32) (lv' := [(5, .int 32), (3, .long 0), (2, .int 0), (0, .ref h_0), (1, .int 0)]) hx hb d_Md_part_89 hl (k := 0) rfl (by decide +kernel) (by decide) rfl (fun ls hl => ?_)
  refine lv_goto (tgt := 52) hx hb d_Md_part_92 (by decide) ?_
  refine lv_iload hx hb d_Md_part_52 (lv_at hl 0 rfl) ?_
  refine lv_bipush (v := 40) hx hb d_Md_part_54 (by decide +kernel) ?_
  refine lv_icmp_ge (tgt := 95) hx hb d_Md_part_56 (by decide) (fun h => absurd h (by decide +kernel)) (fun _ => ?_)
  refine lv_aload_n hx hb d_Md_part_59 rfl (lv_at hl 3 rfl) ?_
  refine va_get (D := (dC, dI)) (ci := 7) (v := .ref h_2) (C := R_Md) (T := F_Md) (N := 64) hx hb htb i_Md hown hK hP 0 rfl rfl 18 (by decide) (htb (.fieldLink R_Md 85 "WaterMenModel" "shares" "[Z") tw_20) (fun _ h9 => h9) rfl d_Md_part_60 ?_
  refine lv_iload hx hb d_Md_part_63 (lv_at hl 0 rfl) ?_
  refine va_zald hx hb hK hP 2 1 rfl rfl (by unfold vp_in; decide +kernel) d_Md_part_65 ?_
  refine hb_ti 0 rfl ?_
  refine lv_if_eq (tgt := 81) hx hb d_Md_part_66 (by decide) (fun _ => ?_) (fun h => absurd (by decide +kernel) h)
  refine lv_aload_n hx hb d_Md_part_81 rfl (lv_at hl 3 rfl) ?_
  refine va_get (D := (dC, dI)) (ci := 7) (v := .ref h_2) (C := R_Md) (T := F_Md) (N := 64) hx hb htb i_Md hown hK hP 0 rfl rfl 18 (by decide) (htb (.fieldLink R_Md 85 "WaterMenModel" "shares" "[Z") tw_20) (fun _ h9 => h9) rfl d_Md_part_82 ?_
  refine lv_iload hx hb d_Md_part_85 (lv_at hl 0 rfl) ?_
  refine lv_iconst (v := 0) hx hb d_Md_part_87 (by decide +kernel) ?_
  refine va_zast hx hb hK hP hD hS 2 1 rfl rfl (by unfold vp_in; decide +kernel) d_Md_part_88 (fun H locs hP hD hS => ?_)
  rw [hb_upd0 0 (32 : Int32).toNatClampNeg (vp_nar .boolean 0) (by decide +kernel)] at hP hD
  have hP : va_P (dC, dI) vwCl [(h_0, .inr (7, [.int 0, .int 720, .int 0, .ref y_0_3, .int (-1), .ref y_0_5, .ref y_0_6, .ref y_0_7, .ref y_0_8, .ref y_0_9, .ref y_0_10, .ref y_0_11, .ref y_0_12, .ref y_0_13, .ref y_0_14, .ref h_1, .ref y_0_16, .ref y_0_17, .ref h_2, .ref y_0_19, .ref y_0_20, .int 0, .ref y_0_22, .ref y_0_23, .ref y_0_24, .ref y_0_25, .ref y_0_26, .ref y_0_27, .int 0, .int 0, .ref y_0_30, .ref y_0_31, .ref y_0_32, .ref y_0_33, .ref y_0_34, .ref y_0_35, .ref y_0_36, .ref y_0_37, .ref y_0_38, .ref y_0_39, .ref y_0_40, .ref y_0_41, .int 0, .int 0, .int 0, .int 0, .int 0, .int 0, .ref y_0_48, .ref y_0_49, .ref y_0_50, .ref y_0_51, .ref y_0_52, .ref y_0_53, .ref y_0_54, .ref y_0_55, .long 0, .long 0, .long 0, .ref h_3, .int 0, .ref y_0_61, .ref y_0_62, .ref y_0_63])), (h_1, .inl (kk_1, 40, .inl (fun _ => 0))), (h_2, .inl (kk_2, 40, .inl (fun _ => 0))), (h_3, .inl (kk_3, 500, .inr (.inl (fun _ => 0))))] H := hP
  have hD : va_D A [(h_0, .inr (7, [.int 0, .int 720, .int 0, .ref y_0_3, .int (-1), .ref y_0_5, .ref y_0_6, .ref y_0_7, .ref y_0_8, .ref y_0_9, .ref y_0_10, .ref y_0_11, .ref y_0_12, .ref y_0_13, .ref y_0_14, .ref h_1, .ref y_0_16, .ref y_0_17, .ref h_2, .ref y_0_19, .ref y_0_20, .int 0, .ref y_0_22, .ref y_0_23, .ref y_0_24, .ref y_0_25, .ref y_0_26, .ref y_0_27, .int 0, .int 0, .ref y_0_30, .ref y_0_31, .ref y_0_32, .ref y_0_33, .ref y_0_34, .ref y_0_35, .ref y_0_36, .ref y_0_37, .ref y_0_38, .ref y_0_39, .ref y_0_40, .ref y_0_41, .int 0, .int 0, .int 0, .int 0, .int 0, .int 0, .ref y_0_48, .ref y_0_49, .ref y_0_50, .ref y_0_51, .ref y_0_52, .ref y_0_53, .ref y_0_54, .ref y_0_55, .long 0, .long 0, .long 0, .ref h_3, .int 0, .ref y_0_61, .ref y_0_62, .ref y_0_63])), (h_1, .inl (kk_1, 40, .inl (fun _ => 0))), (h_2, .inl (kk_2, 40, .inl (fun _ => 0))), (h_3, .inl (kk_3, 500, .inr (.inl (fun _ => 0))))] := hD
  refine lv_iinc (v := 33) (lv' := [(5, .int 33), (3, .long 0), (2, .int 0), (0, .ref h_0), (1, .int 0)]) hx hb d_Md_part_89 hl (k := 0) rfl (by decide +kernel) (by decide) rfl (fun ls hl => ?_)
  refine lv_goto (tgt := 52) hx hb d_Md_part_92 (by decide) ?_
  refine lv_iload hx hb d_Md_part_52 (lv_at hl 0 rfl) ?_
  refine lv_bipush (v := 40) hx hb d_Md_part_54 (by decide +kernel) ?_
  refine lv_icmp_ge (tgt := 95) hx hb d_Md_part_56 (by decide) (fun h => absurd h (by decide +kernel)) (fun _ => ?_)
  refine lv_aload_n hx hb d_Md_part_59 rfl (lv_at hl 3 rfl) ?_
  refine va_get (D := (dC, dI)) (ci := 7) (v := .ref h_2) (C := R_Md) (T := F_Md) (N := 64) hx hb htb i_Md hown hK hP 0 rfl rfl 18 (by decide) (htb (.fieldLink R_Md 85 "WaterMenModel" "shares" "[Z") tw_20) (fun _ h9 => h9) rfl d_Md_part_60 ?_
  refine lv_iload hx hb d_Md_part_63 (lv_at hl 0 rfl) ?_
  refine va_zald hx hb hK hP 2 1 rfl rfl (by unfold vp_in; decide +kernel) d_Md_part_65 ?_
  refine hb_ti 0 rfl ?_
  refine lv_if_eq (tgt := 81) hx hb d_Md_part_66 (by decide) (fun _ => ?_) (fun h => absurd (by decide +kernel) h)
  refine lv_aload_n hx hb d_Md_part_81 rfl (lv_at hl 3 rfl) ?_
  refine va_get (D := (dC, dI)) (ci := 7) (v := .ref h_2) (C := R_Md) (T := F_Md) (N := 64) hx hb htb i_Md hown hK hP 0 rfl rfl 18 (by decide) (htb (.fieldLink R_Md 85 "WaterMenModel" "shares" "[Z") tw_20) (fun _ h9 => h9) rfl d_Md_part_82 ?_
  refine lv_iload hx hb d_Md_part_85 (lv_at hl 0 rfl) ?_
  refine lv_iconst (v := 0) hx hb d_Md_part_87 (by decide +kernel) ?_
  refine va_zast hx hb hK hP hD hS 2 1 rfl rfl (by unfold vp_in; decide +kernel) d_Md_part_88 (fun H locs hP hD hS => ?_)
  rw [hb_upd0 0 (33 : Int32).toNatClampNeg (vp_nar .boolean 0) (by decide +kernel)] at hP hD
  have hP : va_P (dC, dI) vwCl [(h_0, .inr (7, [.int 0, .int 720, .int 0, .ref y_0_3, .int (-1), .ref y_0_5, .ref y_0_6, .ref y_0_7, .ref y_0_8, .ref y_0_9, .ref y_0_10, .ref y_0_11, .ref y_0_12, .ref y_0_13, .ref y_0_14, .ref h_1, .ref y_0_16, .ref y_0_17, .ref h_2, .ref y_0_19, .ref y_0_20, .int 0, .ref y_0_22, .ref y_0_23, .ref y_0_24, .ref y_0_25, .ref y_0_26, .ref y_0_27, .int 0, .int 0, .ref y_0_30, .ref y_0_31, .ref y_0_32, .ref y_0_33, .ref y_0_34, .ref y_0_35, .ref y_0_36, .ref y_0_37, .ref y_0_38, .ref y_0_39, .ref y_0_40, .ref y_0_41, .int 0, .int 0, .int 0, .int 0, .int 0, .int 0, .ref y_0_48, .ref y_0_49, .ref y_0_50, .ref y_0_51, .ref y_0_52, .ref y_0_53, .ref y_0_54, .ref y_0_55, .long 0, .long 0, .long 0, .ref h_3, .int 0, .ref y_0_61, .ref y_0_62, .ref y_0_63])), (h_1, .inl (kk_1, 40, .inl (fun _ => 0))), (h_2, .inl (kk_2, 40, .inl (fun _ => 0))), (h_3, .inl (kk_3, 500, .inr (.inl (fun _ => 0))))] H := hP
  have hD : va_D A [(h_0, .inr (7, [.int 0, .int 720, .int 0, .ref y_0_3, .int (-1), .ref y_0_5, .ref y_0_6, .ref y_0_7, .ref y_0_8, .ref y_0_9, .ref y_0_10, .ref y_0_11, .ref y_0_12, .ref y_0_13, .ref y_0_14, .ref h_1, .ref y_0_16, .ref y_0_17, .ref h_2, .ref y_0_19, .ref y_0_20, .int 0, .ref y_0_22, .ref y_0_23, .ref y_0_24, .ref y_0_25, .ref y_0_26, .ref y_0_27, .int 0, .int 0, .ref y_0_30, .ref y_0_31, .ref y_0_32, .ref y_0_33, .ref y_0_34, .ref y_0_35, .ref y_0_36, .ref y_0_37, .ref y_0_38, .ref y_0_39, .ref y_0_40, .ref y_0_41, .int 0, .int 0, .int 0, .int 0, .int 0, .int 0, .ref y_0_48, .ref y_0_49, .ref y_0_50, .ref y_0_51, .ref y_0_52, .ref y_0_53, .ref y_0_54, .ref y_0_55, .long 0, .long 0, .long 0, .ref h_3, .int 0, .ref y_0_61, .ref y_0_62, .ref y_0_63])), (h_1, .inl (kk_1, 40, .inl (fun _ => 0))), (h_2, .inl (kk_2, 40, .inl (fun _ => 0))), (h_3, .inl (kk_3, 500, .inr (.inl (fun _ => 0))))] := hD
  refine lv_iinc (v := 34) (lv' := [(5, .int 34), (3, .long 0), (2, .int 0), (0, .ref h_0), (1, .int 0)]) hx hb d_Md_part_89 hl (k := 0) rfl (by decide +kernel) (by decide) rfl (fun ls hl => ?_)
  refine lv_goto (tgt := 52) hx hb d_Md_part_92 (by decide) ?_
  refine lv_iload hx hb d_Md_part_52 (lv_at hl 0 rfl) ?_
  refine lv_bipush (v := 40) hx hb d_Md_part_54 (by decide +kernel) ?_
  refine lv_icmp_ge (tgt := 95) hx hb d_Md_part_56 (by decide) (fun h => absurd h (by decide +kernel)) (fun _ => ?_)
  refine lv_aload_n hx hb d_Md_part_59 rfl (lv_at hl 3 rfl) ?_
  refine va_get (D := (dC, dI)) (ci := 7) (v := .ref h_2) (C := R_Md) (T := F_Md) (N := 64) hx hb htb i_Md hown hK hP 0 rfl rfl 18 (by decide) (htb (.fieldLink R_Md 85 "WaterMenModel" "shares" "[Z") tw_20) (fun _ h9 => h9) rfl d_Md_part_60 ?_
  refine lv_iload hx hb d_Md_part_63 (lv_at hl 0 rfl) ?_
  refine va_zald hx hb hK hP 2 1 rfl rfl (by unfold vp_in; decide +kernel) d_Md_part_65 ?_
  refine hb_ti 0 rfl ?_
  refine lv_if_eq (tgt := 81) hx hb d_Md_part_66 (by decide) (fun _ => ?_) (fun h => absurd (by decide +kernel) h)
  refine lv_aload_n hx hb d_Md_part_81 rfl (lv_at hl 3 rfl) ?_
  refine va_get (D := (dC, dI)) (ci := 7) (v := .ref h_2) (C := R_Md) (T := F_Md) (N := 64) hx hb htb i_Md hown hK hP 0 rfl rfl 18 (by decide) (htb (.fieldLink R_Md 85 "WaterMenModel" "shares" "[Z") tw_20) (fun _ h9 => h9) rfl d_Md_part_82 ?_
  refine lv_iload hx hb d_Md_part_85 (lv_at hl 0 rfl) ?_
  refine lv_iconst (v := 0) hx hb d_Md_part_87 (by decide +kernel) ?_
  refine va_zast hx hb hK hP hD hS 2 1 rfl rfl (by unfold vp_in; decide +kernel) d_Md_part_88 (fun H locs hP hD hS => ?_)
  rw [hb_upd0 0 (34 : Int32).toNatClampNeg (vp_nar .boolean 0) (by decide +kernel)] at hP hD
  have hP : va_P (dC, dI) vwCl [(h_0, .inr (7, [.int 0, .int 720, .int 0, .ref y_0_3, .int (-1), .ref y_0_5, .ref y_0_6, .ref y_0_7, .ref y_0_8, .ref y_0_9, .ref y_0_10, .ref y_0_11, .ref y_0_12, .ref y_0_13, .ref y_0_14, .ref h_1, .ref y_0_16, .ref y_0_17, .ref h_2, .ref y_0_19, .ref y_0_20, .int 0, .ref y_0_22, .ref y_0_23, .ref y_0_24, .ref y_0_25, .ref y_0_26, .ref y_0_27, .int 0, .int 0, .ref y_0_30, .ref y_0_31, .ref y_0_32, .ref y_0_33, .ref y_0_34, .ref y_0_35, .ref y_0_36, .ref y_0_37, .ref y_0_38, .ref y_0_39, .ref y_0_40, .ref y_0_41, .int 0, .int 0, .int 0, .int 0, .int 0, .int 0, .ref y_0_48, .ref y_0_49, .ref y_0_50, .ref y_0_51, .ref y_0_52, .ref y_0_53, .ref y_0_54, .ref y_0_55, .long 0, .long 0, .long 0, .ref h_3, .int 0, .ref y_0_61, .ref y_0_62, .ref y_0_63])), (h_1, .inl (kk_1, 40, .inl (fun _ => 0))), (h_2, .inl (kk_2, 40, .inl (fun _ => 0))), (h_3, .inl (kk_3, 500, .inr (.inl (fun _ => 0))))] H := hP
  have hD : va_D A [(h_0, .inr (7, [.int 0, .int 720, .int 0, .ref y_0_3, .int (-1), .ref y_0_5, .ref y_0_6, .ref y_0_7, .ref y_0_8, .ref y_0_9, .ref y_0_10, .ref y_0_11, .ref y_0_12, .ref y_0_13, .ref y_0_14, .ref h_1, .ref y_0_16, .ref y_0_17, .ref h_2, .ref y_0_19, .ref y_0_20, .int 0, .ref y_0_22, .ref y_0_23, .ref y_0_24, .ref y_0_25, .ref y_0_26, .ref y_0_27, .int 0, .int 0, .ref y_0_30, .ref y_0_31, .ref y_0_32, .ref y_0_33, .ref y_0_34, .ref y_0_35, .ref y_0_36, .ref y_0_37, .ref y_0_38, .ref y_0_39, .ref y_0_40, .ref y_0_41, .int 0, .int 0, .int 0, .int 0, .int 0, .int 0, .ref y_0_48, .ref y_0_49, .ref y_0_50, .ref y_0_51, .ref y_0_52, .ref y_0_53, .ref y_0_54, .ref y_0_55, .long 0, .long 0, .long 0, .ref h_3, .int 0, .ref y_0_61, .ref y_0_62, .ref y_0_63])), (h_1, .inl (kk_1, 40, .inl (fun _ => 0))), (h_2, .inl (kk_2, 40, .inl (fun _ => 0))), (h_3, .inl (kk_3, 500, .inr (.inl (fun _ => 0))))] := hD
  refine lv_iinc (v := 35) (lv' := [(5, .int 35), (3, .long 0), (2, .int 0), (0, .ref h_0), (1, .int 0)]) hx hb d_Md_part_89 hl (k := 0) rfl (by decide +kernel) (by decide) rfl (fun ls hl => ?_)
  refine lv_goto (tgt := 52) hx hb d_Md_part_92 (by decide) ?_
  refine lv_iload hx hb d_Md_part_52 (lv_at hl 0 rfl) ?_
  refine lv_bipush (v := 40) hx hb d_Md_part_54 (by decide +kernel) ?_
  refine lv_icmp_ge (tgt := 95) hx hb d_Md_part_56 (by decide) (fun h => absurd h (by decide +kernel)) (fun _ => ?_)
  refine lv_aload_n hx hb d_Md_part_59 rfl (lv_at hl 3 rfl) ?_
  refine va_get (D := (dC, dI)) (ci := 7) (v := .ref h_2) (C := R_Md) (T := F_Md) (N := 64) hx hb htb i_Md hown hK hP 0 rfl rfl 18 (by decide) (htb (.fieldLink R_Md 85 "WaterMenModel" "shares" "[Z") tw_20) (fun _ h9 => h9) rfl d_Md_part_60 ?_
  refine lv_iload hx hb d_Md_part_63 (lv_at hl 0 rfl) ?_
  refine va_zald hx hb hK hP 2 1 rfl rfl (by unfold vp_in; decide +kernel) d_Md_part_65 ?_
  refine hb_ti 0 rfl ?_
  refine lv_if_eq (tgt := 81) hx hb d_Md_part_66 (by decide) (fun _ => ?_) (fun h => absurd (by decide +kernel) h)
  refine lv_aload_n hx hb d_Md_part_81 rfl (lv_at hl 3 rfl) ?_
  refine va_get (D := (dC, dI)) (ci := 7) (v := .ref h_2) (C := R_Md) (T := F_Md) (N := 64) hx hb htb i_Md hown hK hP 0 rfl rfl 18 (by decide) (htb (.fieldLink R_Md 85 "WaterMenModel" "shares" "[Z") tw_20) (fun _ h9 => h9) rfl d_Md_part_82 ?_
  refine lv_iload hx hb d_Md_part_85 (lv_at hl 0 rfl) ?_
  refine lv_iconst (v := 0) hx hb d_Md_part_87 (by decide +kernel) ?_
  refine va_zast hx hb hK hP hD hS 2 1 rfl rfl (by unfold vp_in; decide +kernel) d_Md_part_88 (fun H locs hP hD hS => ?_)
  rw [hb_upd0 0 (35 : Int32).toNatClampNeg (vp_nar .boolean 0) (by decide +kernel)] at hP hD
  have hP : va_P (dC, dI) vwCl [(h_0, .inr (7, [.int 0, .int 720, .int 0, .ref y_0_3, .int (-1), .ref y_0_5, .ref y_0_6, .ref y_0_7, .ref y_0_8, .ref y_0_9, .ref y_0_10, .ref y_0_11, .ref y_0_12, .ref y_0_13, .ref y_0_14, .ref h_1, .ref y_0_16, .ref y_0_17, .ref h_2, .ref y_0_19, .ref y_0_20, .int 0, .ref y_0_22, .ref y_0_23, .ref y_0_24, .ref y_0_25, .ref y_0_26, .ref y_0_27, .int 0, .int 0, .ref y_0_30, .ref y_0_31, .ref y_0_32, .ref y_0_33, .ref y_0_34, .ref y_0_35, .ref y_0_36, .ref y_0_37, .ref y_0_38, .ref y_0_39, .ref y_0_40, .ref y_0_41, .int 0, .int 0, .int 0, .int 0, .int 0, .int 0, .ref y_0_48, .ref y_0_49, .ref y_0_50, .ref y_0_51, .ref y_0_52, .ref y_0_53, .ref y_0_54, .ref y_0_55, .long 0, .long 0, .long 0, .ref h_3, .int 0, .ref y_0_61, .ref y_0_62, .ref y_0_63])), (h_1, .inl (kk_1, 40, .inl (fun _ => 0))), (h_2, .inl (kk_2, 40, .inl (fun _ => 0))), (h_3, .inl (kk_3, 500, .inr (.inl (fun _ => 0))))] H := hP
  have hD : va_D A [(h_0, .inr (7, [.int 0, .int 720, .int 0, .ref y_0_3, .int (-1), .ref y_0_5, .ref y_0_6, .ref y_0_7, .ref y_0_8, .ref y_0_9, .ref y_0_10, .ref y_0_11, .ref y_0_12, .ref y_0_13, .ref y_0_14, .ref h_1, .ref y_0_16, .ref y_0_17, .ref h_2, .ref y_0_19, .ref y_0_20, .int 0, .ref y_0_22, .ref y_0_23, .ref y_0_24, .ref y_0_25, .ref y_0_26, .ref y_0_27, .int 0, .int 0, .ref y_0_30, .ref y_0_31, .ref y_0_32, .ref y_0_33, .ref y_0_34, .ref y_0_35, .ref y_0_36, .ref y_0_37, .ref y_0_38, .ref y_0_39, .ref y_0_40, .ref y_0_41, .int 0, .int 0, .int 0, .int 0, .int 0, .int 0, .ref y_0_48, .ref y_0_49, .ref y_0_50, .ref y_0_51, .ref y_0_52, .ref y_0_53, .ref y_0_54, .ref y_0_55, .long 0, .long 0, .long 0, .ref h_3, .int 0, .ref y_0_61, .ref y_0_62, .ref y_0_63])), (h_1, .inl (kk_1, 40, .inl (fun _ => 0))), (h_2, .inl (kk_2, 40, .inl (fun _ => 0))), (h_3, .inl (kk_3, 500, .inr (.inl (fun _ => 0))))] := hD
  refine lv_iinc (v := 36) (lv' := [(5, .int 36), (3, .long 0), (2, .int 0), (0, .ref h_0), (1, .int 0)]) hx hb d_Md_part_89 hl (k := 0) rfl (by decide +kernel) (by decide) rfl (fun ls hl => ?_)
  refine lv_goto (tgt := 52) hx hb d_Md_part_92 (by decide) ?_
  refine lv_iload hx hb d_Md_part_52 (lv_at hl 0 rfl) ?_
  refine lv_bipush (v := 40) hx hb d_Md_part_54 (by decide +kernel) ?_
  refine lv_icmp_ge (tgt := 95) hx hb d_Md_part_56 (by decide) (fun h => absurd h (by decide +kernel)) (fun _ => ?_)
  refine lv_aload_n hx hb d_Md_part_59 rfl (lv_at hl 3 rfl) ?_
  refine va_get (D := (dC, dI)) (ci := 7) (v := .ref h_2) (C := R_Md) (T := F_Md) (N := 64) hx hb htb i_Md hown hK hP 0 rfl rfl 18 (by decide) (htb (.fieldLink R_Md 85 "WaterMenModel" "shares" "[Z") tw_20) (fun _ h9 => h9) rfl d_Md_part_60 ?_
  refine lv_iload hx hb d_Md_part_63 (lv_at hl 0 rfl) ?_
  refine va_zald hx hb hK hP 2 1 rfl rfl (by unfold vp_in; decide +kernel) d_Md_part_65 ?_
  refine hb_ti 0 rfl ?_
  refine lv_if_eq (tgt := 81) hx hb d_Md_part_66 (by decide) (fun _ => ?_) (fun h => absurd (by decide +kernel) h)
  refine lv_aload_n hx hb d_Md_part_81 rfl (lv_at hl 3 rfl) ?_
  refine va_get (D := (dC, dI)) (ci := 7) (v := .ref h_2) (C := R_Md) (T := F_Md) (N := 64) hx hb htb i_Md hown hK hP 0 rfl rfl 18 (by decide) (htb (.fieldLink R_Md 85 "WaterMenModel" "shares" "[Z") tw_20) (fun _ h9 => h9) rfl d_Md_part_82 ?_
  refine lv_iload hx hb d_Md_part_85 (lv_at hl 0 rfl) ?_
  refine lv_iconst (v := 0) hx hb d_Md_part_87 (by decide +kernel) ?_
  refine va_zast hx hb hK hP hD hS 2 1 rfl rfl (by unfold vp_in; decide +kernel) d_Md_part_88 (fun H locs hP hD hS => ?_)
  rw [hb_upd0 0 (36 : Int32).toNatClampNeg (vp_nar .boolean 0) (by decide +kernel)] at hP hD
  have hP : va_P (dC, dI) vwCl [(h_0, .inr (7, [.int 0, .int 720, .int 0, .ref y_0_3, .int (-1), .ref y_0_5, .ref y_0_6, .ref y_0_7, .ref y_0_8, .ref y_0_9, .ref y_0_10, .ref y_0_11, .ref y_0_12, .ref y_0_13, .ref y_0_14, .ref h_1, .ref y_0_16, .ref y_0_17, .ref h_2, .ref y_0_19, .ref y_0_20, .int 0, .ref y_0_22, .ref y_0_23, .ref y_0_24, .ref y_0_25, .ref y_0_26, .ref y_0_27, .int 0, .int 0, .ref y_0_30, .ref y_0_31, .ref y_0_32, .ref y_0_33, .ref y_0_34, .ref y_0_35, .ref y_0_36, .ref y_0_37, .ref y_0_38, .ref y_0_39, .ref y_0_40, .ref y_0_41, .int 0, .int 0, .int 0, .int 0, .int 0, .int 0, .ref y_0_48, .ref y_0_49, .ref y_0_50, .ref y_0_51, .ref y_0_52, .ref y_0_53, .ref y_0_54, .ref y_0_55, .long 0, .long 0, .long 0, .ref h_3, .int 0, .ref y_0_61, .ref y_0_62, .ref y_0_63])), (h_1, .inl (kk_1, 40, .inl (fun _ => 0))), (h_2, .inl (kk_2, 40, .inl (fun _ => 0))), (h_3, .inl (kk_3, 500, .inr (.inl (fun _ => 0))))] H := hP
  have hD : va_D A [(h_0, .inr (7, [.int 0, .int 720, .int 0, .ref y_0_3, .int (-1), .ref y_0_5, .ref y_0_6, .ref y_0_7, .ref y_0_8, .ref y_0_9, .ref y_0_10, .ref y_0_11, .ref y_0_12, .ref y_0_13, .ref y_0_14, .ref h_1, .ref y_0_16, .ref y_0_17, .ref h_2, .ref y_0_19, .ref y_0_20, .int 0, .ref y_0_22, .ref y_0_23, .ref y_0_24, .ref y_0_25, .ref y_0_26, .ref y_0_27, .int 0, .int 0, .ref y_0_30, .ref y_0_31, .ref y_0_32, .ref y_0_33, .ref y_0_34, .ref y_0_35, .ref y_0_36, .ref y_0_37, .ref y_0_38, .ref y_0_39, .ref y_0_40, .ref y_0_41, .int 0, .int 0, .int 0, .int 0, .int 0, .int 0, .ref y_0_48, .ref y_0_49, .ref y_0_50, .ref y_0_51, .ref y_0_52, .ref y_0_53, .ref y_0_54, .ref y_0_55, .long 0, .long 0, .long 0, .ref h_3, .int 0, .ref y_0_61, .ref y_0_62, .ref y_0_63])), (h_1, .inl (kk_1, 40, .inl (fun _ => 0))), (h_2, .inl (kk_2, 40, .inl (fun _ => 0))), (h_3, .inl (kk_3, 500, .inr (.inl (fun _ => 0))))] := hD
  refine lv_iinc (v := 37) (lv' := [(5, .int 37), (3, .long 0), (2, .int 0), (0, .ref h_0), (1, .int 0)]) hx hb d_Md_part_89 hl (k := 0) rfl (by decide +kernel) (by decide) rfl (fun ls hl => ?_)
  refine lv_goto (tgt := 52) hx hb d_Md_part_92 (by decide) ?_
  refine lv_iload hx hb d_Md_part_52 (lv_at hl 0 rfl) ?_
  refine lv_bipush (v := 40) hx hb d_Md_part_54 (by decide +kernel) ?_
  refine lv_icmp_ge (tgt := 95) hx hb d_Md_part_56 (by decide) (fun h => absurd h (by decide +kernel)) (fun _ => ?_)
  refine lv_aload_n hx hb d_Md_part_59 rfl (lv_at hl 3 rfl) ?_
  refine va_get (D := (dC, dI)) (ci := 7) (v := .ref h_2) (C := R_Md) (T := F_Md) (N := 64) hx hb htb i_Md hown hK hP 0 rfl rfl 18 (by decide) (htb (.fieldLink R_Md 85 "WaterMenModel" "shares" "[Z") tw_20) (fun _ h9 => h9) rfl d_Md_part_60 ?_
  refine lv_iload hx hb d_Md_part_63 (lv_at hl 0 rfl) ?_
  refine va_zald hx hb hK hP 2 1 rfl rfl (by unfold vp_in; decide +kernel) d_Md_part_65 ?_
  refine hb_ti 0 rfl ?_
  refine lv_if_eq (tgt := 81) hx hb d_Md_part_66 (by decide) (fun _ => ?_) (fun h => absurd (by decide +kernel) h)
  refine lv_aload_n hx hb d_Md_part_81 rfl (lv_at hl 3 rfl) ?_
  refine va_get (D := (dC, dI)) (ci := 7) (v := .ref h_2) (C := R_Md) (T := F_Md) (N := 64) hx hb htb i_Md hown hK hP 0 rfl rfl 18 (by decide) (htb (.fieldLink R_Md 85 "WaterMenModel" "shares" "[Z") tw_20) (fun _ h9 => h9) rfl d_Md_part_82 ?_
  refine lv_iload hx hb d_Md_part_85 (lv_at hl 0 rfl) ?_
  refine lv_iconst (v := 0) hx hb d_Md_part_87 (by decide +kernel) ?_
  refine va_zast hx hb hK hP hD hS 2 1 rfl rfl (by unfold vp_in; decide +kernel) d_Md_part_88 (fun H locs hP hD hS => ?_)
  rw [hb_upd0 0 (37 : Int32).toNatClampNeg (vp_nar .boolean 0) (by decide +kernel)] at hP hD
  have hP : va_P (dC, dI) vwCl [(h_0, .inr (7, [.int 0, .int 720, .int 0, .ref y_0_3, .int (-1), .ref y_0_5, .ref y_0_6, .ref y_0_7, .ref y_0_8, .ref y_0_9, .ref y_0_10, .ref y_0_11, .ref y_0_12, .ref y_0_13, .ref y_0_14, .ref h_1, .ref y_0_16, .ref y_0_17, .ref h_2, .ref y_0_19, .ref y_0_20, .int 0, .ref y_0_22, .ref y_0_23, .ref y_0_24, .ref y_0_25, .ref y_0_26, .ref y_0_27, .int 0, .int 0, .ref y_0_30, .ref y_0_31, .ref y_0_32, .ref y_0_33, .ref y_0_34, .ref y_0_35, .ref y_0_36, .ref y_0_37, .ref y_0_38, .ref y_0_39, .ref y_0_40, .ref y_0_41, .int 0, .int 0, .int 0, .int 0, .int 0, .int 0, .ref y_0_48, .ref y_0_49, .ref y_0_50, .ref y_0_51, .ref y_0_52, .ref y_0_53, .ref y_0_54, .ref y_0_55, .long 0, .long 0, .long 0, .ref h_3, .int 0, .ref y_0_61, .ref y_0_62, .ref y_0_63])), (h_1, .inl (kk_1, 40, .inl (fun _ => 0))), (h_2, .inl (kk_2, 40, .inl (fun _ => 0))), (h_3, .inl (kk_3, 500, .inr (.inl (fun _ => 0))))] H := hP
  have hD : va_D A [(h_0, .inr (7, [.int 0, .int 720, .int 0, .ref y_0_3, .int (-1), .ref y_0_5, .ref y_0_6, .ref y_0_7, .ref y_0_8, .ref y_0_9, .ref y_0_10, .ref y_0_11, .ref y_0_12, .ref y_0_13, .ref y_0_14, .ref h_1, .ref y_0_16, .ref y_0_17, .ref h_2, .ref y_0_19, .ref y_0_20, .int 0, .ref y_0_22, .ref y_0_23, .ref y_0_24, .ref y_0_25, .ref y_0_26, .ref y_0_27, .int 0, .int 0, .ref y_0_30, .ref y_0_31, .ref y_0_32, .ref y_0_33, .ref y_0_34, .ref y_0_35, .ref y_0_36, .ref y_0_37, .ref y_0_38, .ref y_0_39, .ref y_0_40, .ref y_0_41, .int 0, .int 0, .int 0, .int 0, .int 0, .int 0, .ref y_0_48, .ref y_0_49, .ref y_0_50, .ref y_0_51, .ref y_0_52, .ref y_0_53, .ref y_0_54, .ref y_0_55, .long 0, .long 0, .long 0, .ref h_3, .int 0, .ref y_0_61, .ref y_0_62, .ref y_0_63])), (h_1, .inl (kk_1, 40, .inl (fun _ => 0))), (h_2, .inl (kk_2, 40, .inl (fun _ => 0))), (h_3, .inl (kk_3, 500, .inr (.inl (fun _ => 0))))] := hD
  refine lv_iinc (v := 38) (lv' := [(5, .int 38), (3, .long 0), (2, .int 0), (0, .ref h_0), (1, .int 0)]) hx hb d_Md_part_89 hl (k := 0) rfl (by decide +kernel) (by decide) rfl (fun ls hl => ?_)
  refine lv_goto (tgt := 52) hx hb d_Md_part_92 (by decide) ?_
  refine lv_iload hx hb d_Md_part_52 (lv_at hl 0 rfl) ?_
  refine lv_bipush (v := 40) hx hb d_Md_part_54 (by decide +kernel) ?_
  refine lv_icmp_ge (tgt := 95) hx hb d_Md_part_56 (by decide) (fun h => absurd h (by decide +kernel)) (fun _ => ?_)
  refine lv_aload_n hx hb d_Md_part_59 rfl (lv_at hl 3 rfl) ?_
  refine va_get (D := (dC, dI)) (ci := 7) (v := .ref h_2) (C := R_Md) (T := F_Md) (N := 64) hx hb htb i_Md hown hK hP 0 rfl rfl 18 (by decide) (htb (.fieldLink R_Md 85 "WaterMenModel" "shares" "[Z") tw_20) (fun _ h9 => h9) rfl d_Md_part_60 ?_
  refine lv_iload hx hb d_Md_part_63 (lv_at hl 0 rfl) ?_
  refine va_zald hx hb hK hP 2 1 rfl rfl (by unfold vp_in; decide +kernel) d_Md_part_65 ?_
  refine hb_ti 0 rfl ?_
  refine lv_if_eq (tgt := 81) hx hb d_Md_part_66 (by decide) (fun _ => ?_) (fun h => absurd (by decide +kernel) h)
  refine lv_aload_n hx hb d_Md_part_81 rfl (lv_at hl 3 rfl) ?_
  refine va_get (D := (dC, dI)) (ci := 7) (v := .ref h_2) (C := R_Md) (T := F_Md) (N := 64) hx hb htb i_Md hown hK hP 0 rfl rfl 18 (by decide) (htb (.fieldLink R_Md 85 "WaterMenModel" "shares" "[Z") tw_20) (fun _ h9 => h9) rfl d_Md_part_82 ?_
  refine lv_iload hx hb d_Md_part_85 (lv_at hl 0 rfl) ?_
  refine lv_iconst (v := 0) hx hb d_Md_part_87 (by decide +kernel) ?_
  refine va_zast hx hb hK hP hD hS 2 1 rfl rfl (by unfold vp_in; decide +kernel) d_Md_part_88 (fun H locs hP hD hS => ?_)
  rw [hb_upd0 0 (38 : Int32).toNatClampNeg (vp_nar .boolean 0) (by decide +kernel)] at hP hD
  have hP : va_P (dC, dI) vwCl [(h_0, .inr (7, [.int 0, .int 720, .int 0, .ref y_0_3, .int (-1), .ref y_0_5, .ref y_0_6, .ref y_0_7, .ref y_0_8, .ref y_0_9, .ref y_0_10, .ref y_0_11, .ref y_0_12, .ref y_0_13, .ref y_0_14, .ref h_1, .ref y_0_16, .ref y_0_17, .ref h_2, .ref y_0_19, .ref y_0_20, .int 0, .ref y_0_22, .ref y_0_23, .ref y_0_24, .ref y_0_25, .ref y_0_26, .ref y_0_27, .int 0, .int 0, .ref y_0_30, .ref y_0_31, .ref y_0_32, .ref y_0_33, .ref y_0_34, .ref y_0_35, .ref y_0_36, .ref y_0_37, .ref y_0_38, .ref y_0_39, .ref y_0_40, .ref y_0_41, .int 0, .int 0, .int 0, .int 0, .int 0, .int 0, .ref y_0_48, .ref y_0_49, .ref y_0_50, .ref y_0_51, .ref y_0_52, .ref y_0_53, .ref y_0_54, .ref y_0_55, .long 0, .long 0, .long 0, .ref h_3, .int 0, .ref y_0_61, .ref y_0_62, .ref y_0_63])), (h_1, .inl (kk_1, 40, .inl (fun _ => 0))), (h_2, .inl (kk_2, 40, .inl (fun _ => 0))), (h_3, .inl (kk_3, 500, .inr (.inl (fun _ => 0))))] H := hP
  have hD : va_D A [(h_0, .inr (7, [.int 0, .int 720, .int 0, .ref y_0_3, .int (-1), .ref y_0_5, .ref y_0_6, .ref y_0_7, .ref y_0_8, .ref y_0_9, .ref y_0_10, .ref y_0_11, .ref y_0_12, .ref y_0_13, .ref y_0_14, .ref h_1, .ref y_0_16, .ref y_0_17, .ref h_2, .ref y_0_19, .ref y_0_20, .int 0, .ref y_0_22, .ref y_0_23, .ref y_0_24, .ref y_0_25, .ref y_0_26, .ref y_0_27, .int 0, .int 0, .ref y_0_30, .ref y_0_31, .ref y_0_32, .ref y_0_33, .ref y_0_34, .ref y_0_35, .ref y_0_36, .ref y_0_37, .ref y_0_38, .ref y_0_39, .ref y_0_40, .ref y_0_41, .int 0, .int 0, .int 0, .int 0, .int 0, .int 0, .ref y_0_48, .ref y_0_49, .ref y_0_50, .ref y_0_51, .ref y_0_52, .ref y_0_53, .ref y_0_54, .ref y_0_55, .long 0, .long 0, .long 0, .ref h_3, .int 0, .ref y_0_61, .ref y_0_62, .ref y_0_63])), (h_1, .inl (kk_1, 40, .inl (fun _ => 0))), (h_2, .inl (kk_2, 40, .inl (fun _ => 0))), (h_3, .inl (kk_3, 500, .inr (.inl (fun _ => 0))))] := hD
  refine lv_iinc (v := 39) (lv' := [(5, .int 39), (3, .long 0), (2, .int 0), (0, .ref h_0), (1, .int 0)]) hx hb d_Md_part_89 hl (k := 0) rfl (by decide +kernel) (by decide) rfl (fun ls hl => ?_)
  refine lv_goto (tgt := 52) hx hb d_Md_part_92 (by decide) ?_
  refine lv_iload hx hb d_Md_part_52 (lv_at hl 0 rfl) ?_
  refine lv_bipush (v := 40) hx hb d_Md_part_54 (by decide +kernel) ?_
  refine lv_icmp_ge (tgt := 95) hx hb d_Md_part_56 (by decide) (fun h => absurd h (by decide +kernel)) (fun _ => ?_)
  refine lv_aload_n hx hb d_Md_part_59 rfl (lv_at hl 3 rfl) ?_
  refine va_get (D := (dC, dI)) (ci := 7) (v := .ref h_2) (C := R_Md) (T := F_Md) (N := 64) hx hb htb i_Md hown hK hP 0 rfl rfl 18 (by decide) (htb (.fieldLink R_Md 85 "WaterMenModel" "shares" "[Z") tw_20) (fun _ h9 => h9) rfl d_Md_part_60 ?_
  refine lv_iload hx hb d_Md_part_63 (lv_at hl 0 rfl) ?_
  refine va_zald hx hb hK hP 2 1 rfl rfl (by unfold vp_in; decide +kernel) d_Md_part_65 ?_
  refine hb_ti 0 rfl ?_
  refine lv_if_eq (tgt := 81) hx hb d_Md_part_66 (by decide) (fun _ => ?_) (fun h => absurd (by decide +kernel) h)
  refine lv_aload_n hx hb d_Md_part_81 rfl (lv_at hl 3 rfl) ?_
  refine va_get (D := (dC, dI)) (ci := 7) (v := .ref h_2) (C := R_Md) (T := F_Md) (N := 64) hx hb htb i_Md hown hK hP 0 rfl rfl 18 (by decide) (htb (.fieldLink R_Md 85 "WaterMenModel" "shares" "[Z") tw_20) (fun _ h9 => h9) rfl d_Md_part_82 ?_
  refine lv_iload hx hb d_Md_part_85 (lv_at hl 0 rfl) ?_
  refine lv_iconst (v := 0) hx hb d_Md_part_87 (by decide +kernel) ?_
  refine va_zast hx hb hK hP hD hS 2 1 rfl rfl (by unfold vp_in; decide +kernel) d_Md_part_88 (fun H locs hP hD hS => ?_)
  rw [hb_upd0 0 (39 : Int32).toNatClampNeg (vp_nar .boolean 0) (by decide +kernel)] at hP hD
  have hP : va_P (dC, dI) vwCl [(h_0, .inr (7, [.int 0, .int 720, .int 0, .ref y_0_3, .int (-1), .ref y_0_5, .ref y_0_6, .ref y_0_7, .ref y_0_8, .ref y_0_9, .ref y_0_10, .ref y_0_11, .ref y_0_12, .ref y_0_13, .ref y_0_14, .ref h_1, .ref y_0_16, .ref y_0_17, .ref h_2, .ref y_0_19, .ref y_0_20, .int 0, .ref y_0_22, .ref y_0_23, .ref y_0_24, .ref y_0_25, .ref y_0_26, .ref y_0_27, .int 0, .int 0, .ref y_0_30, .ref y_0_31, .ref y_0_32, .ref y_0_33, .ref y_0_34, .ref y_0_35, .ref y_0_36, .ref y_0_37, .ref y_0_38, .ref y_0_39, .ref y_0_40, .ref y_0_41, .int 0, .int 0, .int 0, .int 0, .int 0, .int 0, .ref y_0_48, .ref y_0_49, .ref y_0_50, .ref y_0_51, .ref y_0_52, .ref y_0_53, .ref y_0_54, .ref y_0_55, .long 0, .long 0, .long 0, .ref h_3, .int 0, .ref y_0_61, .ref y_0_62, .ref y_0_63])), (h_1, .inl (kk_1, 40, .inl (fun _ => 0))), (h_2, .inl (kk_2, 40, .inl (fun _ => 0))), (h_3, .inl (kk_3, 500, .inr (.inl (fun _ => 0))))] H := hP
  have hD : va_D A [(h_0, .inr (7, [.int 0, .int 720, .int 0, .ref y_0_3, .int (-1), .ref y_0_5, .ref y_0_6, .ref y_0_7, .ref y_0_8, .ref y_0_9, .ref y_0_10, .ref y_0_11, .ref y_0_12, .ref y_0_13, .ref y_0_14, .ref h_1, .ref y_0_16, .ref y_0_17, .ref h_2, .ref y_0_19, .ref y_0_20, .int 0, .ref y_0_22, .ref y_0_23, .ref y_0_24, .ref y_0_25, .ref y_0_26, .ref y_0_27, .int 0, .int 0, .ref y_0_30, .ref y_0_31, .ref y_0_32, .ref y_0_33, .ref y_0_34, .ref y_0_35, .ref y_0_36, .ref y_0_37, .ref y_0_38, .ref y_0_39, .ref y_0_40, .ref y_0_41, .int 0, .int 0, .int 0, .int 0, .int 0, .int 0, .ref y_0_48, .ref y_0_49, .ref y_0_50, .ref y_0_51, .ref y_0_52, .ref y_0_53, .ref y_0_54, .ref y_0_55, .long 0, .long 0, .long 0, .ref h_3, .int 0, .ref y_0_61, .ref y_0_62, .ref y_0_63])), (h_1, .inl (kk_1, 40, .inl (fun _ => 0))), (h_2, .inl (kk_2, 40, .inl (fun _ => 0))), (h_3, .inl (kk_3, 500, .inr (.inl (fun _ => 0))))] := hD
  refine lv_iinc (v := 40) (lv' := [(5, .int 40), (3, .long 0), (2, .int 0), (0, .ref h_0), (1, .int 0)]) hx hb d_Md_part_89 hl (k := 0) rfl (by decide +kernel) (by decide) rfl (fun ls hl => ?_)
  refine lv_goto (tgt := 52) hx hb d_Md_part_92 (by decide) ?_
  refine lv_iload hx hb d_Md_part_52 (lv_at hl 0 rfl) ?_
  refine lv_bipush (v := 40) hx hb d_Md_part_54 (by decide +kernel) ?_
  refine lv_icmp_ge (tgt := 95) hx hb d_Md_part_56 (by decide) (fun _ => ?_) (fun h => absurd (by decide +kernel) h)
  refine lv_aload_n hx hb d_Md_part_95 rfl (lv_at hl 3 rfl) ?_
  refine lv_dup hx hb d_Md_part_96 rfl ?_
  refine va_get (D := (dC, dI)) (ci := 7) (v := .long 0) (C := R_Md) (T := F_Md) (N := 64) hx hb htb i_Md hown hK hP 0 rfl rfl 56 (by decide) (htb (.fieldLink R_Md 316 "WaterMenModel" "box" "J") tw_366) (fun _ h9 => h9) rfl d_Md_part_97 ?_
  refine lv_aload_n hx hb d_Md_part_100 rfl (lv_at hl 3 rfl) ?_
  refine va_get (D := (dC, dI)) (ci := 7) (v := .long 0) (C := R_Md) (T := F_Md) (N := 64) hx hb htb i_Md hown hK hP 0 rfl rfl 57 (by decide) (htb (.fieldLink R_Md 320 "WaterMenModel" "pot" "J") tw_367) (fun _ h9 => h9) rfl d_Md_part_101 ?_
  refine lv_lload_n hx hb d_Md_part_104 rfl (lv_at hl 1 rfl) ?_
  refine lv_iload_n hx hb d_Md_part_105 rfl (lv_at hl 2 rfl) ?_
  refine lv_i2l hx hb d_Md_part_106 rfl ?_
  refine hb_tl 0 (by decide +kernel) ?_
  refine lv_lmul hx hb d_Md_part_107 ?_
  refine hb_tl 0 (by decide +kernel) ?_
  refine lv_lsub hx hb d_Md_part_108 ?_
  refine hb_tl 0 (by decide +kernel) ?_
  refine lv_ladd hx hb d_Md_part_109 ?_
  refine hb_tl 0 (by decide +kernel) ?_
  refine va_put (D := (dC, dI)) (ci := 7) (v := .long 0) (ty := .long) (C := R_Md) (T := F_Md) (N := 64) hx hb htb i_Md t_Md t_Md_ok n_Md hown hK hP hD hS 0 rfl rfl 56 (by decide) (htb (.fieldLink R_Md 316 "WaterMenModel" "box" "J") tw_366) (fun _ h9 => h9) rfl (by decide +kernel) rfl rfl (Nat.le_of_ble_eq_true rfl) d_Md_part_110 (fun H locs hP hD hS => ?_)
  have hP : va_P (dC, dI) vwCl [(h_0, .inr (7, [.int 0, .int 720, .int 0, .ref y_0_3, .int (-1), .ref y_0_5, .ref y_0_6, .ref y_0_7, .ref y_0_8, .ref y_0_9, .ref y_0_10, .ref y_0_11, .ref y_0_12, .ref y_0_13, .ref y_0_14, .ref h_1, .ref y_0_16, .ref y_0_17, .ref h_2, .ref y_0_19, .ref y_0_20, .int 0, .ref y_0_22, .ref y_0_23, .ref y_0_24, .ref y_0_25, .ref y_0_26, .ref y_0_27, .int 0, .int 0, .ref y_0_30, .ref y_0_31, .ref y_0_32, .ref y_0_33, .ref y_0_34, .ref y_0_35, .ref y_0_36, .ref y_0_37, .ref y_0_38, .ref y_0_39, .ref y_0_40, .ref y_0_41, .int 0, .int 0, .int 0, .int 0, .int 0, .int 0, .ref y_0_48, .ref y_0_49, .ref y_0_50, .ref y_0_51, .ref y_0_52, .ref y_0_53, .ref y_0_54, .ref y_0_55, .long 0, .long 0, .long 0, .ref h_3, .int 0, .ref y_0_61, .ref y_0_62, .ref y_0_63])), (h_1, .inl (kk_1, 40, .inl (fun _ => 0))), (h_2, .inl (kk_2, 40, .inl (fun _ => 0))), (h_3, .inl (kk_3, 500, .inr (.inl (fun _ => 0))))] H := hP
  have hD : va_D A [(h_0, .inr (7, [.int 0, .int 720, .int 0, .ref y_0_3, .int (-1), .ref y_0_5, .ref y_0_6, .ref y_0_7, .ref y_0_8, .ref y_0_9, .ref y_0_10, .ref y_0_11, .ref y_0_12, .ref y_0_13, .ref y_0_14, .ref h_1, .ref y_0_16, .ref y_0_17, .ref h_2, .ref y_0_19, .ref y_0_20, .int 0, .ref y_0_22, .ref y_0_23, .ref y_0_24, .ref y_0_25, .ref y_0_26, .ref y_0_27, .int 0, .int 0, .ref y_0_30, .ref y_0_31, .ref y_0_32, .ref y_0_33, .ref y_0_34, .ref y_0_35, .ref y_0_36, .ref y_0_37, .ref y_0_38, .ref y_0_39, .ref y_0_40, .ref y_0_41, .int 0, .int 0, .int 0, .int 0, .int 0, .int 0, .ref y_0_48, .ref y_0_49, .ref y_0_50, .ref y_0_51, .ref y_0_52, .ref y_0_53, .ref y_0_54, .ref y_0_55, .long 0, .long 0, .long 0, .ref h_3, .int 0, .ref y_0_61, .ref y_0_62, .ref y_0_63])), (h_1, .inl (kk_1, 40, .inl (fun _ => 0))), (h_2, .inl (kk_2, 40, .inl (fun _ => 0))), (h_3, .inl (kk_3, 500, .inr (.inl (fun _ => 0))))] := hD
  refine lv_aload_n hx hb d_Md_part_113 rfl (lv_at hl 3 rfl) ?_
  refine va_get (D := (dC, dI)) (ci := 7) (v := .ref h_3) (C := R_Md) (T := F_Md) (N := 64) hx hb htb i_Md hown hK hP 0 rfl rfl 59 (by decide) (htb (.fieldLink R_Md 173 "WaterMenModel" "boxIn" "[J") tw_51) (fun _ h9 => h9) rfl d_Md_part_114 ?_
  refine lv_iload_n hx hb d_Md_part_117 rfl (lv_at hl 4 rfl) ?_
  refine lv_dup2_11 hx hb d_Md_part_118 rfl rfl ?_
  refine va_lald hx hb hK hP 3 2 rfl rfl (by unfold vp_in; decide +kernel) d_Md_part_119 ?_
  refine hb_tl 0 rfl ?_
  refine lv_aload_n hx hb d_Md_part_120 rfl (lv_at hl 3 rfl) ?_
  refine va_get (D := (dC, dI)) (ci := 7) (v := .long 0) (C := R_Md) (T := F_Md) (N := 64) hx hb htb i_Md hown hK hP 0 rfl rfl 57 (by decide) (htb (.fieldLink R_Md 320 "WaterMenModel" "pot" "J") tw_367) (fun _ h9 => h9) rfl d_Md_part_121 ?_
  refine lv_lload_n hx hb d_Md_part_124 rfl (lv_at hl 1 rfl) ?_
  refine lv_iload_n hx hb d_Md_part_125 rfl (lv_at hl 2 rfl) ?_
  refine lv_i2l hx hb d_Md_part_126 rfl ?_
  refine hb_tl 0 (by decide +kernel) ?_
  refine lv_lmul hx hb d_Md_part_127 ?_
  refine hb_tl 0 (by decide +kernel) ?_
  refine lv_lsub hx hb d_Md_part_128 ?_
  refine hb_tl 0 (by decide +kernel) ?_
  refine lv_ladd hx hb d_Md_part_129 ?_
  refine hb_tl 0 (by decide +kernel) ?_
  refine va_last hx hb hK hP hD hS 3 2 rfl rfl (by unfold vp_in; decide +kernel) d_Md_part_130 (fun H locs hP hD hS => ?_)
  rw [hb_updL0 0 (0 : Int32).toNatClampNeg] at hP hD
  have hP : va_P (dC, dI) vwCl [(h_0, .inr (7, [.int 0, .int 720, .int 0, .ref y_0_3, .int (-1), .ref y_0_5, .ref y_0_6, .ref y_0_7, .ref y_0_8, .ref y_0_9, .ref y_0_10, .ref y_0_11, .ref y_0_12, .ref y_0_13, .ref y_0_14, .ref h_1, .ref y_0_16, .ref y_0_17, .ref h_2, .ref y_0_19, .ref y_0_20, .int 0, .ref y_0_22, .ref y_0_23, .ref y_0_24, .ref y_0_25, .ref y_0_26, .ref y_0_27, .int 0, .int 0, .ref y_0_30, .ref y_0_31, .ref y_0_32, .ref y_0_33, .ref y_0_34, .ref y_0_35, .ref y_0_36, .ref y_0_37, .ref y_0_38, .ref y_0_39, .ref y_0_40, .ref y_0_41, .int 0, .int 0, .int 0, .int 0, .int 0, .int 0, .ref y_0_48, .ref y_0_49, .ref y_0_50, .ref y_0_51, .ref y_0_52, .ref y_0_53, .ref y_0_54, .ref y_0_55, .long 0, .long 0, .long 0, .ref h_3, .int 0, .ref y_0_61, .ref y_0_62, .ref y_0_63])), (h_1, .inl (kk_1, 40, .inl (fun _ => 0))), (h_2, .inl (kk_2, 40, .inl (fun _ => 0))), (h_3, .inl (kk_3, 500, .inr (.inl (fun _ => 0))))] H := hP
  have hD : va_D A [(h_0, .inr (7, [.int 0, .int 720, .int 0, .ref y_0_3, .int (-1), .ref y_0_5, .ref y_0_6, .ref y_0_7, .ref y_0_8, .ref y_0_9, .ref y_0_10, .ref y_0_11, .ref y_0_12, .ref y_0_13, .ref y_0_14, .ref h_1, .ref y_0_16, .ref y_0_17, .ref h_2, .ref y_0_19, .ref y_0_20, .int 0, .ref y_0_22, .ref y_0_23, .ref y_0_24, .ref y_0_25, .ref y_0_26, .ref y_0_27, .int 0, .int 0, .ref y_0_30, .ref y_0_31, .ref y_0_32, .ref y_0_33, .ref y_0_34, .ref y_0_35, .ref y_0_36, .ref y_0_37, .ref y_0_38, .ref y_0_39, .ref y_0_40, .ref y_0_41, .int 0, .int 0, .int 0, .int 0, .int 0, .int 0, .ref y_0_48, .ref y_0_49, .ref y_0_50, .ref y_0_51, .ref y_0_52, .ref y_0_53, .ref y_0_54, .ref y_0_55, .long 0, .long 0, .long 0, .ref h_3, .int 0, .ref y_0_61, .ref y_0_62, .ref y_0_63])), (h_1, .inl (kk_1, 40, .inl (fun _ => 0))), (h_2, .inl (kk_2, 40, .inl (fun _ => 0))), (h_3, .inl (kk_3, 500, .inr (.inl (fun _ => 0))))] := hD
  refine lv_aload_n hx hb d_Md_part_131 rfl (lv_at hl 3 rfl) ?_
  refine lv_lconst (v := 0) hx hb d_Md_part_132 (by decide +kernel) ?_
  refine va_put (D := (dC, dI)) (ci := 7) (v := .long 0) (ty := .long) (C := R_Md) (T := F_Md) (N := 64) hx hb htb i_Md t_Md t_Md_ok n_Md hown hK hP hD hS 0 rfl rfl 57 (by decide) (htb (.fieldLink R_Md 320 "WaterMenModel" "pot" "J") tw_367) (fun _ h9 => h9) rfl (by decide +kernel) rfl rfl (Nat.le_of_ble_eq_true rfl) d_Md_part_133 (fun H locs hP hD hS => ?_)
  have hP : va_P (dC, dI) vwCl [(h_0, .inr (7, [.int 0, .int 720, .int 0, .ref y_0_3, .int (-1), .ref y_0_5, .ref y_0_6, .ref y_0_7, .ref y_0_8, .ref y_0_9, .ref y_0_10, .ref y_0_11, .ref y_0_12, .ref y_0_13, .ref y_0_14, .ref h_1, .ref y_0_16, .ref y_0_17, .ref h_2, .ref y_0_19, .ref y_0_20, .int 0, .ref y_0_22, .ref y_0_23, .ref y_0_24, .ref y_0_25, .ref y_0_26, .ref y_0_27, .int 0, .int 0, .ref y_0_30, .ref y_0_31, .ref y_0_32, .ref y_0_33, .ref y_0_34, .ref y_0_35, .ref y_0_36, .ref y_0_37, .ref y_0_38, .ref y_0_39, .ref y_0_40, .ref y_0_41, .int 0, .int 0, .int 0, .int 0, .int 0, .int 0, .ref y_0_48, .ref y_0_49, .ref y_0_50, .ref y_0_51, .ref y_0_52, .ref y_0_53, .ref y_0_54, .ref y_0_55, .long 0, .long 0, .long 0, .ref h_3, .int 0, .ref y_0_61, .ref y_0_62, .ref y_0_63])), (h_1, .inl (kk_1, 40, .inl (fun _ => 0))), (h_2, .inl (kk_2, 40, .inl (fun _ => 0))), (h_3, .inl (kk_3, 500, .inr (.inl (fun _ => 0))))] H := hP
  have hD : va_D A [(h_0, .inr (7, [.int 0, .int 720, .int 0, .ref y_0_3, .int (-1), .ref y_0_5, .ref y_0_6, .ref y_0_7, .ref y_0_8, .ref y_0_9, .ref y_0_10, .ref y_0_11, .ref y_0_12, .ref y_0_13, .ref y_0_14, .ref h_1, .ref y_0_16, .ref y_0_17, .ref h_2, .ref y_0_19, .ref y_0_20, .int 0, .ref y_0_22, .ref y_0_23, .ref y_0_24, .ref y_0_25, .ref y_0_26, .ref y_0_27, .int 0, .int 0, .ref y_0_30, .ref y_0_31, .ref y_0_32, .ref y_0_33, .ref y_0_34, .ref y_0_35, .ref y_0_36, .ref y_0_37, .ref y_0_38, .ref y_0_39, .ref y_0_40, .ref y_0_41, .int 0, .int 0, .int 0, .int 0, .int 0, .int 0, .ref y_0_48, .ref y_0_49, .ref y_0_50, .ref y_0_51, .ref y_0_52, .ref y_0_53, .ref y_0_54, .ref y_0_55, .long 0, .long 0, .long 0, .ref h_3, .int 0, .ref y_0_61, .ref y_0_62, .ref y_0_63])), (h_1, .inl (kk_1, 40, .inl (fun _ => 0))), (h_2, .inl (kk_2, 40, .inl (fun _ => 0))), (h_3, .inl (kk_3, 500, .inr (.inl (fun _ => 0))))] := hD
  refine W.widen (k := 0) (n := 0) (Nat.le_of_ble_eq_true rfl) (Nat.le_of_ble_eq_true rfl) ?_
  exact W.vret hx hb hr (fun t ht hW => ⟨⟨(), rfl, trivial, by rw [ht]; exact hP, va_K.moved hW.alike hK, by rw [hAe]; exact hD⟩, by rw [hAe]; exact hS.F ht⟩) (by rw [hAe]; exact hS.2.2) d_Md_part_136
